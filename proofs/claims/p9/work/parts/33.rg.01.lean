section
theorem jl_nz {x : Int} (h : x ≠ 0 ∧ -9223372036854775808 ≤ x ∧ x ≤ 9223372036854775807) : ¬ Int64.ofInt x = 0 := by
  intro e
  have q := congrArg Int64.toInt e
  rw [Int64.toInt_ofInt_of_le (by omega) (by omega)] at q
  have h0 : (0 : Int64).toInt = 0 := rfl
  omega
end
section
/-! ===== the reference's parser: the code it lays, its heights ===== -/
noncomputable def fu (f : Int → Int) (i v : Int) : Int → Int := fun k => if k = i then v else f k
theorem fu_eq (f : Int → Int) (i v : Int) : fu f i v i = v := by simp [fu]
theorem fu_ne (f : Int → Int) {i k : Int} (v : Int) (h : k ≠ i) : fu f i v k = f k := by simp [fu, h]
noncomputable def strn (x : Int) : Int := if x = 124 then 1 else if x = 38 then 2 else if x = 61 ∨ x = 60 ∨ x = 62 then 3 else if x = 43 ∨ x = 45 then 4 else if x = 42 ∨ x = 47 ∨ x = 37 then 5 else if x = 10 ∨ x = 11 then 6 else 0
theorem strn_le (x : Int) : 0 ≤ strn x ∧ strn x ≤ 6 := by unfold strn; (repeat' split) <;> omega
noncomputable def argn (w : Int) : Int := if w = 30 then 3 else if w = 28 ∨ w = 29 then 2 else 1
theorem argn_le (w : Int) : 1 ≤ argn w ∧ argn w ≤ 3 := by unfold argn; (repeat' split) <;> omega
/-- what an operation wants of the pile, and what it adds -/
noncomputable def ndo (o : Int) : Int := if o = 1 ∨ (7 ≤ o ∧ o ≤ 11) then 1 else if o < 30 then 0 else if o = 35 then 5 else if o = 34 ∨ o = 36 then 3 else if o = 31 ∨ o = 33 then 2 else if o < 39 then 1 else if o < 340 then 2 else if o < 365 then 0 else argn (o - 340)
noncomputable def dlo (o : Int) : Int := if o = 1 ∨ o = 7 ∨ o = 8 then -1 else if 4 ≤ o ∧ o ≤ 6 then 1 else if o < 30 then 0 else if o < 39 then -(ndo o) else if o < 340 then -1 else 1 - ndo o
theorem ndo_le (o : Int) : 0 ≤ ndo o ∧ ndo o ≤ 5 := by
  unfold ndo
  have h := argn_le (o - 340)
  (repeat' split) <;> omega
noncomputable def exo (o : Int) : Prop := o < 4 ∨ (24 ≤ o ∧ o < 39)
noncomputable def jpo (o : Int) : Prop := o = 1 ∨ o = 2 ∨ o = 7 ∨ o = 8
noncomputable def vop (o : Int) : Prop := (0 ≤ o ∧ o ≤ 11) ∨ (24 ≤ o ∧ o ≤ 38) ∨ (137 ≤ o ∧ o ≤ 162) ∨ (350 ≤ o ∧ o ≤ 370)
noncomputable def FV (a : Int) : Prop := ∃ k f : Int, a = 16 * k + f ∧ 0 ≤ f ∧ f ≤ 10 ∧ 0 ≤ k ∧ k ≤ 13 ∧ (k ≤ 11 → f < fldn k) ∧ (k = 12 → f ≤ 4)
noncomputable def FWq (fw : Int → Int) : Prop := ∀ k f : Int, 0 ≤ k → k ≤ 13 → 0 ≤ f → f ≤ 10 → fw (11 * k + f) ≠ -1 → (k ≤ 11 → f < fldn k) ∧ (k = 12 → f ≤ 4)
/-- an operation at place i of code co, arguments ar; n: where a jump may lead; nc: chains; pe: its target is still to come -/
noncomputable def OPk (co ar : Int → Int) (nc : Int) (ht : Int → Int) (n : Int) (pe : Prop) (i : Int) : Prop := (0 ≤ ht i ∧ ht i ≤ 250 ∧ vop (co i) ∧ ht (i + 1) = ht i + dlo (co i) ∧ ndo (co i) ≤ ht i ∧ (exo (co i) → ht i = ndo (co i))) ∧ (jpo (co i) → pe ∨ (i < ar i ∧ ar i ≤ n ∧ ht (ar i) = (if co i = 1 ∨ co i = 2 then 0 else ht i) ∧ co (ar i - 1) ≠ 0)) ∧ (co i = 5 → FV (ar i)) ∧ ((co i = 28 ∨ co i = 29) → 1 ≤ i ∧ co (i - 1) = 0 ∧ 0 ≤ ar i ∧ ar i < nc)
/-- a place where a chain, or what lies behind it, begins -/
noncomputable def ENk (co : Int → Int) (ht : Int → Int) (n e : Int) : Prop := 0 ≤ e ∧ e ≤ n ∧ ht e = 0 ∧ (e = 0 ∨ co (e - 1) ≠ 0)
theorem OPk.mono {co ar co' ar' ht ht' : Int → Int} {nc nc' n n' cd i : Int} {pe pe' : Prop} (h : OPk co ar nc ht n pe i) (h0 : 0 ≤ i) (hi : i < cd) (hc : ∀ j, j < cd → co' j = co j) (ha : ar' i = ar i) (hh : ∀ j, j ≤ cd → ht' j = ht j) (hn : n ≤ cd) (hn' : n ≤ n') (hnc : nc ≤ nc') (hp : pe → pe') : OPk co' ar' nc' ht' n' pe' i := by
  obtain ⟨⟨a1, a2, a3, a4, a5, a6⟩, b, c, d⟩ := h
  unfold OPk
  rw [hc i hi, hh i (by omega), hh (i + 1) (by omega), ha]
  refine ⟨⟨a1, a2, a3, a4, a5, a6⟩, fun q => ?_, c, fun q => ?_⟩
  · rcases b q with w | ⟨w1, w2, w3, w4⟩
    · exact Or.inl (hp w)
    · refine Or.inr ⟨w1, by omega, ?_, ?_⟩
      · rw [hh _ (by omega)]
        exact w3
      · rw [hc _ (by omega)]
        exact w4
  · obtain ⟨w1, w2, w3, w4⟩ := d q
    refine ⟨w1, ?_, w3, by omega⟩
    rw [hc _ (by omega)]
    exact w2
theorem ENk.mono {co co' ht ht' : Int → Int} {n n' cd e : Int} (h : ENk co ht n e) (hc : ∀ j, j < cd → co' j = co j) (hh : ∀ j, j ≤ cd → ht' j = ht j) (hn : n ≤ cd) (hn' : n ≤ n') : ENk co' ht' n' e := by
  obtain ⟨a1, a2, a3, a4⟩ := h
  refine ⟨a1, by omega, ?_, ?_⟩
  · rw [hh _ (by omega)]
    exact a3
  · rcases a4 with w | w
    · exact Or.inl w
    · refine Or.inr ?_
      rw [hc _ (by omega)]
      exact w
noncomputable def PBq (bk bp : Int → Int) (bl i : Int) : Prop := ∃ j : Int, 0 ≤ j ∧ j < bl ∧ 2 ≤ bk j ∧ bp j = i
noncomputable def PEq (wt pt : Int → Int) (sg i : Int) : Prop := ∃ j : Int, 0 ≤ j ∧ j < sg ∧ (wt j = 38 ∨ wt j = 124) ∧ pt j = i
noncomputable def BWq (bk bp co : Int → Int) (ib cd j : Int) : Prop := (j = 0 → bk j = ib) ∧ (1 ≤ j → 2 ≤ bk j) ∧ bk j ≤ 3 ∧ (2 ≤ bk j → 0 ≤ bp j ∧ bp j < cd ∧ co (bp j) = bk j - 1)
noncomputable def SWq (co wt pt ow oa : Int → Int) (cd : Int) (ht P D E : Int → Int) (j : Int) : Prop := (wt j = 40 ∧ 1 ≤ oa j ∧ P (j + 1) = P j + (oa j - 1) ∧ D (j + 1) = D j + 1 ∧ ((ow j = -1 ∧ oa j = 1 ∧ E (j + 1) = E j) ∨ (25 ≤ ow j ∧ ow j ≤ 30 ∧ oa j ≤ argn (ow j) ∧ E (j + 1) = E j + 1))) ∨ ((wt j = 10 ∨ wt j = 11) ∧ P (j + 1) = P j ∧ D (j + 1) = D j + 1 ∧ E (j + 1) = E j + 1) ∨ ((wt j = 38 ∨ wt j = 124) ∧ P (j + 1) = P j ∧ D (j + 1) = D j ∧ E (j + 1) = E j + 1 ∧ 0 ≤ pt j ∧ pt j < cd ∧ (co (pt j) = 7 ∨ co (pt j) = 8) ∧ ht (pt j) = P j + 1) ∨ (3 ≤ strn (wt j) ∧ strn (wt j) ≤ 5 ∧ P (j + 1) = P j + 1 ∧ D (j + 1) = D j ∧ E (j + 1) = E j + 1)
theorem SWq.mono {co co' wt wt' pt pt' ow ow' oa oa' ht ht' P P' D D' E E' : Int → Int} {cd cd' j : Int} (h : SWq co wt pt ow oa cd ht P D E j) (hc : ∀ i, i < cd → co' i = co i) (hh : ∀ i, i ≤ cd → ht' i = ht i) (hcd : cd ≤ cd') (h1 : wt' j = wt j) (h2 : pt' j = pt j) (h3 : ow' j = ow j) (h4 : oa' j = oa j) (hP : P' j = P j ∧ P' (j + 1) = P (j + 1)) (hD : D' j = D j ∧ D' (j + 1) = D (j + 1)) (hE : E' j = E j ∧ E' (j + 1) = E (j + 1)) : SWq co' wt' pt' ow' oa' cd' ht' P' D' E' j := by
  unfold SWq at h ⊢
  rw [h1, h2, h3, h4, hP.1, hP.2, hD.1, hD.2, hE.1, hE.2]
  rcases h with h | h | h | h
  · exact Or.inl h
  · exact Or.inr (Or.inl h)
  · obtain ⟨a1, a2, a3, a4, a5, a6, a7, a8⟩ := h
    refine Or.inr (Or.inr (Or.inl ⟨a1, a2, a3, a4, a5, by omega, ?_, ?_⟩))
    · rw [hc _ a6]
      exact a7
    · rw [hh _ (by omega)]
      exact a8
  · exact Or.inr (Or.inr (Or.inr h))
noncomputable def RVq (bl ib : Int) : Int := if bl = 0 then 0 else if ib = 0 then 4 + 2 * (bl - 1) else 2 + 2 * (bl - 1)
theorem RVq_le {bl : Int} (h : 0 ≤ bl) (ib : Int) : 0 ≤ RVq bl ib := by unfold RVq; (repeat' split) <;> omega
/-- the parser's state: b the height an expression began at, o what stands above it, k what is to spare, d how far the depth is off, z: no jump leads beyond codes - z, x: a jump whose target nobody keeps yet -/
noncomputable def ESg (fw ra rb co ar wt pt ow oa bk bp : Int → Int) (nc nn cd dp ib sg bl tt b o k d z x : Int) (ht P D E : Int → Int) : Prop := (FWq fw ∧ P 0 = b ∧ D 0 = 0 ∧ E 0 = 0 ∧ 0 ≤ b ∧ b ≤ 5 ∧ 0 ≤ sg ∧ 0 ≤ cd ∧ 0 ≤ bl ∧ 0 ≤ z ∧ 0 ≤ k) ∧ (∀ i : Int, 0 ≤ i → i < cd → OPk co ar nc ht (cd - z) (PBq bk bp bl i ∨ PEq wt pt sg i ∨ i = x) i) ∧ (∀ j : Int, 0 ≤ j → j < sg → SWq co wt pt ow oa cd ht P D E j) ∧ (∀ j : Int, 0 ≤ j → j ≤ sg → b ≤ P j ∧ P j ≤ b + 2 * j ∧ 0 ≤ D j ∧ 0 ≤ E j ∧ (j = 0 ∨ j ≤ 7 * D j + strn (wt (j - 1)))) ∧ (∀ j : Int, 0 ≤ j → j < bl → BWq bk bp co ib cd j) ∧ (∀ c : Int, 0 ≤ c → c < nc → ENk co ht (cd - z) (ra c) ∧ (rb c = -1 ∨ ENk co ht (cd - z) (rb c))) ∧ ht cd = P sg + o ∧ dp = bl + D sg + d ∧ 2 * (cd + E sg) + RVq bl ib + k ≤ 6 * nn + 4 * nc + tt
noncomputable def ESq (fw ra rb co ar wt pt ow oa bk bp : Int → Int) (nc nn cd dp ib sg bl tt b o k d z x : Int) : Prop := ∃ ht P D E : Int → Int, ESg fw ra rb co ar wt pt ow oa bk bp nc nn cd dp ib sg bl tt b o k d z x ht P D E
section PS
variable {fw ra rb co ar wt pt ow oa bk bp : Int → Int} {nc nn cd dp ib sg bl tt b o k d z x : Int} {ht P D E : Int → Int}
theorem ESg.emit (h : ESg fw ra rb co ar wt pt ow oa bk bp nc nn cd dp ib sg bl tt b o k d z x ht P D E) (op a k' : Int) (h1 : vop op) (h2 : ndo op ≤ b + o) (h3 : exo op → sg = 0 ∧ b + o = ndo op) (h4 : jpo op → PBq bk bp bl cd ∨ PEq wt pt sg cd ∨ cd = x) (h5 : op = 5 → FV a) (h6 : op = 28 ∨ op = 29 → 1 ≤ cd ∧ co (cd - 1) = 0 ∧ 0 ≤ a ∧ a < nc) (h7 : k' + 2 ≤ k) (h7' : 0 ≤ k') (h8 : dp - bl - d ≤ 13) (h9 : o ≤ 5) : ESg fw ra rb (fu co cd op) (fu ar cd a) wt pt ow oa bk bp nc nn (cd + 1) dp ib sg bl tt b (o + dlo op) k' d 1 x (fu ht (cd + 1) (P sg + o + dlo op)) P D E := by
  obtain ⟨⟨g1, g2, g3, g4, g5, g6, g7, g8, g9, g10, g11⟩, i1, i2, i3, i4, i5, i6, i7, i8⟩ := h
  obtain ⟨s1, s2, s3, s4, s5⟩ := i3 sg g7 (Int.le_refl _)
  have st := strn_le (wt (sg - 1))
  have n0 := (ndo_le op).1
  have hc : ∀ j, j < cd → fu co cd op j = co j := fun j hj => fu_ne co op (by omega)
  have hh : ∀ j, j ≤ cd → fu ht (cd + 1) (P sg + o + dlo op) j = ht j := fun j hj => fu_ne ht _ (by omega)
  refine ⟨⟨g1, g2, g3, g4, g5, g6, g7, by omega, g9, by omega, h7'⟩, ?_, ?_, i3, ?_, ?_, ?_, i7, by omega⟩
  · intro i hi0 hi1
    by_cases e : i = cd
    · subst e
      unfold OPk
      rw [fu_eq, fu_eq, hh i (Int.le_refl _), fu_eq, hc (i - 1) (by omega), i6]
      refine ⟨⟨by omega, by omega, h1, rfl, by omega, fun q => ?_⟩, fun q => Or.inl (h4 q), h5, h6⟩
      obtain ⟨q1, q2⟩ := h3 q
      rw [q1] at s1 ⊢
      omega
    · exact (i1 i hi0 (by omega)).mono hi0 (by omega) hc (fu_ne ar a e) hh (by omega) (by omega) (Int.le_refl _) (fun w => w)
  · intro j j0 j1
    exact (i2 j j0 j1).mono hc hh (by omega) rfl rfl rfl rfl ⟨rfl, rfl⟩ ⟨rfl, rfl⟩ ⟨rfl, rfl⟩
  · intro j j0 j1
    obtain ⟨w1, w2, w3, w4⟩ := i4 j j0 j1
    refine ⟨w1, w2, w3, fun q => ?_⟩
    obtain ⟨v1, v2, v3⟩ := w4 q
    exact ⟨v1, by omega, by rw [hc _ v2]; exact v3⟩
  · intro c c0 c1
    obtain ⟨w1, w2⟩ := i5 c c0 c1
    exact ⟨w1.mono hc hh (by omega) (by omega), w2.imp (fun q => q) (fun q => q.mono hc hh (by omega) (by omega))⟩
  · rw [fu_eq]
    omega
theorem ESg.adj (h : ESg fw ra rb co ar wt pt ow oa bk bp nc nn cd dp ib sg bl tt b o k d z x ht P D E) {nn' tt' k' z' dp' d' : Int} (hk : k' + 6 * nn + tt ≤ k + 6 * nn' + tt') (hk0 : 0 ≤ k') (hz : 0 ≤ z' ∧ z' ≤ z) (hd : dp' - d' = dp - d) : ESg fw ra rb co ar wt pt ow oa bk bp nc nn' cd dp' ib sg bl tt' b o k' d' z' x ht P D E := by
  obtain ⟨⟨g1, g2, g3, g4, g5, g6, g7, g8, g9, g10, g11⟩, i1, i2, i3, i4, i5, i6, i7, i8⟩ := h
  have hc : ∀ j, j < cd → co j = co j := fun j _ => rfl
  have hh : ∀ j, j ≤ cd → ht j = ht j := fun j _ => rfl
  refine ⟨⟨g1, g2, g3, g4, g5, g6, g7, g8, g9, hz.1, hk0⟩, ?_, i2, i3, i4, ?_, i6, by omega, by omega⟩
  · intro i hi0 hi1
    exact (i1 i hi0 hi1).mono hi0 hi1 hc rfl hh (by omega) (by omega) (Int.le_refl _) (fun w => w)
  · intro c c0 c1
    obtain ⟨w1, w2⟩ := i5 c c0 c1
    exact ⟨w1.mono hc hh (by omega) (by omega), w2.imp (fun q => q) (fun q => q.mono hc hh (by omega) (by omega))⟩
/-- a sign is put upon the others: y what it takes of the spare, its P, D, E -/
theorem ESg.push (h : ESg fw ra rb co ar wt pt ow oa bk bp nc nn cd dp ib sg bl tt b o k d z x ht P D E) (s w p : Int) {o' k' d' pp dd ee : Int} {pt' : Int → Int} (hpt : ∀ j, j < sg → pt' j = pt j) (hs : SWq co (fu wt sg s) pt' (fu ow sg w) (fu oa sg 1) cd ht (fu P (sg + 1) (P sg + pp)) (fu D (sg + 1) (D sg + dd)) (fu E (sg + 1) (E sg + ee)) sg) (hL : sg + 1 ≤ 7 * (D sg + dd) + strn s) (hpp : 0 ≤ pp ∧ pp ≤ 2) (hdd : 0 ≤ dd) (hee : 0 ≤ ee) (ho : o = pp + o') (hd : d = dd + d') (hk : k' + 2 * ee ≤ k) (hk0 : 0 ≤ k') : ESg fw ra rb co ar (fu wt sg s) pt' (fu ow sg w) (fu oa sg 1) bk bp nc nn cd dp ib (sg + 1) bl tt b o' k' d' z x ht (fu P (sg + 1) (P sg + pp)) (fu D (sg + 1) (D sg + dd)) (fu E (sg + 1) (E sg + ee)) := by
  obtain ⟨⟨g1, g2, g3, g4, g5, g6, g7, g8, g9, g10, g11⟩, i1, i2, i3, i4, i5, i6, i7, i8⟩ := h
  obtain ⟨s1, s2, s3, s4, s5⟩ := i3 sg g7 (Int.le_refl _)
  have hc : ∀ j, j < cd → co j = co j := fun j _ => rfl
  have hh : ∀ j, j ≤ cd → ht j = ht j := fun j _ => rfl
  refine ⟨⟨g1, by rw [fu_ne _ _ (by omega)]; exact g2, by rw [fu_ne _ _ (by omega)]; exact g3, by rw [fu_ne _ _ (by omega)]; exact g4, g5, g6, by omega, g8, g9, g10, hk0⟩, ?_, ?_, ?_, i4, i5, ?_, ?_, ?_⟩
  · intro i hi0 hi1
    refine (i1 i hi0 hi1).mono hi0 hi1 hc rfl hh (by omega) (by omega) (Int.le_refl _) (fun q => ?_)
    rcases q with q | q | q
    · exact Or.inl q
    · obtain ⟨j, j0, j1, j2, j3⟩ := q
      exact Or.inr (Or.inl ⟨j, j0, by omega, by rw [fu_ne _ _ (by omega)]; exact j2, by rw [hpt j j1]; exact j3⟩)
    · exact Or.inr (Or.inr q)
  · intro j j0 j1
    by_cases e : j = sg
    · rw [e]
      exact hs
    · exact (i2 j j0 (by omega)).mono hc hh (Int.le_refl _) (fu_ne _ _ e) (hpt j (by omega)) (fu_ne _ _ e) (fu_ne _ _ e) ⟨fu_ne _ _ (by omega), fu_ne _ _ (by omega)⟩ ⟨fu_ne _ _ (by omega), fu_ne _ _ (by omega)⟩ ⟨fu_ne _ _ (by omega), fu_ne _ _ (by omega)⟩
  · intro j j0 j1
    by_cases e : j = sg + 1
    · rw [e, fu_eq, fu_eq, fu_eq, show sg + 1 - 1 = sg by omega, fu_eq]
      omega
    · rw [fu_ne _ _ e, fu_ne _ _ e, fu_ne _ _ e, fu_ne wt _ (by omega)]
      exact i3 j j0 (by omega)
  · rw [fu_eq]
    omega
  · rw [fu_eq]
    omega
  · rw [fu_eq]
    omega
/-- the sign on top is taken away; y: the jump that it kept -/
theorem ESg.pop (h : ESg fw ra rb co ar wt pt ow oa bk bp nc nn cd dp ib sg bl tt b o k d z x ht P D E) (h0 : 0 < sg) {o' k' d' x' : Int} (hP : P sg + o = P (sg - 1) + o') (hD : D sg + d = D (sg - 1) + d') (hE : 2 * E (sg - 1) + k' ≤ 2 * E sg + k) (hk0 : 0 ≤ k') (hx : ∀ i : Int, (i = x ∨ ((wt (sg - 1) = 38 ∨ wt (sg - 1) = 124) ∧ pt (sg - 1) = i)) → 0 ≤ i → i < cd → i = x') : ESg fw ra rb co ar wt pt ow oa bk bp nc nn cd dp ib (sg - 1) bl tt b o' k' d' z x' ht P D E := by
  obtain ⟨⟨g1, g2, g3, g4, g5, g6, g7, g8, g9, g10, g11⟩, i1, i2, i3, i4, i5, i6, i7, i8⟩ := h
  have hc : ∀ j, j < cd → co j = co j := fun j _ => rfl
  have hh : ∀ j, j ≤ cd → ht j = ht j := fun j _ => rfl
  refine ⟨⟨g1, g2, g3, g4, g5, g6, by omega, g8, g9, g10, hk0⟩, ?_, fun j j0 j1 => i2 j j0 (by omega), fun j j0 j1 => i3 j j0 (by omega), i4, i5, by omega, by omega, by omega⟩
  intro i hi0 hi1
  refine (i1 i hi0 hi1).mono hi0 hi1 hc rfl hh (by omega) (by omega) (Int.le_refl _) (fun q => ?_)
  rcases q with q | q | q
  · exact Or.inl q
  · obtain ⟨j, j0, j1, j2, j3⟩ := q
    by_cases e : j = sg - 1
    · subst e
      exact Or.inr (Or.inr (hx i (Or.inr ⟨j2, j3⟩) hi0 hi1))
    · exact Or.inr (Or.inl ⟨j, j0, by omega, j2, j3⟩)
  · exact Or.inr (Or.inr (hx i (Or.inl q) hi0 hi1))
/-- a jump's target is laid: the place where the code ends -/
theorem ESg.patch' (h : ESg fw ra rb co ar wt pt ow oa bk bp nc nn cd dp ib sg bl tt b o k d z x ht P D E) (i0 : Int) (h0 : 0 ≤ i0) (h1 : i0 < cd) (hj : jpo (co i0)) (hh : ht cd = (if co i0 = 1 ∨ co i0 = 2 then 0 else ht i0)) (hl : co (cd - 1) ≠ 0) (x' : Int) (hx : ∀ i : Int, 0 ≤ i → i < cd → i = x → i = i0 ∨ i = x') : ESg fw ra rb co (fu ar i0 cd) wt pt ow oa bk bp nc nn cd dp ib sg bl tt b o k d 0 x' ht P D E := by
  obtain ⟨⟨g1, g2, g3, g4, g5, g6, g7, g8, g9, g10, g11⟩, i1, i2, i3, i4, i5, i6, i7, i8⟩ := h
  have hc : ∀ j, j < cd → co j = co j := fun j _ => rfl
  have hq : ∀ j, j ≤ cd → ht j = ht j := fun j _ => rfl
  refine ⟨⟨g1, g2, g3, g4, g5, g6, g7, g8, g9, by omega, g11⟩, ?_, i2, i3, i4, ?_, i6, i7, i8⟩
  · intro i hi0 hi1
    by_cases e : i = i0
    · subst e
      obtain ⟨a, _, c, d1⟩ := i1 i hi0 hi1
      refine ⟨a, fun _ => Or.inr ?_, fun q => ?_, fun q => ?_⟩
      · rw [fu_eq]
        exact ⟨h1, by omega, hh, hl⟩
      · unfold jpo at hj
        omega
      · unfold jpo at hj
        omega
    · refine (i1 i hi0 hi1).mono hi0 hi1 hc (fu_ne _ _ e) hq (by omega) (by omega) (Int.le_refl _) (fun q => ?_)
      rcases q with q | q | q
      · exact Or.inl q
      · exact Or.inr (Or.inl q)
      · exact Or.inr (Or.inr ((hx i hi0 hi1 q).resolve_left e))
  · intro c c0 c1
    obtain ⟨w1, w2⟩ := i5 c c0 c1
    exact ⟨w1.mono hc hq (by omega) (by omega), w2.imp (fun q => q) (fun q => q.mono hc hq (by omega) (by omega))⟩
theorem ESg.patch (h : ESg fw ra rb co ar wt pt ow oa bk bp nc nn cd dp ib sg bl tt b o k d z x ht P D E) (h0 : 0 ≤ x) (h1 : x < cd) (hj : jpo (co x)) (hh : ht cd = (if co x = 1 ∨ co x = 2 then 0 else ht x)) (hl : co (cd - 1) ≠ 0) (x' : Int) : ESg fw ra rb co (fu ar x cd) wt pt ow oa bk bp nc nn cd dp ib sg bl tt b o k d 0 x' ht P D E := h.patch' x h0 h1 hj hh hl x' (fun i _ _ e => Or.inl e)
/-- the argument of a jump to a chain -/
theorem ESg.asks (h : ESg fw ra rb co ar wt pt ow oa bk bp nc nn cd dp ib sg bl tt b o k d z x ht P D E) (i0 c : Int) (hj : co i0 = 28 ∨ co i0 = 29) (hc : 0 ≤ c ∧ c < nc) : ESg fw ra rb co (fu ar i0 c) wt pt ow oa bk bp nc nn cd dp ib sg bl tt b o k d z x ht P D E := by
  obtain ⟨g, i1, i2⟩ := h
  refine ⟨g, fun i hi0 hi1 => ?_, i2⟩
  by_cases e : i = i0
  · subst e
    obtain ⟨a, _, c1, d1⟩ := i1 i hi0 hi1
    refine ⟨a, fun q => ?_, fun q => ?_, fun q => ?_⟩
    · unfold jpo at q
      omega
    · omega
    · rw [fu_eq]
      obtain ⟨u1, u2, _, _⟩ := d1 q
      exact ⟨u1, u2, hc.1, hc.2⟩
  · exact (i1 i hi0 hi1).mono hi0 hi1 (fun _ _ => rfl) (fu_ne _ _ e) (fun _ _ => rfl) (by omega) (by omega) (Int.le_refl _) (fun q => q)
/-- nothing waits: the height as it stands is the new base -/
theorem ESg.base (h : ESg fw ra rb co ar wt pt ow oa bk bp nc nn cd dp ib sg bl tt b o k d z x ht P D E) (h0 : sg = 0) (hb : 0 ≤ b + o ∧ b + o ≤ 5) (wt' pt' ow' oa' : Int → Int) : ESg fw ra rb co ar wt' pt' ow' oa' bk bp nc nn cd dp ib 0 bl tt (b + o) 0 k d z x ht (fun _ => b + o) (fun _ => 0) (fun _ => 0) := by
  obtain ⟨⟨g1, g2, g3, g4, g5, g6, g7, g8, g9, g10, g11⟩, i1, i2, i3, i4, i5, i6, i7, i8⟩ := h
  subst h0
  have hc : ∀ j, j < cd → co j = co j := fun j _ => rfl
  have hh : ∀ j, j ≤ cd → ht j = ht j := fun j _ => rfl
  refine ⟨⟨g1, rfl, rfl, rfl, hb.1, hb.2, Int.le_refl _, g8, g9, g10, g11⟩, ?_, fun j j0 j1 => by omega, fun j j0 j1 => ⟨Int.le_refl _, by show b + o ≤ b + o + 2 * j; omega, Int.le_refl _, Int.le_refl _, Or.inl (by omega)⟩, i4, i5, by show ht cd = b + o + 0; omega, by show dp = bl + 0 + d; omega, by show 2 * (cd + 0) + RVq bl ib + k ≤ _; omega⟩
  intro i hi0 hi1
  refine (i1 i hi0 hi1).mono hi0 hi1 hc rfl hh (by omega) (by omega) (Int.le_refl _) (fun q => ?_)
  rcases q with q | q | q
  · exact Or.inl q
  · obtain ⟨j, j0, j1, j2, j3⟩ := q
    omega
  · exact Or.inr (Or.inr q)
theorem ESg.setx (h : ESg fw ra rb co ar wt pt ow oa bk bp nc nn cd dp ib sg bl tt b o k d z x ht P D E) (x' : Int) (hx : ∀ i : Int, 0 ≤ i → i < cd → i = x → PBq bk bp bl i ∨ PEq wt pt sg i ∨ i = x') : ESg fw ra rb co ar wt pt ow oa bk bp nc nn cd dp ib sg bl tt b o k d z x' ht P D E := by
  obtain ⟨g, i1, i2⟩ := h
  refine ⟨g, fun i hi0 hi1 => ?_, i2⟩
  refine (i1 i hi0 hi1).mono hi0 hi1 (fun _ _ => rfl) rfl (fun _ _ => rfl) (by omega) (by omega) (Int.le_refl _) (fun q => ?_)
  rcases q with q | q | q
  · exact Or.inl q
  · exact Or.inr (Or.inl q)
  · exact hx i hi0 hi1 q
/-- a block is begun -/
theorem ESg.blk (h : ESg fw ra rb co ar wt pt ow oa bk bp nc nn cd dp ib sg bl tt b o k d z x ht P D E) (kd p : Int) {k' : Int} (h1 : bl = 0 → kd = ib ∧ 0 ≤ kd ∧ kd ≤ 1) (h2 : 1 ≤ bl → 2 ≤ kd ∧ kd ≤ 3 ∧ 0 ≤ p ∧ p < cd ∧ co p = kd - 1) (hk : k' + RVq (bl + 1) ib ≤ k + RVq bl ib) (hk0 : 0 ≤ k') : ESg fw ra rb co ar wt pt ow oa (fu bk bl kd) (fu bp bl p) nc nn cd dp ib sg (bl + 1) tt b o k' (d - 1) z x ht P D E := by
  obtain ⟨⟨g1, g2, g3, g4, g5, g6, g7, g8, g9, g10, g11⟩, i1, i2, i3, i4, i5, i6, i7, i8⟩ := h
  refine ⟨⟨g1, g2, g3, g4, g5, g6, g7, g8, by omega, g10, hk0⟩, ?_, i2, i3, ?_, i5, i6, by omega, by omega⟩
  · intro i hi0 hi1
    refine (i1 i hi0 hi1).mono hi0 hi1 (fun _ _ => rfl) rfl (fun _ _ => rfl) (by omega) (by omega) (Int.le_refl _) (fun q => ?_)
    rcases q with q | q
    · obtain ⟨j, j0, j1, j2, j3⟩ := q
      exact Or.inl ⟨j, j0, by omega, by rw [fu_ne _ _ (by omega)]; exact j2, by rw [fu_ne _ _ (by omega)]; exact j3⟩
    · exact Or.inr q
  · intro j j0 j1
    by_cases e : j = bl
    · subst e
      unfold BWq
      rw [fu_eq, fu_eq]
      exact ⟨fun q => (h1 q).1, fun q => (h2 q).1, by omega, fun q => by
        by_cases e : j = 0
        · have := h1 e
          omega
        · exact (h2 (by omega)).2.2⟩
    · have w := i4 j j0 (by omega)
      unfold BWq at w ⊢
      rw [fu_ne _ _ e, fu_ne _ _ e]
      exact w
/-- a block is closed; x': the jump that it kept -/
theorem ESg.unblk (h : ESg fw ra rb co ar wt pt ow oa bk bp nc nn cd dp ib sg bl tt b o k d z x ht P D E) (h0 : 0 < bl) {k' x' : Int} (hk : k' + RVq (bl - 1) ib ≤ k + RVq bl ib) (hk0 : 0 ≤ k') (hx : ∀ i : Int, (i = x ∨ (2 ≤ bk (bl - 1) ∧ bp (bl - 1) = i)) → 0 ≤ i → i < cd → i = x') : ESg fw ra rb co ar wt pt ow oa bk bp nc nn cd dp ib sg (bl - 1) tt b o k' (d + 1) z x' ht P D E := by
  obtain ⟨⟨g1, g2, g3, g4, g5, g6, g7, g8, g9, g10, g11⟩, i1, i2, i3, i4, i5, i6, i7, i8⟩ := h
  refine ⟨⟨g1, g2, g3, g4, g5, g6, g7, g8, by omega, g10, hk0⟩, ?_, i2, i3, fun j j0 j1 => i4 j j0 (by omega), i5, i6, by omega, by omega⟩
  intro i hi0 hi1
  refine (i1 i hi0 hi1).mono hi0 hi1 (fun _ _ => rfl) rfl (fun _ _ => rfl) (by omega) (by omega) (Int.le_refl _) (fun q => ?_)
  rcases q with q | q | q
  · obtain ⟨j, j0, j1, j2, j3⟩ := q
    by_cases e : j = bl - 1
    · subst e
      exact Or.inr (Or.inr (hx i (Or.inr ⟨j2, j3⟩) hi0 hi1))
    · exact Or.inl ⟨j, j0, by omega, j2, j3⟩
  · exact Or.inr (Or.inl q)
  · exact Or.inr (Or.inr (hx i (Or.inl q) hi0 hi1))
/-- a chain begins -/
theorem ESg.chn (h : ESg fw ra rb co ar wt pt ow oa bk bp nc nn cd dp ib sg bl tt b o k d z x ht P D E) (h0 : 0 ≤ nc) (hh : ht cd = 0) (hl : cd = 0 ∨ co (cd - 1) ≠ 0) : ESg fw (fu ra nc cd) (fu rb nc (-1)) co ar wt pt ow oa bk bp (nc + 1) nn cd dp ib sg bl tt b o (k + 4) d 0 x ht P D E := by
  obtain ⟨⟨g1, g2, g3, g4, g5, g6, g7, g8, g9, g10, g11⟩, i1, i2, i3, i4, i5, i6, i7, i8⟩ := h
  refine ⟨⟨g1, g2, g3, g4, g5, g6, g7, g8, g9, by omega, by omega⟩, ?_, i2, i3, i4, ?_, i6, i7, by omega⟩
  · intro i hi0 hi1
    exact (i1 i hi0 hi1).mono hi0 hi1 (fun _ _ => rfl) rfl (fun _ _ => rfl) (by omega) (by omega) (by omega) (fun q => q)
  · intro c c0 c1
    by_cases e : c = nc
    · subst e
      rw [fu_eq, fu_eq]
      exact ⟨⟨g8, by omega, hh, hl⟩, Or.inl rfl⟩
    · rw [fu_ne _ _ e, fu_ne _ _ e]
      obtain ⟨w1, w2⟩ := i5 c c0 (by omega)
      exact ⟨w1.mono (cd := cd) (fun _ _ => rfl) (fun _ _ => rfl) (by omega) (by omega), w2.imp (fun q => q) (fun q => q.mono (cd := cd) (fun _ _ => rfl) (fun _ _ => rfl) (by omega) (by omega))⟩
/-- what lies behind a chain begins -/
theorem ESg.bhd (h : ESg fw ra rb co ar wt pt ow oa bk bp nc nn cd dp ib sg bl tt b o k d z x ht P D E) (c' : Int) (hh : ht cd = 0) (hl : cd = 0 ∨ co (cd - 1) ≠ 0) : ESg fw ra (fu rb c' cd) co ar wt pt ow oa bk bp nc nn cd dp ib sg bl tt b o k d 0 x ht P D E := by
  obtain ⟨⟨g1, g2, g3, g4, g5, g6, g7, g8, g9, g10, g11⟩, i1, i2, i3, i4, i5, i6, i7, i8⟩ := h
  refine ⟨⟨g1, g2, g3, g4, g5, g6, g7, g8, g9, by omega, by omega⟩, ?_, i2, i3, i4, ?_, i6, i7, by omega⟩
  · intro i hi0 hi1
    exact (i1 i hi0 hi1).mono hi0 hi1 (fun _ _ => rfl) rfl (fun _ _ => rfl) (by omega) (by omega) (by omega) (fun q => q)
  · intro c c0 c1
    obtain ⟨w1, w2⟩ := i5 c c0 (by omega)
    refine ⟨w1.mono (cd := cd) (fun _ _ => rfl) (fun _ _ => rfl) (by omega) (by omega), ?_⟩
    by_cases e : c = c'
    · subst e
      rw [fu_eq]
      exact Or.inr ⟨g8, by omega, hh, hl⟩
    · rw [fu_ne _ _ e]
      exact w2.imp (fun q => q) (fun q => q.mono (cd := cd) (fun _ _ => rfl) (fun _ _ => rfl) (by omega) (by omega))
/-- another argument of a call is begun -/
theorem ESg.inc (h : ESg fw ra rb co ar wt pt ow oa bk bp nc nn cd dp ib sg bl tt b 1 k d z x ht P D E) (h0 : 0 < sg) (h1 : wt (sg - 1) = 40) (h2 : ow (sg - 1) ≠ -1) (h3 : oa (sg - 1) < argn (ow (sg - 1))) : ESg fw ra rb co ar wt pt ow (fu oa (sg - 1) (oa (sg - 1) + 1)) bk bp nc nn cd dp ib sg bl tt b 0 k d z x ht (fu P sg (P sg + 1)) D E := by
  obtain ⟨⟨g1, g2, g3, g4, g5, g6, g7, g8, g9, g10, g11⟩, i1, i2, i3, i4, i5, i6, i7, i8⟩ := h
  have al := argn_le (ow (sg - 1))
  have e1 : sg - 1 + 1 = sg := by omega
  have w := i2 (sg - 1) (by omega) (by omega)
  have t := i3 (sg - 1) (by omega) (by omega)
  have t2 := i3 sg (by omega) (by omega)
  unfold SWq at w
  rw [e1] at w
  rcases w with ⟨a1, a2, a3, a4, a5⟩ | ⟨a1, _⟩ | ⟨a1, _⟩ | ⟨a1, _⟩
  · refine ⟨⟨g1, by rw [fu_ne _ _ (by omega)]; exact g2, g3, g4, g5, g6, g7, g8, g9, g10, g11⟩, i1, ?_, ?_, i4, i5, by rw [fu_eq]; omega, i7, i8⟩
    · intro j j0 j1
      by_cases e : j = sg - 1
      · subst e
        unfold SWq
        rw [e1, fu_eq, fu_eq, fu_ne P _ (by omega)]
        refine Or.inl ⟨a1, by omega, by omega, a4, ?_⟩
        rcases a5 with q | ⟨q1, q2, q3, q4⟩
        · exact absurd q.1 h2
        · exact Or.inr ⟨q1, q2, by omega, q4⟩
      · exact (i2 j j0 j1).mono (fun _ _ => rfl) (fun _ _ => rfl) (Int.le_refl _) rfl rfl rfl (fu_ne _ _ e) ⟨fu_ne _ _ (by omega), fu_ne _ _ (by omega)⟩ ⟨rfl, rfl⟩ ⟨rfl, rfl⟩
    · intro j j0 j1
      by_cases e : j = sg
      · subst e
        rw [fu_eq]
        omega
      · rw [fu_ne _ _ e]
        exact i3 j j0 j1
  · omega
  · omega
  · rw [h1] at a1
    exact absurd a1 (by decide)
end PS
end
