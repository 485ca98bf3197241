section
/-! ===== the reference's parser: the code it lays, its heights ===== -/
noncomputable def fu (f : Int → Int) (i v : Int) : Int → Int := fun k => if k = i then v else f k
theorem fu_eq (f : Int → Int) (i v : Int) : fu f i v i = v := by simp [fu]
theorem fu_ne (f : Int → Int) {i k : Int} (v : Int) (h : k ≠ i) : fu f i v k = f k := by simp [fu, h]
noncomputable def strn (x : Int) : Int := if x = 124 then 1 else if x = 38 then 2 else if x = 61 ∨ x = 60 ∨ x = 62 then 3 else if x = 43 ∨ x = 45 then 4 else if x = 42 ∨ x = 47 ∨ x = 37 then 5 else if x = 10 ∨ x = 11 then 6 else 0
theorem strn_le (x : Int) : 0 ≤ strn x ∧ strn x ≤ 6 := by unfold strn; (repeat' split) <;> omega
noncomputable def argn (w : Int) : Int := if w = 30 then 3 else if w = 28 ∨ w = 29 then 2 else 1
theorem argn_le (w : Int) : 1 ≤ argn w ∧ argn w ≤ 3 := by unfold argn; (repeat' split) <;> omega
/-- what an operation wants of the pile, and what it adds -/
noncomputable def ndo (o : Int) : Int := if o = 1 ∨ (7 ≤ o ∧ o ≤ 11) then 1 else if o < 30 then 0 else if o = 35 then 5 else if o = 34 ∨ o = 36 then 3 else if o = 31 ∨ o = 33 then 2 else if o < 39 then 1 else if o < 340 then 2 else if o < 365 then 0 else argn (o - 340)
noncomputable def dlo (o : Int) : Int := if o = 1 ∨ o = 7 ∨ o = 8 then -1 else if 4 ≤ o ∧ o ≤ 6 then 1 else if o < 30 then 0 else if o < 39 then -(ndo o) else if o < 340 then -1 else 1 - ndo o
theorem ndo_le (o : Int) : 0 ≤ ndo o ∧ ndo o ≤ 5 := by
  unfold ndo
  have h := argn_le (o - 340)
  (repeat' split) <;> omega
noncomputable def exo (o : Int) : Prop := o < 4 ∨ (24 ≤ o ∧ o < 39)
noncomputable def jpo (o : Int) : Prop := o = 1 ∨ o = 2 ∨ o = 7 ∨ o = 8
noncomputable def vop (o : Int) : Prop := (0 ≤ o ∧ o ≤ 11) ∨ (24 ≤ o ∧ o ≤ 38) ∨ (137 ≤ o ∧ o ≤ 162) ∨ (350 ≤ o ∧ o ≤ 370)
noncomputable def FV (a : Int) : Prop := ∃ k f : Int, a = 16 * k + f ∧ 0 ≤ f ∧ f ≤ 10 ∧ 0 ≤ k ∧ k ≤ 13 ∧ (k ≤ 11 → f < fldn k) ∧ (k = 12 → f ≤ 4)
noncomputable def FWq (fw : Int → Int) : Prop := ∀ k f : Int, 0 ≤ k → k ≤ 13 → 0 ≤ f → f ≤ 10 → fw (11 * k + f) ≠ -1 → (k ≤ 11 → f < fldn k) ∧ (k = 12 → f ≤ 4)
/-- an operation at place i of code co, arguments ar; n: where a jump may lead; nc: chains; pe: its target is still to come -/
noncomputable def OPk (co ar : Int → Int) (nc : Int) (ht : Int → Int) (n : Int) (pe : Prop) (i : Int) : Prop := (0 ≤ ht i ∧ ht i ≤ 250 ∧ vop (co i) ∧ ht (i + 1) = ht i + dlo (co i) ∧ ndo (co i) ≤ ht i ∧ (exo (co i) → ht i = ndo (co i))) ∧ (jpo (co i) → pe ∨ (i < ar i ∧ ar i ≤ n ∧ ht (ar i) = (if co i = 1 ∨ co i = 2 then 0 else ht i) ∧ co (ar i - 1) ≠ 0)) ∧ (co i = 5 → FV (ar i)) ∧ ((co i = 28 ∨ co i = 29) → 1 ≤ i ∧ co (i - 1) = 0 ∧ 0 ≤ ar i ∧ ar i < nc)
/-- a place where a chain, or what lies behind it, begins -/
noncomputable def ENk (co : Int → Int) (ht : Int → Int) (n e : Int) : Prop := 0 ≤ e ∧ e ≤ n ∧ ht e = 0 ∧ (e = 0 ∨ co (e - 1) ≠ 0)
theorem OPk.mono {co ar co' ar' ht ht' : Int → Int} {nc nc' n n' cd i : Int} {pe pe' : Prop} (h : OPk co ar nc ht n pe i) (h0 : 0 ≤ i) (hi : i < cd) (hc : ∀ j, j < cd → co' j = co j) (ha : ar' i = ar i) (hh : ∀ j, j ≤ cd → ht' j = ht j) (hn : n ≤ cd) (hn' : n ≤ n') (hnc : nc ≤ nc') (hp : pe → pe') : OPk co' ar' nc' ht' n' pe' i := by
  obtain ⟨⟨a1, a2, a3, a4, a5, a6⟩, b, c, d⟩ := h
  unfold OPk
  rw [hc i hi, hh i (by omega), hh (i + 1) (by omega), ha]
  refine ⟨⟨a1, a2, a3, a4, a5, a6⟩, fun q => ?_, c, fun q => ?_⟩
  · rcases b q with w | ⟨w1, w2, w3, w4⟩
    · exact Or.inl (hp w)
    · refine Or.inr ⟨w1, by omega, ?_, ?_⟩
      · rw [hh _ (by omega)]
        exact w3
      · rw [hc _ (by omega)]
        exact w4
  · obtain ⟨w1, w2, w3, w4⟩ := d q
    refine ⟨w1, ?_, w3, by omega⟩
    rw [hc _ (by omega)]
    exact w2
theorem ENk.mono {co co' ht ht' : Int → Int} {n n' cd e : Int} (h : ENk co ht n e) (hc : ∀ j, j < cd → co' j = co j) (hh : ∀ j, j ≤ cd → ht' j = ht j) (hn : n ≤ cd) (hn' : n ≤ n') : ENk co' ht' n' e := by
  obtain ⟨a1, a2, a3, a4⟩ := h
  refine ⟨a1, by omega, ?_, ?_⟩
  · rw [hh _ (by omega)]
    exact a3
  · rcases a4 with w | w
    · exact Or.inl w
    · refine Or.inr ?_
      rw [hc _ (by omega)]
      exact w
noncomputable def PBq (bk bp : Int → Int) (bl i : Int) : Prop := ∃ j : Int, 0 ≤ j ∧ j < bl ∧ 2 ≤ bk j ∧ bp j = i
noncomputable def PEq (wt pt : Int → Int) (sg i : Int) : Prop := ∃ j : Int, 0 ≤ j ∧ j < sg ∧ (wt j = 38 ∨ wt j = 124) ∧ pt j = i
noncomputable def BWq (bk bp co : Int → Int) (ib cd j : Int) : Prop := (j = 0 → bk j = ib) ∧ (1 ≤ j → 2 ≤ bk j) ∧ bk j ≤ 3 ∧ (2 ≤ bk j → 0 ≤ bp j ∧ bp j < cd ∧ co (bp j) = bk j - 1)
noncomputable def SWq (co wt pt ow oa : Int → Int) (cd : Int) (ht P D E : Int → Int) (j : Int) : Prop := (wt j = 40 ∧ 1 ≤ oa j ∧ P (j + 1) = P j + (oa j - 1) ∧ D (j + 1) = D j + 1 ∧ ((ow j = -1 ∧ oa j = 1 ∧ E (j + 1) = E j) ∨ (25 ≤ ow j ∧ ow j ≤ 30 ∧ oa j ≤ argn (ow j) ∧ E (j + 1) = E j + 1))) ∨ ((wt j = 10 ∨ wt j = 11) ∧ P (j + 1) = P j ∧ D (j + 1) = D j + 1 ∧ E (j + 1) = E j + 1) ∨ ((wt j = 38 ∨ wt j = 124) ∧ P (j + 1) = P j ∧ D (j + 1) = D j ∧ E (j + 1) = E j + 1 ∧ 0 ≤ pt j ∧ pt j < cd ∧ (co (pt j) = 7 ∨ co (pt j) = 8) ∧ ht (pt j) = P j + 1) ∨ (3 ≤ strn (wt j) ∧ strn (wt j) ≤ 5 ∧ P (j + 1) = P j + 1 ∧ D (j + 1) = D j ∧ E (j + 1) = E j + 1)
theorem SWq.mono {co co' wt wt' pt pt' ow ow' oa oa' ht ht' P P' D D' E E' : Int → Int} {cd cd' j : Int} (h : SWq co wt pt ow oa cd ht P D E j) (hc : ∀ i, i < cd → co' i = co i) (hh : ∀ i, i ≤ cd → ht' i = ht i) (hcd : cd ≤ cd') (h1 : wt' j = wt j) (h2 : pt' j = pt j) (h3 : ow' j = ow j) (h4 : oa' j = oa j) (hP : P' j = P j ∧ P' (j + 1) = P (j + 1)) (hD : D' j = D j ∧ D' (j + 1) = D (j + 1)) (hE : E' j = E j ∧ E' (j + 1) = E (j + 1)) : SWq co' wt' pt' ow' oa' cd' ht' P' D' E' j := by
  unfold SWq at h ⊢
  rw [h1, h2, h3, h4, hP.1, hP.2, hD.1, hD.2, hE.1, hE.2]
  rcases h with h | h | h | h
  · exact Or.inl h
  · exact Or.inr (Or.inl h)
  · obtain ⟨a1, a2, a3, a4, a5, a6, a7, a8⟩ := h
    refine Or.inr (Or.inr (Or.inl ⟨a1, a2, a3, a4, a5, by omega, ?_, ?_⟩))
    · rw [hc _ a6]
      exact a7
    · rw [hh _ (by omega)]
      exact a8
  · exact Or.inr (Or.inr (Or.inr h))
noncomputable def RVq (bl ib : Int) : Int := if bl = 0 then 0 else if ib = 0 then 4 + 2 * (bl - 1) else 2 + 2 * (bl - 1)
theorem RVq_le {bl : Int} (h : 0 ≤ bl) (ib : Int) : 0 ≤ RVq bl ib := by unfold RVq; (repeat' split) <;> omega
/-- the parser's state: b the height an expression began at, o what stands above it, k what is to spare, d how far the depth is off, z: no jump leads beyond codes - z, x: a jump whose target nobody keeps yet -/
noncomputable def ESg (fw ra rb co ar wt pt ow oa bk bp : Int → Int) (nc nn cd dp ib sg bl tt b o k d z x : Int) (ht P D E : Int → Int) : Prop := (FWq fw ∧ P 0 = b ∧ D 0 = 0 ∧ E 0 = 0 ∧ 0 ≤ b ∧ b ≤ 5 ∧ 0 ≤ sg ∧ 0 ≤ cd ∧ 0 ≤ bl ∧ 0 ≤ z ∧ 0 ≤ k) ∧ (∀ i : Int, 0 ≤ i → i < cd → OPk co ar nc ht (cd - z) (PBq bk bp bl i ∨ PEq wt pt sg i ∨ i = x) i) ∧ (∀ j : Int, 0 ≤ j → j < sg → SWq co wt pt ow oa cd ht P D E j) ∧ (∀ j : Int, 0 ≤ j → j ≤ sg → b ≤ P j ∧ P j ≤ b + 2 * j ∧ 0 ≤ D j ∧ 0 ≤ E j ∧ (j = 0 ∨ j ≤ 7 * D j + strn (wt (j - 1)))) ∧ (∀ j : Int, 0 ≤ j → j < bl → BWq bk bp co ib cd j) ∧ (∀ c : Int, 0 ≤ c → c < nc → ENk co ht (cd - z) (ra c) ∧ (rb c = -1 ∨ ENk co ht (cd - z) (rb c))) ∧ ht cd = P sg + o ∧ dp = bl + D sg + d ∧ 2 * (cd + E sg) + RVq bl ib + k ≤ 6 * nn + 4 * nc + tt
noncomputable def ESq (fw ra rb co ar wt pt ow oa bk bp : Int → Int) (nc nn cd dp ib sg bl tt b o k d z x : Int) : Prop := ∃ ht P D E : Int → Int, ESg fw ra rb co ar wt pt ow oa bk bp nc nn cd dp ib sg bl tt b o k d z x ht P D E
section PS
variable {fw ra rb co ar wt pt ow oa bk bp : Int → Int} {nc nn cd dp ib sg bl tt b o k d z x : Int} {ht P D E : Int → Int}
theorem ESg.emit (h : ESg fw ra rb co ar wt pt ow oa bk bp nc nn cd dp ib sg bl tt b o k d z x ht P D E) (op a k' : Int) (h1 : vop op) (h2 : ndo op ≤ b + o) (h3 : exo op → sg = 0 ∧ b + o = ndo op) (h4 : jpo op → PBq bk bp bl cd ∨ PEq wt pt sg cd ∨ cd = x) (h5 : op = 5 → FV a) (h6 : op = 28 ∨ op = 29 → 1 ≤ cd ∧ co (cd - 1) = 0 ∧ 0 ≤ a ∧ a < nc) (h7 : k' + 2 ≤ k) (h7' : 0 ≤ k') (h8 : dp - bl - d ≤ 13) (h9 : o ≤ 5) : ESg fw ra rb (fu co cd op) (fu ar cd a) wt pt ow oa bk bp nc nn (cd + 1) dp ib sg bl tt b (o + dlo op) k' d 1 x (fu ht (cd + 1) (P sg + o + dlo op)) P D E := by
  obtain ⟨⟨g1, g2, g3, g4, g5, g6, g7, g8, g9, g10, g11⟩, i1, i2, i3, i4, i5, i6, i7, i8⟩ := h
  obtain ⟨s1, s2, s3, s4, s5⟩ := i3 sg g7 (Int.le_refl _)
  have st := strn_le (wt (sg - 1))
  have n0 := (ndo_le op).1
  have hc : ∀ j, j < cd → fu co cd op j = co j := fun j hj => fu_ne co op (by omega)
  have hh : ∀ j, j ≤ cd → fu ht (cd + 1) (P sg + o + dlo op) j = ht j := fun j hj => fu_ne ht _ (by omega)
  refine ⟨⟨g1, g2, g3, g4, g5, g6, g7, by omega, g9, by omega, h7'⟩, ?_, ?_, i3, ?_, ?_, ?_, i7, by omega⟩
  · intro i hi0 hi1
    by_cases e : i = cd
    · subst e
      unfold OPk
      rw [fu_eq, fu_eq, hh i (Int.le_refl _), fu_eq, hc (i - 1) (by omega), i6]
      refine ⟨⟨by omega, by omega, h1, rfl, by omega, fun q => ?_⟩, fun q => Or.inl (h4 q), h5, h6⟩
      obtain ⟨q1, q2⟩ := h3 q
      rw [q1] at s1 ⊢
      omega
    · exact (i1 i hi0 (by omega)).mono hi0 (by omega) hc (fu_ne ar a e) hh (by omega) (by omega) (Int.le_refl _) (fun w => w)
  · intro j j0 j1
    exact (i2 j j0 j1).mono hc hh (by omega) rfl rfl rfl rfl ⟨rfl, rfl⟩ ⟨rfl, rfl⟩ ⟨rfl, rfl⟩
  · intro j j0 j1
    obtain ⟨w1, w2, w3, w4⟩ := i4 j j0 j1
    refine ⟨w1, w2, w3, fun q => ?_⟩
    obtain ⟨v1, v2, v3⟩ := w4 q
    exact ⟨v1, by omega, by rw [hc _ v2]; exact v3⟩
  · intro c c0 c1
    obtain ⟨w1, w2⟩ := i5 c c0 c1
    exact ⟨w1.mono hc hh (by omega) (by omega), w2.imp (fun q => q) (fun q => q.mono hc hh (by omega) (by omega))⟩
  · rw [fu_eq]
    omega
theorem ESg.adj (h : ESg fw ra rb co ar wt pt ow oa bk bp nc nn cd dp ib sg bl tt b o k d z x ht P D E) {nn' tt' k' z' dp' d' : Int} (hk : k' + 6 * nn + tt ≤ k + 6 * nn' + tt') (hk0 : 0 ≤ k') (hz : 0 ≤ z' ∧ z' ≤ z) (hd : dp' - d' = dp - d) : ESg fw ra rb co ar wt pt ow oa bk bp nc nn' cd dp' ib sg bl tt' b o k' d' z' x ht P D E := by
  obtain ⟨⟨g1, g2, g3, g4, g5, g6, g7, g8, g9, g10, g11⟩, i1, i2, i3, i4, i5, i6, i7, i8⟩ := h
  have hc : ∀ j, j < cd → co j = co j := fun j _ => rfl
  have hh : ∀ j, j ≤ cd → ht j = ht j := fun j _ => rfl
  refine ⟨⟨g1, g2, g3, g4, g5, g6, g7, g8, g9, hz.1, hk0⟩, ?_, i2, i3, i4, ?_, i6, by omega, by omega⟩
  · intro i hi0 hi1
    exact (i1 i hi0 hi1).mono hi0 hi1 hc rfl hh (by omega) (by omega) (Int.le_refl _) (fun w => w)
  · intro c c0 c1
    obtain ⟨w1, w2⟩ := i5 c c0 c1
    exact ⟨w1.mono hc hh (by omega) (by omega), w2.imp (fun q => q) (fun q => q.mono hc hh (by omega) (by omega))⟩
/-- a sign is put upon the others: y what it takes of the spare, its P, D, E -/
theorem ESg.push (h : ESg fw ra rb co ar wt pt ow oa bk bp nc nn cd dp ib sg bl tt b o k d z x ht P D E) (s w p : Int) {o' k' d' pp dd ee : Int} {pt' : Int → Int} (hpt : ∀ j, j < sg → pt' j = pt j) (hs : SWq co (fu wt sg s) pt' (fu ow sg w) (fu oa sg 1) cd ht (fu P (sg + 1) (P sg + pp)) (fu D (sg + 1) (D sg + dd)) (fu E (sg + 1) (E sg + ee)) sg) (hL : sg + 1 ≤ 7 * (D sg + dd) + strn s) (hpp : 0 ≤ pp ∧ pp ≤ 2) (hdd : 0 ≤ dd) (hee : 0 ≤ ee) (ho : o = pp + o') (hd : d = dd + d') (hk : k' + 2 * ee ≤ k) (hk0 : 0 ≤ k') : ESg fw ra rb co ar (fu wt sg s) pt' (fu ow sg w) (fu oa sg 1) bk bp nc nn cd dp ib (sg + 1) bl tt b o' k' d' z x ht (fu P (sg + 1) (P sg + pp)) (fu D (sg + 1) (D sg + dd)) (fu E (sg + 1) (E sg + ee)) := by
  obtain ⟨⟨g1, g2, g3, g4, g5, g6, g7, g8, g9, g10, g11⟩, i1, i2, i3, i4, i5, i6, i7, i8⟩ := h
  obtain ⟨s1, s2, s3, s4, s5⟩ := i3 sg g7 (Int.le_refl _)
  have hc : ∀ j, j < cd → co j = co j := fun j _ => rfl
  have hh : ∀ j, j ≤ cd → ht j = ht j := fun j _ => rfl
  refine ⟨⟨g1, by rw [fu_ne _ _ (by omega)]; exact g2, by rw [fu_ne _ _ (by omega)]; exact g3, by rw [fu_ne _ _ (by omega)]; exact g4, g5, g6, by omega, g8, g9, g10, hk0⟩, ?_, ?_, ?_, i4, i5, ?_, ?_, ?_⟩
  · intro i hi0 hi1
    refine (i1 i hi0 hi1).mono hi0 hi1 hc rfl hh (by omega) (by omega) (Int.le_refl _) (fun q => ?_)
    rcases q with q | q | q
    · exact Or.inl q
    · obtain ⟨j, j0, j1, j2, j3⟩ := q
      exact Or.inr (Or.inl ⟨j, j0, by omega, by rw [fu_ne _ _ (by omega)]; exact j2, by rw [hpt j j1]; exact j3⟩)
    · exact Or.inr (Or.inr q)
  · intro j j0 j1
    by_cases e : j = sg
    · rw [e]
      exact hs
    · exact (i2 j j0 (by omega)).mono hc hh (Int.le_refl _) (fu_ne _ _ e) (hpt j (by omega)) (fu_ne _ _ e) (fu_ne _ _ e) ⟨fu_ne _ _ (by omega), fu_ne _ _ (by omega)⟩ ⟨fu_ne _ _ (by omega), fu_ne _ _ (by omega)⟩ ⟨fu_ne _ _ (by omega), fu_ne _ _ (by omega)⟩
  · intro j j0 j1
    by_cases e : j = sg + 1
    · rw [e, fu_eq, fu_eq, fu_eq, show sg + 1 - 1 = sg by omega, fu_eq]
      omega
    · rw [fu_ne _ _ e, fu_ne _ _ e, fu_ne _ _ e, fu_ne wt _ (by omega)]
      exact i3 j j0 (by omega)
  · rw [fu_eq]
    omega
  · rw [fu_eq]
    omega
  · rw [fu_eq]
    omega
/-- the sign on top is taken away; y: the jump that it kept -/
theorem ESg.pop (h : ESg fw ra rb co ar wt pt ow oa bk bp nc nn cd dp ib sg bl tt b o k d z x ht P D E) (h0 : 0 < sg) {o' k' d' x' : Int} (hP : P sg + o = P (sg - 1) + o') (hD : D sg + d = D (sg - 1) + d') (hE : 2 * E (sg - 1) + k' ≤ 2 * E sg + k) (hk0 : 0 ≤ k') (hx : ∀ i : Int, (i = x ∨ ((wt (sg - 1) = 38 ∨ wt (sg - 1) = 124) ∧ pt (sg - 1) = i)) → 0 ≤ i → i < cd → i = x') : ESg fw ra rb co ar wt pt ow oa bk bp nc nn cd dp ib (sg - 1) bl tt b o' k' d' z x' ht P D E := by
  obtain ⟨⟨g1, g2, g3, g4, g5, g6, g7, g8, g9, g10, g11⟩, i1, i2, i3, i4, i5, i6, i7, i8⟩ := h
  have hc : ∀ j, j < cd → co j = co j := fun j _ => rfl
  have hh : ∀ j, j ≤ cd → ht j = ht j := fun j _ => rfl
  refine ⟨⟨g1, g2, g3, g4, g5, g6, by omega, g8, g9, g10, hk0⟩, ?_, fun j j0 j1 => i2 j j0 (by omega), fun j j0 j1 => i3 j j0 (by omega), i4, i5, by omega, by omega, by omega⟩
  intro i hi0 hi1
  refine (i1 i hi0 hi1).mono hi0 hi1 hc rfl hh (by omega) (by omega) (Int.le_refl _) (fun q => ?_)
  rcases q with q | q | q
  · exact Or.inl q
  · obtain ⟨j, j0, j1, j2, j3⟩ := q
    by_cases e : j = sg - 1
    · subst e
      exact Or.inr (Or.inr (hx i (Or.inr ⟨j2, j3⟩) hi0 hi1))
    · exact Or.inr (Or.inl ⟨j, j0, by omega, j2, j3⟩)
  · exact Or.inr (Or.inr (hx i (Or.inl q) hi0 hi1))
/-- a jump's target is laid: the place where the code ends -/
theorem ESg.patch' (h : ESg fw ra rb co ar wt pt ow oa bk bp nc nn cd dp ib sg bl tt b o k d z x ht P D E) (i0 : Int) (h0 : 0 ≤ i0) (h1 : i0 < cd) (hj : jpo (co i0)) (hh : ht cd = (if co i0 = 1 ∨ co i0 = 2 then 0 else ht i0)) (hl : co (cd - 1) ≠ 0) (x' : Int) (hx : ∀ i : Int, 0 ≤ i → i < cd → i = x → i = i0 ∨ i = x') : ESg fw ra rb co (fu ar i0 cd) wt pt ow oa bk bp nc nn cd dp ib sg bl tt b o k d 0 x' ht P D E := by
  obtain ⟨⟨g1, g2, g3, g4, g5, g6, g7, g8, g9, g10, g11⟩, i1, i2, i3, i4, i5, i6, i7, i8⟩ := h
  have hc : ∀ j, j < cd → co j = co j := fun j _ => rfl
  have hq : ∀ j, j ≤ cd → ht j = ht j := fun j _ => rfl
  refine ⟨⟨g1, g2, g3, g4, g5, g6, g7, g8, g9, by omega, g11⟩, ?_, i2, i3, i4, ?_, i6, i7, i8⟩
  · intro i hi0 hi1
    by_cases e : i = i0
    · subst e
      obtain ⟨a, _, c, d1⟩ := i1 i hi0 hi1
      refine ⟨a, fun _ => Or.inr ?_, fun q => ?_, fun q => ?_⟩
      · rw [fu_eq]
        exact ⟨h1, by omega, hh, hl⟩
      · unfold jpo at hj
        omega
      · unfold jpo at hj
        omega
    · refine (i1 i hi0 hi1).mono hi0 hi1 hc (fu_ne _ _ e) hq (by omega) (by omega) (Int.le_refl _) (fun q => ?_)
      rcases q with q | q | q
      · exact Or.inl q
      · exact Or.inr (Or.inl q)
      · exact Or.inr (Or.inr ((hx i hi0 hi1 q).resolve_left e))
  · intro c c0 c1
    obtain ⟨w1, w2⟩ := i5 c c0 c1
    exact ⟨w1.mono hc hq (by omega) (by omega), w2.imp (fun q => q) (fun q => q.mono hc hq (by omega) (by omega))⟩
theorem ESg.patch (h : ESg fw ra rb co ar wt pt ow oa bk bp nc nn cd dp ib sg bl tt b o k d z x ht P D E) (h0 : 0 ≤ x) (h1 : x < cd) (hj : jpo (co x)) (hh : ht cd = (if co x = 1 ∨ co x = 2 then 0 else ht x)) (hl : co (cd - 1) ≠ 0) (x' : Int) : ESg fw ra rb co (fu ar x cd) wt pt ow oa bk bp nc nn cd dp ib sg bl tt b o k d 0 x' ht P D E := h.patch' x h0 h1 hj hh hl x' (fun i _ _ e => Or.inl e)
/-- the argument of a jump to a chain -/
theorem ESg.asks (h : ESg fw ra rb co ar wt pt ow oa bk bp nc nn cd dp ib sg bl tt b o k d z x ht P D E) (i0 c : Int) (hj : co i0 = 28 ∨ co i0 = 29) (hc : 0 ≤ c ∧ c < nc) : ESg fw ra rb co (fu ar i0 c) wt pt ow oa bk bp nc nn cd dp ib sg bl tt b o k d z x ht P D E := by
  obtain ⟨g, i1, i2⟩ := h
  refine ⟨g, fun i hi0 hi1 => ?_, i2⟩
  by_cases e : i = i0
  · subst e
    obtain ⟨a, _, c1, d1⟩ := i1 i hi0 hi1
    refine ⟨a, fun q => ?_, fun q => ?_, fun q => ?_⟩
    · unfold jpo at q
      omega
    · omega
    · rw [fu_eq]
      obtain ⟨u1, u2, _, _⟩ := d1 q
      exact ⟨u1, u2, hc.1, hc.2⟩
  · exact (i1 i hi0 hi1).mono hi0 hi1 (fun _ _ => rfl) (fu_ne _ _ e) (fun _ _ => rfl) (by omega) (by omega) (Int.le_refl _) (fun q => q)
/-- nothing waits: the height as it stands is the new base -/
theorem ESg.base (h : ESg fw ra rb co ar wt pt ow oa bk bp nc nn cd dp ib sg bl tt b o k d z x ht P D E) (h0 : sg = 0) (hb : 0 ≤ b + o ∧ b + o ≤ 5) (wt' pt' ow' oa' : Int → Int) : ESg fw ra rb co ar wt' pt' ow' oa' bk bp nc nn cd dp ib 0 bl tt (b + o) 0 k d z x ht (fun _ => b + o) (fun _ => 0) (fun _ => 0) := by
  obtain ⟨⟨g1, g2, g3, g4, g5, g6, g7, g8, g9, g10, g11⟩, i1, i2, i3, i4, i5, i6, i7, i8⟩ := h
  subst h0
  have hc : ∀ j, j < cd → co j = co j := fun j _ => rfl
  have hh : ∀ j, j ≤ cd → ht j = ht j := fun j _ => rfl
  refine ⟨⟨g1, rfl, rfl, rfl, hb.1, hb.2, Int.le_refl _, g8, g9, g10, g11⟩, ?_, fun j j0 j1 => by omega, fun j j0 j1 => ⟨Int.le_refl _, by show b + o ≤ b + o + 2 * j; omega, Int.le_refl _, Int.le_refl _, Or.inl (by omega)⟩, i4, i5, by show ht cd = b + o + 0; omega, by show dp = bl + 0 + d; omega, by show 2 * (cd + 0) + RVq bl ib + k ≤ _; omega⟩
  intro i hi0 hi1
  refine (i1 i hi0 hi1).mono hi0 hi1 hc rfl hh (by omega) (by omega) (Int.le_refl _) (fun q => ?_)
  rcases q with q | q | q
  · exact Or.inl q
  · obtain ⟨j, j0, j1, j2, j3⟩ := q
    omega
  · exact Or.inr (Or.inr q)
theorem ESg.setx (h : ESg fw ra rb co ar wt pt ow oa bk bp nc nn cd dp ib sg bl tt b o k d z x ht P D E) (x' : Int) (hx : ∀ i : Int, 0 ≤ i → i < cd → i = x → PBq bk bp bl i ∨ PEq wt pt sg i ∨ i = x') : ESg fw ra rb co ar wt pt ow oa bk bp nc nn cd dp ib sg bl tt b o k d z x' ht P D E := by
  obtain ⟨g, i1, i2⟩ := h
  refine ⟨g, fun i hi0 hi1 => ?_, i2⟩
  refine (i1 i hi0 hi1).mono hi0 hi1 (fun _ _ => rfl) rfl (fun _ _ => rfl) (by omega) (by omega) (Int.le_refl _) (fun q => ?_)
  rcases q with q | q | q
  · exact Or.inl q
  · exact Or.inr (Or.inl q)
  · exact hx i hi0 hi1 q
/-- a block is begun -/
theorem ESg.blk (h : ESg fw ra rb co ar wt pt ow oa bk bp nc nn cd dp ib sg bl tt b o k d z x ht P D E) (kd p : Int) {k' : Int} (h1 : bl = 0 → kd = ib ∧ 0 ≤ kd ∧ kd ≤ 1) (h2 : 1 ≤ bl → 2 ≤ kd ∧ kd ≤ 3 ∧ 0 ≤ p ∧ p < cd ∧ co p = kd - 1) (hk : k' + RVq (bl + 1) ib ≤ k + RVq bl ib) (hk0 : 0 ≤ k') : ESg fw ra rb co ar wt pt ow oa (fu bk bl kd) (fu bp bl p) nc nn cd dp ib sg (bl + 1) tt b o k' (d - 1) z x ht P D E := by
  obtain ⟨⟨g1, g2, g3, g4, g5, g6, g7, g8, g9, g10, g11⟩, i1, i2, i3, i4, i5, i6, i7, i8⟩ := h
  refine ⟨⟨g1, g2, g3, g4, g5, g6, g7, g8, by omega, g10, hk0⟩, ?_, i2, i3, ?_, i5, i6, by omega, by omega⟩
  · intro i hi0 hi1
    refine (i1 i hi0 hi1).mono hi0 hi1 (fun _ _ => rfl) rfl (fun _ _ => rfl) (by omega) (by omega) (Int.le_refl _) (fun q => ?_)
    rcases q with q | q
    · obtain ⟨j, j0, j1, j2, j3⟩ := q
      exact Or.inl ⟨j, j0, by omega, by rw [fu_ne _ _ (by omega)]; exact j2, by rw [fu_ne _ _ (by omega)]; exact j3⟩
    · exact Or.inr q
  · intro j j0 j1
    by_cases e : j = bl
    · subst e
      unfold BWq
      rw [fu_eq, fu_eq]
      exact ⟨fun q => (h1 q).1, fun q => (h2 q).1, by omega, fun q => by
        by_cases e : j = 0
        · have := h1 e
          omega
        · exact (h2 (by omega)).2.2⟩
    · have w := i4 j j0 (by omega)
      unfold BWq at w ⊢
      rw [fu_ne _ _ e, fu_ne _ _ e]
      exact w
/-- a block is closed; x': the jump that it kept -/
theorem ESg.unblk (h : ESg fw ra rb co ar wt pt ow oa bk bp nc nn cd dp ib sg bl tt b o k d z x ht P D E) (h0 : 0 < bl) {k' x' : Int} (hk : k' + RVq (bl - 1) ib ≤ k + RVq bl ib) (hk0 : 0 ≤ k') (hx : ∀ i : Int, (i = x ∨ (2 ≤ bk (bl - 1) ∧ bp (bl - 1) = i)) → 0 ≤ i → i < cd → i = x') : ESg fw ra rb co ar wt pt ow oa bk bp nc nn cd dp ib sg (bl - 1) tt b o k' (d + 1) z x' ht P D E := by
  obtain ⟨⟨g1, g2, g3, g4, g5, g6, g7, g8, g9, g10, g11⟩, i1, i2, i3, i4, i5, i6, i7, i8⟩ := h
  refine ⟨⟨g1, g2, g3, g4, g5, g6, g7, g8, by omega, g10, hk0⟩, ?_, i2, i3, fun j j0 j1 => i4 j j0 (by omega), i5, i6, by omega, by omega⟩
  intro i hi0 hi1
  refine (i1 i hi0 hi1).mono hi0 hi1 (fun _ _ => rfl) rfl (fun _ _ => rfl) (by omega) (by omega) (Int.le_refl _) (fun q => ?_)
  rcases q with q | q | q
  · obtain ⟨j, j0, j1, j2, j3⟩ := q
    by_cases e : j = bl - 1
    · subst e
      exact Or.inr (Or.inr (hx i (Or.inr ⟨j2, j3⟩) hi0 hi1))
    · exact Or.inl ⟨j, j0, by omega, j2, j3⟩
  · exact Or.inr (Or.inl q)
  · exact Or.inr (Or.inr (hx i (Or.inl q) hi0 hi1))
/-- a chain begins -/
theorem ESg.chn (h : ESg fw ra rb co ar wt pt ow oa bk bp nc nn cd dp ib sg bl tt b o k d z x ht P D E) (h0 : 0 ≤ nc) (hh : ht cd = 0) (hl : cd = 0 ∨ co (cd - 1) ≠ 0) : ESg fw (fu ra nc cd) (fu rb nc (-1)) co ar wt pt ow oa bk bp (nc + 1) nn cd dp ib sg bl tt b o (k + 4) d 0 x ht P D E := by
  obtain ⟨⟨g1, g2, g3, g4, g5, g6, g7, g8, g9, g10, g11⟩, i1, i2, i3, i4, i5, i6, i7, i8⟩ := h
  refine ⟨⟨g1, g2, g3, g4, g5, g6, g7, g8, g9, by omega, by omega⟩, ?_, i2, i3, i4, ?_, i6, i7, by omega⟩
  · intro i hi0 hi1
    exact (i1 i hi0 hi1).mono hi0 hi1 (fun _ _ => rfl) rfl (fun _ _ => rfl) (by omega) (by omega) (by omega) (fun q => q)
  · intro c c0 c1
    by_cases e : c = nc
    · subst e
      rw [fu_eq, fu_eq]
      exact ⟨⟨g8, by omega, hh, hl⟩, Or.inl rfl⟩
    · rw [fu_ne _ _ e, fu_ne _ _ e]
      obtain ⟨w1, w2⟩ := i5 c c0 (by omega)
      exact ⟨w1.mono (cd := cd) (fun _ _ => rfl) (fun _ _ => rfl) (by omega) (by omega), w2.imp (fun q => q) (fun q => q.mono (cd := cd) (fun _ _ => rfl) (fun _ _ => rfl) (by omega) (by omega))⟩
/-- what lies behind a chain begins -/
theorem ESg.bhd (h : ESg fw ra rb co ar wt pt ow oa bk bp nc nn cd dp ib sg bl tt b o k d z x ht P D E) (c' : Int) (hh : ht cd = 0) (hl : cd = 0 ∨ co (cd - 1) ≠ 0) : ESg fw ra (fu rb c' cd) co ar wt pt ow oa bk bp nc nn cd dp ib sg bl tt b o k d 0 x ht P D E := by
  obtain ⟨⟨g1, g2, g3, g4, g5, g6, g7, g8, g9, g10, g11⟩, i1, i2, i3, i4, i5, i6, i7, i8⟩ := h
  refine ⟨⟨g1, g2, g3, g4, g5, g6, g7, g8, g9, by omega, by omega⟩, ?_, i2, i3, i4, ?_, i6, i7, by omega⟩
  · intro i hi0 hi1
    exact (i1 i hi0 hi1).mono hi0 hi1 (fun _ _ => rfl) rfl (fun _ _ => rfl) (by omega) (by omega) (by omega) (fun q => q)
  · intro c c0 c1
    obtain ⟨w1, w2⟩ := i5 c c0 (by omega)
    refine ⟨w1.mono (cd := cd) (fun _ _ => rfl) (fun _ _ => rfl) (by omega) (by omega), ?_⟩
    by_cases e : c = c'
    · subst e
      rw [fu_eq]
      exact Or.inr ⟨g8, by omega, hh, hl⟩
    · rw [fu_ne _ _ e]
      exact w2.imp (fun q => q) (fun q => q.mono (cd := cd) (fun _ _ => rfl) (fun _ _ => rfl) (by omega) (by omega))
/-- another argument of a call is begun -/
theorem ESg.inc (h : ESg fw ra rb co ar wt pt ow oa bk bp nc nn cd dp ib sg bl tt b 1 k d z x ht P D E) (h0 : 0 < sg) (h1 : wt (sg - 1) = 40) (h2 : ow (sg - 1) ≠ -1) (h3 : oa (sg - 1) < argn (ow (sg - 1))) : ESg fw ra rb co ar wt pt ow (fu oa (sg - 1) (oa (sg - 1) + 1)) bk bp nc nn cd dp ib sg bl tt b 0 k d z x ht (fu P sg (P sg + 1)) D E := by
  obtain ⟨⟨g1, g2, g3, g4, g5, g6, g7, g8, g9, g10, g11⟩, i1, i2, i3, i4, i5, i6, i7, i8⟩ := h
  have al := argn_le (ow (sg - 1))
  have e1 : sg - 1 + 1 = sg := by omega
  have w := i2 (sg - 1) (by omega) (by omega)
  have t := i3 (sg - 1) (by omega) (by omega)
  have t2 := i3 sg (by omega) (by omega)
  unfold SWq at w
  rw [e1] at w
  rcases w with ⟨a1, a2, a3, a4, a5⟩ | ⟨a1, _⟩ | ⟨a1, _⟩ | ⟨a1, _⟩
  · refine ⟨⟨g1, by rw [fu_ne _ _ (by omega)]; exact g2, g3, g4, g5, g6, g7, g8, g9, g10, g11⟩, i1, ?_, ?_, i4, i5, by rw [fu_eq]; omega, i7, i8⟩
    · intro j j0 j1
      by_cases e : j = sg - 1
      · subst e
        unfold SWq
        rw [e1, fu_eq, fu_eq, fu_ne P _ (by omega)]
        refine Or.inl ⟨a1, by omega, by omega, a4, ?_⟩
        rcases a5 with q | ⟨q1, q2, q3, q4⟩
        · exact absurd q.1 h2
        · exact Or.inr ⟨q1, q2, by omega, q4⟩
      · exact (i2 j j0 j1).mono (fun _ _ => rfl) (fun _ _ => rfl) (Int.le_refl _) rfl rfl rfl (fu_ne _ _ e) ⟨fu_ne _ _ (by omega), fu_ne _ _ (by omega)⟩ ⟨rfl, rfl⟩ ⟨rfl, rfl⟩
    · intro j j0 j1
      by_cases e : j = sg
      · subst e
        rw [fu_eq]
        omega
      · rw [fu_ne _ _ e]
        exact i3 j j0 j1
  · omega
  · omega
  · rw [h1] at a1
    exact absurd a1 (by decide)
theorem ESg.sgle (h : ESg fw ra rb co ar wt pt ow oa bk bp nc nn cd dp ib sg bl tt b o k d z x ht P D E) : 0 ≤ dp - bl - d ∧ sg ≤ 7 * (dp - bl - d) + 6 ∧ 2 * cd + k ≤ 6 * nn + 4 * nc + tt ∧ (sg = 0 ∨ sg ≤ 7 * (dp - bl - d) + strn (wt (sg - 1))) := by
  obtain ⟨⟨g1, g2, g3, g4, g5, g6, g7, g8, g9, g10, g11⟩, i1, i2, i3, i4, i5, i6, i7, i8⟩ := h
  obtain ⟨s1, s2, s3, s4, s5⟩ := i3 sg g7 (Int.le_refl _)
  have st := strn_le (wt (sg - 1))
  have rv := RVq_le g9 ib
  exact ⟨by omega, by omega, by omega, by omega⟩
end PS
end
section
/-! ===== the parser's state over the memory ===== -/
theorem jw_o {M : jm} {a b : Nat} {i v : Int} (h : b ≠ a) : ju M a i v b = M b := funext fun _ => ju_c M v h
theorem jw_s (M : jm) (a : Nat) (i v : Int) : ju M a i v a = fu (M a) i v := by
  funext k
  simp [ju, fu]
noncomputable def ES (M : jm) (b o k d z x : Int) : Prop := ESq (M 650) (M 657) (M 658) (M 659) (M 660) (M 664) (M 665) (M 666) (M 667) (M 668) (M 669) (M 598 88) (M 598 89) (M 598 90) (M 598 100) (M 598 101) (M 598 102) (M 598 107) (M 598 73) b o k d z x
section PM
variable {M : jm} {b o k d z x : Int}
theorem ES.emit (h : ES M b o k d z x) {c : Int} (e : M 598 90 = c) (op a k' : Int) (h1 : vop op) (h2 : ndo op ≤ b + o) (h3 : exo op → M 598 102 = 0 ∧ b + o = ndo op) (h4 : jpo op → PBq (M 668) (M 669) (M 598 107) c ∨ PEq (M 664) (M 665) (M 598 102) c ∨ c = x) (h5 : op = 5 → FV a) (h6 : op = 28 ∨ op = 29 → 1 ≤ c ∧ M 659 (c - 1) = 0 ∧ 0 ≤ a ∧ a < M 598 88) (h7 : k' + 2 ≤ k) (h7' : 0 ≤ k') (h8 : M 598 100 - M 598 107 - d ≤ 13) (h9 : o ≤ 5) : ES (ju (ju (ju M 659 c op) 660 c a) 598 90 (c + 1)) b (o + dlo op) k' d 1 x := by
  subst e
  unfold ES at h ⊢
  obtain ⟨ht, P, D, E, h⟩ := h
  have q := h.emit op a k' h1 h2 h3 h4 h5 h6 h7 h7' h8 h9
  simp (decide := true) only [jw_o, jw_s, fu_ne, fu_eq, ne_eq, not_false_eq_true]
  exact ⟨_, _, _, _, q⟩
/-- cells that the state reads -/
noncomputable def pR (a : Nat) (i : Int) : Bool := bif Nat.beq a 598 then (Nat.beq i.toNat 88 || Nat.beq i.toNat 90 || Nat.beq i.toNat 101 || Nat.beq i.toNat 102 || Nat.beq i.toNat 107) else (Nat.beq a 650 || Nat.beq a 657 || Nat.beq a 658 || Nat.beq a 659 || Nat.beq a 660 || (Nat.ble 664 a && Nat.ble a 669))
theorem ES.fr (h : ES M b o k d z x) {M' : jm} (e : ∀ (a : Nat) (i : Int), pR a i = true → M' a i = M a i) {k' d' z' : Int} (hk : k' + 6 * M 598 89 + M 598 73 ≤ k + 6 * M' 598 89 + M' 598 73) (hk0 : 0 ≤ k') (hz : 0 ≤ z' ∧ z' ≤ z) (hd : M' 598 100 - d' = M 598 100 - d) : ES M' b o k' d' z' x := by
  unfold ES at h ⊢
  have r : ∀ a : Nat, (∀ i : Int, pR a i = true) → M' a = M a := fun a ha => funext fun i => e a i (ha i)
  rw [r 650 (fun _ => rfl), r 657 (fun _ => rfl), r 658 (fun _ => rfl), r 659 (fun _ => rfl), r 660 (fun _ => rfl), r 664 (fun _ => rfl), r 665 (fun _ => rfl), r 666 (fun _ => rfl), r 667 (fun _ => rfl), r 668 (fun _ => rfl), r 669 (fun _ => rfl), e 598 88 rfl, e 598 90 rfl, e 598 101 rfl, e 598 102 rfl, e 598 107 rfl]
  obtain ⟨ht, P, D, E, h⟩ := h
  exact ⟨ht, P, D, E, h.adj hk hk0 hz hd⟩
theorem ES.adj (h : ES M b o k d z x) {k' z' : Int} (hk : k' ≤ k) (hk0 : 0 ≤ k') (hz : 0 ≤ z' ∧ z' ≤ z) : ES M b o k' d z' x := h.fr (fun _ _ _ => rfl) (by omega) hk0 hz rfl
/-- a sign of the kinds that go deeper: - ! ( -/
theorem ES.deep (h : ES M b 0 k d z x) {c : Int} (e : M 598 102 = c) (s w ee k' : Int) (hs : (s = 40 ∧ ((w = -1 ∧ ee = 0) ∨ (25 ≤ w ∧ w ≤ 30 ∧ ee = 1))) ∨ ((s = 10 ∨ s = 11) ∧ ee = 1)) (hk : k' + 2 * ee ≤ k) (hk0 : 0 ≤ k') : ES (ju (ju (ju (ju M 664 c s) 666 c w) 667 c 1) 598 102 (c + 1)) b 0 k' (d - 1) z x := by
  subst e
  unfold ES at h ⊢
  obtain ⟨ht, P, D, E, h⟩ := h
  have al := argn_le w
  have g := h.sgle
  obtain ⟨⟨g1, g2, g3, g4, g5, g6, g7, g8, g9, g10, g11⟩, i1, i2, i3, i4, i5, i6, i7, i8⟩ := id h
  obtain ⟨s1, s2, s3, s4, s5⟩ := i3 _ g7 (Int.le_refl _)
  have st := strn_le (M 664 (M 598 102 - 1))
  have s0 := (strn_le s).1
  have q := h.push s w 0 (o' := 0) (k' := k') (d' := d - 1) (pp := 0) (dd := 1) (ee := ee) (pt' := M 665) (fun _ _ => rfl) (by
    unfold SWq
    rw [fu_eq, fu_eq, fu_eq, fu_eq, fu_eq, fu_eq, fu_ne _ _ (by omega), fu_ne _ _ (by omega), fu_ne _ _ (by omega)]
    rcases hs with ⟨a, a2⟩ | ⟨a, a2⟩
    · refine Or.inl ⟨a, by omega, by omega, rfl, ?_⟩
      rcases a2 with ⟨b1, b2⟩ | ⟨b1, b2, b3⟩
      · exact Or.inl ⟨b1, rfl, by omega⟩
      · exact Or.inr ⟨b1, b2, by omega, by omega⟩
    · exact Or.inr (Or.inl ⟨a, by omega, rfl, by omega⟩)) (by omega) (by omega) (by omega) (by omega) (by omega) (by omega) hk hk0
  simp (decide := true) only [jw_o, jw_s, fu_ne, fu_eq, ne_eq, not_false_eq_true]
  exact ⟨_, _, _, _, q⟩
/-- a sign of two, but & and | -/
theorem ES.two (h : ES M b 1 k d z x) {c : Int} (e : M 598 102 = c) (s w k' : Int) (hs : 3 ≤ strn s ∧ strn s ≤ 5) (hL : c = 0 ∨ strn (M 664 (c - 1)) < strn s) (hk : k' + 2 ≤ k) (hk0 : 0 ≤ k') : ES (ju (ju (ju (ju M 664 c s) 666 c w) 667 c 1) 598 102 (c + 1)) b 0 k' d z x := by
  subst e
  unfold ES at h ⊢
  obtain ⟨ht, P, D, E, h⟩ := h
  obtain ⟨⟨g1, g2, g3, g4, g5, g6, g7, g8, g9, g10, g11⟩, i1, i2, i3, i4, i5, i6, i7, i8⟩ := id h
  obtain ⟨s1, s2, s3, s4, s5⟩ := i3 _ g7 (Int.le_refl _)
  have q := h.push s w 0 (o' := 0) (k' := k') (d' := d) (pp := 1) (dd := 0) (ee := 1) (pt' := M 665) (fun _ _ => rfl) (by
    unfold SWq
    rw [fu_eq, fu_eq, fu_eq, fu_eq, fu_eq, fu_eq, fu_ne _ _ (by omega), fu_ne _ _ (by omega), fu_ne _ _ (by omega)]
    exact Or.inr (Or.inr (Or.inr ⟨hs.1, hs.2, rfl, by omega, rfl⟩))) (by omega) (by omega) (by omega) (by omega) (by omega) (by omega) (by omega) hk0
  simp (decide := true) only [jw_o, jw_s, fu_ne, fu_eq, ne_eq, not_false_eq_true]
  exact ⟨_, _, _, _, q⟩
/-- & and |: the sign, the jump that it keeps -/
theorem ES.opn (h : ES M b 1 k d z (-1)) {c n : Int} (e : M 598 102 = c) (e2 : M 598 90 = n) (s w op k' : Int) (hs : s = 38 ∨ s = 124) (hop : op = 7 ∨ op = 8) (hL : c = 0 ∨ strn (M 664 (c - 1)) < strn s) (hk : k' + 4 ≤ k) (hk0 : 0 ≤ k') (h8 : M 598 100 - M 598 107 - d ≤ 13) : ES (ju (ju (ju (ju (ju (ju (ju (ju M 664 c s) 666 c w) 667 c 1) 598 102 (c + 1)) 665 (c + 1 - 1) n) 659 n op) 660 n 0) 598 90 (n + 1)) b 0 k' d 1 (-1) := by
  rw [show c + 1 - 1 = c by omega]
  subst e
  subst e2
  unfold ES at h ⊢
  obtain ⟨ht, P, D, E, h⟩ := h
  obtain ⟨⟨g1, g2, g3, g4, g5, g6, g7, g8, g9, g10, g11⟩, i1, i2, i3, i4, i5, i6, i7, i8⟩ := id h
  obtain ⟨s1, s2, s3, s4, s5⟩ := i3 _ g7 (Int.le_refl _)
  have st := strn_le s
  have sn : 1 ≤ strn s := by rcases hs with r | r <;> subst r <;> decide
  have nd : ndo op = 1 := by rcases hop with r | r <;> subst r <;> decide
  have dl : dlo op = -1 := by rcases hop with r | r <;> subst r <;> decide
  have q1 := (h.setx (M 598 90) (fun i i0 i1 e => by omega)).emit op 0 (k' + 2) (by unfold vop; omega) (by omega) (by unfold exo; omega) (fun _ => Or.inr (Or.inr rfl)) (by omega) (by omega) (by omega) (by omega) h8 (by omega)
  rw [dl] at q1
  have q2 := q1.push s w 0 (o' := 0) (k' := k') (d' := d) (pp := 0) (dd := 0) (ee := 1) (pt' := fu (M 665) (M 598 102) (M 598 90)) (fun j hj => fu_ne _ _ (by omega)) (by
    unfold SWq
    rw [fu_eq, fu_eq, fu_eq, fu_eq, fu_eq, fu_eq, fu_eq, fu_eq, fu_ne P _ (by omega), fu_ne D _ (by omega), fu_ne E _ (by omega), fu_ne ht _ (by omega)]
    exact Or.inr (Or.inr (Or.inl ⟨hs, by omega, by omega, rfl, g8, by omega, hop, i6⟩))) (by omega) (by omega) (by omega) (by omega) (by omega) (by omega) (by omega) hk0
  have q3 := q2.setx (-1) (fun i i0 i1 e => Or.inr (Or.inl ⟨M 598 102, g7, by omega, by rw [fu_eq]; exact hs, by rw [fu_eq]; exact e.symm⟩))
  simp (decide := true) only [jw_o, jw_s, fu_ne, fu_eq, ne_eq, not_false_eq_true]
  exact ⟨_, _, _, _, q3⟩
/-- a sign of one on top is laid -/
theorem ES.redU (h : ES M b 1 k d z (-1)) {c n p s : Int} (e : M 598 102 = c) (e2 : M 598 90 = n) (e3 : M 598 100 = p) (e4 : M 664 (c - 1) = s) (h0 : 0 < c) (hs : s = 10 ∨ s = 11) (h8 : M 598 100 - M 598 107 - d ≤ 13) : ES (ju (ju (ju (ju (ju M 598 102 (c - 1)) 659 n s) 660 n 0) 598 90 (n + 1)) 598 100 (p - 1)) b 1 k d 1 (-1) := by
  subst e
  subst e2
  subst e3
  unfold ES at h ⊢
  obtain ⟨ht, P, D, E, h⟩ := h
  obtain ⟨⟨g1, g2, g3, g4, g5, g6, g7, g8, g9, g10, g11⟩, i1, i2, i3, i4, i5, i6, i7, i8⟩ := id h
  have w := i2 (M 598 102 - 1) (by omega) (by omega)
  unfold SWq at w
  rw [show M 598 102 - 1 + 1 = M 598 102 by omega, e4] at w
  have nd : ndo s = 1 := by rcases hs with r | r <;> subst r <;> decide
  have dl : dlo s = 0 := by rcases hs with r | r <;> subst r <;> decide
  have ss : strn s = 6 := by rcases hs with r | r <;> subst r <;> decide
  have q1 := h.pop h0 (o' := 1) (k' := k + 2) (d' := d + 1) (x' := -1) (by omega) (by omega) (by omega) (by omega) (fun i q => by rw [e4] at q; omega)
  have q2 := q1.emit s 0 k (by unfold vop; omega) (by omega) (by unfold exo; omega) (by unfold jpo; omega) (by omega) (by omega) (by omega) (by omega) (by omega) (by omega)
  rw [dl] at q2
  have q3 := q2.adj (nn' := M 598 89) (tt' := M 598 73) (k' := k) (z' := 1) (dp' := M 598 100 - 1) (d' := d) (by omega) (by omega) (by omega) (by omega)
  simp (decide := true) only [jw_o, jw_s, fu_ne, fu_eq, ne_eq, not_false_eq_true]
  exact ⟨_, _, _, _, q3⟩
/-- a sign of two on top is laid -/
theorem ES.redB (h : ES M b 1 k d z (-1)) {c n s : Int} (e : M 598 102 = c) (e2 : M 598 90 = n) (e4 : M 664 (c - 1) = s) (h0 : 0 < c) (hs : 3 ≤ strn s ∧ strn s ≤ 5) (h8 : M 598 100 - M 598 107 - d ≤ 13) : ES (ju (ju (ju (ju M 598 102 (c - 1)) 659 n (100 + s)) 660 n 0) 598 90 (n + 1)) b 1 k d 1 (-1) := by
  subst e
  subst e2
  unfold ES at h ⊢
  obtain ⟨ht, P, D, E, h⟩ := h
  obtain ⟨⟨g1, g2, g3, g4, g5, g6, g7, g8, g9, g10, g11⟩, i1, i2, i3, i4, i5, i6, i7, i8⟩ := id h
  have w := i2 (M 598 102 - 1) (by omega) (by omega)
  unfold SWq at w
  rw [show M 598 102 - 1 + 1 = M 598 102 by omega, e4] at w
  have sv : s = 61 ∨ s = 60 ∨ s = 62 ∨ s = 43 ∨ s = 45 ∨ s = 42 ∨ s = 47 ∨ s = 37 := by
    unfold strn at hs
    (repeat' split at hs) <;> omega
  have nd : ndo (100 + s) = 2 := by rcases sv with r | r | r | r | r | r | r | r <;> subst r <;> decide
  have dl : dlo (100 + s) = -1 := by rcases sv with r | r | r | r | r | r | r | r <;> subst r <;> decide
  have q1 := h.pop h0 (o' := 2) (k' := k + 2) (d' := d) (x' := -1) (by omega) (by omega) (by omega) (by omega) (fun i q => by rw [e4] at q; omega)
  have q2 := q1.emit (100 + s) 0 k (by unfold vop; omega) (by omega) (by unfold exo; omega) (by unfold jpo; omega) (by omega) (by omega) (by omega) (by omega) (by omega) (by omega)
  rw [dl] at q2
  simp (decide := true) only [jw_o, jw_s, fu_ne, fu_eq, ne_eq, not_false_eq_true]
  exact ⟨_, _, _, _, q2⟩
/-- & or | on top: its end is laid, and its jump leads behind it -/
theorem ES.redA (h : ES M b 1 k d z (-1)) {c n p : Int} (e : M 598 102 = c) (e2 : M 598 90 = n) (e3 : M 665 (c - 1) = p) (h0 : 0 < c) (hs : M 664 (c - 1) = 38 ∨ M 664 (c - 1) = 124) (h8 : M 598 100 - M 598 107 - d ≤ 13) : ES (ju (ju (ju (ju (ju M 598 102 (c - 1)) 659 n 9) 660 n 0) 598 90 (n + 1)) 660 p (n + 1)) b 1 k d 0 (-1) := by
  subst e
  subst e2
  subst e3
  unfold ES at h ⊢
  obtain ⟨ht, P, D, E, h⟩ := h
  obtain ⟨⟨g1, g2, g3, g4, g5, g6, g7, g8, g9, g10, g11⟩, i1, i2, i3, i4, i5, i6, i7, i8⟩ := id h
  have w := i2 (M 598 102 - 1) (by omega) (by omega)
  unfold SWq at w
  rw [show M 598 102 - 1 + 1 = M 598 102 by omega] at w
  have w' : P (M 598 102) = P (M 598 102 - 1) ∧ D (M 598 102) = D (M 598 102 - 1) ∧ E (M 598 102) = E (M 598 102 - 1) + 1 ∧ 0 ≤ M 665 (M 598 102 - 1) ∧ M 665 (M 598 102 - 1) < M 598 90 ∧ (M 659 (M 665 (M 598 102 - 1)) = 7 ∨ M 659 (M 665 (M 598 102 - 1)) = 8) ∧ ht (M 665 (M 598 102 - 1)) = P (M 598 102 - 1) + 1 := by
    rcases w with w | w | w | w
    · omega
    · omega
    · exact w.2
    · exfalso
      rcases hs with r | r <;> rw [r] at w <;> exact absurd w.1 (by decide)
  obtain ⟨v1, v2, v3, v4, v5, v6, v7⟩ := w'
  have q1 := h.pop h0 (o' := 1) (k' := k + 2) (d' := d) (x' := M 665 (M 598 102 - 1)) (by omega) (by omega) (by omega) (by omega) (fun i q i0 i1 => by
    rcases q with q | q
    · omega
    · exact q.2.symm)
  have q2 := q1.emit 9 0 k (by unfold vop; omega) (show (1 : Int) ≤ b + 1 by omega) (by unfold exo; omega) (by unfold jpo; omega) (by omega) (by omega) (by omega) (by omega) (by omega) (by omega)
  have q3 := q2.patch v4 (by omega) (by rw [fu_ne _ _ (by omega)]; unfold jpo; omega) (by
    rw [fu_eq, fu_ne _ _ (by omega), if_neg (by omega), fu_ne _ _ (by omega), v7]
    have dl : dlo 9 = 0 := by decide
    omega) (by rw [show M 598 90 + 1 - 1 = M 598 90 by omega, fu_eq]; decide) (-1)
  simp (decide := true) only [jw_o, jw_s, fu_ne, fu_eq, ne_eq, not_false_eq_true]
  exact ⟨_, _, _, _, q3⟩
/-- a bracket that is closed -/
theorem ES.clo (h : ES M b 1 k d z (-1)) {c p w : Int} (e : M 598 102 = c) (e3 : M 598 100 = p) (e4 : M 664 (c - 1) = 40) (e5 : M 666 (c - 1) = w) (h0 : 0 < c) (hw : w = -1 ∨ M 667 (c - 1) = argn w) : (w = -1 ∧ ES (ju (ju M 598 102 (c - 1)) 598 100 (p - 1)) b 1 k d z (-1)) ∨ (25 ≤ w ∧ w ≤ 30 ∧ ES (ju (ju M 598 102 (c - 1)) 598 100 (p - 1)) b (argn w) (k + 2) d z (-1)) := by
  subst e
  subst e3
  subst e5
  unfold ES at h ⊢
  obtain ⟨ht, P, D, E, h⟩ := h
  obtain ⟨⟨g1, g2, g3, g4, g5, g6, g7, g8, g9, g10, g11⟩, i1, i2, i3, i4, i5, i6, i7, i8⟩ := id h
  have v := i2 (M 598 102 - 1) (by omega) (by omega)
  unfold SWq at v
  rw [show M 598 102 - 1 + 1 = M 598 102 by omega, e4] at v
  rcases v with ⟨_, v1, v2, v3, v4⟩ | ⟨v, _⟩ | ⟨v, _⟩ | ⟨v, _⟩
  · rcases v4 with ⟨u1, u2, u3⟩ | ⟨u1, u2, u3, u4⟩
    · have q1 := (h.pop h0 (o' := 1) (k' := k) (d' := d + 1) (x' := -1) (by omega) (by omega) (by omega) (by omega) (fun i q => by rw [e4] at q; omega)).adj (nn' := M 598 89) (tt' := M 598 73) (k' := k) (z' := z) (dp' := M 598 100 - 1) (d' := d) (by omega) (by omega) (by omega) (by omega)
      refine Or.inl ⟨u1, ?_⟩
      simp (decide := true) only [jw_o, jw_s, fu_ne, fu_eq, ne_eq, not_false_eq_true]
      exact ⟨_, _, _, _, q1⟩
    · have q1 := (h.pop h0 (o' := argn (M 666 (M 598 102 - 1))) (k' := k + 2) (d' := d + 1) (x' := -1) (by omega) (by omega) (by omega) (by omega) (fun i q => by rw [e4] at q; omega)).adj (nn' := M 598 89) (tt' := M 598 73) (k' := k + 2) (z' := z) (dp' := M 598 100 - 1) (d' := d) (by omega) (by omega) (by omega) (by omega)
      refine Or.inr ⟨u1, u2, ?_⟩
      simp (decide := true) only [jw_o, jw_s, fu_ne, fu_eq, ne_eq, not_false_eq_true]
      exact ⟨_, _, _, _, q1⟩
  · omega
  · omega
  · exact absurd v (by decide)
theorem ES.inc (h : ES M b 1 k d z x) {c v : Int} (e : M 598 102 = c) (e2 : M 667 (c - 1) = v) (h0 : 0 < c) (h1 : M 664 (c - 1) = 40) (h2 : M 666 (c - 1) ≠ -1) (h3 : v < argn (M 666 (c - 1))) : ES (ju M 667 (c - 1) (v + 1)) b 0 k d z x := by
  subst e
  subst e2
  unfold ES at h ⊢
  obtain ⟨ht, P, D, E, h⟩ := h
  have q := h.inc h0 h1 h2 h3
  simp (decide := true) only [jw_o, jw_s, fu_ne, fu_eq, ne_eq, not_false_eq_true]
  exact ⟨_, _, _, _, q⟩
theorem ES.sgle (h : ES M b o k d z x) : 0 ≤ M 598 100 - M 598 107 - d ∧ M 598 102 ≤ 7 * (M 598 100 - M 598 107 - d) + 6 ∧ 2 * M 598 90 + k ≤ 6 * M 598 89 + 4 * M 598 88 + M 598 73 := by
  obtain ⟨ht, P, D, E, h⟩ := h
  have := h.sgle
  exact ⟨this.1, this.2.1, this.2.2.1⟩
theorem ES.bb (h : ES M b o k d z x) : 0 ≤ b ∧ b ≤ 5 := by
  obtain ⟨ht, P, D, E, ⟨_, _, _, _, q1, q2, _⟩, _⟩ := h
  exact ⟨q1, q2⟩
theorem ES.kz (h : ES M b o k d z x) : 0 ≤ k ∧ 0 ≤ z := by
  obtain ⟨ht, P, D, E, ⟨_, _, _, _, _, _, _, _, _, q1, q2⟩, _⟩ := h
  exact ⟨q2, q1⟩
theorem ES.dpos (h : ES M b o k d z x) (h0 : 0 < M 598 102) : (M 664 (M 598 102 - 1) = 40 ∨ M 664 (M 598 102 - 1) = 10 ∨ M 664 (M 598 102 - 1) = 11) → 1 ≤ M 598 100 - M 598 107 - d := by
  intro q
  obtain ⟨ht, P, D, E, g, i1, i2, i3, i4, i5, i6, i7, i8⟩ := h
  have v := i2 (M 598 102 - 1) (by omega) (by omega)
  have t := i3 (M 598 102 - 1) (by omega) (by omega)
  unfold SWq at v
  rw [show M 598 102 - 1 + 1 = M 598 102 by omega] at v
  rcases v with v | v | v | v
  · omega
  · omega
  · omega
  · exfalso
    obtain ⟨v1, v2, _⟩ := v
    rcases q with q | q | q <;> rw [q] at v1 v2 <;> revert v1 v2 <;> decide
theorem ES.ptl (h : ES M b o k d z x) (h0 : 0 < M 598 102) : (M 664 (M 598 102 - 1) = 38 ∨ M 664 (M 598 102 - 1) = 124) → 0 ≤ M 665 (M 598 102 - 1) ∧ M 665 (M 598 102 - 1) < M 598 90 := by
  intro q
  obtain ⟨ht, P, D, E, g, i1, i2, i3, i4, i5, i6, i7, i8⟩ := h
  have v := i2 (M 598 102 - 1) (by omega) (by omega)
  unfold SWq at v
  rcases v with v | v | v | v
  · omega
  · omega
  · exact ⟨v.2.2.2.2.1, v.2.2.2.2.2.1⟩
  · exfalso
    rcases q with q | q <;> rw [q] at v <;> exact absurd v.1 (by decide)
theorem ES.emitO (h : ES M b 0 k d z x) {c : Int} (e : M 598 90 = c) (op a k' : Int) (hop : op = 4 ∨ (op = 5 ∧ FV a) ∨ op = 6 ∨ (350 ≤ op ∧ op ≤ 363)) (h7 : k' + 2 ≤ k) (h7' : 0 ≤ k') (h8 : M 598 100 - M 598 107 - d ≤ 13) : ES (ju (ju (ju M 659 c op) 660 c a) 598 90 (c + 1)) b 1 k' d 1 x := by
  have bb := ES.bb h
  have nd : ndo op = 0 := by
    rcases hop with r | ⟨r, _⟩ | r | r
    · rw [r]; decide
    · rw [r]; decide
    · rw [r]; decide
    · unfold ndo
      (repeat' split) <;> omega
  have dl : dlo op = 1 := by
    rcases hop with r | ⟨r, _⟩ | r | r
    · rw [r]; decide
    · rw [r]; decide
    · rw [r]; decide
    · unfold dlo
      rw [nd]
      (repeat' split) <;> omega
  have hv : 4 ≤ op ∧ op ≤ 363 ∧ (op ≤ 6 ∨ 350 ≤ op) := by
    rcases hop with r | ⟨r, _⟩ | r | r <;> omega
  have q := ES.emit h e op a k' (by unfold vop; omega) (by omega) (by unfold exo; omega) (by unfold jpo; omega) (fun q => by
    rcases hop with r | ⟨_, r⟩ | r | r
    · omega
    · exact r
    · omega
    · omega) (by omega) h7 h7' h8 (by omega)
  rw [dl] at q
  exact q
/-- what is on top of the signs -/
theorem ES.top (h : ES M b o k d z x) (h0 : 0 < M 598 102) : M 664 (M 598 102 - 1) = 40 ∧ (M 666 (M 598 102 - 1) = -1 ∨ (25 ≤ M 666 (M 598 102 - 1) ∧ M 666 (M 598 102 - 1) ≤ 30 ∧ M 667 (M 598 102 - 1) ≤ argn (M 666 (M 598 102 - 1)))) ∨ M 664 (M 598 102 - 1) = 10 ∨ M 664 (M 598 102 - 1) = 11 ∨ M 664 (M 598 102 - 1) = 38 ∨ M 664 (M 598 102 - 1) = 124 ∨ (3 ≤ strn (M 664 (M 598 102 - 1)) ∧ strn (M 664 (M 598 102 - 1)) ≤ 5) := by
  obtain ⟨ht, P, D, E, g, i1, i2, i3⟩ := h
  have v := i2 (M 598 102 - 1) (by omega) (by omega)
  unfold SWq at v
  rcases v with ⟨v0, v1, v2, v3, v4⟩ | ⟨v, _⟩ | ⟨v, _⟩ | ⟨v1, v2, _⟩
  · refine Or.inl ⟨v0, ?_⟩
    rcases v4 with ⟨u1, u2, u3⟩ | ⟨u1, u2, u3, u4⟩
    · exact Or.inl u1
    · exact Or.inr ⟨u1, u2, u3⟩
  · rcases v with v | v
    · exact Or.inr (Or.inl v)
    · exact Or.inr (Or.inr (Or.inl v))
  · rcases v with v | v
    · exact Or.inr (Or.inr (Or.inr (Or.inl v)))
    · exact Or.inr (Or.inr (Or.inr (Or.inr (Or.inl v))))
  · exact Or.inr (Or.inr (Or.inr (Or.inr (Or.inr ⟨v1, v2⟩))))
/-- between expressions: what the signs are doesn't matter -/
noncomputable def XS (M : jm) (b k d z x : Int) : Prop := ES (ju M 598 102 0) b 0 k d z x
theorem ES.xs (h : ES M b o k d z x) (h0 : M 598 102 = 0) (hb : 0 ≤ b + o ∧ b + o ≤ 5) : XS M (b + o) k d z x := by
  unfold XS
  unfold ES at h ⊢
  obtain ⟨ht, P, D, E, h⟩ := h
  have q := h.base h0 hb (M 664) (M 665) (M 666) (M 667)
  simp (decide := true) only [jw_o, jw_s, fu_ne, fu_eq, ne_eq, not_false_eq_true]
  exact ⟨_, _, _, _, q⟩
end PM
theorem ES.fr2 {M M' : jm} {b o k d z x : Int} (h : ES M b o k d z x) (F : ∀ (a : Nat) (i : Int), a ≠ 598 → M' a i = M a i) (g1 : M' 598 88 = M 598 88) (g2 : M' 598 90 = M 598 90) (g3 : M' 598 101 = M 598 101) (g4 : M' 598 102 = M 598 102) (g5 : M' 598 107 = M 598 107) {k' d' z' : Int} (hk : k' + 6 * M 598 89 + M 598 73 ≤ k + 6 * M' 598 89 + M' 598 73) (hk0 : 0 ≤ k') (hz : 0 ≤ z' ∧ z' ≤ z) (hd : M' 598 100 - d' = M 598 100 - d) : ES M' b o k' d' z' x := by
  unfold ES at h ⊢
  have r : ∀ a : Nat, a ≠ 598 → M' a = M a := fun a ha => funext fun i => F a i ha
  rw [r 650 (by decide), r 657 (by decide), r 658 (by decide), r 659 (by decide), r 660 (by decide), r 664 (by decide), r 665 (by decide), r 666 (by decide), r 667 (by decide), r 668 (by decide), r 669 (by decide), g1, g2, g3, g4, g5]
  obtain ⟨ht, P, D, E, h⟩ := h
  exact ⟨ht, P, D, E, h.adj hk hk0 hz hd⟩
/-- what is left of the text -/
noncomputable def TK (M : jm) : Int := 2 * (1600 - M 598 73) + min 1 (M 598 74)
noncomputable def GS (M : jm) (b o k : Int) : Prop := M 598 80 = 0 ∧ ES M b o k 0 0 (-1) ∧ M 598 89 ≤ 300 ∧ M 598 100 ≤ 12 ∧ M 598 73 ≤ M 598 72 ∧ (M 598 74 = 3 → M 598 79 ≠ 10 ∧ M 598 79 ≠ 11)
theorem GS.cast {M : jm} {b o o' k : Int} (h : GS M b o k) (e : o = o') : GS M b o' k := by
  subst e
  exact h
noncomputable def SS (M : jm) (b k : Int) : Prop := M 598 80 = 0 ∧ XS M b k 0 0 (-1) ∧ M 598 89 ≤ 300 ∧ M 598 100 ≤ 12 ∧ M 598 73 ≤ M 598 72 ∧ (M 598 74 = 3 → M 598 79 ≠ 10 ∧ M 598 79 ≠ 11)
theorem strn_and {s : Int} (h : 1 ≤ strn s ∧ strn s < 3) : s = 38 ∨ s = 124 := by
  unfold strn at h
  (repeat' split at h) <;> omega
theorem strn_un {s : Int} (h : strn s = 6) : s = 10 ∨ s = 11 := by
  unfold strn at h
  (repeat' split at h) <;> omega
noncomputable def BS (M : jm) : Prop := M 598 80 ≠ 0 ∧ M 598 90 ≤ 1800
theorem TK.le {M : jm} (h : 0 ≤ M 598 73) : TK M ≤ 3201 := by
  unfold TK
  omega
theorem TK.fr {M M' : jm} (h1 : M' 598 73 = M 598 73) (h2 : M' 598 74 = M 598 74) : TK M' = TK M := by
  unfold TK
  rw [h1, h2]
theorem TK.o {M : jm} {a : Nat} {i v : Int} (h : a ≠ 598 ∨ (i ≠ 73 ∧ i ≠ 74)) : TK (ju M a i v) = TK M := by
  refine TK.fr ?_ ?_
  · rcases h with h | h
    · exact ju_c M v (fun e => h e.symm)
    · exact ju_i M v (fun e => h.1 e.symm)
  · rcases h with h | h
    · exact ju_c M v (fun e => h e.symm)
    · exact ju_i M v (fun e => h.2 e.symm)
end
section
/-! ===== the parser between expressions ===== -/
section PX
variable {M : jm} {b k d z x : Int}
theorem XS.fr2 (h : XS M b k d z x) {M' : jm} (F : ∀ (a : Nat) (i : Int), a ≠ 598 → M' a i = M a i) (g1 : M' 598 88 = M 598 88) (g2 : M' 598 90 = M 598 90) (g3 : M' 598 101 = M 598 101) (g5 : M' 598 107 = M 598 107) {k' d' z' : Int} (hk : k' + 6 * M 598 89 + M 598 73 ≤ k + 6 * M' 598 89 + M' 598 73) (hk0 : 0 ≤ k') (hz : 0 ≤ z' ∧ z' ≤ z) (hd : M' 598 100 - d' = M 598 100 - d) : XS M' b k' d' z' x := by
  unfold XS at h ⊢
  refine ES.fr2 h (fun a i ha => ?_) ?_ ?_ ?_ ?_ ?_ ?_ hk0 hz ?_
  · rw [ju_c _ _ ha, ju_c _ _ ha]
    exact F a i ha
  · rw [ju_i _ _ (zne (by decide)), ju_i _ _ (zne (by decide))]
    exact g1
  · rw [ju_i _ _ (zne (by decide)), ju_i _ _ (zne (by decide))]
    exact g2
  · rw [ju_i _ _ (zne (by decide)), ju_i _ _ (zne (by decide))]
    exact g3
  · rw [ju_same, ju_same]
  · rw [ju_i _ _ (zne (by decide)), ju_i _ _ (zne (by decide))]
    exact g5
  · rw [ju_i M _ (by decide), ju_i M _ (by decide), ju_i M' _ (by decide), ju_i M' _ (by decide)]
    exact hk
  · rw [ju_i M _ (by decide), ju_i M' _ (by decide)]
    exact hd
/-- rows of a memory, for the lemmas below: what XS says of it -/
theorem XS.rows : XS M b k d z x ↔ ESq (M 650) (M 657) (M 658) (M 659) (M 660) (M 664) (M 665) (M 666) (M 667) (M 668) (M 669) (M 598 88) (M 598 89) (M 598 90) (M 598 100) (M 598 101) 0 (M 598 107) (M 598 73) b 0 k d z x := by
  unfold XS ES
  simp (decide := true) only [jw_o, jw_s, fu_ne, fu_eq, ne_eq, not_false_eq_true]
theorem XS.emit (h : XS M b k d z x) {c : Int} (e : M 598 90 = c) (op a k' : Int) (h1 : vop op) (h2 : exo op) (h3 : b = ndo op) (h4 : jpo op → c = x) (h6 : op = 28 ∨ op = 29 → 1 ≤ c ∧ M 659 (c - 1) = 0 ∧ 0 ≤ a ∧ a < M 598 88) (h7 : k' + 2 ≤ k) (h7' : 0 ≤ k') (h8 : M 598 100 - M 598 107 - d ≤ 13) (b' : Int) (hb : b' = b + dlo op) (hb' : 0 ≤ b' ∧ b' ≤ 5) : XS (ju (ju (ju M 659 c op) 660 c a) 598 90 (c + 1)) b' k' d 1 x := by
  subst e
  rw [XS.rows] at h ⊢
  obtain ⟨ht, P, D, E, h⟩ := h
  have q := h.emit op a k' h1 (by omega) (fun _ => ⟨rfl, by omega⟩) (fun w => Or.inr (Or.inr (h4 w))) (fun w => by unfold exo at h2; omega) h6 h7 h7' h8 (by omega)
  have q2 := q.base rfl (by omega) (M 664) (M 665) (M 666) (M 667)
  simp (decide := true) only [jw_o, jw_s, fu_ne, fu_eq, ne_eq, not_false_eq_true]
  rw [hb]
  rw [show b + (0 + dlo op) = b + dlo op by omega] at q2
  exact ⟨_, _, _, _, q2⟩
/-- a jump whose target comes later -/
theorem XS.setx (h : XS M b k d z (-1)) (x' : Int) : XS M b k d z x' := by
  rw [XS.rows] at h ⊢
  obtain ⟨ht, P, D, E, h⟩ := h
  exact ⟨ht, P, D, E, h.setx x' (fun i i0 i1 e => by omega)⟩
theorem XS.blk (h : XS M b k d z x) {n : Int} (e : M 598 107 = n) (kd p k' : Int) (h1 : n = 0 → kd = M 598 101 ∧ 0 ≤ kd ∧ kd ≤ 1 ∧ x = -1) (h2 : 1 ≤ n → 2 ≤ kd ∧ kd ≤ 3 ∧ 0 ≤ p ∧ p < M 598 90 ∧ M 659 p = kd - 1 ∧ x = p) (hk : k' + RVq (n + 1) (M 598 101) ≤ k + RVq n (M 598 101)) (hk0 : 0 ≤ k') (hn : 0 ≤ n) : XS (ju (ju (ju M 668 n kd) 669 n p) 598 107 (n + 1)) b k' (d - 1) z (-1) := by
  subst e
  rw [XS.rows] at h ⊢
  obtain ⟨ht, P, D, E, h⟩ := h
  have q := h.blk kd p (fun w => by have := h1 w; omega) (fun w => by obtain ⟨u1, u2, u3, u4, u5, _⟩ := h2 w; exact ⟨u1, u2, u3, u4, u5⟩) hk hk0
  have q2 := q.setx (-1) (fun i i0 i1 w => by
    by_cases v : M 598 107 = 0
    · have := h1 v
      omega
    · obtain ⟨u1, u2, u3, u4, u5, u6⟩ := h2 (by omega)
      exact Or.inl ⟨M 598 107, hn, by omega, by rw [fu_eq]; exact u1, by rw [fu_eq]; omega⟩)
  simp (decide := true) only [jw_o, jw_s, fu_ne, fu_eq, ne_eq, not_false_eq_true]
  exact ⟨_, _, _, _, q2⟩
/-- a block of the kinds if and else is closed -/
theorem XS.unblk (h : XS M b k d z (-1)) {n p : Int} (e : M 598 107 = n) (e2 : M 598 100 = p) (h0 : 0 < n) (hk : 2 ≤ M 668 (n - 1)) (hib : M 598 101 ≤ 1) : XS (ju (ju M 598 107 (n - 1)) 598 100 (p - 1)) b (k + 2) d z (M 669 (n - 1)) ∧ 0 ≤ M 669 (n - 1) ∧ M 669 (n - 1) < M 598 90 ∧ M 659 (M 669 (n - 1)) = M 668 (n - 1) - 1 ∧ M 668 (n - 1) ≤ 3 ∧ 2 ≤ n := by
  subst e
  subst e2
  have hr := XS.rows.mp h
  obtain ⟨ht, P, D, E, hr⟩ := hr
  obtain ⟨⟨g1, g2, g3, g4, g5, g6, g7, g8, g9, g10, g11⟩, i1, i2, i3, i4, i5, i6, i7, i8⟩ := id hr
  obtain ⟨w1, w2, w3, w4⟩ := i4 (M 598 107 - 1) (by omega) (by omega)
  obtain ⟨v1, v2, v3⟩ := w4 hk
  have n2 : 2 ≤ M 598 107 := by
    by_cases v : M 598 107 - 1 = 0
    · have := w1 v
      omega
    · omega
  have rv : RVq (M 598 107 - 1) (M 598 101) + 2 = RVq (M 598 107) (M 598 101) := by
    unfold RVq
    rw [if_neg (by omega), if_neg (by omega : ¬ M 598 107 = 0)]
    split <;> omega
  have q := (hr.unblk h0 (k' := k + 2) (x' := M 669 (M 598 107 - 1)) (by omega) (by omega) (fun i w i0 i1 => by
    rcases w with w | w
    · omega
    · exact w.2.symm)).adj (nn' := M 598 89) (tt' := M 598 73) (k' := k + 2) (z' := z) (dp' := M 598 100 - 1) (d' := d) (by omega) (by omega) (by omega) (by omega)
  refine ⟨?_, v1, v2, v3, w3, n2⟩
  rw [XS.rows]
  simp (decide := true) only [jw_o, jw_s, fu_ne, fu_eq, ne_eq, not_false_eq_true]
  exact ⟨_, _, _, _, q⟩
/-- a chain's block, or the one behind it, is closed -/
theorem XS.unblk0 (h : XS M b k d z (-1)) {n p : Int} (e : M 598 107 = n) (e2 : M 598 100 = p) (h0 : 0 < n) (hk : M 668 (n - 1) ≤ 1) : XS (ju (ju M 598 107 (n - 1)) 598 100 (p - 1)) b (k + RVq 1 (M 598 101)) d z (-1) ∧ n = 1 ∧ M 668 (n - 1) = M 598 101 := by
  subst e
  subst e2
  have hr := XS.rows.mp h
  obtain ⟨ht, P, D, E, hr⟩ := hr
  obtain ⟨⟨g1, g2, g3, g4, g5, g6, g7, g8, g9, g10, g11⟩, i1, i2, i3, i4, i5, i6, i7, i8⟩ := id hr
  obtain ⟨w1, w2, w3, w4⟩ := i4 (M 598 107 - 1) (by omega) (by omega)
  have n1 : M 598 107 = 1 := by omega
  have rv0 : RVq (M 598 107 - 1) (M 598 101) = 0 := by
    unfold RVq
    rw [if_pos (by omega)]
  have rv1 : RVq (M 598 107) (M 598 101) = RVq 1 (M 598 101) := by rw [n1]
  have rl := RVq_le (show (0 : Int) ≤ 1 by decide) (M 598 101)
  have q := (hr.unblk h0 (k' := k + RVq 1 (M 598 101)) (x' := -1) (by omega) (by omega) (fun i w i0 i1 => by
    rcases w with w | w
    · exact w
    · omega)).adj (nn' := M 598 89) (tt' := M 598 73) (k' := k + RVq 1 (M 598 101)) (z' := z) (dp' := M 598 100 - 1) (d' := d) (by omega) (by omega) (by omega) (by omega)
  refine ⟨?_, n1, w1 (by omega)⟩
  rw [XS.rows]
  simp (decide := true) only [jw_o, jw_s, fu_ne, fu_eq, ne_eq, not_false_eq_true]
  exact ⟨_, _, _, _, q⟩
theorem XS.patch (h : XS M 0 k d z x) {c : Int} (e : M 598 90 = c) (h0 : 0 ≤ x) (h1 : x < c) (hj : M 659 x = 1 ∨ M 659 x = 2) (hl : M 659 (c - 1) ≠ 0) : XS (ju M 660 x c) 0 k d 0 (-1) := by
  subst e
  rw [XS.rows] at h ⊢
  obtain ⟨ht, P, D, E, h⟩ := h
  obtain ⟨⟨g1, g2, g3, g4, g5, g6, g7, g8, g9, g10, g11⟩, i1, i2, i3, i4, i5, i6, i7, i8⟩ := id h
  have q := h.patch h0 h1 (by unfold jpo; omega) (by rw [if_pos hj]; omega) hl (-1)
  simp (decide := true) only [jw_o, jw_s, fu_ne, fu_eq, ne_eq, not_false_eq_true]
  exact ⟨_, _, _, _, q⟩
theorem XS.els {p : Int} (h : XS M 0 k d z p) {c : Int} (e : M 598 90 = c) (h0 : 0 ≤ p) (h1 : p < c) (hj : M 659 p = 1) (hl : M 659 (c - 1) ≠ 0) (k' : Int) (hk : k' + 2 ≤ k) (hk0 : 0 ≤ k') (h8 : M 598 100 - M 598 107 - d ≤ 13) : XS (ju (ju (ju (ju M 659 c 2) 660 c 0) 598 90 (c + 1)) 660 p (c + 1)) 0 k' d 0 c := by
  subst e
  rw [XS.rows] at h ⊢
  obtain ⟨ht, P, D, E, h⟩ := h
  obtain ⟨⟨g1, g2, g3, g4, g5, g6, g7, g8, g9, g10, g11⟩, i1, i2, i3, i4, i5, i6, i7, i8⟩ := id h
  have q := h.patch h0 h1 (by unfold jpo; omega) (by rw [if_pos (Or.inl hj)]; omega) hl (M 598 90)
  have q1 := q.emit 2 0 k' (by unfold vop; omega) (show (0 : Int) ≤ 0 + 0 by omega) (fun _ => ⟨rfl, rfl⟩) (fun _ => Or.inr (Or.inr rfl)) (by omega) (by omega) hk hk0 h8 (by omega)
  have q2 := q1.patch' p h0 (by omega) (by rw [fu_ne _ _ (by omega)]; unfold jpo; omega) (by
    rw [fu_eq, fu_ne _ _ (by omega), if_pos (Or.inl hj), g2]
    rfl) (by rw [show M 598 90 + 1 - 1 = M 598 90 by omega, fu_eq]; decide) (M 598 90) (fun i i0 i1 e => Or.inr e)
  have q3 := q2.base rfl (show (0 : Int) ≤ 0 + (0 + dlo 2) ∧ 0 + (0 + dlo 2) ≤ 5 by decide) (M 664) (M 665) (M 666) (M 667)
  have e3 : fu (fu (fu (M 660) p (M 598 90)) (M 598 90) 0) p (M 598 90 + 1) = fu (fu (M 660) (M 598 90) 0) p (M 598 90 + 1) := by
    funext i
    unfold fu
    (repeat' split) <;> first | rfl | omega
  rw [e3] at q3
  simp (decide := true) only [jw_o, jw_s, fu_ne, fu_eq, ne_eq, not_false_eq_true]
  exact ⟨_, _, _, _, q3⟩
theorem XS.chn (h : XS M 0 k d z x) {n c nm : Int} (e : M 598 88 = n) (e2 : M 598 90 = c) (h0 : 0 ≤ n) (hl : c = 0 ∨ M 659 (c - 1) ≠ 0) : XS (ju (ju (ju (ju M 656 n nm) 657 n c) 658 n (-1)) 598 88 (n + 1)) 0 (k + 4) d 0 x := by
  subst e
  subst e2
  rw [XS.rows] at h ⊢
  obtain ⟨ht, P, D, E, h⟩ := h
  obtain ⟨⟨g1, g2, g3, g4, g5, g6, g7, g8, g9, g10, g11⟩, i1, i2, i3, i4, i5, i6, i7, i8⟩ := id h
  have q := h.chn h0 (by omega) hl
  simp (decide := true) only [jw_o, jw_s, fu_ne, fu_eq, ne_eq, not_false_eq_true]
  exact ⟨_, _, _, _, q⟩
theorem XS.bhd (h : XS M 0 k d z x) {c : Int} (e2 : M 598 90 = c) (i : Int) (hl : c = 0 ∨ M 659 (c - 1) ≠ 0) : XS (ju M 658 i c) 0 k d 0 x := by
  subst e2
  rw [XS.rows] at h ⊢
  obtain ⟨ht, P, D, E, h⟩ := h
  obtain ⟨⟨g1, g2, g3, g4, g5, g6, g7, g8, g9, g10, g11⟩, i1, i2, i3, i4, i5, i6, i7, i8⟩ := id h
  have q := h.bhd i (by omega) hl
  simp (decide := true) only [jw_o, jw_s, fu_ne, fu_eq, ne_eq, not_false_eq_true]
  exact ⟨_, _, _, _, q⟩
theorem XS.ib (h : XS M b k d z x) (hb : M 598 107 = 0) (v : Int) : XS (ju M 598 101 v) b k d z x := by
  rw [XS.rows] at h ⊢
  obtain ⟨ht, P, D, E, g, i1, i2, i3, i4, i5, i6, i7, i8⟩ := h
  have e1 : RVq (M 598 107) (M 598 101) = 0 := by unfold RVq; rw [if_pos hb]
  have e2 : RVq (M 598 107) v = 0 := by unfold RVq; rw [if_pos hb]
  rw [e1] at i8
  simp (decide := true) only [jw_o, jw_s, fu_ne, fu_eq, ne_eq, not_false_eq_true]
  exact ⟨ht, P, D, E, g, i1, i2, i3, fun j j0 j1 => by omega, i5, i6, i7, by rw [e2]; exact i8⟩
theorem XS.dp0 (h : XS M b k 0 z x) (hb : M 598 107 = 0) : M 598 100 = 0 ∧ XS (ju M 598 100 0) b k 0 z x := by
  rw [XS.rows] at h ⊢
  obtain ⟨ht, P, D, E, h⟩ := h
  obtain ⟨⟨g1, g2, g3, g4, g5, g6, g7, g8, g9, g10, g11⟩, i1, i2, i3, i4, i5, i6, i7, i8⟩ := id h
  have e : M 598 100 = 0 := by omega
  refine ⟨e, ?_⟩
  simp (decide := true) only [jw_o, jw_s, fu_ne, fu_eq, ne_eq, not_false_eq_true]
  rw [e] at h
  exact ⟨_, _, _, _, h⟩
theorem XS.asks (h : XS M b k d z x) {i c : Int} (hj : M 659 i = 28 ∨ M 659 i = 29) (hc : 0 ≤ c ∧ c < M 598 88) : XS (ju M 660 i c) b k d z x := by
  rw [XS.rows] at h ⊢
  obtain ⟨ht, P, D, E, h⟩ := h
  have q := h.asks i c hj hc
  simp (decide := true) only [jw_o, jw_s, fu_ne, fu_eq, ne_eq, not_false_eq_true]
  exact ⟨_, _, _, _, q⟩
theorem XS.irr (h : XS M b k d z x) {a : Nat} {i v : Int} (ha : 661 ≤ a ∧ a ≤ 663) : XS (ju M a i v) b k d z x := by
  rw [XS.rows] at h ⊢
  have r : ∀ c : Nat, (c ≤ 660 ∨ 664 ≤ c) → ju M a i v c = M c := fun c hc => jw_o (by omega)
  rw [r 650 (by omega), r 657 (by omega), r 658 (by omega), r 659 (by omega), r 660 (by omega), r 664 (by omega), r 665 (by omega), r 666 (by omega), r 667 (by omega), r 668 (by omega), r 669 (by omega), r 598 (by omega)]
  exact h
theorem XS.f96 (h : XS M b k d z x) {v : Int} : XS (ju M 598 96 v) b k d z x := by
  rw [XS.rows] at h ⊢
  simp (decide := true) only [jw_o, jw_s, fu_ne, fu_eq, ne_eq, not_false_eq_true]
  exact h
theorem XS.adj (h : XS M b k d z x) {k' z' : Int} (hk : k' ≤ k) (hk0 : 0 ≤ k') (hz : 0 ≤ z' ∧ z' ≤ z) : XS M b k' d z' x := ES.adj h hk hk0 hz
theorem XS.kz (h : XS M b k d z x) : 0 ≤ k ∧ 0 ≤ z := ES.kz h
theorem XS.blk1 (h : XS M b k 1 z x) {n : Int} (e : M 598 107 = n) (kd p k' : Int) (h1 : n = 0 → kd = M 598 101 ∧ 0 ≤ kd ∧ kd ≤ 1 ∧ x = -1) (h2 : 1 ≤ n → 2 ≤ kd ∧ kd ≤ 3 ∧ 0 ≤ p ∧ p < M 598 90 ∧ M 659 p = kd - 1 ∧ x = p) (hk : k' + RVq (n + 1) (M 598 101) ≤ k + RVq n (M 598 101)) (hk0 : 0 ≤ k') (hn : 0 ≤ n) : XS (ju (ju (ju M 668 n kd) 669 n p) 598 107 (n + 1)) b k' 0 z (-1) := by
  have q := XS.blk h e kd p k' h1 h2 hk hk0 hn
  rw [show (1 : Int) - 1 = 0 by decide] at q
  exact q
theorem XS.dep (h : XS M b k d z x) : M 598 100 = M 598 107 + d := by
  rw [XS.rows] at h
  obtain ⟨ht, P, D, E, ⟨g1, g2, g3, _⟩, i1, i2, i3, i4, i5, i6, i7, i8⟩ := h
  omega
theorem XS.sgle {M : jm} {b k d z x : Int} (h : XS M b k d z x) : 0 ≤ M 598 100 - M 598 107 - d ∧ 2 * M 598 90 + k ≤ 6 * M 598 89 + 4 * M 598 88 + M 598 73 := by
  have q := ES.sgle h
  simp (decide := true) only [jw_s, fu_ne, fu_eq, ne_eq, not_false_eq_true] at q
  exact ⟨q.1, q.2.2⟩
end PX
/-- the code that was there stays -/
noncomputable def CP (M0 M : jm) : Prop := M0 598 90 ≤ M 598 90 ∧ ∀ i : Int, i < M0 598 90 → M 659 i = M0 659 i
theorem CP.rfl (M : jm) : CP M M := ⟨Int.le_refl _, fun _ _ => Eq.refl _⟩
theorem CP.trans {M0 M M' : jm} (h : CP M0 M) (h' : CP M M') : CP M0 M' := ⟨Int.le_trans h.1 h'.1, fun i hi => (h'.2 i (Int.lt_of_lt_of_le hi h.1)).trans (h.2 i hi)⟩
theorem CP.f {M0 M M' : jm} (h : CP M0 M) (F : ∀ i : Int, M' 659 i = M 659 i) (g : M' 598 90 = M 598 90) : CP M0 M' := ⟨by rw [g]; exact h.1, fun i hi => (F i).trans (h.2 i hi)⟩
theorem CP.o {M0 M : jm} (h : CP M0 M) {a : Nat} {i v : Int} (h1 : 659 ≠ a) (h2 : 598 ≠ a ∨ 90 ≠ i) : CP M0 (ju M a i v) := by
  refine h.f (fun j => ju_c M v h1) ?_
  rcases h2 with h2 | h2
  · exact ju_c M v h2
  · exact ju_i M v h2
theorem CP.emit {M0 M : jm} (h : CP M0 M) {c op a : Int} (e : M 598 90 = c) : CP M0 (ju (ju (ju M 659 c op) 660 c a) 598 90 (c + 1)) := by
  subst e
  obtain ⟨h1, h2⟩ := h
  refine ⟨by rw [ju_same]; omega, fun i hi => ?_⟩
  rw [ju_c _ _ (by decide), ju_c _ _ (by decide), ju_i _ _ (by omega)]
  exact h2 i hi
noncomputable def LB (M : jm) : Prop := M 598 90 = 0 ∨ M 659 (M 598 90 - 1) ≠ 0
noncomputable def AK (M : jm) : Prop := ∀ k : Int, 0 ≤ k → k < M 598 96 → 0 ≤ M 663 k ∧ M 663 k < M 598 90 ∧ (M 659 (M 663 k) = 28 ∨ M 659 (M 663 k) = 29)
/-- the last that is asked for is still to be laid -/
noncomputable def AK2 (M : jm) : Prop := ∀ k : Int, 0 ≤ k → k < M 598 96 → (0 ≤ M 663 k ∧ M 663 k < M 598 90 ∧ (M 659 (M 663 k) = 28 ∨ M 659 (M 663 k) = 29)) ∨ M 663 k = M 598 90
theorem AK.cp {M M' : jm} (h : AK M) (c : CP M M') (F : ∀ i : Int, M' 663 i = M 663 i) (g : M' 598 96 = M 598 96) : AK M' := by
  intro k k0 k1
  rw [g] at k1
  obtain ⟨a1, a2, a3⟩ := h k k0 k1
  rw [F k]
  refine ⟨a1, by have := c.1; omega, ?_⟩
  rw [c.2 _ a2]
  exact a3
theorem AK.emit {M : jm} (h : AK M) {c op a : Int} (e : M 598 90 = c) : AK (ju (ju (ju M 659 c op) 660 c a) 598 90 (c + 1)) := h.cp (CP.emit (CP.rfl M) e) (fun i => by rw [ju_c _ _ (by decide), ju_c _ _ (by decide), ju_c _ _ (by decide)]) (by rw [ju_i _ _ (zne (by decide)), ju_c _ _ (by decide), ju_c _ _ (by decide)])
theorem AK.ask {M : jm} (h : AK M) {n c p q : Int} (e : M 598 96 = n) (e2 : M 598 90 = c) : AK2 (ju (ju (ju (ju M 661 n p) 662 n q) 663 n c) 598 96 (n + 1)) := by
  subst e
  subst e2
  intro k k0 k1
  rw [ju_same] at k1
  rw [ju_c _ _ (by decide : (663 : Nat) ≠ 598), ju_i _ _ (by decide : (90 : Int) ≠ 96), ju_c _ _ (by decide : (598 : Nat) ≠ 663), ju_c _ _ (by decide : (598 : Nat) ≠ 662), ju_c _ _ (by decide : (598 : Nat) ≠ 661), ju_c _ _ (by decide : (659 : Nat) ≠ 598), ju_c _ _ (by decide : (659 : Nat) ≠ 663), ju_c _ _ (by decide : (659 : Nat) ≠ 662), ju_c _ _ (by decide : (659 : Nat) ≠ 661)]
  by_cases v : k = M 598 96
  · rw [v, ju_same]
    exact Or.inr rfl
  · rw [ju_i _ _ v, ju_c _ _ (by decide : (663 : Nat) ≠ 662), ju_c _ _ (by decide : (663 : Nat) ≠ 661)]
    exact Or.inl (h k k0 (by omega))
theorem AK2.fr {M M' : jm} (h : AK2 M) (F : ∀ (a : Nat) (i : Int), a ≠ 598 → M' a i = M a i) (g : M' 598 96 = M 598 96) (g2 : M' 598 90 = M 598 90) : AK2 M' := by
  intro k k0 k1
  rw [F 663 _ (by decide), F 659 _ (by decide), g2]
  rw [g] at k1
  exact h k k0 k1
theorem AK2.emit {M : jm} (h : AK2 M) {c op a : Int} (e : M 598 90 = c) (h0 : 0 ≤ c) (ho : op = 28 ∨ op = 29) : AK (ju (ju (ju M 659 c op) 660 c a) 598 90 (c + 1)) := by
  subst e
  intro k k0 k1
  rw [ju_i _ _ (by decide : (96 : Int) ≠ 90), ju_c _ _ (by decide : (598 : Nat) ≠ 660), ju_c _ _ (by decide : (598 : Nat) ≠ 659)] at k1
  rw [ju_c _ _ (by decide : (663 : Nat) ≠ 598), ju_c _ _ (by decide : (663 : Nat) ≠ 660), ju_c _ _ (by decide : (663 : Nat) ≠ 659), ju_same, ju_c _ _ (by decide : (659 : Nat) ≠ 598), ju_c _ _ (by decide : (659 : Nat) ≠ 660)]
  rcases h k k0 k1 with ⟨a1, a2, a3⟩ | q
  · refine ⟨a1, by omega, ?_⟩
    rw [ju_i _ _ (by omega)]
    exact a3
  · rw [q, ju_same]
    exact ⟨h0, by omega, ho⟩
noncomputable def SGN (M : jm) : Prop := M 598 74 = 3 → M 598 79 ≠ 10 ∧ M 598 79 ≠ 11
noncomputable def DS (M : jm) (z : Int) : Prop := M 598 80 = 0 ∧ XS M 0 0 0 z (-1) ∧ M 598 89 ≤ 300 ∧ M 598 100 ≤ 12 ∧ M 598 73 ≤ M 598 72 ∧ (M 598 74 = 3 → M 598 79 ≠ 10 ∧ M 598 79 ≠ 11) ∧ LB M ∧ AK M ∧ M 598 96 ≤ M 598 89
end
