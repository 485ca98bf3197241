section
theorem rG_sS {a : Nat} {i : Int} (h : rG a = true) : sS a i = true := by
  unfold rG at h
  simp only [Bool.or_eq_true] at h
  rcases h with ((((((h | h) | h) | h) | h) | h) | h) | h <;> (have e := Nat.eq_of_beq_eq_true h; subst e; rfl)
theorem ju_rG {M : jm} {a b : Nat} {i k v : Int} (ha : rG a = false) (hb : rG b = true) : ju M a i v b k = M b k := ju_c M v (fun e => by rw [e, ha] at hb; cases hb)
theorem RG1.o {M : jm} (h : RG1 M) {a : Nat} {i v : Int} (ha : rG a = false) : RG1 (ju M a i v) := fun j hj => (h j hj).fr (fun _ _ hb => ju_rG ha hb)
theorem RG1x.o {M : jm} {g : Int} (h : RG1x M g) {a : Nat} {i v : Int} (ha : rG a = false) : RG1x (ju M a i v) g := fun j hj hg => (h j hj hg).fr (fun _ _ hb => ju_rG ha hb)
theorem RG1.kp {M M' : jm} (h : RG1 M) (k : Kp M M') : RG1 M' := fun j hj => (h j hj).fr (fun a i hb => k a i (rG_sS hb))
theorem RG1x.kp {M M' : jm} {g : Int} (h : RG1x M g) (k : Kp M M') : RG1x M' g := fun j hj hg => (h j hj hg).fr (fun a i hb => k a i (rG_sS hb))
theorem RG1.fr {M M' : jm} (h : RG1 M) (e : ∀ (a : Nat) (i : Int), rG a = true → M' a i = M a i) : RG1 M' := fun j hj => (h j hj).fr e
theorem RG1.x {M : jm} (h : RG1 M) (g : Int) : RG1x M g := fun j hj _ => h j hj
theorem RG1.mk {M : jm} {g : Int} (h : RG1x M g) (hg : RGs M g) : RG1 M := fun j hj => by
  by_cases e : j = g
  · rw [e]
    exact hg
  · exact h j hj e
theorem RGs.sl {M : jm} {j g v : Int} {a : Nat} (h : RGs M j) (hj : j ≠ g) (ha : (618 : Nat) ≠ a) : RGs (ju M a g v) j := by
  unfold RGs at h ⊢
  rw [ju_i (b := 606) M v hj, ju_i (b := 613) M v hj, ju_i (b := 617) M v hj, ju_i (b := 621) M v hj, ju_i (b := 619) M v hj, ju_i (b := 620) M v hj, ju_i (b := 607) M v hj, ju_c M v ha]
  exact h
theorem RG1x.s {M : jm} {g v : Int} {a : Nat} (h : RG1x M g) (ha : (618 : Nat) ≠ a) : RG1x (ju M a g v) g := fun j hj hg => (h j hj hg).sl hg ha
theorem RGs.hb {M : jm} {j g i v : Int} (h : RGs M j) (hj : j ≠ g) (h0 : 400 * g ≤ i) (h1 : i < 400 * g + 400) : RGs (ju M 618 i v) j := by
  unfold RGs at h ⊢
  rw [ju_c M v (by decide : (606 : Nat) ≠ 618), ju_c M v (by decide : (613 : Nat) ≠ 618), ju_c M v (by decide : (617 : Nat) ≠ 618), ju_c M v (by decide : (621 : Nat) ≠ 618), ju_c M v (by decide : (619 : Nat) ≠ 618), ju_c M v (by decide : (620 : Nat) ≠ 618), ju_c M v (by decide : (607 : Nat) ≠ 618)]
  intro u
  obtain ⟨a1, a2⟩ := h u
  refine ⟨a1, fun w => ?_⟩
  obtain ⟨b1, b2, b3, b4, b5, b6⟩ := a2 w
  refine ⟨b1, b2, b3, b4, b5, fun k => ?_⟩
  rw [ju_i M v (by omega)]
  exact b6 k
theorem RG1x.b {M : jm} {g i v : Int} (h : RG1x M g) (h0 : 400 * g ≤ i) (h1 : i < 400 * g + 400) : RG1x (ju M 618 i v) g := fun j hj hg => (h j hj hg).hb hg h0 h1
theorem RG1.off {M : jm} (h : RG1 M) (g : Int) : RG1 (ju M 606 g 0) := RG1.mk (RG1x.s (h.x g) (by decide)) (fun u => absurd (ju_same M 606 g 0) u)
theorem RGs.new {M : jm} {g s : Int} (e : M 613 g = s) (h : 1 ≤ s) (e2 : M 617 g = -1) : RGs M g := fun _ => ⟨by rw [e]; exact h, fun w => absurd e2 w⟩
theorem RG1.s613 {M : jm} (h : RG1 M) {g v : Int} (hg : 0 ≤ g) (hv : 1 ≤ v) : RG1 (ju M 613 g v) := RG1.mk (RG1x.s (h.x g) (by decide)) (by
  have q := h g hg
  unfold RGs at q ⊢
  rw [ju_c M v (by decide : (606 : Nat) ≠ 613), ju_same, ju_c M v (by decide : (617 : Nat) ≠ 613), ju_c M v (by decide : (621 : Nat) ≠ 613), ju_c M v (by decide : (619 : Nat) ≠ 613), ju_c M v (by decide : (620 : Nat) ≠ 613), ju_c M v (by decide : (607 : Nat) ≠ 613), ju_c M v (by decide : (618 : Nat) ≠ 613)]
  exact fun u => ⟨hv, (q u).2⟩)
theorem RGs.mk' {M : jm} {g s hd nt pa ah k b : Int} (e1 : M 613 g = s) (e2 : M 617 g = hd) (e3 : M 621 g = nt) (e4 : M 619 g = pa) (e5 : M 620 g = ah) (e6 : M 607 g = k) (e7 : M 618 (400 * g + nt) = b) (h1 : 1 ≤ s) (h2 : 8 ≤ hd) (h3 : 0 ≤ nt) (h4 : nt ≤ 380) (h5 : pa ≤ 392) (h6 : ah ≤ 399) (h7 : k = 2 → nt < hd ∧ nt + 4 * (b % 16) ≤ 400) : RGs M g := by
  unfold RGs
  rw [e1, e2, e3, e4, e5, e6, e7]
  exact fun _ => ⟨h1, fun _ => ⟨h2, h3, h4, h5, h6, h7⟩⟩
end
