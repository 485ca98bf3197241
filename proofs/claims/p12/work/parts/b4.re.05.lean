section
/-- a piece is taken -/
theorem ga_t {T M Rb Rw Rl R5 : jm} {G : Nat} {g i x h t : Int} {f : Int → Int} {N C : Int} (hg : 0 ≤ g) (L : GL T Rb G g) (h0 : 0 ≤ h ∧ h < C) (ho : 0 ≤ ofs f N C h) (hc : 1 ≤ N - enf f N C h) (hi : (i = 1 ∧ mrf f N C h ≠ 1 ∧ T G 7 = -1) ∨ (i = 0 ∧ ¬ (mrf f N C h ≠ 1 ∧ T G 7 = -1))) (h3 : mrf f N C h ≠ 1 → T G 7 = -1 → ofs f N C h + (N - enf f N C h) ≤ 360) (W : WH6 Rb Rw g i (ofs f N C h + (N - enf f N C h))) (Y : LY6 Rw Rl g x (enf f N C h) (N - enf f N C h) (ofs f N C h)) (K : (ofs f N C h = 0 ∧ Rl 617 g = -1 ∧ KH6 Rl R5 g x h t) ∨ (¬ (ofs f N C h = 0 ∧ Rl 617 g = -1) ∧ R5 = Rl)) (hf : rf Rb x = f) (hb : ∀ i : Int, 0 ≤ f i ∧ f i ≤ 255) (hn : N ≤ 400)
  (kk : Rb 607 g = hX f N h) (k5 : Rb 611 g = vA f N C h (if kA f N C h = 2 then 7 else 0)) (tt : t = ntf f N C ∧ (0 ≤ t ∧ t < C)) (hk : (hX f N h = 2 ∧ t = h) ∨ hX f N h = 6) (hd : ∀ j : Int, 0 ≤ j → j < C → Rb 603 j = hX f N j ∧ Rb 604 j = hY f N j ∧ Rb 605 j = hZ f N j ∧ 0 ≤ hY f N j ∧ hY f N j + hZ f N j ≤ N ∧ 0 ≤ hZ f N j ∧ (hX f N j = 2 → 20 ≤ hZ f N j) ∧ (hX f N j = 6 → 8 ≤ hZ f N j)) (tk : TKI T M G f N C h) : GL M R5 G g ∧ RDl M R5 ∧ (∀ (b : Nat) (j : Int), b ≠ 615 → b ≠ 616 → b ≠ 618 → b ≠ 598 → b ≠ 622 → j ≠ g → R5 b j = Rb b j) ∧ (∀ j : Int, (j < 360 * g ∨ 360 * g + 360 ≤ j) → R5 615 j = Rb 615 j ∧ R5 616 j = Rb 616 j) ∧ (∀ j : Int, (j < 400 * g ∨ 400 * g + 400 ≤ j) → R5 618 j = Rb 618 j) ∧ (∀ (b : Nat) (j : Int), b < 613 → b ≠ 598 → R5 b j = Rb b j) := by
  obtain ⟨⟨l1, l1', l1'', l1a, l1b, l1c⟩, l2, ⟨l3, l3', l3''⟩, l4, l5, l6⟩ := L
  obtain ⟨⟨w1, w2⟩, w3, w4, w5, w6, w7, w8⟩ := ga_w l3.symm l3' l3'' ho hc hi h3 W
  obtain ⟨⟨⟨t1, t2⟩, t3, t4, t5⟩, t6, t7, t8, t9, ta, tb⟩ := tk
  obtain ⟨⟨⟨y1, y2⟩, y3, y4, y5, y6, y7, y8⟩, y9, ya⟩ := Y
  have ef : rf Rw x = f := (rf_e (fun i => w6 601 i (by decide) (by decide) (by decide))).trans hf
  have lm := lpf_m (wh1 f N C h (T G 7))
  have ml := mlf_l (D := N - enf f N C h) (s := ofs f N C h) (L := lpf (wh1 f N C h (T G 7))) (by omega)
  rw [w1] at y1 y4 y5 y6 y8
  have rows : ∀ k : Int, 0 ≤ k → k < lpf (wh1 f N C h (T G 7)) → T (G + 1) k = wR Rw g k := fun k k0 k1 => by rw [w5 k k0 k1]; exact l4 k k0 (by omega)
  have govs : gov (T (G + 1)) (ofs f N C h) (mlf (N - enf f N C h) (ofs f N C h) (lpf (wh1 f N C h (T G 7)))).toNat = gov (wR Rw g) (ofs f N C h) (mlf (N - enf f N C h) (ofs f N C h) (lpf (wh1 f N C h (T G 7)))).toNat := gov_e _ (fun k k0 k1 => rows k (by omega) (by omega))
  -- the reference's cells, from Rb to R5
  have K2 : (∀ (b : Nat) (i : Int), b ≠ 617 → b ≠ 618 → b ≠ 619 → b ≠ 620 → b ≠ 621 → R5 b i = Rl b i) ∧ (∀ (b : Nat) (j : Int), b ≠ 618 → j ≠ g → R5 b j = Rl b j) ∧ (∀ j : Int, (j < 400 * g ∨ 400 * g + 400 ≤ j) → R5 618 j = Rl 618 j) := by
    rcases K with ⟨-, -, ⟨-, -, k3, k4⟩, k5⟩ | ⟨-, k⟩
    · exact ⟨k5, k3, k4⟩
    · rw [k]
      exact ⟨fun _ _ _ _ _ _ _ => rfl, fun _ _ _ _ => rfl, fun _ _ => rfl⟩
  have lo : ∀ (b : Nat) (j : Int), b < 613 → b ≠ 598 → R5 b j = Rb b j := fun b j h1 h2 => (K2.1 b j (by omega) (by omega) (by omega) (by omega) (by omega)).trans ((y9 b j h2 (by omega) (by omega) (by omega)).trans (w6 b j (by omega) (by omega) (by omega)))
  have up : ∀ (b : Nat) (j : Int), 616 < b → b ≠ 622 → Rl b j = Rb b j := fun b j h1 h2 => (y9 b j (by omega) (by omega) (by omega) h2).trans (w6 b j (by omega) (by omega) (by omega))
  have lw : ∀ (b : Nat) (j : Int), b < 613 → b ≠ 598 → Rl b j = Rb b j := fun b j h1 h2 => (y9 b j h2 (by omega) (by omega) (by omega)).trans (w6 b j (by omega) (by omega) (by omega))
  have l7 : Rl 617 g = T G 11 := (up 617 g (by decide) (by decide)).trans l5.symm
  refine ⟨⟨⟨?_, ?_, ?_, ?_, ?_, ?_⟩, ?_, ⟨?_, ?_, ?_⟩, fun k k0 k1 => ?_, ?_, fun u => ?_⟩, fun k k0 k1 => ?_, fun b j h1 h2 h3 h4 h5 hj => ?_, fun j hj => ⟨?_, ?_⟩, fun j hj => ?_, lo⟩
  · rw [t3 1 (by decide) (by decide) (by decide) (by decide) (by decide), lo 607 g (by decide) (by decide)]; exact l1
  · rw [t3 2 (by decide) (by decide) (by decide) (by decide) (by decide), lo 608 g (by decide) (by decide)]; exact l1'
  · rw [t3 3 (by decide) (by decide) (by decide) (by decide) (by decide), lo 609 g (by decide) (by decide)]; exact l1''
  · rw [t3 4 (by decide) (by decide) (by decide) (by decide) (by decide), lo 610 g (by decide) (by decide)]; exact l1a
  · rw [t3 5 (by decide) (by decide) (by decide) (by decide) (by decide), lo 611 g (by decide) (by decide)]; exact l1b
  · rw [t3 6 (by decide) (by decide) (by decide) (by decide) (by decide), lo 612 g (by decide) (by decide)]; exact l1c
  · rw [lo 607 g (by decide) (by decide)]; exact l2
  · rw [t1, K2.1 614 g (by decide) (by decide) (by decide) (by decide) (by decide), y9 614 g (by decide) (by decide) (by decide) (by decide), w1]
  · rw [t1, t2, K2.1 613 g (by decide) (by decide) (by decide) (by decide) (by decide), y9 613 g (by decide) (by decide) (by decide) (by decide), w2]
  · rw [t1]; exact w3
  · rw [t1] at k1
    have e : wR R5 g k = wR Rl g k := wR_e (fun k _ _ => ⟨K2.1 615 _ (by decide) (by decide) (by decide) (by decide) (by decide), K2.1 616 _ (by decide) (by decide) (by decide) (by decide) (by decide)⟩) k0 (by omega)
    rw [e, t6 k k0 (by omega), y1 k k0 (by omega)]
    exact glay_e (rows k k0 k1) ef.symm
  · rcases K with ⟨c1, c2, ⟨⟨q1, -⟩, -⟩, -⟩ | ⟨c1, c2⟩
    · rw [l7] at c2
      rcases t4 with ⟨-, -, t4, -⟩ | ⟨t4, -⟩
      · rw [t4.1, q1, lw 604 h (by decide) (by decide), lw 605 h (by decide) (by decide), enf_i h0, (hd h h0.1 h0.2).2.1, (hd h h0.1 h0.2).2.2.1]
      · exact absurd ⟨c1, c2⟩ t4
    · rw [l7] at c1
      rcases t4 with ⟨u1, u2, -⟩ | ⟨-, t4, -⟩
      · exact absurd ⟨u1, u2⟩ c1
      · rw [t4.1, c2, l7]
  · rcases K with ⟨c1, c2, ⟨⟨q1, q2, q3, q4⟩, q5, -, -⟩, -⟩ | ⟨c1, c2⟩
    · rw [l7] at c2
      have hh := hd h h0.1 h0.2
      have ht := hd t tt.2.1 tt.2.2
      rw [lw 604 h (by decide) (by decide), lw 605 h (by decide) (by decide), hh.2.1, hh.2.2.1] at q1 q5
      rw [lw 604 h (by decide) (by decide), hh.2.1] at q2
      rw [lw 604 t (by decide) (by decide), ht.2.1] at q3
      have el : rf Rl x = f := (rf_e (fun i => lw 601 i (by decide) (by decide))).trans hf
      rw [el] at q5
      rcases t4 with ⟨-, -, ⟨v1, v2, v3⟩, v4⟩ | ⟨t4, -⟩
      · rw [enf_i h0] at v4
        rw [q1, q2, q3, lo 607 g (by decide) (by decide), lo 611 g (by decide) (by decide), kk]
        refine ⟨fun k k0 k1 => by rw [v4 k k0 k1, q5 k k0 k1], ?_, fun u6 => ⟨?_, ?_⟩, fun u2 => ?_⟩
        · rw [v2, ← tt.1]
          unfold pA
          rw [if_pos tt.2]
        · rw [l1, kk] at v3
          have v5 : M G 13 = pA f N C (h - 1) + (if kA f N C (h - 1) = 3 then 4 else 0) := by
            rcases v3 with v | v
            · exact v.2
            · exact absurd u6 v.1
          have hz : h ≠ 0 := fun e => by
            rw [e] at u6
            exact absurd u6 (show ¬ ((0 : Int) = 6) by decide)
          have hp := hd (h - 1) (by omega) (by omega)
          rw [v5, q4, if_neg hz, lw 604 _ (by decide) (by decide), lw 603 _ (by decide) (by decide), hp.1, hp.2.1, kA_i (by omega)]
          unfold pA
          rw [if_pos (by omega)]
        · rw [q5 _ hh.2.2.2.1 (by have := hh.2.2.2.2.2.2.2 u6; omega), k5, kA_i h0, u6, if_neg (by decide), vA_k h0 u6 (by rw [show xcv_2 6 = 4 by decide +kernel]; decide), vof_6_0, nbs_1, Int.add_zero]
          have := hb (hY f N h)
          omega
        · have e : t = h := by
            rcases hk with v | v
            · exact v.2
            · omega
          have z20 := hh.2.2.2.2.2.2.1 u2
          have zz : hZ f N h = 4 * (f (hY f N h) % 16) := by
            unfold hZ
            rw [u2]
            unfold hsZ
            rw [if_pos rfl, hb_i hh.2.2.2.1 (by omega)]
          rw [e, q5 _ hh.2.2.2.1 (by omega), ← zz]
          exact ⟨rfl, by omega⟩
      · exact absurd ⟨c1, c2⟩ t4
    · rw [l7] at c1
      rcases t4 with ⟨u1, u2, -⟩ | ⟨-, ⟨v1, v2, v3⟩, v4⟩
      · exact absurd ⟨u1, u2⟩ c1
      · rw [c2, up 617 g (by decide) (by decide)] at u
        rw [c2, up 617 g (by decide) (by decide), up 621 g (by decide) (by decide), up 620 g (by decide) (by decide), up 619 g (by decide) (by decide), lw 607 g (by decide) (by decide), lw 611 g (by decide) (by decide), v2, v3, up 618 _ (by decide) (by decide), up 618 _ (by decide) (by decide)]
        obtain ⟨g1, g2, g3, g4⟩ := l6 u
        exact ⟨fun k k0 k1 => by rw [v4, up 618 _ (by decide) (by decide)]; exact g1 k k0 k1, g2, g3, g4⟩
  · rw [K2.1 598 34 (by decide) (by decide) (by decide) (by decide) (by decide), y3, if_neg (by decide), K2.1 622 k (by decide) (by decide) (by decide) (by decide) (by decide)]
    rcases (show k = 0 ∨ k = 1 ∨ k = 2 ∨ k = 3 ∨ k = 4 by omega) with rfl | rfl | rfl | rfl | rfl
    · rw [t7, y4, govs]
    · rw [t8, y5, govs]
    · rw [t9, y6]
    · rw [ta, y7, w2]
    · rw [tb, y8]
  · rw [K2.2.1 b j h3 hj, y9 b j h4 h1 h2 h5]
    by_cases e1 : b = 613
    · rw [e1]; exact (w7 j hj).1
    · by_cases e2 : b = 614
      · rw [e2]; exact (w7 j hj).2
      · exact w6 b j e1 e2 h2
  · rw [K2.1 615 j (by decide) (by decide) (by decide) (by decide) (by decide), (y2 j hj).2, w6 615 j (by decide) (by decide) (by decide)]
  · rw [K2.1 616 j (by decide) (by decide) (by decide) (by decide) (by decide), (y2 j hj).1, w8 j hj]
  · rw [K2.2.2 j hj, up 618 j (by decide) (by decide)]
/-- the packet is put together -/
theorem ga_n {M R5 : jm} {G : Nat} {g : Int} (L : GL M R5 G g) : NRD M G ↔ NR6 R5 g := by
  obtain ⟨-, -, ⟨l3, -, l3'⟩, l4, l5, -⟩ := L
  unfold NRD NR6
  rw [← l3, ← l5]
  rcases l3' with e | e
  · exact ⟨fun _ => Or.inl e, fun _ => Or.inl e⟩
  · rw [lpf_p e]
    rw [lpf_p e] at l4
    rw [rdy_c (v := wR R5 g) (M G 7).toNat 0 (fun k k0 k1 => l4 k k0 (by omega))]
theorem ga_h {M R5 : jm} {G : Nat} {g : Int} (L : GL M R5 G g) : hlf (M G 1) (M G 11) = hl2 (R5 607 g) (R5 617 g) := by
  rw [L.1.1, L.2.2.2.2.1]
  unfold hlf hl2
  rcases L.2.1 with e | e <;> rw [e]
  · rfl
  · rfl
end
