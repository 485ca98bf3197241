section
theorem rcB_e {M T : jm} {t : Nat} {Z : Int} (h : ∀ (b : Nat) (k : Int), b ≠ 1 → M b k = T b k) (ht : 1 < t) : rcB M t Z = rcB T t Z := by
  unfold rcB flgF
  rw [h t 1 (by omega), h t 2 (by omega), h t 5 (by omega), h t 6 (by omega), h t 12 (by omega), h (t + 1) 0 (by omega), h (t + 1) 1 (by omega), h (t + 2) 0 (by omega), h (t + 2) 1 (by omega), h (t + 3) 0 (by omega), h (t + 3) 1 (by omega), h (t + 4) 0 (by omega), h (t + 4) 1 (by omega), h (t + 5) 0 (by omega), h (t + 5) 1 (by omega), h (t + 6) 0 (by omega), h (t + 6) 1 (by omega), h (t + 7) 0 (by omega), h (t + 7) 1 (by omega)]
theorem lay_fin {f : Int → Int} {M Ma Mb Mc Md : jm} {y n s u pk by_ sm r : Int} {p w a l : Int → Int} (hy : 0 ≤ y ∧ y ≤ 1552) (hM : M 1 = lyI (ly0 f y n s) y p w a l 2) (ha : PN M Ma 1 (y + 34) 4 u 4 1600) (hb : PN Ma Mb 1 (y + 38) 4 pk 4 1600) (hc : PN Mb Mc 1 (y + 42) 4 by_ 4 1600) (hd : PN Mc Md 1 (y + 46) 2 sm 2 1600) (hs : sm = tn r) (hr : r = sb (Mc 1) y (y + 46 - y).toNat) : Md 1 = rwl f y (xrB n s (p 0) (p 1) (w 0) (w 1) (a 0) (a 1) (l 0) (l 1) u pk by_) := by
  have e : Mc 1 = xrF f y (xrB n s (p 0) (p 1) (w 0) (w 1) (a 0) (a 1) (l 0) (l 1) u pk by_) := by
    rw [← lyx, ← hM]
    unfold lyE
    rw [hc.pt (by omega), hb.pt (by omega), ha.pt (by omega)]
  rw [hd.pt (by omega), hs, hr, e, show (y + 46 - y).toNat = 46 by omega]
  rfl
noncomputable def W_c_Flow_layRow_x : List (Nat × Nat) := [(43, 1000)]
end
