theorem r_act {A : Nat → Option (Nat × (Nat → Int32))} {Q : Option Value → jm → Prop} {L n : Int} {ht : Int → Int} {M : jm} (hI_M : RI M) (hH_M : RH M) (hS_M : RF M) {o : Int} (h_o : 0 ≤ o ∧ o ≤ 1000) {a : Int} (h_a : (-9223372036854775808) ≤ a ∧ a ≤ 9223372036854775807) (p0 : MX M ht n) (p1 : FRS M ht n (M 598 122)) (p2 : 1 ≤ M 598 122 ∧ M 598 122 ≤ 8) (p3 : AS M L) (p4 : L ≤ 1999999999) (p5 : (0 ≤ M 598 132 ∧ M 598 132 < n)) (p6 : M 598 131 = ht (M 598 132)) (p7 : o = M 654 (M 598 132)) (p8 : a = M 655 (M 598 132)) (p9 : (M 598 135 = 0 ∧ M 598 136 = 0)) (q : ∀ (M' : jm), RI M' → RH M' → RF M' → AS M' (L + 1) → ((M' 598 136 = 1 ∧ M' 598 135 = 0) ∨ (M' 598 136 = 0 ∧ FRS M' ht n (M' 598 122) ∧ 1 ≤ M' 598 122 ∧ M' 598 122 ≤ 8 ∧ ((M' 598 135 ≠ 0 ∧ phi M' = phi M ∧ M' 598 143 = M 598 143) ∨ (M' 598 135 = 0 ∧ 0 ≤ M' 598 132 ∧ M' 598 132 < n ∧ M' 598 131 = ht (M' 598 132) ∧ mu M' < mu M)))) → (∀ (a : Nat) (i : Int), a ≠ 598 → a ≠ 602 → a ≠ 603 → a ≠ 604 → a ≠ 605 → a ≠ 624 → a ≠ 670 → a ≠ 671 → a ≠ 672 → a ≠ 673 → a ≠ 674 → a ≠ 675 → a ≠ 676 → a ≠ 677 → a ≠ 678 → a ≠ 679 → a ≠ 680 → a ≠ 681 → a ≠ 682 → a ≠ 683 → a ≠ 684 → a ≠ 685 → a ≠ 686 → a ≠ 687 → M' a i = M a i) → (∀ (i : Int), i ≠ 6 → i ≠ 10 → i ≠ 11 → i ≠ 12 → i ≠ 59 → i ≠ 60 → i ≠ 61 → i ≠ 62 → i ≠ 63 → i ≠ 64 → i ≠ 65 → i ≠ 66 → i ≠ 110 → i ≠ 112 → i ≠ 122 → i ≠ 131 → i ≠ 132 → i ≠ 134 → i ≠ 135 → i ≠ 136 → i ≠ 137 → i ≠ 138 → i ≠ 139 → i ≠ 143 → i ≠ 145 → M' 598 i = M 598 i) → Q none M') : jc A 10 380 [.ref (598), .int (Int32.ofInt (o)), .long (Int64.ofInt (a))] M Q := by
  refine jc_of (m := xm_380) rfl (Nat.le_of_ble_eq_true rfl) rfl ?_
  refine jr.iload_n rfl rfl ?_
  rcases (show o = 0 ∨ o = 1 ∨ o = 2 ∨ o = 3 ∨ o = 4 ∨ o = 5 ∨ o = 6 ∨ o = 7 ∨ o = 8 ∨ o = 9 ∨ o = 10 ∨ o = 11 ∨ (o ≠ 0 ∧ o ≠ 1 ∧ o ≠ 2 ∧ o ≠ 3 ∧ o ≠ 4 ∧ o ≠ 5 ∧ o ≠ 6 ∧ o ≠ 7 ∧ o ≠ 8 ∧ o ≠ 9 ∧ o ≠ 10 ∧ o ≠ 11) by omega) with h1 | h1 | h1 | h1 | h1 | h1 | h1 | h1 | h1 | h1 | h1 | h1 | h1
  · refine jr.tsw_k 0 rfl h1 rfl ?_
    refine jr.pick (ls := [_, _, _]) [2, 1, 0] rfl rfl ?_
    exact r_act_L64 (L := L) (n := n) (ht := ht) q M a o hI_M hH_M hS_M  (fun a i f598 f602 f603 f604 f605 f624 f670 f671 f672 f673 f674 f675 f676 f677 f678 f679 f680 f681 f682 f683 f684 f685 f686 f687 => rfl) (fun i g6 g10 g11 g12 g59 g60 g61 g62 g63 g64 g65 g66 g110 g112 g122 g131 g132 g134 g135 g136 g137 g138 g139 g143 g145 => rfl) (by omega) (by omega) p0 p1 p2 p3 p4 p5 p6 p7 p8 p9 rfl (by omega)
  · refine jr.tsw_k 1 rfl h1 rfl ?_
    refine jr.pick (ls := [_, _, _]) [2, 1, 0] rfl rfl ?_
    exact r_act_L94 (L := L) (n := n) (ht := ht) q M a o hI_M hH_M hS_M  (fun a i f598 f602 f603 f604 f605 f624 f670 f671 f672 f673 f674 f675 f676 f677 f678 f679 f680 f681 f682 f683 f684 f685 f686 f687 => rfl) (fun i g6 g10 g11 g12 g59 g60 g61 g62 g63 g64 g65 g66 g110 g112 g122 g131 g132 g134 g135 g136 g137 g138 g139 g143 g145 => rfl) (by omega) (by omega) p0 p1 p2 p3 p4 p5 p6 p7 p8 p9 rfl (by omega)
  · refine jr.tsw_k 2 rfl h1 rfl ?_
    refine jr.pick (ls := [_, _, _]) [2, 1, 0] rfl rfl ?_
    exact r_act_L125 (L := L) (n := n) (ht := ht) q M a o hI_M hH_M hS_M  (fun a i f598 f602 f603 f604 f605 f624 f670 f671 f672 f673 f674 f675 f676 f677 f678 f679 f680 f681 f682 f683 f684 f685 f686 f687 => rfl) (fun i g6 g10 g11 g12 g59 g60 g61 g62 g63 g64 g65 g66 g110 g112 g122 g131 g132 g134 g135 g136 g137 g138 g139 g143 g145 => rfl) (by omega) (by omega) p0 p1 p2 p3 p4 p5 p6 p7 p8 p9 rfl (by omega)
  · refine jr.tsw_k 3 rfl h1 rfl ?_
    refine jr.pick (ls := [_, _, _]) [2, 1, 0] rfl rfl ?_
    exact r_act_L132 (L := L) (n := n) (ht := ht) q M a o hI_M hH_M hS_M  (fun a i f598 f602 f603 f604 f605 f624 f670 f671 f672 f673 f674 f675 f676 f677 f678 f679 f680 f681 f682 f683 f684 f685 f686 f687 => rfl) (fun i g6 g10 g11 g12 g59 g60 g61 g62 g63 g64 g65 g66 g110 g112 g122 g131 g132 g134 g135 g136 g137 g138 g139 g143 g145 => rfl) (by omega) (by omega) p0 p1 p2 p3 p4 p5 p6 p7 p8 p9 rfl (by omega)
  · refine jr.tsw_k 4 rfl h1 rfl ?_
    refine jr.pick (ls := [_, _, _]) [2, 1, 0] rfl rfl ?_
    exact r_act_L246 (L := L) (n := n) (ht := ht) q M a o hI_M hH_M hS_M  (fun a i f598 f602 f603 f604 f605 f624 f670 f671 f672 f673 f674 f675 f676 f677 f678 f679 f680 f681 f682 f683 f684 f685 f686 f687 => rfl) (fun i g6 g10 g11 g12 g59 g60 g61 g62 g63 g64 g65 g66 g110 g112 g122 g131 g132 g134 g135 g136 g137 g138 g139 g143 g145 => rfl) (by omega) (by omega) p0 p1 p2 p3 p4 p5 p6 p7 p8 p9 rfl (by omega)
  · refine jr.tsw_k 5 rfl h1 rfl ?_
    refine jr.pick (ls := [_, _, _]) [2, 1, 0] rfl rfl ?_
    exact r_act_L269 (L := L) (n := n) (ht := ht) q M a o hI_M hH_M hS_M  (fun a i f598 f602 f603 f604 f605 f624 f670 f671 f672 f673 f674 f675 f676 f677 f678 f679 f680 f681 f682 f683 f684 f685 f686 f687 => rfl) (fun i g6 g10 g11 g12 g59 g60 g61 g62 g63 g64 g65 g66 g110 g112 g122 g131 g132 g134 g135 g136 g137 g138 g139 g143 g145 => rfl) (by omega) (by omega) p0 p1 p2 p3 p4 p5 p6 p7 p8 p9 rfl (by omega)
  · refine jr.tsw_k 6 rfl h1 rfl ?_
    refine jr.pick (ls := [_, _, _]) [2, 1, 0] rfl rfl ?_
    exact r_act_L305 (L := L) (n := n) (ht := ht) q M a o hI_M hH_M hS_M  (fun a i f598 f602 f603 f604 f605 f624 f670 f671 f672 f673 f674 f675 f676 f677 f678 f679 f680 f681 f682 f683 f684 f685 f686 f687 => rfl) (fun i g6 g10 g11 g12 g59 g60 g61 g62 g63 g64 g65 g66 g110 g112 g122 g131 g132 g134 g135 g136 g137 g138 g139 g143 g145 => rfl) (by omega) (by omega) p0 p1 p2 p3 p4 p5 p6 p7 p8 p9 rfl (by omega)
  · refine jr.tsw_k 7 rfl h1 rfl ?_
    refine jr.pick (ls := [_, _, _]) [2, 1, 0] rfl rfl ?_
    exact r_act_L166 (L := L) (n := n) (ht := ht) q M a o hI_M hH_M hS_M  (fun a i f598 f602 f603 f604 f605 f624 f670 f671 f672 f673 f674 f675 f676 f677 f678 f679 f680 f681 f682 f683 f684 f685 f686 f687 => rfl) (fun i g6 g10 g11 g12 g59 g60 g61 g62 g63 g64 g65 g66 g110 g112 g122 g131 g132 g134 g135 g136 g137 g138 g139 g143 g145 => rfl) (by omega) (by omega) p0 p1 p2 p3 p4 p5 p6 p7 p8 p9 rfl (by omega)
  · refine jr.tsw_k 8 rfl h1 rfl ?_
    refine jr.pick (ls := [_, _, _]) [2, 1, 0] rfl rfl ?_
    exact r_act_L166 (L := L) (n := n) (ht := ht) q M a o hI_M hH_M hS_M  (fun a i f598 f602 f603 f604 f605 f624 f670 f671 f672 f673 f674 f675 f676 f677 f678 f679 f680 f681 f682 f683 f684 f685 f686 f687 => rfl) (fun i g6 g10 g11 g12 g59 g60 g61 g62 g63 g64 g65 g66 g110 g112 g122 g131 g132 g134 g135 g136 g137 g138 g139 g143 g145 => rfl) (by omega) (by omega) p0 p1 p2 p3 p4 p5 p6 p7 p8 p9 rfl (by omega)
  · refine jr.tsw_k 9 rfl h1 rfl ?_
    refine jr.pick (ls := [_, _, _]) [2, 1, 0] rfl rfl ?_
    exact r_act_L342 (L := L) (n := n) (ht := ht) q M a o hI_M hH_M hS_M  (fun a i f598 f602 f603 f604 f605 f624 f670 f671 f672 f673 f674 f675 f676 f677 f678 f679 f680 f681 f682 f683 f684 f685 f686 f687 => rfl) (fun i g6 g10 g11 g12 g59 g60 g61 g62 g63 g64 g65 g66 g110 g112 g122 g131 g132 g134 g135 g136 g137 g138 g139 g143 g145 => rfl) (by omega) (by omega) p0 p1 p2 p3 p4 p5 p6 p7 p8 p9 rfl (by omega)
  · refine jr.tsw_k 10 rfl h1 rfl ?_
    refine jr.pick (ls := [_, _, _]) [2, 1, 0] rfl rfl ?_
    exact r_act_L377 (L := L) (n := n) (ht := ht) q M a o hI_M hH_M hS_M  (fun a i f598 f602 f603 f604 f605 f624 f670 f671 f672 f673 f674 f675 f676 f677 f678 f679 f680 f681 f682 f683 f684 f685 f686 f687 => rfl) (fun i g6 g10 g11 g12 g59 g60 g61 g62 g63 g64 g65 g66 g110 g112 g122 g131 g132 g134 g135 g136 g137 g138 g139 g143 g145 => rfl) (by omega) (by omega) p0 p1 p2 p3 p4 p5 p6 p7 p8 p9 rfl (by omega)
  · refine jr.tsw_k 11 rfl h1 rfl ?_
    refine jr.pick (ls := [_, _, _]) [2, 1, 0] rfl rfl ?_
    exact r_act_L403 (L := L) (n := n) (ht := ht) q M a o hI_M hH_M hS_M  (fun a i f598 f602 f603 f604 f605 f624 f670 f671 f672 f673 f674 f675 f676 f677 f678 f679 f680 f681 f682 f683 f684 f685 f686 f687 => rfl) (fun i g6 g10 g11 g12 g59 g60 g61 g62 g63 g64 g65 g66 g110 g112 g122 g131 g132 g134 g135 g136 g137 g138 g139 g143 g145 => rfl) (by omega) (by omega) p0 p1 p2 p3 p4 p5 p6 p7 p8 p9 rfl (by omega)
  · refine jr.tsw_d rfl (by omega) (by omega) rfl ?_
    refine jr.iload_n rfl rfl ?_
    refine jr.sipush rfl (by decide) ?_
    refine jr.icmp_lt rfl rfl (by omega) (by omega) (fun h442 => ?_) (fun h442 => ?_)
    · refine jr.iload_n rfl rfl ?_
      refine jr.bipush rfl (by decide) ?_
      refine jr.icmp_lt rfl rfl (by omega) (by omega) (fun h463 => ?_) (fun h463 => ?_)
      · refine jr.pick (ls := [_, _, _]) [2, 1, 0] rfl rfl ?_
        exact r_act_L477 (L := L) (n := n) (ht := ht) q M a o hI_M hH_M hS_M  (fun a i f598 f602 f603 f604 f605 f624 f670 f671 f672 f673 f674 f675 f676 f677 f678 f679 f680 f681 f682 f683 f684 f685 f686 f687 => rfl) (fun i g6 g10 g11 g12 g59 g60 g61 g62 g63 g64 g65 g66 g110 g112 g122 g131 g132 g134 g135 g136 g137 g138 g139 g143 g145 => rfl) (by omega) (by omega) p0 p1 p2 p3 p4 p5 p6 p7 p8 p9 rfl (by omega)
      · refine jr.pick (ls := [_, _, _]) [2, 1, 0] rfl rfl ?_
        exact r_act_L466 (L := L) (n := n) (ht := ht) q M a o hI_M hH_M hS_M  (fun a i f598 f602 f603 f604 f605 f624 f670 f671 f672 f673 f674 f675 f676 f677 f678 f679 f680 f681 f682 f683 f684 f685 f686 f687 => rfl) (fun i g6 g10 g11 g12 g59 g60 g61 g62 g63 g64 g65 g66 g110 g112 g122 g131 g132 g134 g135 g136 g137 g138 g139 g143 g145 => rfl) (by omega) (by omega) p0 p1 p2 p3 p4 p5 p6 p7 p8 p9 rfl (by omega)
    · refine jr.pick (ls := [_, _, _]) [2, 1, 0] rfl rfl ?_
      exact r_act_L445 (L := L) (n := n) (ht := ht) q M a o hI_M hH_M hS_M  (fun a i f598 f602 f603 f604 f605 f624 f670 f671 f672 f673 f674 f675 f676 f677 f678 f679 f680 f681 f682 f683 f684 f685 f686 f687 => rfl) (fun i g6 g10 g11 g12 g59 g60 g61 g62 g63 g64 g65 g66 g110 g112 g122 g131 g132 g134 g135 g136 g137 g138 g139 g143 g145 => rfl) (by omega) (by omega) p0 p1 p2 p3 p4 p5 p6 p7 p8 p9 rfl (by omega)

