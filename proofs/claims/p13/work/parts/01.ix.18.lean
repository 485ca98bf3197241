section
noncomputable def lw_privs_12 : List (MethodName × Nat) := [(⟨"PacketWallModel", "kindAndField", "()V"⟩, 148), (⟨"PacketWallModel", "reduce", "(I)V"⟩, 148), (⟨"PacketWallModel", "takeSign", "()Z"⟩, 148), (⟨"PacketWallModel", "isCompareOnTop", "()Z"⟩, 148), (⟨"PacketWallModel", "open", "(I)V"⟩, 148), (⟨"PacketWallModel", "resolve", "()V"⟩, 148), (⟨"PacketWallModel", "enter", "(IZ)V"⟩, 148), (⟨"PacketWallModel", "layAside", "(I)V"⟩, 148), (⟨"PacketWallModel", "act", "(IJ)V"⟩, 148), (⟨"PacketWallModel", "endBehind", "(I)V"⟩, 148), (⟨"PacketWallModel", "leave", "(II)V"⟩, 148), (⟨"PacketWallModel", "giveBack", "(I)V"⟩, 148), (⟨"PacketWallModel", "fieldOf", "(II)J"⟩, 148), (⟨"PacketWallModel", "first", "(I)I"⟩, 148), (⟨"PacketWallModel", "word", "(I)V"⟩, 148), (⟨"PacketWallModel", "flowOfPacket", "()I"⟩, 148)]
noncomputable def lw_privs_13 : List (MethodName × Nat) := [(⟨"PacketWallModel", "needed", "(J)J"⟩, 148), (⟨"PacketWallModel", "byteAt", "(J)J"⟩, 148), (⟨"PacketWallModel", "spend", "(J)J"⟩, 148), (⟨"PacketWallModel", "rowFor", "(J)I"⟩, 148), (⟨"PacketWallModel", "isIn", "(JJ)Z"⟩, 148), (⟨"PacketWallModel", "itemOf", "(JJ)J"⟩, 148), (⟨"PacketWallModel", "headOf", "(JJJ)J"⟩, 148), (⟨"PacketWallModel", "bySign", "(I)V"⟩, 148), (⟨"PacketWallModel", "doDeed", "(IJ)V"⟩, 148), (⟨"PacketWallModel", "noteWhy", "(I)V"⟩, 148), (⟨"PacketWallModel", "learn", "(JJ)V"⟩, 148), (⟨"PacketWallModel", "put", "(JJJ)V"⟩, 148), (⟨"PacketWallModel", "copy", "(JJJJJ)V"⟩, 148), (⟨"PacketWallModel", "layHead", "(II)V"⟩, 148), (⟨"PacketWallModel", "fresh", "(JJJ)V"⟩, 148), (⟨"PacketWallModel", "list", "(J)V"⟩, 148)]
noncomputable def lw_privs_14 : List (MethodName × Nat) := [(⟨"PacketWallModel", "raise", "(I)V"⟩, 148)]
noncomputable def lw_privs : List (MethodName × Nat) := lw_privs_1 ++ (lw_privs_2 ++ (lw_privs_3 ++ (lw_privs_4 ++ (lw_privs_5 ++ (lw_privs_6 ++ (lw_privs_7 ++ (lw_privs_8 ++ (lw_privs_9 ++ (lw_privs_10 ++ (lw_privs_11 ++ (lw_privs_12 ++ (lw_privs_13 ++ (lw_privs_14)))))))))))))
noncomputable def lw_tbl : List Cond := k2_sels lw_privs ++ tables_1
noncomputable def lw_hd (x : MethodName) : List Cond → Bool
  | [] => false
  | t :: _ => decide (Cond.instanceMethod x = t)
theorem lw_hd_ok {x : MethodName} {l : List Cond} (h : lw_hd x l = true) : Cond.instanceMethod x ∈ l := by
  cases l with
  | nil =>
    have h2 : false = true := h
    exact absurd h2 (by decide)
  | cons t r =>
    have e : Cond.instanceMethod x = t := of_decide_eq_true h
    rw [e]
    exact List.mem_cons_self
/-- the words of the methods qs stand at the places ks -/
noncomputable def lw_go : List Cond → List Nat → List (MethodName × Nat) → Nat → Bool
  | [], _, qs, _ => qs.isEmpty
  | t :: ts, ks, qs, n =>
    match qs, ks with
    | [], _ => true
    | _ :: _, [] => false
    | q :: qs', k :: ks' => bif Nat.beq n k then (decide (Cond.privateMethod q.1 = t) && lw_hd q.1 ts && lw_go ts ks' qs' (n + 1)) else lw_go ts (k :: ks') (q :: qs') (n + 1)
theorem lw_go_ok : ∀ (T : List Cond) (ks : List Nat) (qs : List (MethodName × Nat)) (n : Nat), lw_go T ks qs n = true → ∀ q ∈ qs, Cond.privateMethod q.1 ∈ T ∧ Cond.instanceMethod q.1 ∈ T := by
  intro T
  induction T with
  | nil =>
    intro ks qs n h q hq
    cases qs with
    | nil => exact absurd hq List.not_mem_nil
    | cons a as =>
      have h2 : false = true := h
      exact absurd h2 (by decide)
  | cons t ts ih =>
    intro ks qs n h q hq
    cases qs with
    | nil => exact absurd hq List.not_mem_nil
    | cons a as =>
      cases ks with
      | nil =>
        have h2 : false = true := h
        exact absurd h2 (by decide)
      | cons k ks =>
        have h2 : (bif Nat.beq n k then (decide (Cond.privateMethod a.1 = t) && lw_hd a.1 ts && lw_go ts ks as (n + 1)) else lw_go ts (k :: ks) (a :: as) (n + 1)) = true := h
        cases hb : Nat.beq n k with
        | true =>
          rw [hb] at h2
          have h3 : (decide (Cond.privateMethod a.1 = t) && lw_hd a.1 ts && lw_go ts ks as (n + 1)) = true := h2
          rw [Bool.and_eq_true, Bool.and_eq_true] at h3
          rcases List.mem_cons.mp hq with e | e
          · have e1 : Cond.privateMethod a.1 = t := of_decide_eq_true h3.1.1
            rw [e]
            exact ⟨by rw [e1]; exact List.mem_cons_self, List.mem_cons_of_mem _ (lw_hd_ok h3.1.2)⟩
          · have r := ih ks as (n + 1) h3.2 q e
            exact ⟨List.mem_cons_of_mem _ r.1, List.mem_cons_of_mem _ r.2⟩
        | false =>
          rw [hb] at h2
          have h3 : lw_go ts (k :: ks) (a :: as) (n + 1) = true := h2
          have r := ih (k :: ks) (a :: as) (n + 1) h3 q hq
          exact ⟨List.mem_cons_of_mem _ r.1, List.mem_cons_of_mem _ r.2⟩
noncomputable def lw_ks : List Nat := [552, 582, 603, 607, 611, 622, 626, 633, 637, 648, 652, 663, 735, 739, 806, 814, 824, 842, 849, 857, 865, 873, 897, 910, 919, 934, 945, 965, 973, 978, 1027, 1054, 1058, 1063, 1115, 1119, 1188, 1192, 1196, 1200, 1204, 1208, 1212, 1216, 1220, 1224, 1228, 1236, 1240, 1244, 1248, 1253, 1274, 1281, 1285, 1293, 1331, 1335, 1339, 1343, 1353, 1362, 1366, 1370, 1374, 1378, 1382, 1386, 1390, 1394, 1398, 1402, 1406, 1410, 1414, 1418, 1424, 1437, 1441, 1447, 1454, 1458, 1462, 1470, 1474, 1486, 1492, 1496, 1500, 1508, 1517, 1526, 1542, 1549, 1558, 1569, 1652, 1656, 1660, 1672, 1676, 1690, 2143, 2170, 2189, 2193, 2197, 2201, 2205, 2212, 2216, 2247, 2251, 2255, 2259, 2263, 2267, 2282, 2286, 2290, 2303, 2307, 2315, 2319, 2323, 2327, 2331, 2335, 2339, 2343, 2347, 2351, 2378, 2382, 2386, 2390, 2394, 2401, 2405, 2409, 2413, 2417, 2425, 2433, 2456, 2464, 2472, 2476, 2480, 2488, 2492, 2497, 2501, 2506, 2510, 2530, 2544, 2548, 2552, 2556, 2560, 2564, 2568, 2572, 2576, 2580, 2584, 2588, 2592, 2596, 2600, 2604, 2608, 2612, 2616, 2620, 2624, 2628, 2635, 2639, 2643, 2653, 2665, 2669, 2673, 2677, 2681, 2685, 2689, 2693, 2700, 2704, 2709, 2713, 2717, 2721, 2726, 2730, 2734, 2738, 2742, 2746, 2750, 2754, 2758, 2763, 2767, 2772, 2776]
theorem lw_go_1 : lw_go tables_1 lw_ks lw_privs 0 = true := by decide +kernel
noncomputable def lw_cls : List (String × Nat) := [("PacketWall", 15), ("PacketWall$Headers", 8), ("PacketWall$Gathering", 14), ("PacketWall$Flows", 9), ("PacketWall$Flow", 16), ("PacketWall$Parser", 12), ("PacketWall$Machine", 20), ("PacketWall$Row", 4), ("PacketWallModel", 148)]
theorem lw_c0 : ("PacketWall" ≠ "java/lang/invoke/MethodHandle" ∧ "PacketWall" ≠ "java/lang/invoke/VarHandle") ∧ Cond.instantiable "PacketWall" 15 ∈ tables_1 := ⟨⟨by decide +kernel, by decide +kernel⟩, List.mem_of_getElem? (i := 22) (by decide +kernel)⟩
theorem lw_c1 : ("PacketWall$Headers" ≠ "java/lang/invoke/MethodHandle" ∧ "PacketWall$Headers" ≠ "java/lang/invoke/VarHandle") ∧ Cond.instantiable "PacketWall$Headers" 8 ∈ tables_1 := ⟨⟨by decide +kernel, by decide +kernel⟩, List.mem_of_getElem? (i := 32) (by decide +kernel)⟩
theorem lw_c2 : ("PacketWall$Gathering" ≠ "java/lang/invoke/MethodHandle" ∧ "PacketWall$Gathering" ≠ "java/lang/invoke/VarHandle") ∧ Cond.instantiable "PacketWall$Gathering" 14 ∈ tables_1 := ⟨⟨by decide +kernel, by decide +kernel⟩, List.mem_of_getElem? (i := 102) (by decide +kernel)⟩
theorem lw_c3 : ("PacketWall$Flows" ≠ "java/lang/invoke/MethodHandle" ∧ "PacketWall$Flows" ≠ "java/lang/invoke/VarHandle") ∧ Cond.instantiable "PacketWall$Flows" 9 ∈ tables_1 := ⟨⟨by decide +kernel, by decide +kernel⟩, List.mem_of_getElem? (i := 154) (by decide +kernel)⟩
theorem lw_c4 : ("PacketWall$Flow" ≠ "java/lang/invoke/MethodHandle" ∧ "PacketWall$Flow" ≠ "java/lang/invoke/VarHandle") ∧ Cond.instantiable "PacketWall$Flow" 16 ∈ tables_1 := ⟨⟨by decide +kernel, by decide +kernel⟩, List.mem_of_getElem? (i := 161) (by decide +kernel)⟩
theorem lw_c5 : ("PacketWall$Parser" ≠ "java/lang/invoke/MethodHandle" ∧ "PacketWall$Parser" ≠ "java/lang/invoke/VarHandle") ∧ Cond.instantiable "PacketWall$Parser" 12 ∈ tables_1 := ⟨⟨by decide +kernel, by decide +kernel⟩, List.mem_of_getElem? (i := 258) (by decide +kernel)⟩
end
