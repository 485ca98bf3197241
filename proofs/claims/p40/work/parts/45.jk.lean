section
/-! ===== more rules: static values, lengths, answers that are references, constant rows, Math ===== -/
section JK
variable {A : Nat → Option (Nat × (Nat → Int32))} {D : Nat} {m : ix_M} {pc : Nat} {ls ls' : ix_L} {st : List Value} {M : jm} {Q : Option Value → jm → Prop}
theorem jr.gst {idx : Nat} {v : Value} (hi : m.2.2.2.2.2.2 pc = some (.getstatic idx)) (hs : ix_tS (xT A) m.1 idx = some v) (k : jr A D m (pc + 3) ls (v :: st) M Q) : jr A D m pc ls st M Q := jr_sem hi (fun f => fxk_getstatic (by unfold fx_getstatic; rw [hs])) k
theorem jr.areturn {a : Nat} {ty : FieldType} (hi : m.2.2.2.2.2.2 pc = some .areturn) (hr : ix_ret m.2.2.2.2.1 .areturn [.ref a] = some (some (.ref a))) (q : Q (some (.ref a)) M) : jr A D m pc ls [.ref a] M Q := jr_ret hi hr q
theorem jr.alen0 {a n : Nat} {x : Int} (hi : m.2.2.2.2.2.2 pc = some .arraylength) (ha : a < xNc) (hs : xsh a = (0, n)) (hx : Int32.ofNat n = Int32.ofInt x) (k : jr A D m (pc + 1) ls (.int (Int32.ofInt x) :: st) M Q) : jr A D m pc ls (.ref a :: st) M Q := jr_sem hi (fun f => fxk_arraylength (by
  unfold fx_arraylength
  simp only [jarr0 ha hs]
  rw [if_pos (Or.inl (by decide)), hx])) k
theorem jarrn (M : jm) {a : Nat} (h : xNc ≤ a) : ix_arr (jH M) a = none := by
  unfold ix_arr
  rw [show Nat.blt a (jH M).1 = false from by
    cases hb : Nat.blt a (jH M).1 with
    | false => rfl
    | true => exact absurd (Nat.blt_eq.mp hb) (Nat.not_lt.mpr h)]
  rfl
theorem jr.alens {a n : Nat} {g : Nat → Int32} {x : Int} (hi : m.2.2.2.2.2.2 pc = some .arraylength) (ha : xNc ≤ a) (hc : ix_cns (xT A) a = some (n, g)) (hx : Int32.ofNat n = Int32.ofInt x) (k : jr A D m (pc + 1) ls (.int (Int32.ofInt x) :: st) M Q) : jr A D m pc ls (.ref a :: st) M Q := jr_sem hi (fun f => fxk_arraylength (by
  unfold fx_arraylength
  simp only [jarrn M ha, hc, hx])) k
theorem jr.ials {a n : Nat} {g : Nat → Int32} {i : Int} (x : Int) (hi : m.2.2.2.2.2.2 pc = some .iaload) (ha : xNc ≤ a) (hc : ix_cns (xT A) a = some (n, g)) (hn : n ≤ 2000000) (h0 : 0 ≤ i) (h1 : i < (n : Nat)) (hx : g i.toNat = Int32.ofInt x) (k : jr A D m (pc + 1) ls (.int (Int32.ofInt x) :: st) M Q) : jr A D m pc ls (.int (Int32.ofInt i) :: .ref a :: st) M Q := jr_sem hi (fun f => fxk_iaload (by
  unfold fx_iaload
  obtain ⟨q1, q2⟩ := jin h0 h1 hn
  simp only [jarrn M ha, hc]
  rw [if_neg q1, q2, hx])) k
end JK
end
section
/-! ===== kinds of the class's cells: 1 Flow, 2 Flow.address, 3 Flow.bytes, 4 Flow.hasLast, 5 Flow.last, 6 Flow.packets, 7 Flow.port, 8 Flow.window, 9 Flows, 10 Flows.poolAddress, 11 Flows.poolPort, 12 Flows.poolPorts, 13 Flows.rows, 14 Frame, 15 Gathering, 16 Gathering.kept, 17 Gathering.row, 18 Headers, 19 Headers.kinds, 20 Headers.places, 21 Headers.sizes, 22 Machine, 23 Machine.frames, 24 Machine.report, 25 Machine.rows, 26 Machine.stack, 27 Memory, 28 Memory.buckets, 29 Memory.counters, 30 Memory.log, 31 Memory.setItems, 32 Memory.setSizes, 33 Packet, 34 Packet.bytes, 35 PacketWall, 36 PacketWall.bucketEvery, 37 PacketWall.bucketSince, 38 PacketWall.bucketSizes, 39 PacketWall.found, 40 PacketWall.gatherings, 41 PacketWall.latestPiece, 42 PacketWall.packets, 43 PacketWall.tape, 44 Parser, 45 Parser.names, 46 Parser.text, 47 Program, 48 Program.args, 49 Program.behinds, 50 Program.bodies, 51 Program.ops, 52 Row, 53 Row.fields, 54 Row.items ===== -/
noncomputable def kd0_0_0 (a : Nat) : Option Nat := bif Nat.blt a 5 then (bif Nat.blt a 2 then (bif Nat.blt a 1 then (bif Nat.beq a 0 then some (35) else none) else (bif Nat.beq a 1 then some (43) else none)) else (bif Nat.blt a 3 then (bif Nat.beq a 2 then some (42) else none) else (bif Nat.blt a 4 then (bif Nat.beq a 3 then some (18) else none) else (bif Nat.beq a 4 then some (19) else none)))) else (bif Nat.blt a 7 then (bif Nat.blt a 6 then (bif Nat.beq a 5 then some (20) else none) else (bif Nat.beq a 6 then some (21) else none)) else (bif Nat.blt a 8 then (bif Nat.beq a 7 then some (33) else none) else (bif Nat.blt a 9 then (bif Nat.beq a 8 then some (34) else none) else (bif Nat.beq a 9 then some (39) else none))))
noncomputable def kd0_0_1 (a : Nat) : Option Nat := bif Nat.blt a 15 then (bif Nat.blt a 12 then (bif Nat.blt a 11 then (bif Nat.beq a 10 then some (40) else none) else (bif Nat.beq a 11 then some (15) else none)) else (bif Nat.blt a 13 then (bif Nat.beq a 12 then some (17) else none) else (bif Nat.blt a 14 then (bif Nat.beq a 13 then some (16) else none) else (bif Nat.beq a 14 then some (41) else none)))) else (bif Nat.blt a 17 then (bif Nat.blt a 16 then (bif Nat.beq a 15 then some (9) else none) else (bif Nat.beq a 16 then some (13) else none)) else (bif Nat.blt a 18 then (bif Nat.beq a 17 then some (13) else none) else (bif Nat.blt a 19 then (bif Nat.beq a 18 then some (1) else none) else (bif Nat.beq a 19 then some (2) else none))))
noncomputable def kd0_0_2 (a : Nat) : Option Nat := bif Nat.blt a 25 then (bif Nat.blt a 22 then (bif Nat.blt a 21 then (bif Nat.beq a 20 then some (7) else none) else (bif Nat.beq a 21 then some (5) else none)) else (bif Nat.blt a 23 then (bif Nat.beq a 22 then some (4) else none) else (bif Nat.blt a 24 then (bif Nat.beq a 23 then some (8) else none) else (bif Nat.beq a 24 then some (6) else none)))) else (bif Nat.blt a 27 then (bif Nat.blt a 26 then (bif Nat.beq a 25 then some (3) else none) else (bif Nat.beq a 26 then some (10) else none)) else (bif Nat.blt a 28 then (bif Nat.beq a 27 then some (11) else none) else (bif Nat.blt a 29 then (bif Nat.beq a 28 then some (12) else none) else (bif Nat.beq a 29 then some (1) else none))))
noncomputable def kd0_0_3 (a : Nat) : Option Nat := bif Nat.blt a 35 then (bif Nat.blt a 32 then (bif Nat.blt a 31 then (bif Nat.beq a 30 then some (2) else none) else (bif Nat.beq a 31 then some (7) else none)) else (bif Nat.blt a 33 then (bif Nat.beq a 32 then some (5) else none) else (bif Nat.blt a 34 then (bif Nat.beq a 33 then some (4) else none) else (bif Nat.beq a 34 then some (8) else none)))) else (bif Nat.blt a 37 then (bif Nat.blt a 36 then (bif Nat.beq a 35 then some (6) else none) else (bif Nat.beq a 36 then some (3) else none)) else (bif Nat.blt a 38 then (bif Nat.beq a 37 then some (1) else none) else (bif Nat.blt a 39 then (bif Nat.beq a 38 then some (2) else none) else (bif Nat.beq a 39 then some (7) else none))))
noncomputable def kd0_0_4 (a : Nat) : Option Nat := bif Nat.blt a 45 then (bif Nat.blt a 42 then (bif Nat.blt a 41 then (bif Nat.beq a 40 then some (5) else none) else (bif Nat.beq a 41 then some (4) else none)) else (bif Nat.blt a 43 then (bif Nat.beq a 42 then some (8) else none) else (bif Nat.blt a 44 then (bif Nat.beq a 43 then some (6) else none) else (bif Nat.beq a 44 then some (3) else none)))) else (bif Nat.blt a 47 then (bif Nat.blt a 46 then (bif Nat.beq a 45 then some (1) else none) else (bif Nat.beq a 46 then some (2) else none)) else (bif Nat.blt a 48 then (bif Nat.beq a 47 then some (7) else none) else (bif Nat.blt a 49 then (bif Nat.beq a 48 then some (5) else none) else (bif Nat.beq a 49 then some (4) else none))))
noncomputable def kd0_0_5 (a : Nat) : Option Nat := bif Nat.blt a 55 then (bif Nat.blt a 52 then (bif Nat.blt a 51 then (bif Nat.beq a 50 then some (8) else none) else (bif Nat.beq a 51 then some (6) else none)) else (bif Nat.blt a 53 then (bif Nat.beq a 52 then some (3) else none) else (bif Nat.blt a 54 then (bif Nat.beq a 53 then some (1) else none) else (bif Nat.beq a 54 then some (2) else none)))) else (bif Nat.blt a 57 then (bif Nat.blt a 56 then (bif Nat.beq a 55 then some (7) else none) else (bif Nat.beq a 56 then some (5) else none)) else (bif Nat.blt a 58 then (bif Nat.beq a 57 then some (4) else none) else (bif Nat.blt a 59 then (bif Nat.beq a 58 then some (8) else none) else (bif Nat.beq a 59 then some (6) else none))))
noncomputable def kd0_0 (a : Nat) : Option Nat := bif Nat.blt a 30 then (bif Nat.blt a 10 then (kd0_0_0 a) else (bif Nat.blt a 20 then (kd0_0_1 a) else (kd0_0_2 a))) else (bif Nat.blt a 40 then (kd0_0_3 a) else (bif Nat.blt a 50 then (kd0_0_4 a) else (kd0_0_5 a)))
noncomputable def kd0_1_0 (a : Nat) : Option Nat := bif Nat.blt a 65 then (bif Nat.blt a 62 then (bif Nat.blt a 61 then (bif Nat.beq a 60 then some (3) else none) else (bif Nat.beq a 61 then some (1) else none)) else (bif Nat.blt a 63 then (bif Nat.beq a 62 then some (2) else none) else (bif Nat.blt a 64 then (bif Nat.beq a 63 then some (7) else none) else (bif Nat.beq a 64 then some (5) else none)))) else (bif Nat.blt a 67 then (bif Nat.blt a 66 then (bif Nat.beq a 65 then some (4) else none) else (bif Nat.beq a 66 then some (8) else none)) else (bif Nat.blt a 68 then (bif Nat.beq a 67 then some (6) else none) else (bif Nat.blt a 69 then (bif Nat.beq a 68 then some (3) else none) else (bif Nat.beq a 69 then some (1) else none))))
noncomputable def kd0_1_1 (a : Nat) : Option Nat := bif Nat.blt a 75 then (bif Nat.blt a 72 then (bif Nat.blt a 71 then (bif Nat.beq a 70 then some (2) else none) else (bif Nat.beq a 71 then some (7) else none)) else (bif Nat.blt a 73 then (bif Nat.beq a 72 then some (5) else none) else (bif Nat.blt a 74 then (bif Nat.beq a 73 then some (4) else none) else (bif Nat.beq a 74 then some (8) else none)))) else (bif Nat.blt a 77 then (bif Nat.blt a 76 then (bif Nat.beq a 75 then some (6) else none) else (bif Nat.beq a 76 then some (3) else none)) else (bif Nat.blt a 78 then (bif Nat.beq a 77 then some (1) else none) else (bif Nat.blt a 79 then (bif Nat.beq a 78 then some (2) else none) else (bif Nat.beq a 79 then some (7) else none))))
noncomputable def kd0_1_2 (a : Nat) : Option Nat := bif Nat.blt a 85 then (bif Nat.blt a 82 then (bif Nat.blt a 81 then (bif Nat.beq a 80 then some (5) else none) else (bif Nat.beq a 81 then some (4) else none)) else (bif Nat.blt a 83 then (bif Nat.beq a 82 then some (8) else none) else (bif Nat.blt a 84 then (bif Nat.beq a 83 then some (6) else none) else (bif Nat.beq a 84 then some (3) else none)))) else (bif Nat.blt a 87 then (bif Nat.blt a 86 then (bif Nat.beq a 85 then some (1) else none) else (bif Nat.beq a 86 then some (2) else none)) else (bif Nat.blt a 88 then (bif Nat.beq a 87 then some (7) else none) else (bif Nat.blt a 89 then (bif Nat.beq a 88 then some (5) else none) else (bif Nat.beq a 89 then some (4) else none))))
noncomputable def kd0_1_3 (a : Nat) : Option Nat := bif Nat.blt a 95 then (bif Nat.blt a 92 then (bif Nat.blt a 91 then (bif Nat.beq a 90 then some (8) else none) else (bif Nat.beq a 91 then some (6) else none)) else (bif Nat.blt a 93 then (bif Nat.beq a 92 then some (3) else none) else (bif Nat.blt a 94 then (bif Nat.beq a 93 then some (1) else none) else (bif Nat.beq a 94 then some (2) else none)))) else (bif Nat.blt a 97 then (bif Nat.blt a 96 then (bif Nat.beq a 95 then some (7) else none) else (bif Nat.beq a 96 then some (5) else none)) else (bif Nat.blt a 98 then (bif Nat.beq a 97 then some (4) else none) else (bif Nat.blt a 99 then (bif Nat.beq a 98 then some (8) else none) else (bif Nat.beq a 99 then some (6) else none))))
noncomputable def kd0_1_4 (a : Nat) : Option Nat := bif Nat.blt a 105 then (bif Nat.blt a 102 then (bif Nat.blt a 101 then (bif Nat.beq a 100 then some (3) else none) else (bif Nat.beq a 101 then some (1) else none)) else (bif Nat.blt a 103 then (bif Nat.beq a 102 then some (2) else none) else (bif Nat.blt a 104 then (bif Nat.beq a 103 then some (7) else none) else (bif Nat.beq a 104 then some (5) else none)))) else (bif Nat.blt a 107 then (bif Nat.blt a 106 then (bif Nat.beq a 105 then some (4) else none) else (bif Nat.beq a 106 then some (8) else none)) else (bif Nat.blt a 108 then (bif Nat.beq a 107 then some (6) else none) else (bif Nat.blt a 109 then (bif Nat.beq a 108 then some (3) else none) else (bif Nat.beq a 109 then some (1) else none))))
noncomputable def kd0_1_5 (a : Nat) : Option Nat := bif Nat.blt a 115 then (bif Nat.blt a 112 then (bif Nat.blt a 111 then (bif Nat.beq a 110 then some (2) else none) else (bif Nat.beq a 111 then some (7) else none)) else (bif Nat.blt a 113 then (bif Nat.beq a 112 then some (5) else none) else (bif Nat.blt a 114 then (bif Nat.beq a 113 then some (4) else none) else (bif Nat.beq a 114 then some (8) else none)))) else (bif Nat.blt a 117 then (bif Nat.blt a 116 then (bif Nat.beq a 115 then some (6) else none) else (bif Nat.beq a 116 then some (3) else none)) else (bif Nat.blt a 118 then (bif Nat.beq a 117 then some (1) else none) else (bif Nat.blt a 119 then (bif Nat.beq a 118 then some (2) else none) else (bif Nat.beq a 119 then some (7) else none))))
noncomputable def kd0_1 (a : Nat) : Option Nat := bif Nat.blt a 90 then (bif Nat.blt a 70 then (kd0_1_0 a) else (bif Nat.blt a 80 then (kd0_1_1 a) else (kd0_1_2 a))) else (bif Nat.blt a 100 then (kd0_1_3 a) else (bif Nat.blt a 110 then (kd0_1_4 a) else (kd0_1_5 a)))
noncomputable def kd0_2_0 (a : Nat) : Option Nat := bif Nat.blt a 125 then (bif Nat.blt a 122 then (bif Nat.blt a 121 then (bif Nat.beq a 120 then some (5) else none) else (bif Nat.beq a 121 then some (4) else none)) else (bif Nat.blt a 123 then (bif Nat.beq a 122 then some (8) else none) else (bif Nat.blt a 124 then (bif Nat.beq a 123 then some (6) else none) else (bif Nat.beq a 124 then some (3) else none)))) else (bif Nat.blt a 127 then (bif Nat.blt a 126 then (bif Nat.beq a 125 then some (1) else none) else (bif Nat.beq a 126 then some (2) else none)) else (bif Nat.blt a 128 then (bif Nat.beq a 127 then some (7) else none) else (bif Nat.blt a 129 then (bif Nat.beq a 128 then some (5) else none) else (bif Nat.beq a 129 then some (4) else none))))
noncomputable def kd0_2_1 (a : Nat) : Option Nat := bif Nat.blt a 135 then (bif Nat.blt a 132 then (bif Nat.blt a 131 then (bif Nat.beq a 130 then some (8) else none) else (bif Nat.beq a 131 then some (6) else none)) else (bif Nat.blt a 133 then (bif Nat.beq a 132 then some (3) else none) else (bif Nat.blt a 134 then (bif Nat.beq a 133 then some (1) else none) else (bif Nat.beq a 134 then some (2) else none)))) else (bif Nat.blt a 137 then (bif Nat.blt a 136 then (bif Nat.beq a 135 then some (7) else none) else (bif Nat.beq a 136 then some (5) else none)) else (bif Nat.blt a 138 then (bif Nat.beq a 137 then some (4) else none) else (bif Nat.blt a 139 then (bif Nat.beq a 138 then some (8) else none) else (bif Nat.beq a 139 then some (6) else none))))
noncomputable def kd0_2_2 (a : Nat) : Option Nat := bif Nat.blt a 145 then (bif Nat.blt a 142 then (bif Nat.blt a 141 then (bif Nat.beq a 140 then some (3) else none) else (bif Nat.beq a 141 then some (1) else none)) else (bif Nat.blt a 143 then (bif Nat.beq a 142 then some (2) else none) else (bif Nat.blt a 144 then (bif Nat.beq a 143 then some (7) else none) else (bif Nat.beq a 144 then some (5) else none)))) else (bif Nat.blt a 147 then (bif Nat.blt a 146 then (bif Nat.beq a 145 then some (4) else none) else (bif Nat.beq a 146 then some (8) else none)) else (bif Nat.blt a 148 then (bif Nat.beq a 147 then some (6) else none) else (bif Nat.blt a 149 then (bif Nat.beq a 148 then some (3) else none) else (bif Nat.beq a 149 then some (1) else none))))
noncomputable def kd0_2_3 (a : Nat) : Option Nat := bif Nat.blt a 155 then (bif Nat.blt a 152 then (bif Nat.blt a 151 then (bif Nat.beq a 150 then some (2) else none) else (bif Nat.beq a 151 then some (7) else none)) else (bif Nat.blt a 153 then (bif Nat.beq a 152 then some (5) else none) else (bif Nat.blt a 154 then (bif Nat.beq a 153 then some (4) else none) else (bif Nat.beq a 154 then some (8) else none)))) else (bif Nat.blt a 157 then (bif Nat.blt a 156 then (bif Nat.beq a 155 then some (6) else none) else (bif Nat.beq a 156 then some (3) else none)) else (bif Nat.blt a 158 then (bif Nat.beq a 157 then some (1) else none) else (bif Nat.blt a 159 then (bif Nat.beq a 158 then some (2) else none) else (bif Nat.beq a 159 then some (7) else none))))
noncomputable def kd0_2_4 (a : Nat) : Option Nat := bif Nat.blt a 165 then (bif Nat.blt a 162 then (bif Nat.blt a 161 then (bif Nat.beq a 160 then some (5) else none) else (bif Nat.beq a 161 then some (4) else none)) else (bif Nat.blt a 163 then (bif Nat.beq a 162 then some (8) else none) else (bif Nat.blt a 164 then (bif Nat.beq a 163 then some (6) else none) else (bif Nat.beq a 164 then some (3) else none)))) else (bif Nat.blt a 167 then (bif Nat.blt a 166 then (bif Nat.beq a 165 then some (1) else none) else (bif Nat.beq a 166 then some (2) else none)) else (bif Nat.blt a 168 then (bif Nat.beq a 167 then some (7) else none) else (bif Nat.blt a 169 then (bif Nat.beq a 168 then some (5) else none) else (bif Nat.beq a 169 then some (4) else none))))
noncomputable def kd0_2_5 (a : Nat) : Option Nat := bif Nat.blt a 175 then (bif Nat.blt a 172 then (bif Nat.blt a 171 then (bif Nat.beq a 170 then some (8) else none) else (bif Nat.beq a 171 then some (6) else none)) else (bif Nat.blt a 173 then (bif Nat.beq a 172 then some (3) else none) else (bif Nat.blt a 174 then (bif Nat.beq a 173 then some (1) else none) else (bif Nat.beq a 174 then some (2) else none)))) else (bif Nat.blt a 177 then (bif Nat.blt a 176 then (bif Nat.beq a 175 then some (7) else none) else (bif Nat.beq a 176 then some (5) else none)) else (bif Nat.blt a 178 then (bif Nat.beq a 177 then some (4) else none) else (bif Nat.blt a 179 then (bif Nat.beq a 178 then some (8) else none) else (bif Nat.beq a 179 then some (6) else none))))
noncomputable def kd0_2 (a : Nat) : Option Nat := bif Nat.blt a 150 then (bif Nat.blt a 130 then (kd0_2_0 a) else (bif Nat.blt a 140 then (kd0_2_1 a) else (kd0_2_2 a))) else (bif Nat.blt a 160 then (kd0_2_3 a) else (bif Nat.blt a 170 then (kd0_2_4 a) else (kd0_2_5 a)))
noncomputable def kd0_3_0 (a : Nat) : Option Nat := bif Nat.blt a 185 then (bif Nat.blt a 182 then (bif Nat.blt a 181 then (bif Nat.beq a 180 then some (3) else none) else (bif Nat.beq a 181 then some (1) else none)) else (bif Nat.blt a 183 then (bif Nat.beq a 182 then some (2) else none) else (bif Nat.blt a 184 then (bif Nat.beq a 183 then some (7) else none) else (bif Nat.beq a 184 then some (5) else none)))) else (bif Nat.blt a 187 then (bif Nat.blt a 186 then (bif Nat.beq a 185 then some (4) else none) else (bif Nat.beq a 186 then some (8) else none)) else (bif Nat.blt a 188 then (bif Nat.beq a 187 then some (6) else none) else (bif Nat.blt a 189 then (bif Nat.beq a 188 then some (3) else none) else (bif Nat.beq a 189 then some (1) else none))))
noncomputable def kd0_3_1 (a : Nat) : Option Nat := bif Nat.blt a 195 then (bif Nat.blt a 192 then (bif Nat.blt a 191 then (bif Nat.beq a 190 then some (2) else none) else (bif Nat.beq a 191 then some (7) else none)) else (bif Nat.blt a 193 then (bif Nat.beq a 192 then some (5) else none) else (bif Nat.blt a 194 then (bif Nat.beq a 193 then some (4) else none) else (bif Nat.beq a 194 then some (8) else none)))) else (bif Nat.blt a 197 then (bif Nat.blt a 196 then (bif Nat.beq a 195 then some (6) else none) else (bif Nat.beq a 196 then some (3) else none)) else (bif Nat.blt a 198 then (bif Nat.beq a 197 then some (1) else none) else (bif Nat.blt a 199 then (bif Nat.beq a 198 then some (2) else none) else (bif Nat.beq a 199 then some (7) else none))))
noncomputable def kd0_3_2 (a : Nat) : Option Nat := bif Nat.blt a 205 then (bif Nat.blt a 202 then (bif Nat.blt a 201 then (bif Nat.beq a 200 then some (5) else none) else (bif Nat.beq a 201 then some (4) else none)) else (bif Nat.blt a 203 then (bif Nat.beq a 202 then some (8) else none) else (bif Nat.blt a 204 then (bif Nat.beq a 203 then some (6) else none) else (bif Nat.beq a 204 then some (3) else none)))) else (bif Nat.blt a 207 then (bif Nat.blt a 206 then (bif Nat.beq a 205 then some (1) else none) else (bif Nat.beq a 206 then some (2) else none)) else (bif Nat.blt a 208 then (bif Nat.beq a 207 then some (7) else none) else (bif Nat.blt a 209 then (bif Nat.beq a 208 then some (5) else none) else (bif Nat.beq a 209 then some (4) else none))))
noncomputable def kd0_3_3 (a : Nat) : Option Nat := bif Nat.blt a 215 then (bif Nat.blt a 212 then (bif Nat.blt a 211 then (bif Nat.beq a 210 then some (8) else none) else (bif Nat.beq a 211 then some (6) else none)) else (bif Nat.blt a 213 then (bif Nat.beq a 212 then some (3) else none) else (bif Nat.blt a 214 then (bif Nat.beq a 213 then some (1) else none) else (bif Nat.beq a 214 then some (2) else none)))) else (bif Nat.blt a 217 then (bif Nat.blt a 216 then (bif Nat.beq a 215 then some (7) else none) else (bif Nat.beq a 216 then some (5) else none)) else (bif Nat.blt a 218 then (bif Nat.beq a 217 then some (4) else none) else (bif Nat.blt a 219 then (bif Nat.beq a 218 then some (8) else none) else (bif Nat.beq a 219 then some (6) else none))))
noncomputable def kd0_3_4 (a : Nat) : Option Nat := bif Nat.blt a 225 then (bif Nat.blt a 222 then (bif Nat.blt a 221 then (bif Nat.beq a 220 then some (3) else none) else (bif Nat.beq a 221 then some (1) else none)) else (bif Nat.blt a 223 then (bif Nat.beq a 222 then some (2) else none) else (bif Nat.blt a 224 then (bif Nat.beq a 223 then some (7) else none) else (bif Nat.beq a 224 then some (5) else none)))) else (bif Nat.blt a 227 then (bif Nat.blt a 226 then (bif Nat.beq a 225 then some (4) else none) else (bif Nat.beq a 226 then some (8) else none)) else (bif Nat.blt a 228 then (bif Nat.beq a 227 then some (6) else none) else (bif Nat.blt a 229 then (bif Nat.beq a 228 then some (3) else none) else (bif Nat.beq a 229 then some (1) else none))))
noncomputable def kd0_3_5 (a : Nat) : Option Nat := bif Nat.blt a 235 then (bif Nat.blt a 232 then (bif Nat.blt a 231 then (bif Nat.beq a 230 then some (2) else none) else (bif Nat.beq a 231 then some (7) else none)) else (bif Nat.blt a 233 then (bif Nat.beq a 232 then some (5) else none) else (bif Nat.blt a 234 then (bif Nat.beq a 233 then some (4) else none) else (bif Nat.beq a 234 then some (8) else none)))) else (bif Nat.blt a 237 then (bif Nat.blt a 236 then (bif Nat.beq a 235 then some (6) else none) else (bif Nat.beq a 236 then some (3) else none)) else (bif Nat.blt a 238 then (bif Nat.beq a 237 then some (1) else none) else (bif Nat.blt a 239 then (bif Nat.beq a 238 then some (2) else none) else (bif Nat.beq a 239 then some (7) else none))))
noncomputable def kd0_3 (a : Nat) : Option Nat := bif Nat.blt a 210 then (bif Nat.blt a 190 then (kd0_3_0 a) else (bif Nat.blt a 200 then (kd0_3_1 a) else (kd0_3_2 a))) else (bif Nat.blt a 220 then (kd0_3_3 a) else (bif Nat.blt a 230 then (kd0_3_4 a) else (kd0_3_5 a)))
noncomputable def kd0_4_0 (a : Nat) : Option Nat := bif Nat.blt a 245 then (bif Nat.blt a 242 then (bif Nat.blt a 241 then (bif Nat.beq a 240 then some (5) else none) else (bif Nat.beq a 241 then some (4) else none)) else (bif Nat.blt a 243 then (bif Nat.beq a 242 then some (8) else none) else (bif Nat.blt a 244 then (bif Nat.beq a 243 then some (6) else none) else (bif Nat.beq a 244 then some (3) else none)))) else (bif Nat.blt a 247 then (bif Nat.blt a 246 then (bif Nat.beq a 245 then some (1) else none) else (bif Nat.beq a 246 then some (2) else none)) else (bif Nat.blt a 248 then (bif Nat.beq a 247 then some (7) else none) else (bif Nat.blt a 249 then (bif Nat.beq a 248 then some (5) else none) else (bif Nat.beq a 249 then some (4) else none))))
noncomputable def kd0_4_1 (a : Nat) : Option Nat := bif Nat.blt a 255 then (bif Nat.blt a 252 then (bif Nat.blt a 251 then (bif Nat.beq a 250 then some (8) else none) else (bif Nat.beq a 251 then some (6) else none)) else (bif Nat.blt a 253 then (bif Nat.beq a 252 then some (3) else none) else (bif Nat.blt a 254 then (bif Nat.beq a 253 then some (1) else none) else (bif Nat.beq a 254 then some (2) else none)))) else (bif Nat.blt a 257 then (bif Nat.blt a 256 then (bif Nat.beq a 255 then some (7) else none) else (bif Nat.beq a 256 then some (5) else none)) else (bif Nat.blt a 258 then (bif Nat.beq a 257 then some (4) else none) else (bif Nat.blt a 259 then (bif Nat.beq a 258 then some (8) else none) else (bif Nat.beq a 259 then some (6) else none))))
noncomputable def kd0_4_2 (a : Nat) : Option Nat := bif Nat.blt a 265 then (bif Nat.blt a 262 then (bif Nat.blt a 261 then (bif Nat.beq a 260 then some (3) else none) else (bif Nat.beq a 261 then some (1) else none)) else (bif Nat.blt a 263 then (bif Nat.beq a 262 then some (2) else none) else (bif Nat.blt a 264 then (bif Nat.beq a 263 then some (7) else none) else (bif Nat.beq a 264 then some (5) else none)))) else (bif Nat.blt a 267 then (bif Nat.blt a 266 then (bif Nat.beq a 265 then some (4) else none) else (bif Nat.beq a 266 then some (8) else none)) else (bif Nat.blt a 268 then (bif Nat.beq a 267 then some (6) else none) else (bif Nat.blt a 269 then (bif Nat.beq a 268 then some (3) else none) else (bif Nat.beq a 269 then some (1) else none))))
noncomputable def kd0_4_3 (a : Nat) : Option Nat := bif Nat.blt a 275 then (bif Nat.blt a 272 then (bif Nat.blt a 271 then (bif Nat.beq a 270 then some (2) else none) else (bif Nat.beq a 271 then some (7) else none)) else (bif Nat.blt a 273 then (bif Nat.beq a 272 then some (5) else none) else (bif Nat.blt a 274 then (bif Nat.beq a 273 then some (4) else none) else (bif Nat.beq a 274 then some (8) else none)))) else (bif Nat.blt a 277 then (bif Nat.blt a 276 then (bif Nat.beq a 275 then some (6) else none) else (bif Nat.beq a 276 then some (3) else none)) else (bif Nat.blt a 278 then (bif Nat.beq a 277 then some (1) else none) else (bif Nat.blt a 279 then (bif Nat.beq a 278 then some (2) else none) else (bif Nat.beq a 279 then some (7) else none))))
noncomputable def kd0_4_4 (a : Nat) : Option Nat := bif Nat.blt a 285 then (bif Nat.blt a 282 then (bif Nat.blt a 281 then (bif Nat.beq a 280 then some (5) else none) else (bif Nat.beq a 281 then some (4) else none)) else (bif Nat.blt a 283 then (bif Nat.beq a 282 then some (8) else none) else (bif Nat.blt a 284 then (bif Nat.beq a 283 then some (6) else none) else (bif Nat.beq a 284 then some (3) else none)))) else (bif Nat.blt a 287 then (bif Nat.blt a 286 then (bif Nat.beq a 285 then some (1) else none) else (bif Nat.beq a 286 then some (2) else none)) else (bif Nat.blt a 288 then (bif Nat.beq a 287 then some (7) else none) else (bif Nat.blt a 289 then (bif Nat.beq a 288 then some (5) else none) else (bif Nat.beq a 289 then some (4) else none))))
noncomputable def kd0_4_5 (a : Nat) : Option Nat := bif Nat.blt a 295 then (bif Nat.blt a 292 then (bif Nat.blt a 291 then (bif Nat.beq a 290 then some (8) else none) else (bif Nat.beq a 291 then some (6) else none)) else (bif Nat.blt a 293 then (bif Nat.beq a 292 then some (3) else none) else (bif Nat.blt a 294 then (bif Nat.beq a 293 then some (1) else none) else (bif Nat.beq a 294 then some (2) else none)))) else (bif Nat.blt a 297 then (bif Nat.blt a 296 then (bif Nat.beq a 295 then some (7) else none) else (bif Nat.beq a 296 then some (5) else none)) else (bif Nat.blt a 298 then (bif Nat.beq a 297 then some (4) else none) else (bif Nat.blt a 299 then (bif Nat.beq a 298 then some (8) else none) else (bif Nat.beq a 299 then some (6) else none))))
noncomputable def kd0_4 (a : Nat) : Option Nat := bif Nat.blt a 270 then (bif Nat.blt a 250 then (kd0_4_0 a) else (bif Nat.blt a 260 then (kd0_4_1 a) else (kd0_4_2 a))) else (bif Nat.blt a 280 then (kd0_4_3 a) else (bif Nat.blt a 290 then (kd0_4_4 a) else (kd0_4_5 a)))
noncomputable def kd0_5_0 (a : Nat) : Option Nat := bif Nat.blt a 305 then (bif Nat.blt a 302 then (bif Nat.blt a 301 then (bif Nat.beq a 300 then some (3) else none) else (bif Nat.beq a 301 then some (1) else none)) else (bif Nat.blt a 303 then (bif Nat.beq a 302 then some (2) else none) else (bif Nat.blt a 304 then (bif Nat.beq a 303 then some (7) else none) else (bif Nat.beq a 304 then some (5) else none)))) else (bif Nat.blt a 307 then (bif Nat.blt a 306 then (bif Nat.beq a 305 then some (4) else none) else (bif Nat.beq a 306 then some (8) else none)) else (bif Nat.blt a 308 then (bif Nat.beq a 307 then some (6) else none) else (bif Nat.blt a 309 then (bif Nat.beq a 308 then some (3) else none) else (bif Nat.beq a 309 then some (1) else none))))
noncomputable def kd0_5_1 (a : Nat) : Option Nat := bif Nat.blt a 315 then (bif Nat.blt a 312 then (bif Nat.blt a 311 then (bif Nat.beq a 310 then some (2) else none) else (bif Nat.beq a 311 then some (7) else none)) else (bif Nat.blt a 313 then (bif Nat.beq a 312 then some (5) else none) else (bif Nat.blt a 314 then (bif Nat.beq a 313 then some (4) else none) else (bif Nat.beq a 314 then some (8) else none)))) else (bif Nat.blt a 317 then (bif Nat.blt a 316 then (bif Nat.beq a 315 then some (6) else none) else (bif Nat.beq a 316 then some (3) else none)) else (bif Nat.blt a 318 then (bif Nat.beq a 317 then some (1) else none) else (bif Nat.blt a 319 then (bif Nat.beq a 318 then some (2) else none) else (bif Nat.beq a 319 then some (7) else none))))
noncomputable def kd0_5_2 (a : Nat) : Option Nat := bif Nat.blt a 325 then (bif Nat.blt a 322 then (bif Nat.blt a 321 then (bif Nat.beq a 320 then some (5) else none) else (bif Nat.beq a 321 then some (4) else none)) else (bif Nat.blt a 323 then (bif Nat.beq a 322 then some (8) else none) else (bif Nat.blt a 324 then (bif Nat.beq a 323 then some (6) else none) else (bif Nat.beq a 324 then some (3) else none)))) else (bif Nat.blt a 327 then (bif Nat.blt a 326 then (bif Nat.beq a 325 then some (1) else none) else (bif Nat.beq a 326 then some (2) else none)) else (bif Nat.blt a 328 then (bif Nat.beq a 327 then some (7) else none) else (bif Nat.blt a 329 then (bif Nat.beq a 328 then some (5) else none) else (bif Nat.beq a 329 then some (4) else none))))
noncomputable def kd0_5_3 (a : Nat) : Option Nat := bif Nat.blt a 335 then (bif Nat.blt a 332 then (bif Nat.blt a 331 then (bif Nat.beq a 330 then some (8) else none) else (bif Nat.beq a 331 then some (6) else none)) else (bif Nat.blt a 333 then (bif Nat.beq a 332 then some (3) else none) else (bif Nat.blt a 334 then (bif Nat.beq a 333 then some (1) else none) else (bif Nat.beq a 334 then some (2) else none)))) else (bif Nat.blt a 337 then (bif Nat.blt a 336 then (bif Nat.beq a 335 then some (7) else none) else (bif Nat.beq a 336 then some (5) else none)) else (bif Nat.blt a 338 then (bif Nat.beq a 337 then some (4) else none) else (bif Nat.blt a 339 then (bif Nat.beq a 338 then some (8) else none) else (bif Nat.beq a 339 then some (6) else none))))
noncomputable def kd0_5_4 (a : Nat) : Option Nat := bif Nat.blt a 345 then (bif Nat.blt a 342 then (bif Nat.blt a 341 then (bif Nat.beq a 340 then some (3) else none) else (bif Nat.beq a 341 then some (1) else none)) else (bif Nat.blt a 343 then (bif Nat.beq a 342 then some (2) else none) else (bif Nat.blt a 344 then (bif Nat.beq a 343 then some (7) else none) else (bif Nat.beq a 344 then some (5) else none)))) else (bif Nat.blt a 347 then (bif Nat.blt a 346 then (bif Nat.beq a 345 then some (4) else none) else (bif Nat.beq a 346 then some (8) else none)) else (bif Nat.blt a 348 then (bif Nat.beq a 347 then some (6) else none) else (bif Nat.blt a 349 then (bif Nat.beq a 348 then some (3) else none) else (bif Nat.beq a 349 then some (1) else none))))
noncomputable def kd0_5_5 (a : Nat) : Option Nat := bif Nat.blt a 355 then (bif Nat.blt a 352 then (bif Nat.blt a 351 then (bif Nat.beq a 350 then some (2) else none) else (bif Nat.beq a 351 then some (7) else none)) else (bif Nat.blt a 353 then (bif Nat.beq a 352 then some (5) else none) else (bif Nat.blt a 354 then (bif Nat.beq a 353 then some (4) else none) else (bif Nat.beq a 354 then some (8) else none)))) else (bif Nat.blt a 357 then (bif Nat.blt a 356 then (bif Nat.beq a 355 then some (6) else none) else (bif Nat.beq a 356 then some (3) else none)) else (bif Nat.blt a 358 then (bif Nat.beq a 357 then some (1) else none) else (bif Nat.blt a 359 then (bif Nat.beq a 358 then some (2) else none) else (bif Nat.beq a 359 then some (7) else none))))
noncomputable def kd0_5 (a : Nat) : Option Nat := bif Nat.blt a 330 then (bif Nat.blt a 310 then (kd0_5_0 a) else (bif Nat.blt a 320 then (kd0_5_1 a) else (kd0_5_2 a))) else (bif Nat.blt a 340 then (kd0_5_3 a) else (bif Nat.blt a 350 then (kd0_5_4 a) else (kd0_5_5 a)))
noncomputable def kd0_6_0 (a : Nat) : Option Nat := bif Nat.blt a 365 then (bif Nat.blt a 362 then (bif Nat.blt a 361 then (bif Nat.beq a 360 then some (5) else none) else (bif Nat.beq a 361 then some (4) else none)) else (bif Nat.blt a 363 then (bif Nat.beq a 362 then some (8) else none) else (bif Nat.blt a 364 then (bif Nat.beq a 363 then some (6) else none) else (bif Nat.beq a 364 then some (3) else none)))) else (bif Nat.blt a 367 then (bif Nat.blt a 366 then (bif Nat.beq a 365 then some (1) else none) else (bif Nat.beq a 366 then some (2) else none)) else (bif Nat.blt a 368 then (bif Nat.beq a 367 then some (7) else none) else (bif Nat.blt a 369 then (bif Nat.beq a 368 then some (5) else none) else (bif Nat.beq a 369 then some (4) else none))))
noncomputable def kd0_6_1 (a : Nat) : Option Nat := bif Nat.blt a 375 then (bif Nat.blt a 372 then (bif Nat.blt a 371 then (bif Nat.beq a 370 then some (8) else none) else (bif Nat.beq a 371 then some (6) else none)) else (bif Nat.blt a 373 then (bif Nat.beq a 372 then some (3) else none) else (bif Nat.blt a 374 then (bif Nat.beq a 373 then some (1) else none) else (bif Nat.beq a 374 then some (2) else none)))) else (bif Nat.blt a 377 then (bif Nat.blt a 376 then (bif Nat.beq a 375 then some (7) else none) else (bif Nat.beq a 376 then some (5) else none)) else (bif Nat.blt a 378 then (bif Nat.beq a 377 then some (4) else none) else (bif Nat.blt a 379 then (bif Nat.beq a 378 then some (8) else none) else (bif Nat.beq a 379 then some (6) else none))))
noncomputable def kd0_6_2 (a : Nat) : Option Nat := bif Nat.blt a 385 then (bif Nat.blt a 382 then (bif Nat.blt a 381 then (bif Nat.beq a 380 then some (3) else none) else (bif Nat.beq a 381 then some (1) else none)) else (bif Nat.blt a 383 then (bif Nat.beq a 382 then some (2) else none) else (bif Nat.blt a 384 then (bif Nat.beq a 383 then some (7) else none) else (bif Nat.beq a 384 then some (5) else none)))) else (bif Nat.blt a 387 then (bif Nat.blt a 386 then (bif Nat.beq a 385 then some (4) else none) else (bif Nat.beq a 386 then some (8) else none)) else (bif Nat.blt a 388 then (bif Nat.beq a 387 then some (6) else none) else (bif Nat.blt a 389 then (bif Nat.beq a 388 then some (3) else none) else (bif Nat.beq a 389 then some (1) else none))))
noncomputable def kd0_6_3 (a : Nat) : Option Nat := bif Nat.blt a 395 then (bif Nat.blt a 392 then (bif Nat.blt a 391 then (bif Nat.beq a 390 then some (2) else none) else (bif Nat.beq a 391 then some (7) else none)) else (bif Nat.blt a 393 then (bif Nat.beq a 392 then some (5) else none) else (bif Nat.blt a 394 then (bif Nat.beq a 393 then some (4) else none) else (bif Nat.beq a 394 then some (8) else none)))) else (bif Nat.blt a 397 then (bif Nat.blt a 396 then (bif Nat.beq a 395 then some (6) else none) else (bif Nat.beq a 396 then some (3) else none)) else (bif Nat.blt a 398 then (bif Nat.beq a 397 then some (1) else none) else (bif Nat.blt a 399 then (bif Nat.beq a 398 then some (2) else none) else (bif Nat.beq a 399 then some (7) else none))))
noncomputable def kd0_6_4 (a : Nat) : Option Nat := bif Nat.blt a 405 then (bif Nat.blt a 402 then (bif Nat.blt a 401 then (bif Nat.beq a 400 then some (5) else none) else (bif Nat.beq a 401 then some (4) else none)) else (bif Nat.blt a 403 then (bif Nat.beq a 402 then some (8) else none) else (bif Nat.blt a 404 then (bif Nat.beq a 403 then some (6) else none) else (bif Nat.beq a 404 then some (3) else none)))) else (bif Nat.blt a 407 then (bif Nat.blt a 406 then (bif Nat.beq a 405 then some (1) else none) else (bif Nat.beq a 406 then some (2) else none)) else (bif Nat.blt a 408 then (bif Nat.beq a 407 then some (7) else none) else (bif Nat.blt a 409 then (bif Nat.beq a 408 then some (5) else none) else (bif Nat.beq a 409 then some (4) else none))))
noncomputable def kd0_6_5 (a : Nat) : Option Nat := bif Nat.blt a 415 then (bif Nat.blt a 412 then (bif Nat.blt a 411 then (bif Nat.beq a 410 then some (8) else none) else (bif Nat.beq a 411 then some (6) else none)) else (bif Nat.blt a 413 then (bif Nat.beq a 412 then some (3) else none) else (bif Nat.blt a 414 then (bif Nat.beq a 413 then some (44) else none) else (bif Nat.beq a 414 then some (47) else none)))) else (bif Nat.blt a 417 then (bif Nat.blt a 416 then (bif Nat.beq a 415 then some (51) else none) else (bif Nat.beq a 416 then some (48) else none)) else (bif Nat.blt a 418 then (bif Nat.beq a 417 then some (50) else none) else (bif Nat.blt a 419 then (bif Nat.beq a 418 then some (49) else none) else (bif Nat.beq a 419 then some (46) else none))))
noncomputable def kd0_6 (a : Nat) : Option Nat := bif Nat.blt a 390 then (bif Nat.blt a 370 then (kd0_6_0 a) else (bif Nat.blt a 380 then (kd0_6_1 a) else (kd0_6_2 a))) else (bif Nat.blt a 400 then (kd0_6_3 a) else (bif Nat.blt a 410 then (kd0_6_4 a) else (kd0_6_5 a)))
noncomputable def kd0_7_0 (a : Nat) : Option Nat := bif Nat.blt a 425 then (bif Nat.blt a 422 then (bif Nat.blt a 421 then (bif Nat.beq a 420 then some (45) else none) else (bif Nat.beq a 421 then some (22) else none)) else (bif Nat.blt a 423 then (bif Nat.beq a 422 then some (25) else none) else (bif Nat.blt a 424 then (bif Nat.beq a 423 then some (27) else none) else (bif Nat.beq a 424 then some (29) else none)))) else (bif Nat.blt a 427 then (bif Nat.blt a 426 then (bif Nat.beq a 425 then some (28) else none) else (bif Nat.beq a 426 then some (31) else none)) else (bif Nat.blt a 428 then (bif Nat.beq a 427 then some (32) else none) else (bif Nat.blt a 429 then (bif Nat.beq a 428 then some (30) else none) else (bif Nat.beq a 429 then some (47) else none))))
noncomputable def kd0_7_1 (a : Nat) : Option Nat := bif Nat.blt a 435 then (bif Nat.blt a 432 then (bif Nat.blt a 431 then (bif Nat.beq a 430 then some (51) else none) else (bif Nat.beq a 431 then some (48) else none)) else (bif Nat.blt a 433 then (bif Nat.beq a 432 then some (50) else none) else (bif Nat.blt a 434 then (bif Nat.beq a 433 then some (49) else none) else (bif Nat.beq a 434 then some (23) else none)))) else (bif Nat.blt a 437 then (bif Nat.blt a 436 then (bif Nat.beq a 435 then some (26) else none) else (bif Nat.beq a 436 then some (24) else none)) else (bif Nat.blt a 438 then (bif Nat.beq a 437 then some (18) else none) else (bif Nat.blt a 439 then (bif Nat.beq a 438 then some (19) else none) else (bif Nat.beq a 439 then some (20) else none))))
noncomputable def kd0_7_2 (a : Nat) : Option Nat := bif Nat.blt a 445 then (bif Nat.blt a 442 then (bif Nat.blt a 441 then (bif Nat.beq a 440 then some (21) else none) else (bif Nat.beq a 441 then some (33) else none)) else (bif Nat.blt a 443 then (bif Nat.beq a 442 then some (34) else none) else (bif Nat.blt a 444 then (bif Nat.beq a 443 then some (52) else none) else (bif Nat.beq a 444 then some (54) else none)))) else (bif Nat.blt a 447 then (bif Nat.blt a 446 then (bif Nat.beq a 445 then some (53) else none) else (bif Nat.beq a 446 then some (52) else none)) else (bif Nat.blt a 448 then (bif Nat.beq a 447 then some (54) else none) else (bif Nat.blt a 449 then (bif Nat.beq a 448 then some (53) else none) else (bif Nat.beq a 449 then some (52) else none))))
noncomputable def kd0_7_3 (a : Nat) : Option Nat := bif Nat.blt a 455 then (bif Nat.blt a 452 then (bif Nat.blt a 451 then (bif Nat.beq a 450 then some (54) else none) else (bif Nat.beq a 451 then some (53) else none)) else (bif Nat.blt a 453 then (bif Nat.beq a 452 then some (52) else none) else (bif Nat.blt a 454 then (bif Nat.beq a 453 then some (54) else none) else (bif Nat.beq a 454 then some (53) else none)))) else (bif Nat.blt a 457 then (bif Nat.blt a 456 then (bif Nat.beq a 455 then some (52) else none) else (bif Nat.beq a 456 then some (54) else none)) else (bif Nat.blt a 458 then (bif Nat.beq a 457 then some (53) else none) else (bif Nat.blt a 459 then (bif Nat.beq a 458 then some (52) else none) else (bif Nat.beq a 459 then some (54) else none))))
noncomputable def kd0_7_4 (a : Nat) : Option Nat := bif Nat.blt a 465 then (bif Nat.blt a 462 then (bif Nat.blt a 461 then (bif Nat.beq a 460 then some (53) else none) else (bif Nat.beq a 461 then some (52) else none)) else (bif Nat.blt a 463 then (bif Nat.beq a 462 then some (54) else none) else (bif Nat.blt a 464 then (bif Nat.beq a 463 then some (53) else none) else (bif Nat.beq a 464 then some (52) else none)))) else (bif Nat.blt a 467 then (bif Nat.blt a 466 then (bif Nat.beq a 465 then some (54) else none) else (bif Nat.beq a 466 then some (53) else none)) else (bif Nat.blt a 468 then (bif Nat.beq a 467 then some (14) else none) else (bif Nat.blt a 469 then (bif Nat.beq a 468 then some (27) else none) else (bif Nat.beq a 469 then some (29) else none))))
noncomputable def kd0_7_5 (a : Nat) : Option Nat := bif Nat.blt a 475 then (bif Nat.blt a 472 then (bif Nat.blt a 471 then (bif Nat.beq a 470 then some (28) else none) else (bif Nat.beq a 471 then some (31) else none)) else (bif Nat.blt a 473 then (bif Nat.beq a 472 then some (32) else none) else (bif Nat.blt a 474 then (bif Nat.beq a 473 then some (30) else none) else (bif Nat.beq a 474 then some (14) else none)))) else (bif Nat.blt a 477 then (bif Nat.blt a 476 then (bif Nat.beq a 475 then some (27) else none) else (bif Nat.beq a 476 then some (29) else none)) else (bif Nat.blt a 478 then (bif Nat.beq a 477 then some (28) else none) else (bif Nat.blt a 479 then (bif Nat.beq a 478 then some (31) else none) else (bif Nat.beq a 479 then some (32) else none))))
noncomputable def kd0_7 (a : Nat) : Option Nat := bif Nat.blt a 450 then (bif Nat.blt a 430 then (kd0_7_0 a) else (bif Nat.blt a 440 then (kd0_7_1 a) else (kd0_7_2 a))) else (bif Nat.blt a 460 then (kd0_7_3 a) else (bif Nat.blt a 470 then (kd0_7_4 a) else (kd0_7_5 a)))
noncomputable def kd0_8_0 (a : Nat) : Option Nat := bif Nat.blt a 485 then (bif Nat.blt a 482 then (bif Nat.blt a 481 then (bif Nat.beq a 480 then some (30) else none) else (bif Nat.beq a 481 then some (14) else none)) else (bif Nat.blt a 483 then (bif Nat.beq a 482 then some (27) else none) else (bif Nat.blt a 484 then (bif Nat.beq a 483 then some (29) else none) else (bif Nat.beq a 484 then some (28) else none)))) else (bif Nat.blt a 487 then (bif Nat.blt a 486 then (bif Nat.beq a 485 then some (31) else none) else (bif Nat.beq a 486 then some (32) else none)) else (bif Nat.blt a 488 then (bif Nat.beq a 487 then some (30) else none) else (bif Nat.blt a 489 then (bif Nat.beq a 488 then some (14) else none) else (bif Nat.beq a 489 then some (27) else none))))
noncomputable def kd0_8_1 (a : Nat) : Option Nat := bif Nat.blt a 495 then (bif Nat.blt a 492 then (bif Nat.blt a 491 then (bif Nat.beq a 490 then some (29) else none) else (bif Nat.beq a 491 then some (28) else none)) else (bif Nat.blt a 493 then (bif Nat.beq a 492 then some (31) else none) else (bif Nat.blt a 494 then (bif Nat.beq a 493 then some (32) else none) else (bif Nat.beq a 494 then some (30) else none)))) else (bif Nat.blt a 497 then (bif Nat.blt a 496 then (bif Nat.beq a 495 then some (14) else none) else (bif Nat.beq a 496 then some (27) else none)) else (bif Nat.blt a 498 then (bif Nat.beq a 497 then some (29) else none) else (bif Nat.blt a 499 then (bif Nat.beq a 498 then some (28) else none) else (bif Nat.beq a 499 then some (31) else none))))
noncomputable def kd0_8_2 (a : Nat) : Option Nat := bif Nat.blt a 505 then (bif Nat.blt a 502 then (bif Nat.blt a 501 then (bif Nat.beq a 500 then some (32) else none) else (bif Nat.beq a 501 then some (30) else none)) else (bif Nat.blt a 503 then (bif Nat.beq a 502 then some (14) else none) else (bif Nat.blt a 504 then (bif Nat.beq a 503 then some (27) else none) else (bif Nat.beq a 504 then some (29) else none)))) else (bif Nat.blt a 507 then (bif Nat.blt a 506 then (bif Nat.beq a 505 then some (28) else none) else (bif Nat.beq a 506 then some (31) else none)) else (bif Nat.blt a 508 then (bif Nat.beq a 507 then some (32) else none) else (bif Nat.blt a 509 then (bif Nat.beq a 508 then some (30) else none) else (bif Nat.beq a 509 then some (14) else none))))
noncomputable def kd0_8_3 (a : Nat) : Option Nat := bif Nat.blt a 515 then (bif Nat.blt a 512 then (bif Nat.blt a 511 then (bif Nat.beq a 510 then some (27) else none) else (bif Nat.beq a 511 then some (29) else none)) else (bif Nat.blt a 513 then (bif Nat.beq a 512 then some (28) else none) else (bif Nat.blt a 514 then (bif Nat.beq a 513 then some (31) else none) else (bif Nat.beq a 514 then some (32) else none)))) else (bif Nat.blt a 517 then (bif Nat.blt a 516 then (bif Nat.beq a 515 then some (30) else none) else (bif Nat.beq a 516 then some (14) else none)) else (bif Nat.blt a 518 then (bif Nat.beq a 517 then some (27) else none) else (bif Nat.blt a 519 then (bif Nat.beq a 518 then some (29) else none) else (bif Nat.beq a 519 then some (28) else none))))
noncomputable def kd0_8_4 (a : Nat) : Option Nat := bif Nat.blt a 525 then (bif Nat.blt a 522 then (bif Nat.blt a 521 then (bif Nat.beq a 520 then some (31) else none) else (bif Nat.beq a 521 then some (32) else none)) else (bif Nat.blt a 523 then (bif Nat.beq a 522 then some (30) else none) else (bif Nat.blt a 524 then (bif Nat.beq a 523 then some (38) else none) else (bif Nat.beq a 524 then some (36) else none)))) else (bif Nat.blt a 527 then (bif Nat.blt a 526 then (bif Nat.beq a 525 then some (37) else none) else (bif Nat.beq a 526 then some (33) else none)) else (bif Nat.blt a 528 then (bif Nat.beq a 527 then some (34) else none) else (bif Nat.blt a 529 then (bif Nat.beq a 528 then some (33) else none) else (bif Nat.beq a 529 then some (34) else none))))
noncomputable def kd0_8_5 (a : Nat) : Option Nat := bif Nat.blt a 535 then (bif Nat.blt a 532 then (bif Nat.blt a 531 then (bif Nat.beq a 530 then some (33) else none) else (bif Nat.beq a 531 then some (34) else none)) else (bif Nat.blt a 533 then (bif Nat.beq a 532 then some (33) else none) else (bif Nat.blt a 534 then (bif Nat.beq a 533 then some (34) else none) else (bif Nat.beq a 534 then some (33) else none)))) else (bif Nat.blt a 537 then (bif Nat.blt a 536 then (bif Nat.beq a 535 then some (34) else none) else (bif Nat.beq a 536 then some (33) else none)) else (bif Nat.blt a 538 then (bif Nat.beq a 537 then some (34) else none) else (bif Nat.blt a 539 then (bif Nat.beq a 538 then some (33) else none) else (bif Nat.beq a 539 then some (34) else none))))
noncomputable def kd0_8 (a : Nat) : Option Nat := bif Nat.blt a 510 then (bif Nat.blt a 490 then (kd0_8_0 a) else (bif Nat.blt a 500 then (kd0_8_1 a) else (kd0_8_2 a))) else (bif Nat.blt a 520 then (kd0_8_3 a) else (bif Nat.blt a 530 then (kd0_8_4 a) else (kd0_8_5 a)))
noncomputable def kd0_9_0 (a : Nat) : Option Nat := bif Nat.blt a 545 then (bif Nat.blt a 542 then (bif Nat.blt a 541 then (bif Nat.beq a 540 then some (33) else none) else (bif Nat.beq a 541 then some (34) else none)) else (bif Nat.blt a 543 then (bif Nat.beq a 542 then some (33) else none) else (bif Nat.blt a 544 then (bif Nat.beq a 543 then some (34) else none) else (bif Nat.beq a 544 then some (33) else none)))) else (bif Nat.blt a 547 then (bif Nat.blt a 546 then (bif Nat.beq a 545 then some (34) else none) else (bif Nat.beq a 546 then some (33) else none)) else (bif Nat.blt a 548 then (bif Nat.beq a 547 then some (34) else none) else (bif Nat.blt a 549 then (bif Nat.beq a 548 then some (33) else none) else (bif Nat.beq a 549 then some (34) else none))))
noncomputable def kd0_9_1 (a : Nat) : Option Nat := bif Nat.blt a 555 then (bif Nat.blt a 552 then (bif Nat.blt a 551 then (bif Nat.beq a 550 then some (33) else none) else (bif Nat.beq a 551 then some (34) else none)) else (bif Nat.blt a 553 then (bif Nat.beq a 552 then some (33) else none) else (bif Nat.blt a 554 then (bif Nat.beq a 553 then some (34) else none) else (bif Nat.beq a 554 then some (33) else none)))) else (bif Nat.blt a 557 then (bif Nat.blt a 556 then (bif Nat.beq a 555 then some (34) else none) else (bif Nat.beq a 556 then some (33) else none)) else (bif Nat.blt a 558 then (bif Nat.beq a 557 then some (34) else none) else (bif Nat.blt a 559 then (bif Nat.beq a 558 then some (33) else none) else (bif Nat.beq a 559 then some (34) else none))))
noncomputable def kd0_9_2 (a : Nat) : Option Nat := bif Nat.blt a 565 then (bif Nat.blt a 562 then (bif Nat.blt a 561 then (bif Nat.beq a 560 then some (33) else none) else (bif Nat.beq a 561 then some (34) else none)) else (bif Nat.blt a 563 then (bif Nat.beq a 562 then some (33) else none) else (bif Nat.blt a 564 then (bif Nat.beq a 563 then some (34) else none) else (bif Nat.beq a 564 then some (33) else none)))) else (bif Nat.blt a 567 then (bif Nat.blt a 566 then (bif Nat.beq a 565 then some (34) else none) else (bif Nat.beq a 566 then some (33) else none)) else (bif Nat.blt a 568 then (bif Nat.beq a 567 then some (34) else none) else (bif Nat.blt a 569 then (bif Nat.beq a 568 then some (33) else none) else (bif Nat.beq a 569 then some (34) else none))))
noncomputable def kd0_9_3 (a : Nat) : Option Nat := bif Nat.blt a 575 then (bif Nat.blt a 572 then (bif Nat.blt a 571 then (bif Nat.beq a 570 then some (33) else none) else (bif Nat.beq a 571 then some (34) else none)) else (bif Nat.blt a 573 then (bif Nat.beq a 572 then some (33) else none) else (bif Nat.blt a 574 then (bif Nat.beq a 573 then some (34) else none) else (bif Nat.beq a 574 then some (15) else none)))) else (bif Nat.blt a 577 then (bif Nat.blt a 576 then (bif Nat.beq a 575 then some (17) else none) else (bif Nat.beq a 576 then some (16) else none)) else (bif Nat.blt a 578 then (bif Nat.beq a 577 then some (15) else none) else (bif Nat.blt a 579 then (bif Nat.beq a 578 then some (17) else none) else (bif Nat.beq a 579 then some (16) else none))))
noncomputable def kd0_9_4 (a : Nat) : Option Nat := bif Nat.blt a 585 then (bif Nat.blt a 582 then (bif Nat.blt a 581 then (bif Nat.beq a 580 then some (15) else none) else (bif Nat.beq a 581 then some (17) else none)) else (bif Nat.blt a 583 then (bif Nat.beq a 582 then some (16) else none) else (bif Nat.blt a 584 then (bif Nat.beq a 583 then some (15) else none) else (bif Nat.beq a 584 then some (17) else none)))) else (bif Nat.blt a 587 then (bif Nat.blt a 586 then (bif Nat.beq a 585 then some (16) else none) else (bif Nat.beq a 586 then some (15) else none)) else (bif Nat.blt a 588 then (bif Nat.beq a 587 then some (17) else none) else (bif Nat.blt a 589 then (bif Nat.beq a 588 then some (16) else none) else (bif Nat.beq a 589 then some (15) else none))))
noncomputable def kd0_9_5 (a : Nat) : Option Nat := bif Nat.blt a 594 then (bif Nat.blt a 592 then (bif Nat.blt a 591 then (bif Nat.beq a 590 then some (17) else none) else (bif Nat.beq a 591 then some (16) else none)) else (bif Nat.blt a 593 then (bif Nat.beq a 592 then some (15) else none) else (bif Nat.beq a 593 then some (17) else none))) else (bif Nat.blt a 596 then (bif Nat.blt a 595 then (bif Nat.beq a 594 then some (16) else none) else (bif Nat.beq a 595 then some (15) else none)) else (bif Nat.blt a 597 then (bif Nat.beq a 596 then some (17) else none) else (bif Nat.beq a 597 then some (16) else none)))
noncomputable def kd0_9 (a : Nat) : Option Nat := bif Nat.blt a 570 then (bif Nat.blt a 550 then (kd0_9_0 a) else (bif Nat.blt a 560 then (kd0_9_1 a) else (kd0_9_2 a))) else (bif Nat.blt a 580 then (kd0_9_3 a) else (bif Nat.blt a 590 then (kd0_9_4 a) else (kd0_9_5 a)))
noncomputable def kd0 (a : Nat) : Option Nat := bif Nat.blt a 300 then (bif Nat.blt a 120 then (bif Nat.blt a 60 then (kd0_0 a) else (kd0_1 a)) else (bif Nat.blt a 180 then (kd0_2 a) else (bif Nat.blt a 240 then (kd0_3 a) else (kd0_4 a)))) else (bif Nat.blt a 420 then (bif Nat.blt a 360 then (kd0_5 a) else (kd0_6 a)) else (bif Nat.blt a 480 then (kd0_7 a) else (bif Nat.blt a 540 then (kd0_8 a) else (kd0_9 a))))
noncomputable def kd (a : Nat) : Nat := bif Nat.blt a 598 then (kd0 a).getD 0 else 0
noncomputable def xe (a : Nat) (i : Int) : Nat := (xel a i.toNat).getD 0
theorem kd_lt {a : Nat} (h : kd a ≠ 0) : a < 598 := by
  unfold kd at h
  cases hb : Nat.blt a 598 with
  | true => exact Nat.blt_eq.mp hb
  | false => rw [hb] at h; exact absurd rfl h
theorem kd_ne {a b : Nat} (h : kd a ≠ kd b) : a ≠ b := fun e => h (by rw [e])
theorem kb_l {a b : Bool} (h : (a && b) = true) : a = true := by rw [Bool.and_eq_true] at h; exact h.1
theorem kb_r {a b : Bool} (h : (a && b) = true) : b = true := by rw [Bool.and_eq_true] at h; exact h.2
noncomputable def kc_1 (a : Nat) : Bool := decide (a < 598 ∧ xsh a = (101, 16)) && (decide (xfx a 3 = some (a + 1) ∧ kd (a + 1) = 2) && (decide (xfx a 4 = some (a + 2) ∧ kd (a + 2) = 7) && (decide (xfx a 7 = some (a + 3) ∧ kd (a + 3) = 5) && (decide (xfx a 8 = some (a + 4) ∧ kd (a + 4) = 4) && (decide (xfx a 9 = some (a + 5) ∧ kd (a + 5) = 8) && (decide (xfx a 10 = some (a + 6) ∧ kd (a + 6) = 6) && (decide (xfx a 11 = some (a + 7) ∧ kd (a + 7) = 3))))))))
noncomputable def kc_2 (a : Nat) : Bool := decide (a < 598 ∧ xsh a = (1, 2))
noncomputable def kc_3 (a : Nat) : Bool := decide (a < 598 ∧ xsh a = (1, 2))
noncomputable def kc_4 (a : Nat) : Bool := decide (a < 598 ∧ xsh a = (2, 2))
noncomputable def kc_5 (a : Nat) : Bool := decide (a < 598 ∧ xsh a = (0, 2))
noncomputable def kc_6 (a : Nat) : Bool := decide (a < 598 ∧ xsh a = (1, 2))
noncomputable def kc_7 (a : Nat) : Bool := decide (a < 598 ∧ xsh a = (0, 2))
noncomputable def kc_8 (a : Nat) : Bool := decide (a < 598 ∧ xsh a = (0, 2))
noncomputable def kc_9 (a : Nat) : Bool := decide (a < 598 ∧ xsh a = (102, 9)) && (decide (xfx a 2 = some (a + 3) ∧ kd (a + 3) = 1) && (decide (xfx a 6 = some (a + 11) ∧ kd (a + 11) = 10) && (decide (xfx a 7 = some (a + 12) ∧ kd (a + 12) = 11) && (decide (xfx a 8 = some (a + 13) ∧ kd (a + 13) = 12)))))
noncomputable def kc_10 (a : Nat) : Bool := decide (a < 598 ∧ xsh a = (1, 4))
noncomputable def kc_11 (a : Nat) : Bool := decide (a < 598 ∧ xsh a = (0, 4))
noncomputable def kc_12 (a : Nat) : Bool := decide (a < 598 ∧ xsh a = (0, 4))
noncomputable def kc_13 (a : Nat) : Bool := decide (a < 598 ∧ xsh a = (5, 24))
noncomputable def kc_14 (a : Nat) : Bool := decide (a < 598 ∧ xsh a = (103, 4)) && (decide (xfx a 3 = some (a + 1) ∧ kd (a + 1) = 27))
noncomputable def kc_15 (a : Nat) : Bool := decide (a < 598 ∧ xsh a = (104, 14)) && (decide (xfx a 9 = some (a + 1) ∧ kd (a + 1) = 17) && (decide (xfx a 10 = some (a + 2) ∧ kd (a + 2) = 16)))
noncomputable def kc_16 (a : Nat) : Bool := decide (a < 598 ∧ xsh a = (0, 400))
noncomputable def kc_17 (a : Nat) : Bool := decide (a < 598 ∧ xsh a = (0, 360))
noncomputable def kc_18 (a : Nat) : Bool := decide (a < 598 ∧ xsh a = (105, 8)) && (decide (xfx a 0 = some (a + 1) ∧ kd (a + 1) = 19) && (decide (xfx a 1 = some (a + 2) ∧ kd (a + 2) = 20) && (decide (xfx a 2 = some (a + 3) ∧ kd (a + 3) = 21))))
noncomputable def kc_19 (a : Nat) : Bool := decide (a < 598 ∧ xsh a = (0, 12))
noncomputable def kc_20 (a : Nat) : Bool := decide (a < 598 ∧ xsh a = (0, 12))
noncomputable def kc_21 (a : Nat) : Bool := decide (a < 598 ∧ xsh a = (0, 12))
noncomputable def kc_22 (a : Nat) : Bool := decide (a < 598 ∧ xsh a = (106, 20)) && (decide (xfx a 0 = some (a + 1) ∧ kd (a + 1) = 25) && (decide (xfx a 1 = some (a + 2) ∧ kd (a + 2) = 27) && (decide (xfx a 6 = some (a + 13) ∧ kd (a + 13) = 23) && (decide (xfx a 8 = some (a + 14) ∧ kd (a + 14) = 26) && (decide (xfx a 10 = some (a + 15) ∧ kd (a + 15) = 24))))))
noncomputable def kc_23 (a : Nat) : Bool := decide (a < 598 ∧ xsh a = (7, 8))
noncomputable def kc_24 (a : Nat) : Bool := decide (a < 598 ∧ xsh a = (0, 50))
noncomputable def kc_25 (a : Nat) : Bool := decide (a < 598 ∧ xsh a = (6, 8))
noncomputable def kc_26 (a : Nat) : Bool := decide (a < 598 ∧ xsh a = (1, 320))
noncomputable def kc_27 (a : Nat) : Bool := decide (a < 598 ∧ xsh a = (107, 7)) && (decide (xfx a 0 = some (a + 1) ∧ kd (a + 1) = 29) && (decide (xfx a 1 = some (a + 2) ∧ kd (a + 2) = 28) && (decide (xfx a 2 = some (a + 3) ∧ kd (a + 3) = 31) && (decide (xfx a 3 = some (a + 4) ∧ kd (a + 4) = 32) && (decide (xfx a 4 = some (a + 5) ∧ kd (a + 5) = 30))))))
noncomputable def kc_28 (a : Nat) : Bool := decide (a < 598 ∧ xsh a = (0, 4))
noncomputable def kc_29 (a : Nat) : Bool := decide (a < 598 ∧ xsh a = (1, 8))
noncomputable def kc_30 (a : Nat) : Bool := decide (a < 598 ∧ xsh a = (1, 20))
noncomputable def kc_31 (a : Nat) : Bool := decide (a < 598 ∧ xsh a = (1, 64))
noncomputable def kc_32 (a : Nat) : Bool := decide (a < 598 ∧ xsh a = (0, 4))
noncomputable def kc_33 (a : Nat) : Bool := decide (a < 598 ∧ xsh a = (108, 3)) && (decide (xfx a 0 = some (a + 1) ∧ kd (a + 1) = 34))
noncomputable def kc_34 (a : Nat) : Bool := decide (a < 598 ∧ xsh a = (0, 400))
noncomputable def kc_35 (a : Nat) : Bool := decide (a < 598 ∧ xsh a = (100, 15)) && (decide (xfx a 0 = some (a + 1) ∧ kd (a + 1) = 43) && (decide (xfx a 2 = some (a + 2) ∧ kd (a + 2) = 42) && (decide (xfx a 3 = some (a + 3) ∧ kd (a + 3) = 18) && (decide (xfx a 4 = some (a + 9) ∧ kd (a + 9) = 39) && (decide (xfx a 5 = some (a + 10) ∧ kd (a + 10) = 40) && (decide (xfx a 6 = some (a + 11) ∧ kd (a + 11) = 15) && (decide (xfx a 7 = some (a + 14) ∧ kd (a + 14) = 41) && (decide (xfx a 9 = some (a + 15) ∧ kd (a + 15) = 9) && (decide (xfx a 10 = some (a + 413) ∧ kd (a + 413) = 44) && (decide (xfx a 11 = some (a + 421) ∧ kd (a + 421) = 22) && (decide (xfx a 12 = some (a + 523) ∧ kd (a + 523) = 38) && (decide (xfx a 13 = some (a + 524) ∧ kd (a + 524) = 36) && (decide (xfx a 14 = some (a + 525) ∧ kd (a + 525) = 37))))))))))))))
noncomputable def kc_36 (a : Nat) : Bool := decide (a < 598 ∧ xsh a = (0, 4))
noncomputable def kc_37 (a : Nat) : Bool := decide (a < 598 ∧ xsh a = (0, 4))
noncomputable def kc_38 (a : Nat) : Bool := decide (a < 598 ∧ xsh a = (0, 4))
noncomputable def kc_39 (a : Nat) : Bool := decide (a < 598 ∧ xsh a = (0, 4))
noncomputable def kc_40 (a : Nat) : Bool := decide (a < 598 ∧ xsh a = (4, 8))
noncomputable def kc_41 (a : Nat) : Bool := decide (a < 598 ∧ xsh a = (0, 5))
noncomputable def kc_42 (a : Nat) : Bool := decide (a < 598 ∧ xsh a = (3, 24))
noncomputable def kc_43 (a : Nat) : Bool := decide (a < 598 ∧ xsh a = (0, 1600))
noncomputable def kc_44 (a : Nat) : Bool := decide (a < 598 ∧ xsh a = (109, 12)) && (decide (xfx a 5 = some (a + 7) ∧ kd (a + 7) = 45))
noncomputable def kc_45 (a : Nat) : Bool := decide (a < 598 ∧ xsh a = (0, 16))
noncomputable def kc_46 (a : Nat) : Bool := decide (a < 598 ∧ xsh a = (0, 0))
noncomputable def kc_47 (a : Nat) : Bool := decide (a < 598 ∧ xsh a = (110, 7)) && (decide (xfx a 0 = some (a + 1) ∧ kd (a + 1) = 51) && (decide (xfx a 1 = some (a + 2) ∧ kd (a + 2) = 48) && (decide (xfx a 5 = some (a + 3) ∧ kd (a + 3) = 50) && (decide (xfx a 6 = some (a + 4) ∧ kd (a + 4) = 49)))))
noncomputable def kc_48 (a : Nat) : Bool := decide (a < 598 ∧ xsh a = (0, 932))
noncomputable def kc_49 (a : Nat) : Bool := decide (a < 598 ∧ xsh a = (0, 16))
noncomputable def kc_50 (a : Nat) : Bool := decide (a < 598 ∧ xsh a = (0, 16))
noncomputable def kc_51 (a : Nat) : Bool := decide (a < 598 ∧ xsh a = (0, 932))
noncomputable def kc_52 (a : Nat) : Bool := decide (a < 598 ∧ xsh a = (111, 4)) && (decide (xfx a 2 = some (a + 1) ∧ kd (a + 1) = 54) && (decide (xfx a 3 = some (a + 2) ∧ kd (a + 2) = 53)))
noncomputable def kc_53 (a : Nat) : Bool := decide (a < 598 ∧ xsh a = (1, 440))
noncomputable def kc_54 (a : Nat) : Bool := decide (a < 598 ∧ xsh a = (1, 40))
noncomputable def kc (k a : Nat) : Bool := bif Nat.blt k 28 then (bif Nat.blt k 14 then (bif Nat.blt k 7 then (bif Nat.blt k 4 then (bif Nat.blt k 2 then (bif Nat.beq k 1 then kc_1 a else true) else (bif Nat.blt k 3 then (bif Nat.beq k 2 then kc_2 a else true) else (bif Nat.beq k 3 then kc_3 a else true))) else (bif Nat.blt k 5 then (bif Nat.beq k 4 then kc_4 a else true) else (bif Nat.blt k 6 then (bif Nat.beq k 5 then kc_5 a else true) else (bif Nat.beq k 6 then kc_6 a else true)))) else (bif Nat.blt k 10 then (bif Nat.blt k 8 then (bif Nat.beq k 7 then kc_7 a else true) else (bif Nat.blt k 9 then (bif Nat.beq k 8 then kc_8 a else true) else (bif Nat.beq k 9 then kc_9 a else true))) else (bif Nat.blt k 12 then (bif Nat.blt k 11 then (bif Nat.beq k 10 then kc_10 a else true) else (bif Nat.beq k 11 then kc_11 a else true)) else (bif Nat.blt k 13 then (bif Nat.beq k 12 then kc_12 a else true) else (bif Nat.beq k 13 then kc_13 a else true))))) else (bif Nat.blt k 21 then (bif Nat.blt k 17 then (bif Nat.blt k 15 then (bif Nat.beq k 14 then kc_14 a else true) else (bif Nat.blt k 16 then (bif Nat.beq k 15 then kc_15 a else true) else (bif Nat.beq k 16 then kc_16 a else true))) else (bif Nat.blt k 19 then (bif Nat.blt k 18 then (bif Nat.beq k 17 then kc_17 a else true) else (bif Nat.beq k 18 then kc_18 a else true)) else (bif Nat.blt k 20 then (bif Nat.beq k 19 then kc_19 a else true) else (bif Nat.beq k 20 then kc_20 a else true)))) else (bif Nat.blt k 24 then (bif Nat.blt k 22 then (bif Nat.beq k 21 then kc_21 a else true) else (bif Nat.blt k 23 then (bif Nat.beq k 22 then kc_22 a else true) else (bif Nat.beq k 23 then kc_23 a else true))) else (bif Nat.blt k 26 then (bif Nat.blt k 25 then (bif Nat.beq k 24 then kc_24 a else true) else (bif Nat.beq k 25 then kc_25 a else true)) else (bif Nat.blt k 27 then (bif Nat.beq k 26 then kc_26 a else true) else (bif Nat.beq k 27 then kc_27 a else true)))))) else (bif Nat.blt k 41 then (bif Nat.blt k 34 then (bif Nat.blt k 31 then (bif Nat.blt k 29 then (bif Nat.beq k 28 then kc_28 a else true) else (bif Nat.blt k 30 then (bif Nat.beq k 29 then kc_29 a else true) else (bif Nat.beq k 30 then kc_30 a else true))) else (bif Nat.blt k 32 then (bif Nat.beq k 31 then kc_31 a else true) else (bif Nat.blt k 33 then (bif Nat.beq k 32 then kc_32 a else true) else (bif Nat.beq k 33 then kc_33 a else true)))) else (bif Nat.blt k 37 then (bif Nat.blt k 35 then (bif Nat.beq k 34 then kc_34 a else true) else (bif Nat.blt k 36 then (bif Nat.beq k 35 then kc_35 a else true) else (bif Nat.beq k 36 then kc_36 a else true))) else (bif Nat.blt k 39 then (bif Nat.blt k 38 then (bif Nat.beq k 37 then kc_37 a else true) else (bif Nat.beq k 38 then kc_38 a else true)) else (bif Nat.blt k 40 then (bif Nat.beq k 39 then kc_39 a else true) else (bif Nat.beq k 40 then kc_40 a else true))))) else (bif Nat.blt k 48 then (bif Nat.blt k 44 then (bif Nat.blt k 42 then (bif Nat.beq k 41 then kc_41 a else true) else (bif Nat.blt k 43 then (bif Nat.beq k 42 then kc_42 a else true) else (bif Nat.beq k 43 then kc_43 a else true))) else (bif Nat.blt k 46 then (bif Nat.blt k 45 then (bif Nat.beq k 44 then kc_44 a else true) else (bif Nat.beq k 45 then kc_45 a else true)) else (bif Nat.blt k 47 then (bif Nat.beq k 46 then kc_46 a else true) else (bif Nat.beq k 47 then kc_47 a else true)))) else (bif Nat.blt k 51 then (bif Nat.blt k 49 then (bif Nat.beq k 48 then kc_48 a else true) else (bif Nat.blt k 50 then (bif Nat.beq k 49 then kc_49 a else true) else (bif Nat.beq k 50 then kc_50 a else true))) else (bif Nat.blt k 53 then (bif Nat.blt k 52 then (bif Nat.beq k 51 then kc_51 a else true) else (bif Nat.beq k 52 then kc_52 a else true)) else (bif Nat.blt k 54 then (bif Nat.beq k 53 then kc_53 a else true) else (bif Nat.beq k 54 then kc_54 a else true))))))
theorem kq_all : ∀ a, a < 598 → kc (kd a) a = true := by decide +kernel
theorem kq_1 (a : Nat) (ha : a < 598) (h : kd a = 1) : kc_1 a = true := by
  have q := kq_all a ha
  rw [h] at q
  exact q
theorem kq_2 (a : Nat) (ha : a < 598) (h : kd a = 2) : kc_2 a = true := by
  have q := kq_all a ha
  rw [h] at q
  exact q
theorem kq_3 (a : Nat) (ha : a < 598) (h : kd a = 3) : kc_3 a = true := by
  have q := kq_all a ha
  rw [h] at q
  exact q
theorem kq_4 (a : Nat) (ha : a < 598) (h : kd a = 4) : kc_4 a = true := by
  have q := kq_all a ha
  rw [h] at q
  exact q
theorem kq_5 (a : Nat) (ha : a < 598) (h : kd a = 5) : kc_5 a = true := by
  have q := kq_all a ha
  rw [h] at q
  exact q
theorem kq_6 (a : Nat) (ha : a < 598) (h : kd a = 6) : kc_6 a = true := by
  have q := kq_all a ha
  rw [h] at q
  exact q
theorem kq_7 (a : Nat) (ha : a < 598) (h : kd a = 7) : kc_7 a = true := by
  have q := kq_all a ha
  rw [h] at q
  exact q
theorem kq_8 (a : Nat) (ha : a < 598) (h : kd a = 8) : kc_8 a = true := by
  have q := kq_all a ha
  rw [h] at q
  exact q
theorem kq_9 (a : Nat) (ha : a < 598) (h : kd a = 9) : kc_9 a = true := by
  have q := kq_all a ha
  rw [h] at q
  exact q
theorem kq_10 (a : Nat) (ha : a < 598) (h : kd a = 10) : kc_10 a = true := by
  have q := kq_all a ha
  rw [h] at q
  exact q
theorem kq_11 (a : Nat) (ha : a < 598) (h : kd a = 11) : kc_11 a = true := by
  have q := kq_all a ha
  rw [h] at q
  exact q
theorem kq_12 (a : Nat) (ha : a < 598) (h : kd a = 12) : kc_12 a = true := by
  have q := kq_all a ha
  rw [h] at q
  exact q
theorem kq_13 (a : Nat) (ha : a < 598) (h : kd a = 13) : kc_13 a = true := by
  have q := kq_all a ha
  rw [h] at q
  exact q
theorem kq_14 (a : Nat) (ha : a < 598) (h : kd a = 14) : kc_14 a = true := by
  have q := kq_all a ha
  rw [h] at q
  exact q
theorem kq_15 (a : Nat) (ha : a < 598) (h : kd a = 15) : kc_15 a = true := by
  have q := kq_all a ha
  rw [h] at q
  exact q
theorem kq_16 (a : Nat) (ha : a < 598) (h : kd a = 16) : kc_16 a = true := by
  have q := kq_all a ha
  rw [h] at q
  exact q
theorem kq_17 (a : Nat) (ha : a < 598) (h : kd a = 17) : kc_17 a = true := by
  have q := kq_all a ha
  rw [h] at q
  exact q
theorem kq_18 (a : Nat) (ha : a < 598) (h : kd a = 18) : kc_18 a = true := by
  have q := kq_all a ha
  rw [h] at q
  exact q
theorem kq_19 (a : Nat) (ha : a < 598) (h : kd a = 19) : kc_19 a = true := by
  have q := kq_all a ha
  rw [h] at q
  exact q
theorem kq_20 (a : Nat) (ha : a < 598) (h : kd a = 20) : kc_20 a = true := by
  have q := kq_all a ha
  rw [h] at q
  exact q
theorem kq_21 (a : Nat) (ha : a < 598) (h : kd a = 21) : kc_21 a = true := by
  have q := kq_all a ha
  rw [h] at q
  exact q
theorem kq_22 (a : Nat) (ha : a < 598) (h : kd a = 22) : kc_22 a = true := by
  have q := kq_all a ha
  rw [h] at q
  exact q
theorem kq_23 (a : Nat) (ha : a < 598) (h : kd a = 23) : kc_23 a = true := by
  have q := kq_all a ha
  rw [h] at q
  exact q
theorem kq_24 (a : Nat) (ha : a < 598) (h : kd a = 24) : kc_24 a = true := by
  have q := kq_all a ha
  rw [h] at q
  exact q
theorem kq_25 (a : Nat) (ha : a < 598) (h : kd a = 25) : kc_25 a = true := by
  have q := kq_all a ha
  rw [h] at q
  exact q
theorem kq_26 (a : Nat) (ha : a < 598) (h : kd a = 26) : kc_26 a = true := by
  have q := kq_all a ha
  rw [h] at q
  exact q
theorem kq_27 (a : Nat) (ha : a < 598) (h : kd a = 27) : kc_27 a = true := by
  have q := kq_all a ha
  rw [h] at q
  exact q
theorem kq_28 (a : Nat) (ha : a < 598) (h : kd a = 28) : kc_28 a = true := by
  have q := kq_all a ha
  rw [h] at q
  exact q
theorem kq_29 (a : Nat) (ha : a < 598) (h : kd a = 29) : kc_29 a = true := by
  have q := kq_all a ha
  rw [h] at q
  exact q
theorem kq_30 (a : Nat) (ha : a < 598) (h : kd a = 30) : kc_30 a = true := by
  have q := kq_all a ha
  rw [h] at q
  exact q
theorem kq_31 (a : Nat) (ha : a < 598) (h : kd a = 31) : kc_31 a = true := by
  have q := kq_all a ha
  rw [h] at q
  exact q
theorem kq_32 (a : Nat) (ha : a < 598) (h : kd a = 32) : kc_32 a = true := by
  have q := kq_all a ha
  rw [h] at q
  exact q
theorem kq_33 (a : Nat) (ha : a < 598) (h : kd a = 33) : kc_33 a = true := by
  have q := kq_all a ha
  rw [h] at q
  exact q
theorem kq_34 (a : Nat) (ha : a < 598) (h : kd a = 34) : kc_34 a = true := by
  have q := kq_all a ha
  rw [h] at q
  exact q
theorem kq_35 (a : Nat) (ha : a < 598) (h : kd a = 35) : kc_35 a = true := by
  have q := kq_all a ha
  rw [h] at q
  exact q
theorem kq_36 (a : Nat) (ha : a < 598) (h : kd a = 36) : kc_36 a = true := by
  have q := kq_all a ha
  rw [h] at q
  exact q
theorem kq_37 (a : Nat) (ha : a < 598) (h : kd a = 37) : kc_37 a = true := by
  have q := kq_all a ha
  rw [h] at q
  exact q
theorem kq_38 (a : Nat) (ha : a < 598) (h : kd a = 38) : kc_38 a = true := by
  have q := kq_all a ha
  rw [h] at q
  exact q
theorem kq_39 (a : Nat) (ha : a < 598) (h : kd a = 39) : kc_39 a = true := by
  have q := kq_all a ha
  rw [h] at q
  exact q
theorem kq_40 (a : Nat) (ha : a < 598) (h : kd a = 40) : kc_40 a = true := by
  have q := kq_all a ha
  rw [h] at q
  exact q
theorem kq_41 (a : Nat) (ha : a < 598) (h : kd a = 41) : kc_41 a = true := by
  have q := kq_all a ha
  rw [h] at q
  exact q
theorem kq_42 (a : Nat) (ha : a < 598) (h : kd a = 42) : kc_42 a = true := by
  have q := kq_all a ha
  rw [h] at q
  exact q
theorem kq_43 (a : Nat) (ha : a < 598) (h : kd a = 43) : kc_43 a = true := by
  have q := kq_all a ha
  rw [h] at q
  exact q
theorem kq_44 (a : Nat) (ha : a < 598) (h : kd a = 44) : kc_44 a = true := by
  have q := kq_all a ha
  rw [h] at q
  exact q
theorem kq_45 (a : Nat) (ha : a < 598) (h : kd a = 45) : kc_45 a = true := by
  have q := kq_all a ha
  rw [h] at q
  exact q
theorem kq_46 (a : Nat) (ha : a < 598) (h : kd a = 46) : kc_46 a = true := by
  have q := kq_all a ha
  rw [h] at q
  exact q
theorem kq_47 (a : Nat) (ha : a < 598) (h : kd a = 47) : kc_47 a = true := by
  have q := kq_all a ha
  rw [h] at q
  exact q
theorem kq_48 (a : Nat) (ha : a < 598) (h : kd a = 48) : kc_48 a = true := by
  have q := kq_all a ha
  rw [h] at q
  exact q
theorem kq_49 (a : Nat) (ha : a < 598) (h : kd a = 49) : kc_49 a = true := by
  have q := kq_all a ha
  rw [h] at q
  exact q
theorem kq_50 (a : Nat) (ha : a < 598) (h : kd a = 50) : kc_50 a = true := by
  have q := kq_all a ha
  rw [h] at q
  exact q
theorem kq_51 (a : Nat) (ha : a < 598) (h : kd a = 51) : kc_51 a = true := by
  have q := kq_all a ha
  rw [h] at q
  exact q
theorem kq_52 (a : Nat) (ha : a < 598) (h : kd a = 52) : kc_52 a = true := by
  have q := kq_all a ha
  rw [h] at q
  exact q
theorem kq_53 (a : Nat) (ha : a < 598) (h : kd a = 53) : kc_53 a = true := by
  have q := kq_all a ha
  rw [h] at q
  exact q
theorem kq_54 (a : Nat) (ha : a < 598) (h : kd a = 54) : kc_54 a = true := by
  have q := kq_all a ha
  rw [h] at q
  exact q
theorem kb_1 : ∀ a, a < 598 → kd a = 1 → a < 598 ∧ xsh a = (101, 16) := fun a ha h => of_decide_eq_true (kb_l (kq_1 a ha h))
theorem kx_1 {a : Nat} (h : kd a = 1) : a < 598 ∧ xsh a = (101, 16) := kb_1 a (kd_lt (by rw [h]; decide)) h
theorem kg_1_3 : ∀ a, a < 598 → kd a = 1 → xfx a 3 = some (a + 1) ∧ kd (a + 1) = 2 := fun a ha h => of_decide_eq_true (kb_l (kb_r (kq_1 a ha h)))
theorem kf_1_3 {a : Nat} (h : kd a = 1) : xfx a 3 = some (a + 1) ∧ kd (a + 1) = 2 := kg_1_3 a (kd_lt (by rw [h]; decide)) h
theorem kg_1_4 : ∀ a, a < 598 → kd a = 1 → xfx a 4 = some (a + 2) ∧ kd (a + 2) = 7 := fun a ha h => of_decide_eq_true (kb_l (kb_r (kb_r (kq_1 a ha h))))
theorem kf_1_4 {a : Nat} (h : kd a = 1) : xfx a 4 = some (a + 2) ∧ kd (a + 2) = 7 := kg_1_4 a (kd_lt (by rw [h]; decide)) h
theorem kg_1_7 : ∀ a, a < 598 → kd a = 1 → xfx a 7 = some (a + 3) ∧ kd (a + 3) = 5 := fun a ha h => of_decide_eq_true (kb_l (kb_r (kb_r (kb_r (kq_1 a ha h)))))
theorem kf_1_7 {a : Nat} (h : kd a = 1) : xfx a 7 = some (a + 3) ∧ kd (a + 3) = 5 := kg_1_7 a (kd_lt (by rw [h]; decide)) h
theorem kg_1_8 : ∀ a, a < 598 → kd a = 1 → xfx a 8 = some (a + 4) ∧ kd (a + 4) = 4 := fun a ha h => of_decide_eq_true (kb_l (kb_r (kb_r (kb_r (kb_r (kq_1 a ha h))))))
theorem kf_1_8 {a : Nat} (h : kd a = 1) : xfx a 8 = some (a + 4) ∧ kd (a + 4) = 4 := kg_1_8 a (kd_lt (by rw [h]; decide)) h
theorem kg_1_9 : ∀ a, a < 598 → kd a = 1 → xfx a 9 = some (a + 5) ∧ kd (a + 5) = 8 := fun a ha h => of_decide_eq_true (kb_l (kb_r (kb_r (kb_r (kb_r (kb_r (kq_1 a ha h)))))))
theorem kf_1_9 {a : Nat} (h : kd a = 1) : xfx a 9 = some (a + 5) ∧ kd (a + 5) = 8 := kg_1_9 a (kd_lt (by rw [h]; decide)) h
theorem kg_1_10 : ∀ a, a < 598 → kd a = 1 → xfx a 10 = some (a + 6) ∧ kd (a + 6) = 6 := fun a ha h => of_decide_eq_true (kb_l (kb_r (kb_r (kb_r (kb_r (kb_r (kb_r (kq_1 a ha h))))))))
theorem kf_1_10 {a : Nat} (h : kd a = 1) : xfx a 10 = some (a + 6) ∧ kd (a + 6) = 6 := kg_1_10 a (kd_lt (by rw [h]; decide)) h
theorem kg_1_11 : ∀ a, a < 598 → kd a = 1 → xfx a 11 = some (a + 7) ∧ kd (a + 7) = 3 := fun a ha h => of_decide_eq_true (kb_r (kb_r (kb_r (kb_r (kb_r (kb_r (kb_r (kq_1 a ha h))))))))
theorem kf_1_11 {a : Nat} (h : kd a = 1) : xfx a 11 = some (a + 7) ∧ kd (a + 7) = 3 := kg_1_11 a (kd_lt (by rw [h]; decide)) h
theorem kb_9 : ∀ a, a < 598 → kd a = 9 → a < 598 ∧ xsh a = (102, 9) := fun a ha h => of_decide_eq_true (kb_l (kq_9 a ha h))
theorem kx_9 {a : Nat} (h : kd a = 9) : a < 598 ∧ xsh a = (102, 9) := kb_9 a (kd_lt (by rw [h]; decide)) h
theorem kg_9_2 : ∀ a, a < 598 → kd a = 9 → xfx a 2 = some (a + 3) ∧ kd (a + 3) = 1 := fun a ha h => of_decide_eq_true (kb_l (kb_r (kq_9 a ha h)))
theorem kf_9_2 {a : Nat} (h : kd a = 9) : xfx a 2 = some (a + 3) ∧ kd (a + 3) = 1 := kg_9_2 a (kd_lt (by rw [h]; decide)) h
theorem kg_9_6 : ∀ a, a < 598 → kd a = 9 → xfx a 6 = some (a + 11) ∧ kd (a + 11) = 10 := fun a ha h => of_decide_eq_true (kb_l (kb_r (kb_r (kq_9 a ha h))))
theorem kf_9_6 {a : Nat} (h : kd a = 9) : xfx a 6 = some (a + 11) ∧ kd (a + 11) = 10 := kg_9_6 a (kd_lt (by rw [h]; decide)) h
theorem kg_9_7 : ∀ a, a < 598 → kd a = 9 → xfx a 7 = some (a + 12) ∧ kd (a + 12) = 11 := fun a ha h => of_decide_eq_true (kb_l (kb_r (kb_r (kb_r (kq_9 a ha h)))))
theorem kf_9_7 {a : Nat} (h : kd a = 9) : xfx a 7 = some (a + 12) ∧ kd (a + 12) = 11 := kg_9_7 a (kd_lt (by rw [h]; decide)) h
theorem kg_9_8 : ∀ a, a < 598 → kd a = 9 → xfx a 8 = some (a + 13) ∧ kd (a + 13) = 12 := fun a ha h => of_decide_eq_true (kb_r (kb_r (kb_r (kb_r (kq_9 a ha h)))))
theorem kf_9_8 {a : Nat} (h : kd a = 9) : xfx a 8 = some (a + 13) ∧ kd (a + 13) = 12 := kg_9_8 a (kd_lt (by rw [h]; decide)) h
theorem kb_14 : ∀ a, a < 598 → kd a = 14 → a < 598 ∧ xsh a = (103, 4) := fun a ha h => of_decide_eq_true (kb_l (kq_14 a ha h))
theorem kx_14 {a : Nat} (h : kd a = 14) : a < 598 ∧ xsh a = (103, 4) := kb_14 a (kd_lt (by rw [h]; decide)) h
theorem kg_14_3 : ∀ a, a < 598 → kd a = 14 → xfx a 3 = some (a + 1) ∧ kd (a + 1) = 27 := fun a ha h => of_decide_eq_true (kb_r (kq_14 a ha h))
theorem kf_14_3 {a : Nat} (h : kd a = 14) : xfx a 3 = some (a + 1) ∧ kd (a + 1) = 27 := kg_14_3 a (kd_lt (by rw [h]; decide)) h
theorem kb_15 : ∀ a, a < 598 → kd a = 15 → a < 598 ∧ xsh a = (104, 14) := fun a ha h => of_decide_eq_true (kb_l (kq_15 a ha h))
theorem kx_15 {a : Nat} (h : kd a = 15) : a < 598 ∧ xsh a = (104, 14) := kb_15 a (kd_lt (by rw [h]; decide)) h
theorem kg_15_9 : ∀ a, a < 598 → kd a = 15 → xfx a 9 = some (a + 1) ∧ kd (a + 1) = 17 := fun a ha h => of_decide_eq_true (kb_l (kb_r (kq_15 a ha h)))
theorem kf_15_9 {a : Nat} (h : kd a = 15) : xfx a 9 = some (a + 1) ∧ kd (a + 1) = 17 := kg_15_9 a (kd_lt (by rw [h]; decide)) h
theorem kg_15_10 : ∀ a, a < 598 → kd a = 15 → xfx a 10 = some (a + 2) ∧ kd (a + 2) = 16 := fun a ha h => of_decide_eq_true (kb_r (kb_r (kq_15 a ha h)))
theorem kf_15_10 {a : Nat} (h : kd a = 15) : xfx a 10 = some (a + 2) ∧ kd (a + 2) = 16 := kg_15_10 a (kd_lt (by rw [h]; decide)) h
theorem kb_18 : ∀ a, a < 598 → kd a = 18 → a < 598 ∧ xsh a = (105, 8) := fun a ha h => of_decide_eq_true (kb_l (kq_18 a ha h))
theorem kx_18 {a : Nat} (h : kd a = 18) : a < 598 ∧ xsh a = (105, 8) := kb_18 a (kd_lt (by rw [h]; decide)) h
theorem kg_18_0 : ∀ a, a < 598 → kd a = 18 → xfx a 0 = some (a + 1) ∧ kd (a + 1) = 19 := fun a ha h => of_decide_eq_true (kb_l (kb_r (kq_18 a ha h)))
theorem kf_18_0 {a : Nat} (h : kd a = 18) : xfx a 0 = some (a + 1) ∧ kd (a + 1) = 19 := kg_18_0 a (kd_lt (by rw [h]; decide)) h
theorem kg_18_1 : ∀ a, a < 598 → kd a = 18 → xfx a 1 = some (a + 2) ∧ kd (a + 2) = 20 := fun a ha h => of_decide_eq_true (kb_l (kb_r (kb_r (kq_18 a ha h))))
theorem kf_18_1 {a : Nat} (h : kd a = 18) : xfx a 1 = some (a + 2) ∧ kd (a + 2) = 20 := kg_18_1 a (kd_lt (by rw [h]; decide)) h
theorem kg_18_2 : ∀ a, a < 598 → kd a = 18 → xfx a 2 = some (a + 3) ∧ kd (a + 3) = 21 := fun a ha h => of_decide_eq_true (kb_r (kb_r (kb_r (kq_18 a ha h))))
theorem kf_18_2 {a : Nat} (h : kd a = 18) : xfx a 2 = some (a + 3) ∧ kd (a + 3) = 21 := kg_18_2 a (kd_lt (by rw [h]; decide)) h
theorem kb_22 : ∀ a, a < 598 → kd a = 22 → a < 598 ∧ xsh a = (106, 20) := fun a ha h => of_decide_eq_true (kb_l (kq_22 a ha h))
theorem kx_22 {a : Nat} (h : kd a = 22) : a < 598 ∧ xsh a = (106, 20) := kb_22 a (kd_lt (by rw [h]; decide)) h
theorem kg_22_0 : ∀ a, a < 598 → kd a = 22 → xfx a 0 = some (a + 1) ∧ kd (a + 1) = 25 := fun a ha h => of_decide_eq_true (kb_l (kb_r (kq_22 a ha h)))
theorem kf_22_0 {a : Nat} (h : kd a = 22) : xfx a 0 = some (a + 1) ∧ kd (a + 1) = 25 := kg_22_0 a (kd_lt (by rw [h]; decide)) h
theorem kg_22_1 : ∀ a, a < 598 → kd a = 22 → xfx a 1 = some (a + 2) ∧ kd (a + 2) = 27 := fun a ha h => of_decide_eq_true (kb_l (kb_r (kb_r (kq_22 a ha h))))
theorem kf_22_1 {a : Nat} (h : kd a = 22) : xfx a 1 = some (a + 2) ∧ kd (a + 2) = 27 := kg_22_1 a (kd_lt (by rw [h]; decide)) h
theorem kg_22_6 : ∀ a, a < 598 → kd a = 22 → xfx a 6 = some (a + 13) ∧ kd (a + 13) = 23 := fun a ha h => of_decide_eq_true (kb_l (kb_r (kb_r (kb_r (kq_22 a ha h)))))
theorem kf_22_6 {a : Nat} (h : kd a = 22) : xfx a 6 = some (a + 13) ∧ kd (a + 13) = 23 := kg_22_6 a (kd_lt (by rw [h]; decide)) h
theorem kg_22_8 : ∀ a, a < 598 → kd a = 22 → xfx a 8 = some (a + 14) ∧ kd (a + 14) = 26 := fun a ha h => of_decide_eq_true (kb_l (kb_r (kb_r (kb_r (kb_r (kq_22 a ha h))))))
theorem kf_22_8 {a : Nat} (h : kd a = 22) : xfx a 8 = some (a + 14) ∧ kd (a + 14) = 26 := kg_22_8 a (kd_lt (by rw [h]; decide)) h
theorem kg_22_10 : ∀ a, a < 598 → kd a = 22 → xfx a 10 = some (a + 15) ∧ kd (a + 15) = 24 := fun a ha h => of_decide_eq_true (kb_r (kb_r (kb_r (kb_r (kb_r (kq_22 a ha h))))))
theorem kf_22_10 {a : Nat} (h : kd a = 22) : xfx a 10 = some (a + 15) ∧ kd (a + 15) = 24 := kg_22_10 a (kd_lt (by rw [h]; decide)) h
theorem kb_27 : ∀ a, a < 598 → kd a = 27 → a < 598 ∧ xsh a = (107, 7) := fun a ha h => of_decide_eq_true (kb_l (kq_27 a ha h))
theorem kx_27 {a : Nat} (h : kd a = 27) : a < 598 ∧ xsh a = (107, 7) := kb_27 a (kd_lt (by rw [h]; decide)) h
theorem kg_27_0 : ∀ a, a < 598 → kd a = 27 → xfx a 0 = some (a + 1) ∧ kd (a + 1) = 29 := fun a ha h => of_decide_eq_true (kb_l (kb_r (kq_27 a ha h)))
theorem kf_27_0 {a : Nat} (h : kd a = 27) : xfx a 0 = some (a + 1) ∧ kd (a + 1) = 29 := kg_27_0 a (kd_lt (by rw [h]; decide)) h
theorem kg_27_1 : ∀ a, a < 598 → kd a = 27 → xfx a 1 = some (a + 2) ∧ kd (a + 2) = 28 := fun a ha h => of_decide_eq_true (kb_l (kb_r (kb_r (kq_27 a ha h))))
theorem kf_27_1 {a : Nat} (h : kd a = 27) : xfx a 1 = some (a + 2) ∧ kd (a + 2) = 28 := kg_27_1 a (kd_lt (by rw [h]; decide)) h
theorem kg_27_2 : ∀ a, a < 598 → kd a = 27 → xfx a 2 = some (a + 3) ∧ kd (a + 3) = 31 := fun a ha h => of_decide_eq_true (kb_l (kb_r (kb_r (kb_r (kq_27 a ha h)))))
theorem kf_27_2 {a : Nat} (h : kd a = 27) : xfx a 2 = some (a + 3) ∧ kd (a + 3) = 31 := kg_27_2 a (kd_lt (by rw [h]; decide)) h
theorem kg_27_3 : ∀ a, a < 598 → kd a = 27 → xfx a 3 = some (a + 4) ∧ kd (a + 4) = 32 := fun a ha h => of_decide_eq_true (kb_l (kb_r (kb_r (kb_r (kb_r (kq_27 a ha h))))))
theorem kf_27_3 {a : Nat} (h : kd a = 27) : xfx a 3 = some (a + 4) ∧ kd (a + 4) = 32 := kg_27_3 a (kd_lt (by rw [h]; decide)) h
theorem kg_27_4 : ∀ a, a < 598 → kd a = 27 → xfx a 4 = some (a + 5) ∧ kd (a + 5) = 30 := fun a ha h => of_decide_eq_true (kb_r (kb_r (kb_r (kb_r (kb_r (kq_27 a ha h))))))
theorem kf_27_4 {a : Nat} (h : kd a = 27) : xfx a 4 = some (a + 5) ∧ kd (a + 5) = 30 := kg_27_4 a (kd_lt (by rw [h]; decide)) h
theorem kb_33 : ∀ a, a < 598 → kd a = 33 → a < 598 ∧ xsh a = (108, 3) := fun a ha h => of_decide_eq_true (kb_l (kq_33 a ha h))
theorem kx_33 {a : Nat} (h : kd a = 33) : a < 598 ∧ xsh a = (108, 3) := kb_33 a (kd_lt (by rw [h]; decide)) h
theorem kg_33_0 : ∀ a, a < 598 → kd a = 33 → xfx a 0 = some (a + 1) ∧ kd (a + 1) = 34 := fun a ha h => of_decide_eq_true (kb_r (kq_33 a ha h))
theorem kf_33_0 {a : Nat} (h : kd a = 33) : xfx a 0 = some (a + 1) ∧ kd (a + 1) = 34 := kg_33_0 a (kd_lt (by rw [h]; decide)) h
theorem kb_35 : ∀ a, a < 598 → kd a = 35 → a < 598 ∧ xsh a = (100, 15) := fun a ha h => of_decide_eq_true (kb_l (kq_35 a ha h))
theorem kx_35 {a : Nat} (h : kd a = 35) : a < 598 ∧ xsh a = (100, 15) := kb_35 a (kd_lt (by rw [h]; decide)) h
theorem kg_35_0 : ∀ a, a < 598 → kd a = 35 → xfx a 0 = some (a + 1) ∧ kd (a + 1) = 43 := fun a ha h => of_decide_eq_true (kb_l (kb_r (kq_35 a ha h)))
theorem kf_35_0 {a : Nat} (h : kd a = 35) : xfx a 0 = some (a + 1) ∧ kd (a + 1) = 43 := kg_35_0 a (kd_lt (by rw [h]; decide)) h
theorem kg_35_2 : ∀ a, a < 598 → kd a = 35 → xfx a 2 = some (a + 2) ∧ kd (a + 2) = 42 := fun a ha h => of_decide_eq_true (kb_l (kb_r (kb_r (kq_35 a ha h))))
theorem kf_35_2 {a : Nat} (h : kd a = 35) : xfx a 2 = some (a + 2) ∧ kd (a + 2) = 42 := kg_35_2 a (kd_lt (by rw [h]; decide)) h
theorem kg_35_3 : ∀ a, a < 598 → kd a = 35 → xfx a 3 = some (a + 3) ∧ kd (a + 3) = 18 := fun a ha h => of_decide_eq_true (kb_l (kb_r (kb_r (kb_r (kq_35 a ha h)))))
theorem kf_35_3 {a : Nat} (h : kd a = 35) : xfx a 3 = some (a + 3) ∧ kd (a + 3) = 18 := kg_35_3 a (kd_lt (by rw [h]; decide)) h
theorem kg_35_4 : ∀ a, a < 598 → kd a = 35 → xfx a 4 = some (a + 9) ∧ kd (a + 9) = 39 := fun a ha h => of_decide_eq_true (kb_l (kb_r (kb_r (kb_r (kb_r (kq_35 a ha h))))))
theorem kf_35_4 {a : Nat} (h : kd a = 35) : xfx a 4 = some (a + 9) ∧ kd (a + 9) = 39 := kg_35_4 a (kd_lt (by rw [h]; decide)) h
theorem kg_35_5 : ∀ a, a < 598 → kd a = 35 → xfx a 5 = some (a + 10) ∧ kd (a + 10) = 40 := fun a ha h => of_decide_eq_true (kb_l (kb_r (kb_r (kb_r (kb_r (kb_r (kq_35 a ha h)))))))
theorem kf_35_5 {a : Nat} (h : kd a = 35) : xfx a 5 = some (a + 10) ∧ kd (a + 10) = 40 := kg_35_5 a (kd_lt (by rw [h]; decide)) h
theorem kg_35_6 : ∀ a, a < 598 → kd a = 35 → xfx a 6 = some (a + 11) ∧ kd (a + 11) = 15 := fun a ha h => of_decide_eq_true (kb_l (kb_r (kb_r (kb_r (kb_r (kb_r (kb_r (kq_35 a ha h))))))))
theorem kf_35_6 {a : Nat} (h : kd a = 35) : xfx a 6 = some (a + 11) ∧ kd (a + 11) = 15 := kg_35_6 a (kd_lt (by rw [h]; decide)) h
theorem kg_35_7 : ∀ a, a < 598 → kd a = 35 → xfx a 7 = some (a + 14) ∧ kd (a + 14) = 41 := fun a ha h => of_decide_eq_true (kb_l (kb_r (kb_r (kb_r (kb_r (kb_r (kb_r (kb_r (kq_35 a ha h)))))))))
theorem kf_35_7 {a : Nat} (h : kd a = 35) : xfx a 7 = some (a + 14) ∧ kd (a + 14) = 41 := kg_35_7 a (kd_lt (by rw [h]; decide)) h
theorem kg_35_9 : ∀ a, a < 598 → kd a = 35 → xfx a 9 = some (a + 15) ∧ kd (a + 15) = 9 := fun a ha h => of_decide_eq_true (kb_l (kb_r (kb_r (kb_r (kb_r (kb_r (kb_r (kb_r (kb_r (kq_35 a ha h))))))))))
theorem kf_35_9 {a : Nat} (h : kd a = 35) : xfx a 9 = some (a + 15) ∧ kd (a + 15) = 9 := kg_35_9 a (kd_lt (by rw [h]; decide)) h
theorem kg_35_10 : ∀ a, a < 598 → kd a = 35 → xfx a 10 = some (a + 413) ∧ kd (a + 413) = 44 := fun a ha h => of_decide_eq_true (kb_l (kb_r (kb_r (kb_r (kb_r (kb_r (kb_r (kb_r (kb_r (kb_r (kq_35 a ha h)))))))))))
theorem kf_35_10 {a : Nat} (h : kd a = 35) : xfx a 10 = some (a + 413) ∧ kd (a + 413) = 44 := kg_35_10 a (kd_lt (by rw [h]; decide)) h
theorem kg_35_11 : ∀ a, a < 598 → kd a = 35 → xfx a 11 = some (a + 421) ∧ kd (a + 421) = 22 := fun a ha h => of_decide_eq_true (kb_l (kb_r (kb_r (kb_r (kb_r (kb_r (kb_r (kb_r (kb_r (kb_r (kb_r (kq_35 a ha h))))))))))))
theorem kf_35_11 {a : Nat} (h : kd a = 35) : xfx a 11 = some (a + 421) ∧ kd (a + 421) = 22 := kg_35_11 a (kd_lt (by rw [h]; decide)) h
theorem kg_35_12 : ∀ a, a < 598 → kd a = 35 → xfx a 12 = some (a + 523) ∧ kd (a + 523) = 38 := fun a ha h => of_decide_eq_true (kb_l (kb_r (kb_r (kb_r (kb_r (kb_r (kb_r (kb_r (kb_r (kb_r (kb_r (kb_r (kq_35 a ha h)))))))))))))
theorem kf_35_12 {a : Nat} (h : kd a = 35) : xfx a 12 = some (a + 523) ∧ kd (a + 523) = 38 := kg_35_12 a (kd_lt (by rw [h]; decide)) h
theorem kg_35_13 : ∀ a, a < 598 → kd a = 35 → xfx a 13 = some (a + 524) ∧ kd (a + 524) = 36 := fun a ha h => of_decide_eq_true (kb_l (kb_r (kb_r (kb_r (kb_r (kb_r (kb_r (kb_r (kb_r (kb_r (kb_r (kb_r (kb_r (kq_35 a ha h))))))))))))))
theorem kf_35_13 {a : Nat} (h : kd a = 35) : xfx a 13 = some (a + 524) ∧ kd (a + 524) = 36 := kg_35_13 a (kd_lt (by rw [h]; decide)) h
theorem kg_35_14 : ∀ a, a < 598 → kd a = 35 → xfx a 14 = some (a + 525) ∧ kd (a + 525) = 37 := fun a ha h => of_decide_eq_true (kb_r (kb_r (kb_r (kb_r (kb_r (kb_r (kb_r (kb_r (kb_r (kb_r (kb_r (kb_r (kb_r (kq_35 a ha h))))))))))))))
theorem kf_35_14 {a : Nat} (h : kd a = 35) : xfx a 14 = some (a + 525) ∧ kd (a + 525) = 37 := kg_35_14 a (kd_lt (by rw [h]; decide)) h
theorem kb_44 : ∀ a, a < 598 → kd a = 44 → a < 598 ∧ xsh a = (109, 12) := fun a ha h => of_decide_eq_true (kb_l (kq_44 a ha h))
theorem kx_44 {a : Nat} (h : kd a = 44) : a < 598 ∧ xsh a = (109, 12) := kb_44 a (kd_lt (by rw [h]; decide)) h
theorem kg_44_5 : ∀ a, a < 598 → kd a = 44 → xfx a 5 = some (a + 7) ∧ kd (a + 7) = 45 := fun a ha h => of_decide_eq_true (kb_r (kq_44 a ha h))
theorem kf_44_5 {a : Nat} (h : kd a = 44) : xfx a 5 = some (a + 7) ∧ kd (a + 7) = 45 := kg_44_5 a (kd_lt (by rw [h]; decide)) h
theorem kb_47 : ∀ a, a < 598 → kd a = 47 → a < 598 ∧ xsh a = (110, 7) := fun a ha h => of_decide_eq_true (kb_l (kq_47 a ha h))
theorem kx_47 {a : Nat} (h : kd a = 47) : a < 598 ∧ xsh a = (110, 7) := kb_47 a (kd_lt (by rw [h]; decide)) h
theorem kg_47_0 : ∀ a, a < 598 → kd a = 47 → xfx a 0 = some (a + 1) ∧ kd (a + 1) = 51 := fun a ha h => of_decide_eq_true (kb_l (kb_r (kq_47 a ha h)))
theorem kf_47_0 {a : Nat} (h : kd a = 47) : xfx a 0 = some (a + 1) ∧ kd (a + 1) = 51 := kg_47_0 a (kd_lt (by rw [h]; decide)) h
theorem kg_47_1 : ∀ a, a < 598 → kd a = 47 → xfx a 1 = some (a + 2) ∧ kd (a + 2) = 48 := fun a ha h => of_decide_eq_true (kb_l (kb_r (kb_r (kq_47 a ha h))))
theorem kf_47_1 {a : Nat} (h : kd a = 47) : xfx a 1 = some (a + 2) ∧ kd (a + 2) = 48 := kg_47_1 a (kd_lt (by rw [h]; decide)) h
theorem kg_47_5 : ∀ a, a < 598 → kd a = 47 → xfx a 5 = some (a + 3) ∧ kd (a + 3) = 50 := fun a ha h => of_decide_eq_true (kb_l (kb_r (kb_r (kb_r (kq_47 a ha h)))))
theorem kf_47_5 {a : Nat} (h : kd a = 47) : xfx a 5 = some (a + 3) ∧ kd (a + 3) = 50 := kg_47_5 a (kd_lt (by rw [h]; decide)) h
theorem kg_47_6 : ∀ a, a < 598 → kd a = 47 → xfx a 6 = some (a + 4) ∧ kd (a + 4) = 49 := fun a ha h => of_decide_eq_true (kb_r (kb_r (kb_r (kb_r (kq_47 a ha h)))))
theorem kf_47_6 {a : Nat} (h : kd a = 47) : xfx a 6 = some (a + 4) ∧ kd (a + 4) = 49 := kg_47_6 a (kd_lt (by rw [h]; decide)) h
theorem kb_52 : ∀ a, a < 598 → kd a = 52 → a < 598 ∧ xsh a = (111, 4) := fun a ha h => of_decide_eq_true (kb_l (kq_52 a ha h))
theorem kx_52 {a : Nat} (h : kd a = 52) : a < 598 ∧ xsh a = (111, 4) := kb_52 a (kd_lt (by rw [h]; decide)) h
theorem kg_52_2 : ∀ a, a < 598 → kd a = 52 → xfx a 2 = some (a + 1) ∧ kd (a + 1) = 54 := fun a ha h => of_decide_eq_true (kb_l (kb_r (kq_52 a ha h)))
theorem kf_52_2 {a : Nat} (h : kd a = 52) : xfx a 2 = some (a + 1) ∧ kd (a + 1) = 54 := kg_52_2 a (kd_lt (by rw [h]; decide)) h
theorem kg_52_3 : ∀ a, a < 598 → kd a = 52 → xfx a 3 = some (a + 2) ∧ kd (a + 2) = 53 := fun a ha h => of_decide_eq_true (kb_r (kb_r (kq_52 a ha h)))
theorem kf_52_3 {a : Nat} (h : kd a = 52) : xfx a 3 = some (a + 2) ∧ kd (a + 2) = 53 := kg_52_3 a (kd_lt (by rw [h]; decide)) h
theorem kb_2 : ∀ a, a < 598 → kd a = 2 → a < 598 ∧ xsh a = (1, 2) := fun a ha h => of_decide_eq_true (kq_2 a ha h)
theorem kx_2 {a : Nat} (h : kd a = 2) : a < 598 ∧ xsh a = (1, 2) := kb_2 a (kd_lt (by rw [h]; decide)) h
theorem kb_3 : ∀ a, a < 598 → kd a = 3 → a < 598 ∧ xsh a = (1, 2) := fun a ha h => of_decide_eq_true (kq_3 a ha h)
theorem kx_3 {a : Nat} (h : kd a = 3) : a < 598 ∧ xsh a = (1, 2) := kb_3 a (kd_lt (by rw [h]; decide)) h
theorem kb_4 : ∀ a, a < 598 → kd a = 4 → a < 598 ∧ xsh a = (2, 2) := fun a ha h => of_decide_eq_true (kq_4 a ha h)
theorem kx_4 {a : Nat} (h : kd a = 4) : a < 598 ∧ xsh a = (2, 2) := kb_4 a (kd_lt (by rw [h]; decide)) h
theorem kb_5 : ∀ a, a < 598 → kd a = 5 → a < 598 ∧ xsh a = (0, 2) := fun a ha h => of_decide_eq_true (kq_5 a ha h)
theorem kx_5 {a : Nat} (h : kd a = 5) : a < 598 ∧ xsh a = (0, 2) := kb_5 a (kd_lt (by rw [h]; decide)) h
theorem kb_6 : ∀ a, a < 598 → kd a = 6 → a < 598 ∧ xsh a = (1, 2) := fun a ha h => of_decide_eq_true (kq_6 a ha h)
theorem kx_6 {a : Nat} (h : kd a = 6) : a < 598 ∧ xsh a = (1, 2) := kb_6 a (kd_lt (by rw [h]; decide)) h
theorem kb_7 : ∀ a, a < 598 → kd a = 7 → a < 598 ∧ xsh a = (0, 2) := fun a ha h => of_decide_eq_true (kq_7 a ha h)
theorem kx_7 {a : Nat} (h : kd a = 7) : a < 598 ∧ xsh a = (0, 2) := kb_7 a (kd_lt (by rw [h]; decide)) h
theorem kb_8 : ∀ a, a < 598 → kd a = 8 → a < 598 ∧ xsh a = (0, 2) := fun a ha h => of_decide_eq_true (kq_8 a ha h)
theorem kx_8 {a : Nat} (h : kd a = 8) : a < 598 ∧ xsh a = (0, 2) := kb_8 a (kd_lt (by rw [h]; decide)) h
theorem kb_10 : ∀ a, a < 598 → kd a = 10 → a < 598 ∧ xsh a = (1, 4) := fun a ha h => of_decide_eq_true (kq_10 a ha h)
theorem kx_10 {a : Nat} (h : kd a = 10) : a < 598 ∧ xsh a = (1, 4) := kb_10 a (kd_lt (by rw [h]; decide)) h
theorem kb_11 : ∀ a, a < 598 → kd a = 11 → a < 598 ∧ xsh a = (0, 4) := fun a ha h => of_decide_eq_true (kq_11 a ha h)
theorem kx_11 {a : Nat} (h : kd a = 11) : a < 598 ∧ xsh a = (0, 4) := kb_11 a (kd_lt (by rw [h]; decide)) h
theorem kb_12 : ∀ a, a < 598 → kd a = 12 → a < 598 ∧ xsh a = (0, 4) := fun a ha h => of_decide_eq_true (kq_12 a ha h)
theorem kx_12 {a : Nat} (h : kd a = 12) : a < 598 ∧ xsh a = (0, 4) := kb_12 a (kd_lt (by rw [h]; decide)) h
theorem kb_13 : ∀ a, a < 598 → kd a = 13 → a < 598 ∧ xsh a = (5, 24) := fun a ha h => of_decide_eq_true (kq_13 a ha h)
theorem kx_13 {a : Nat} (h : kd a = 13) : a < 598 ∧ xsh a = (5, 24) := kb_13 a (kd_lt (by rw [h]; decide)) h
theorem ke_13 : ∀ a, a < 598 → kd a = 13 → ∀ i, i < 24 → xel a i = some ((xel a i).getD 0) ∧ kd ((xel a i).getD 0) = 1 := by decide +kernel
theorem kxe_13 {a : Nat} (h : kd a = 13) {i : Int} (h0 : 0 ≤ i) (h1 : i < 24) : xel a i.toNat = some (xe a i) ∧ kd (xe a i) = 1 := ke_13 a (kd_lt (by rw [h]; decide)) h i.toNat (by omega)
theorem kb_16 : ∀ a, a < 598 → kd a = 16 → a < 598 ∧ xsh a = (0, 400) := fun a ha h => of_decide_eq_true (kq_16 a ha h)
theorem kx_16 {a : Nat} (h : kd a = 16) : a < 598 ∧ xsh a = (0, 400) := kb_16 a (kd_lt (by rw [h]; decide)) h
theorem kb_17 : ∀ a, a < 598 → kd a = 17 → a < 598 ∧ xsh a = (0, 360) := fun a ha h => of_decide_eq_true (kq_17 a ha h)
theorem kx_17 {a : Nat} (h : kd a = 17) : a < 598 ∧ xsh a = (0, 360) := kb_17 a (kd_lt (by rw [h]; decide)) h
theorem kb_19 : ∀ a, a < 598 → kd a = 19 → a < 598 ∧ xsh a = (0, 12) := fun a ha h => of_decide_eq_true (kq_19 a ha h)
theorem kx_19 {a : Nat} (h : kd a = 19) : a < 598 ∧ xsh a = (0, 12) := kb_19 a (kd_lt (by rw [h]; decide)) h
theorem kb_20 : ∀ a, a < 598 → kd a = 20 → a < 598 ∧ xsh a = (0, 12) := fun a ha h => of_decide_eq_true (kq_20 a ha h)
theorem kx_20 {a : Nat} (h : kd a = 20) : a < 598 ∧ xsh a = (0, 12) := kb_20 a (kd_lt (by rw [h]; decide)) h
theorem kb_21 : ∀ a, a < 598 → kd a = 21 → a < 598 ∧ xsh a = (0, 12) := fun a ha h => of_decide_eq_true (kq_21 a ha h)
theorem kx_21 {a : Nat} (h : kd a = 21) : a < 598 ∧ xsh a = (0, 12) := kb_21 a (kd_lt (by rw [h]; decide)) h
theorem kb_23 : ∀ a, a < 598 → kd a = 23 → a < 598 ∧ xsh a = (7, 8) := fun a ha h => of_decide_eq_true (kq_23 a ha h)
theorem kx_23 {a : Nat} (h : kd a = 23) : a < 598 ∧ xsh a = (7, 8) := kb_23 a (kd_lt (by rw [h]; decide)) h
theorem ke_23 : ∀ a, a < 598 → kd a = 23 → ∀ i, i < 8 → xel a i = some ((xel a i).getD 0) ∧ kd ((xel a i).getD 0) = 14 := by decide +kernel
theorem kxe_23 {a : Nat} (h : kd a = 23) {i : Int} (h0 : 0 ≤ i) (h1 : i < 8) : xel a i.toNat = some (xe a i) ∧ kd (xe a i) = 14 := ke_23 a (kd_lt (by rw [h]; decide)) h i.toNat (by omega)
theorem kb_24 : ∀ a, a < 598 → kd a = 24 → a < 598 ∧ xsh a = (0, 50) := fun a ha h => of_decide_eq_true (kq_24 a ha h)
theorem kx_24 {a : Nat} (h : kd a = 24) : a < 598 ∧ xsh a = (0, 50) := kb_24 a (kd_lt (by rw [h]; decide)) h
theorem kb_25 : ∀ a, a < 598 → kd a = 25 → a < 598 ∧ xsh a = (6, 8) := fun a ha h => of_decide_eq_true (kq_25 a ha h)
theorem kx_25 {a : Nat} (h : kd a = 25) : a < 598 ∧ xsh a = (6, 8) := kb_25 a (kd_lt (by rw [h]; decide)) h
theorem ke_25 : ∀ a, a < 598 → kd a = 25 → ∀ i, i < 8 → xel a i = some ((xel a i).getD 0) ∧ kd ((xel a i).getD 0) = 52 := by decide +kernel
theorem kxe_25 {a : Nat} (h : kd a = 25) {i : Int} (h0 : 0 ≤ i) (h1 : i < 8) : xel a i.toNat = some (xe a i) ∧ kd (xe a i) = 52 := ke_25 a (kd_lt (by rw [h]; decide)) h i.toNat (by omega)
theorem kb_26 : ∀ a, a < 598 → kd a = 26 → a < 598 ∧ xsh a = (1, 320) := fun a ha h => of_decide_eq_true (kq_26 a ha h)
theorem kx_26 {a : Nat} (h : kd a = 26) : a < 598 ∧ xsh a = (1, 320) := kb_26 a (kd_lt (by rw [h]; decide)) h
theorem kb_28 : ∀ a, a < 598 → kd a = 28 → a < 598 ∧ xsh a = (0, 4) := fun a ha h => of_decide_eq_true (kq_28 a ha h)
theorem kx_28 {a : Nat} (h : kd a = 28) : a < 598 ∧ xsh a = (0, 4) := kb_28 a (kd_lt (by rw [h]; decide)) h
theorem kb_29 : ∀ a, a < 598 → kd a = 29 → a < 598 ∧ xsh a = (1, 8) := fun a ha h => of_decide_eq_true (kq_29 a ha h)
theorem kx_29 {a : Nat} (h : kd a = 29) : a < 598 ∧ xsh a = (1, 8) := kb_29 a (kd_lt (by rw [h]; decide)) h
theorem kb_30 : ∀ a, a < 598 → kd a = 30 → a < 598 ∧ xsh a = (1, 20) := fun a ha h => of_decide_eq_true (kq_30 a ha h)
theorem kx_30 {a : Nat} (h : kd a = 30) : a < 598 ∧ xsh a = (1, 20) := kb_30 a (kd_lt (by rw [h]; decide)) h
theorem kb_31 : ∀ a, a < 598 → kd a = 31 → a < 598 ∧ xsh a = (1, 64) := fun a ha h => of_decide_eq_true (kq_31 a ha h)
theorem kx_31 {a : Nat} (h : kd a = 31) : a < 598 ∧ xsh a = (1, 64) := kb_31 a (kd_lt (by rw [h]; decide)) h
theorem kb_32 : ∀ a, a < 598 → kd a = 32 → a < 598 ∧ xsh a = (0, 4) := fun a ha h => of_decide_eq_true (kq_32 a ha h)
theorem kx_32 {a : Nat} (h : kd a = 32) : a < 598 ∧ xsh a = (0, 4) := kb_32 a (kd_lt (by rw [h]; decide)) h
theorem kb_34 : ∀ a, a < 598 → kd a = 34 → a < 598 ∧ xsh a = (0, 400) := fun a ha h => of_decide_eq_true (kq_34 a ha h)
theorem kx_34 {a : Nat} (h : kd a = 34) : a < 598 ∧ xsh a = (0, 400) := kb_34 a (kd_lt (by rw [h]; decide)) h
theorem kb_36 : ∀ a, a < 598 → kd a = 36 → a < 598 ∧ xsh a = (0, 4) := fun a ha h => of_decide_eq_true (kq_36 a ha h)
theorem kx_36 {a : Nat} (h : kd a = 36) : a < 598 ∧ xsh a = (0, 4) := kb_36 a (kd_lt (by rw [h]; decide)) h
theorem kb_37 : ∀ a, a < 598 → kd a = 37 → a < 598 ∧ xsh a = (0, 4) := fun a ha h => of_decide_eq_true (kq_37 a ha h)
theorem kx_37 {a : Nat} (h : kd a = 37) : a < 598 ∧ xsh a = (0, 4) := kb_37 a (kd_lt (by rw [h]; decide)) h
theorem kb_38 : ∀ a, a < 598 → kd a = 38 → a < 598 ∧ xsh a = (0, 4) := fun a ha h => of_decide_eq_true (kq_38 a ha h)
theorem kx_38 {a : Nat} (h : kd a = 38) : a < 598 ∧ xsh a = (0, 4) := kb_38 a (kd_lt (by rw [h]; decide)) h
theorem kb_39 : ∀ a, a < 598 → kd a = 39 → a < 598 ∧ xsh a = (0, 4) := fun a ha h => of_decide_eq_true (kq_39 a ha h)
theorem kx_39 {a : Nat} (h : kd a = 39) : a < 598 ∧ xsh a = (0, 4) := kb_39 a (kd_lt (by rw [h]; decide)) h
theorem kb_40 : ∀ a, a < 598 → kd a = 40 → a < 598 ∧ xsh a = (4, 8) := fun a ha h => of_decide_eq_true (kq_40 a ha h)
theorem kx_40 {a : Nat} (h : kd a = 40) : a < 598 ∧ xsh a = (4, 8) := kb_40 a (kd_lt (by rw [h]; decide)) h
theorem ke_40 : ∀ a, a < 598 → kd a = 40 → ∀ i, i < 8 → xel a i = some ((xel a i).getD 0) ∧ kd ((xel a i).getD 0) = 15 := by decide +kernel
theorem kxe_40 {a : Nat} (h : kd a = 40) {i : Int} (h0 : 0 ≤ i) (h1 : i < 8) : xel a i.toNat = some (xe a i) ∧ kd (xe a i) = 15 := ke_40 a (kd_lt (by rw [h]; decide)) h i.toNat (by omega)
theorem kb_41 : ∀ a, a < 598 → kd a = 41 → a < 598 ∧ xsh a = (0, 5) := fun a ha h => of_decide_eq_true (kq_41 a ha h)
theorem kx_41 {a : Nat} (h : kd a = 41) : a < 598 ∧ xsh a = (0, 5) := kb_41 a (kd_lt (by rw [h]; decide)) h
theorem kb_42 : ∀ a, a < 598 → kd a = 42 → a < 598 ∧ xsh a = (3, 24) := fun a ha h => of_decide_eq_true (kq_42 a ha h)
theorem kx_42 {a : Nat} (h : kd a = 42) : a < 598 ∧ xsh a = (3, 24) := kb_42 a (kd_lt (by rw [h]; decide)) h
theorem ke_42 : ∀ a, a < 598 → kd a = 42 → ∀ i, i < 24 → xel a i = some ((xel a i).getD 0) ∧ kd ((xel a i).getD 0) = 33 := by decide +kernel
theorem kxe_42 {a : Nat} (h : kd a = 42) {i : Int} (h0 : 0 ≤ i) (h1 : i < 24) : xel a i.toNat = some (xe a i) ∧ kd (xe a i) = 33 := ke_42 a (kd_lt (by rw [h]; decide)) h i.toNat (by omega)
theorem kb_43 : ∀ a, a < 598 → kd a = 43 → a < 598 ∧ xsh a = (0, 1600) := fun a ha h => of_decide_eq_true (kq_43 a ha h)
theorem kx_43 {a : Nat} (h : kd a = 43) : a < 598 ∧ xsh a = (0, 1600) := kb_43 a (kd_lt (by rw [h]; decide)) h
theorem kb_45 : ∀ a, a < 598 → kd a = 45 → a < 598 ∧ xsh a = (0, 16) := fun a ha h => of_decide_eq_true (kq_45 a ha h)
theorem kx_45 {a : Nat} (h : kd a = 45) : a < 598 ∧ xsh a = (0, 16) := kb_45 a (kd_lt (by rw [h]; decide)) h
theorem kb_46 : ∀ a, a < 598 → kd a = 46 → a < 598 ∧ xsh a = (0, 0) := fun a ha h => of_decide_eq_true (kq_46 a ha h)
theorem kx_46 {a : Nat} (h : kd a = 46) : a < 598 ∧ xsh a = (0, 0) := kb_46 a (kd_lt (by rw [h]; decide)) h
theorem kb_48 : ∀ a, a < 598 → kd a = 48 → a < 598 ∧ xsh a = (0, 932) := fun a ha h => of_decide_eq_true (kq_48 a ha h)
theorem kx_48 {a : Nat} (h : kd a = 48) : a < 598 ∧ xsh a = (0, 932) := kb_48 a (kd_lt (by rw [h]; decide)) h
theorem kb_49 : ∀ a, a < 598 → kd a = 49 → a < 598 ∧ xsh a = (0, 16) := fun a ha h => of_decide_eq_true (kq_49 a ha h)
theorem kx_49 {a : Nat} (h : kd a = 49) : a < 598 ∧ xsh a = (0, 16) := kb_49 a (kd_lt (by rw [h]; decide)) h
theorem kb_50 : ∀ a, a < 598 → kd a = 50 → a < 598 ∧ xsh a = (0, 16) := fun a ha h => of_decide_eq_true (kq_50 a ha h)
theorem kx_50 {a : Nat} (h : kd a = 50) : a < 598 ∧ xsh a = (0, 16) := kb_50 a (kd_lt (by rw [h]; decide)) h
theorem kb_51 : ∀ a, a < 598 → kd a = 51 → a < 598 ∧ xsh a = (0, 932) := fun a ha h => of_decide_eq_true (kq_51 a ha h)
theorem kx_51 {a : Nat} (h : kd a = 51) : a < 598 ∧ xsh a = (0, 932) := kb_51 a (kd_lt (by rw [h]; decide)) h
theorem kb_53 : ∀ a, a < 598 → kd a = 53 → a < 598 ∧ xsh a = (1, 440) := fun a ha h => of_decide_eq_true (kq_53 a ha h)
theorem kx_53 {a : Nat} (h : kd a = 53) : a < 598 ∧ xsh a = (1, 440) := kb_53 a (kd_lt (by rw [h]; decide)) h
theorem kb_54 : ∀ a, a < 598 → kd a = 54 → a < 598 ∧ xsh a = (1, 40) := fun a ha h => of_decide_eq_true (kq_54 a ha h)
theorem kx_54 {a : Nat} (h : kd a = 54) : a < 598 ∧ xsh a = (1, 40) := kb_54 a (kd_lt (by rw [h]; decide)) h
noncomputable def jref (ty : FieldType) : Bool := match ty with
  | .object _ => true
  | .array _ => true
  | _ => false
theorem jval_ref {a j r : Nat} {ty : FieldType} {x : Int} (ht : jref ty = true) (h : xfx a j = some r) : jval a j ty x = .ref r := by
  cases ty <;> first | (exact absurd ht (by decide)) | (unfold jval; rw [h]; rfl)
end
section
/-! ===== the law, on ===== -/
theorem xwm_s0 : ∀ w ∈ (xwStat "PacketWall$Headers" "LEAST" xv_1 : List Cond), w ∈ xwant := fun w hw => List.mem_append_left _ (List.mem_append_left _ (List.mem_append_left _ (List.mem_append_left _ (List.mem_append_left _ (List.mem_append_left _ (List.mem_append_left _ (List.mem_append_left _ (List.mem_append_left _ (List.mem_append_left _ (List.mem_append_left _ (List.mem_append_left _ (List.mem_append_left _ (List.mem_append_left _ (List.mem_append_left _ (List.mem_append_left _ (List.mem_append_left _ (List.mem_append_left _ (List.mem_append_left _ (List.mem_append_left _ (List.mem_append_left _ (List.mem_append_left _ (List.mem_append_left _ (List.mem_append_left _ (hw))))))))))))))))))))))))
theorem xwm_s1 : ∀ w ∈ (xwStat "PacketWall$Headers" "FIELD_COUNTS" xv_2 : List Cond), w ∈ xwant := fun w hw => List.mem_append_left _ (List.mem_append_left _ (List.mem_append_left _ (List.mem_append_left _ (List.mem_append_left _ (List.mem_append_left _ (List.mem_append_left _ (List.mem_append_left _ (List.mem_append_left _ (List.mem_append_left _ (List.mem_append_left _ (List.mem_append_left _ (List.mem_append_left _ (List.mem_append_left _ (List.mem_append_left _ (List.mem_append_left _ (List.mem_append_left _ (List.mem_append_left _ (List.mem_append_left _ (List.mem_append_left _ (List.mem_append_left _ (List.mem_append_left _ (List.mem_append_left _ (List.mem_append_right _ hw)))))))))))))))))))))))
theorem xwm_s2 : ∀ w ∈ (xwStat "PacketWall$Headers" "FIRST_FORM" xv_3 : List Cond), w ∈ xwant := fun w hw => List.mem_append_left _ (List.mem_append_left _ (List.mem_append_left _ (List.mem_append_left _ (List.mem_append_left _ (List.mem_append_left _ (List.mem_append_left _ (List.mem_append_left _ (List.mem_append_left _ (List.mem_append_left _ (List.mem_append_left _ (List.mem_append_left _ (List.mem_append_left _ (List.mem_append_left _ (List.mem_append_left _ (List.mem_append_left _ (List.mem_append_left _ (List.mem_append_left _ (List.mem_append_left _ (List.mem_append_left _ (List.mem_append_left _ (List.mem_append_left _ (List.mem_append_right _ hw))))))))))))))))))))))
theorem xwm_s3 : ∀ w ∈ (xwStat "PacketWall$Headers" "FORMS" xv_4 : List Cond), w ∈ xwant := fun w hw => List.mem_append_left _ (List.mem_append_left _ (List.mem_append_left _ (List.mem_append_left _ (List.mem_append_left _ (List.mem_append_left _ (List.mem_append_left _ (List.mem_append_left _ (List.mem_append_left _ (List.mem_append_left _ (List.mem_append_left _ (List.mem_append_left _ (List.mem_append_left _ (List.mem_append_left _ (List.mem_append_left _ (List.mem_append_left _ (List.mem_append_left _ (List.mem_append_left _ (List.mem_append_left _ (List.mem_append_left _ (List.mem_append_left _ (List.mem_append_right _ hw)))))))))))))))))))))
theorem xwm_s4 : ∀ w ∈ (xwStat "PacketWall$Flow" "NEXT_STATES" xv_5 : List Cond), w ∈ xwant := fun w hw => List.mem_append_left _ (List.mem_append_left _ (List.mem_append_left _ (List.mem_append_left _ (List.mem_append_left _ (List.mem_append_left _ (List.mem_append_left _ (List.mem_append_left _ (List.mem_append_left _ (List.mem_append_left _ (List.mem_append_left _ (List.mem_append_left _ (List.mem_append_left _ (List.mem_append_left _ (List.mem_append_left _ (List.mem_append_left _ (List.mem_append_left _ (List.mem_append_left _ (List.mem_append_left _ (List.mem_append_left _ (List.mem_append_right _ hw))))))))))))))))))))
theorem xwm_s5 : ∀ w ∈ (xwStat "PacketWall$Flow" "STREAM_LIVES" xv_6 : List Cond), w ∈ xwant := fun w hw => List.mem_append_left _ (List.mem_append_left _ (List.mem_append_left _ (List.mem_append_left _ (List.mem_append_left _ (List.mem_append_left _ (List.mem_append_left _ (List.mem_append_left _ (List.mem_append_left _ (List.mem_append_left _ (List.mem_append_left _ (List.mem_append_left _ (List.mem_append_left _ (List.mem_append_left _ (List.mem_append_left _ (List.mem_append_left _ (List.mem_append_left _ (List.mem_append_left _ (List.mem_append_left _ (List.mem_append_right _ hw)))))))))))))))))))
theorem xwm_c0 : ∀ w ∈ ([Cond.eq (.static "java/lang/String" "COMPACT_STRINGS" "Z") (.int 1), Cond.isRef (.static "jdk/internal/util/Preconditions" "SIOOBE_FORMATTER" "Ljava/util/function/BiFunction;")] : List Cond), w ∈ xwant := fun w hw => List.mem_append_left _ (List.mem_append_left _ (List.mem_append_left _ (List.mem_append_left _ (List.mem_append_left _ (List.mem_append_left _ (List.mem_append_left _ (List.mem_append_left _ (List.mem_append_left _ (List.mem_append_left _ (List.mem_append_left _ (List.mem_append_left _ (List.mem_append_left _ (List.mem_append_left _ (List.mem_append_left _ (List.mem_append_left _ (List.mem_append_left _ (List.mem_append_left _ (List.mem_append_right _ hw))))))))))))))))))
theorem xwm_s6 : ∀ w ∈ (xwStat "PacketWall$Headers" "NET_IN_SIX" xv_7 : List Cond), w ∈ xwant := fun w hw => List.mem_append_left _ (List.mem_append_left _ (List.mem_append_left _ (List.mem_append_left _ (List.mem_append_left _ (List.mem_append_left _ (List.mem_append_left _ (List.mem_append_left _ (List.mem_append_left _ (List.mem_append_left _ (List.mem_append_left _ (List.mem_append_left _ (List.mem_append_left _ (List.mem_append_left _ (List.mem_append_left _ (List.mem_append_left _ (List.mem_append_left _ (List.mem_append_right _ hw)))))))))))))))))
theorem xwm_s7 : ∀ w ∈ (xwStat "PacketWall$Headers" "NET_IN_FOUR" xv_8 : List Cond), w ∈ xwant := fun w hw => List.mem_append_left _ (List.mem_append_left _ (List.mem_append_left _ (List.mem_append_left _ (List.mem_append_left _ (List.mem_append_left _ (List.mem_append_left _ (List.mem_append_left _ (List.mem_append_left _ (List.mem_append_left _ (List.mem_append_left _ (List.mem_append_left _ (List.mem_append_left _ (List.mem_append_left _ (List.mem_append_left _ (List.mem_append_left _ (List.mem_append_right _ hw))))))))))))))))
theorem xwm_t0 : ∀ w ∈ (xwStr "PacketWall$Parser" 209 xs_0 : List Cond), w ∈ xwant := fun w hw => List.mem_append_left _ (List.mem_append_left _ (List.mem_append_left _ (List.mem_append_left _ (List.mem_append_left _ (List.mem_append_left _ (List.mem_append_left _ (List.mem_append_left _ (List.mem_append_left _ (List.mem_append_left _ (List.mem_append_left _ (List.mem_append_left _ (List.mem_append_left _ (List.mem_append_left _ (List.mem_append_left _ (List.mem_append_right _ hw)))))))))))))))
theorem xwm_t1 : ∀ w ∈ (xwStr "PacketWall$Parser" 217 xs_1 : List Cond), w ∈ xwant := fun w hw => List.mem_append_left _ (List.mem_append_left _ (List.mem_append_left _ (List.mem_append_left _ (List.mem_append_left _ (List.mem_append_left _ (List.mem_append_left _ (List.mem_append_left _ (List.mem_append_left _ (List.mem_append_left _ (List.mem_append_left _ (List.mem_append_left _ (List.mem_append_left _ (List.mem_append_left _ (List.mem_append_right _ hw))))))))))))))
theorem xwm_t2 : ∀ w ∈ (xwStr "PacketWall$Parser" 173 xs_2 : List Cond), w ∈ xwant := fun w hw => List.mem_append_left _ (List.mem_append_left _ (List.mem_append_left _ (List.mem_append_left _ (List.mem_append_left _ (List.mem_append_left _ (List.mem_append_left _ (List.mem_append_left _ (List.mem_append_left _ (List.mem_append_left _ (List.mem_append_left _ (List.mem_append_left _ (List.mem_append_left _ (List.mem_append_right _ hw)))))))))))))
theorem xwm_t3 : ∀ w ∈ (xwStr "PacketWall$Parser" 175 xs_3 : List Cond), w ∈ xwant := fun w hw => List.mem_append_left _ (List.mem_append_left _ (List.mem_append_left _ (List.mem_append_left _ (List.mem_append_left _ (List.mem_append_left _ (List.mem_append_left _ (List.mem_append_left _ (List.mem_append_left _ (List.mem_append_left _ (List.mem_append_left _ (List.mem_append_left _ (List.mem_append_right _ hw))))))))))))
theorem xwm_t4 : ∀ w ∈ (xwStr "PacketWall$Parser" 177 xs_4 : List Cond), w ∈ xwant := fun w hw => List.mem_append_left _ (List.mem_append_left _ (List.mem_append_left _ (List.mem_append_left _ (List.mem_append_left _ (List.mem_append_left _ (List.mem_append_left _ (List.mem_append_left _ (List.mem_append_left _ (List.mem_append_left _ (List.mem_append_left _ (List.mem_append_right _ hw)))))))))))
theorem xwm_t5 : ∀ w ∈ (xwStr "PacketWall$Parser" 179 xs_5 : List Cond), w ∈ xwant := fun w hw => List.mem_append_left _ (List.mem_append_left _ (List.mem_append_left _ (List.mem_append_left _ (List.mem_append_left _ (List.mem_append_left _ (List.mem_append_left _ (List.mem_append_left _ (List.mem_append_left _ (List.mem_append_left _ (List.mem_append_right _ hw))))))))))
theorem xwm_t6 : ∀ w ∈ (xwStr "PacketWall$Parser" 181 xs_6 : List Cond), w ∈ xwant := fun w hw => List.mem_append_left _ (List.mem_append_left _ (List.mem_append_left _ (List.mem_append_left _ (List.mem_append_left _ (List.mem_append_left _ (List.mem_append_left _ (List.mem_append_left _ (List.mem_append_left _ (List.mem_append_right _ hw)))))))))
theorem xwm_t7 : ∀ w ∈ (xwStr "PacketWall$Parser" 183 xs_7 : List Cond), w ∈ xwant := fun w hw => List.mem_append_left _ (List.mem_append_left _ (List.mem_append_left _ (List.mem_append_left _ (List.mem_append_left _ (List.mem_append_left _ (List.mem_append_left _ (List.mem_append_left _ (List.mem_append_right _ hw))))))))
theorem xwm_t8 : ∀ w ∈ (xwStr "PacketWall$Parser" 185 xs_8 : List Cond), w ∈ xwant := fun w hw => List.mem_append_left _ (List.mem_append_left _ (List.mem_append_left _ (List.mem_append_left _ (List.mem_append_left _ (List.mem_append_left _ (List.mem_append_left _ (List.mem_append_right _ hw)))))))
theorem xwm_t9 : ∀ w ∈ (xwStr "PacketWall$Parser" 187 xs_9 : List Cond), w ∈ xwant := fun w hw => List.mem_append_left _ (List.mem_append_left _ (List.mem_append_left _ (List.mem_append_left _ (List.mem_append_left _ (List.mem_append_left _ (List.mem_append_right _ hw))))))
theorem xwm_t10 : ∀ w ∈ (xwStr "PacketWall$Parser" 189 xs_10 : List Cond), w ∈ xwant := fun w hw => List.mem_append_left _ (List.mem_append_left _ (List.mem_append_left _ (List.mem_append_left _ (List.mem_append_left _ (List.mem_append_right _ hw)))))
theorem xwm_t11 : ∀ w ∈ (xwStr "PacketWall$Parser" 191 xs_11 : List Cond), w ∈ xwant := fun w hw => List.mem_append_left _ (List.mem_append_left _ (List.mem_append_left _ (List.mem_append_left _ (List.mem_append_right _ hw))))
theorem xwm_t12 : ∀ w ∈ (xwStr "PacketWall$Parser" 193 xs_12 : List Cond), w ∈ xwant := fun w hw => List.mem_append_left _ (List.mem_append_left _ (List.mem_append_left _ (List.mem_append_right _ hw)))
theorem xwm_t13 : ∀ w ∈ (xwStr "PacketWall$Parser" 195 xs_13 : List Cond), w ∈ xwant := fun w hw => List.mem_append_left _ (List.mem_append_left _ (List.mem_append_right _ hw))
theorem xwm_t14 : ∀ w ∈ (xwStr "PacketWall$Parser" 197 xs_14 : List Cond), w ∈ xwant := fun w hw => List.mem_append_left _ (List.mem_append_right _ hw)
theorem xwm_t15 : ∀ w ∈ (xwStr "PacketWall$Parser" 199 xs_15 : List Cond), w ∈ xwant := fun w hw => List.mem_append_right _ hw
theorem xstat_ok {args : Array Value} {s : State} {C n : String} {v : List Int32} {A : Nat → Prop} (hN : v.length < 2 ^ 31) (hw : ∀ w ∈ xwStat C n v, w.before args s = true) (hl : (Cond.laysStatic C n "[I").before args s = true) (hini : (Cond.initialized C).before args s = true) (hA : ∀ a : Nat, a < s.heap.size → ¬ A a) : ∃ t : Nat, va_Z C n "[I" (.ref t) A s s.heap ∧ va_T .int t v.length (fun j => .int (v.getD j 0)) A s s.heap := by
  obtain ⟨t, h1, h2⟩ := va_Tof (tm := .static C n "[I") (ty := .int) (f := fun j => .int (v.getD j 0)) (A := A) hN (hw _ List.mem_cons_self) (va_eqt (hw _ (List.mem_cons_of_mem _ List.mem_cons_self))) (fun j hj => va_eqt (hw _ (List.mem_cons_of_mem _ (List.mem_cons_of_mem _ (List.mem_map.mpr ⟨j, List.mem_range.mpr hj, rfl⟩))))) hA
  exact ⟨t, va_Zof hl hini h1 hA, h2⟩
theorem xstr_ok {args : Array Value} {s : State} {C : String} {k : Nat} {v : List Int32} {A : Nat → Prop} (hN : v.length < 2 ^ 31) (hw : ∀ w ∈ xwStr C k v, w.before args s = true) (hA : ∀ a : Nat, a < s.heap.size → ¬ A a) : ∃ a t : Nat, (Term.string C k).eval args s none [] s = some (.ref a) ∧ va_O "java/lang/String" a A s s.heap ∧ va_OF "java/lang/String" "coder" "B" (.int 0) a A s s.heap ∧ va_OF "java/lang/String" "value" "[B" (.ref t) a A s s.heap ∧ va_T .byte t v.length (fun j => .int (v.getD j 0)) A s s.heap := by
  obtain ⟨a, c, cA, kA, q1, q2, q3, q4, q5, q6, -⟩ := Cond.exactly_spec (args := args) (first := s) (o := none) (s := s) (idx := []) (t := .string C k) (cls := "java/lang/String") (hw _ List.mem_cons_self)
  obtain ⟨t, ht, hT⟩ := va_Tof (f := fun j => .int (v.getD j 0)) (A := A) hN (hw _ (List.mem_cons_of_mem _ (List.mem_cons_of_mem _ List.mem_cons_self))) (va_eqt (hw _ (List.mem_cons_of_mem _ (List.mem_cons_of_mem _ (List.mem_cons_of_mem _ List.mem_cons_self))))) (fun j hj => va_eqt (hw _ (List.mem_cons_of_mem _ (List.mem_cons_of_mem _ (List.mem_cons_of_mem _ (List.mem_cons_of_mem _ (List.mem_map.mpr ⟨j, List.mem_range.mpr hj, rfl⟩))))))) hA
  exact ⟨a, t, q1, ⟨cA, q3, q5, by rw [q6]; exact q2, hA a (Array.getElem?_eq_some_iff.mp q3).1⟩, vk_OFof q1 (va_eqt (hw _ (List.mem_cons_of_mem _ List.mem_cons_self))) hA, vk_OFof q1 ht hA, hT⟩
end
section
/-! ===== the law, on: statics ===== -/
noncomputable def xqS_0 (_ : Nat) : Option (Nat × Nat × Nat) := none
noncomputable def xqS_1 (idx : Nat) : Option (Nat × Nat × Nat) := bif Nat.blt idx 140 then (bif Nat.beq idx 134 then some ((5, 5, 21)) else none) else (bif Nat.beq idx 140 then some ((4, 5, 9)) else none)
noncomputable def xqS_2 (_ : Nat) : Option (Nat × Nat × Nat) := none
noncomputable def xqS_3 (_ : Nat) : Option (Nat × Nat × Nat) := none
noncomputable def xqS_4 (_ : Nat) : Option (Nat × Nat × Nat) := none
noncomputable def xqS_5 (idx : Nat) : Option (Nat × Nat × Nat) := bif Nat.blt idx 92 then (bif Nat.blt idx 65 then (bif Nat.beq idx 53 then some ((1, 3, 207)) else none) else (bif Nat.blt idx 71 then (bif Nat.beq idx 65 then some ((2, 3, 210)) else none) else (bif Nat.beq idx 71 then some ((3, 3, 212)) else none))) else (bif Nat.blt idx 95 then (bif Nat.beq idx 92 then some ((6, 6, 232)) else none) else (bif Nat.blt idx 155 then (bif Nat.beq idx 95 then some ((7, 6, 234)) else none) else (bif Nat.beq idx 155 then some ((0, 3, 150)) else none)))
noncomputable def xqS_6 (_ : Nat) : Option (Nat × Nat × Nat) := none
noncomputable def xqS_7 (_ : Nat) : Option (Nat × Nat × Nat) := none
noncomputable def xqS_8 (_ : Nat) : Option (Nat × Nat × Nat) := none
noncomputable def xqS_9 (_ : Nat) : Option (Nat × Nat × Nat) := none
noncomputable def xqS_10 (_ : Nat) : Option (Nat × Nat × Nat) := none
noncomputable def xqS_11 (_ : Nat) : Option (Nat × Nat × Nat) := none
noncomputable def xqS_12 (_ : Nat) : Option (Nat × Nat × Nat) := none
noncomputable def xqS_13 (_ : Nat) : Option (Nat × Nat × Nat) := none
noncomputable def xqS_14 (_ : Nat) : Option (Nat × Nat × Nat) := none
noncomputable def xqS_15 (idx : Nat) : Option (Nat × Nat × Nat) := bif Nat.beq idx 38 then some ((8, 5, 114)) else none
noncomputable def xqS_16 (_ : Nat) : Option (Nat × Nat × Nat) := none
noncomputable def xqS_17 (_ : Nat) : Option (Nat × Nat × Nat) := none
noncomputable def xqS (oc idx : Nat) : Option (Nat × Nat × Nat) := match oc with
  | 0 => xqS_0 idx
  | 1 => xqS_1 idx
  | 2 => xqS_2 idx
  | 3 => xqS_3 idx
  | 4 => xqS_4 idx
  | 5 => xqS_5 idx
  | 6 => xqS_6 idx
  | 7 => xqS_7 idx
  | 8 => xqS_8 idx
  | 9 => xqS_9 idx
  | 10 => xqS_10 idx
  | 11 => xqS_11 idx
  | 12 => xqS_12 idx
  | 13 => xqS_13 idx
  | 14 => xqS_14 idx
  | 15 => xqS_15 idx
  | 16 => xqS_16 idx
  | 17 => xqS_17 idx
  | _ => none
noncomputable def xst9 : List (String × String × String × Value) := [("PacketWall$Headers", "LEAST", "[I", .ref 1000001), ("PacketWall$Headers", "FIELD_COUNTS", "[I", .ref 1000002), ("PacketWall$Headers", "FIRST_FORM", "[I", .ref 1000003), ("PacketWall$Headers", "FORMS", "[I", .ref 1000004), ("PacketWall$Flow", "NEXT_STATES", "[I", .ref 1000005), ("PacketWall$Flow", "STREAM_LIVES", "[I", .ref 1000006), ("PacketWall$Headers", "NET_IN_SIX", "[I", .ref 1000007), ("PacketWall$Headers", "NET_IN_FOUR", "[I", .ref 1000008), ("java/lang/String", "COMPACT_STRINGS", "Z", .int 1)]
noncomputable def xchkS (oc : Nat) : Bool := (List.range 1063).all (fun idx => match xT_S0 oc idx with
  | none => true
  | some v => match xqS oc idx with
    | none => false
    | some (q, k, i) => match xst9[q]? with
      | none => false
      | some z => decide (z.2.2.2 = v) && xat (some (k, i)) (Cond.fieldLink (xon oc) idx z.1 z.2.1 z.2.2.1))
theorem xchkS_0 : xchkS 0 = true := by decide +kernel
theorem xchkS_1 : xchkS 1 = true := by decide +kernel
theorem xchkS_2 : xchkS 2 = true := by decide +kernel
theorem xchkS_3 : xchkS 3 = true := by decide +kernel
theorem xchkS_4 : xchkS 4 = true := by decide +kernel
theorem xchkS_5 : xchkS 5 = true := by decide +kernel
theorem xchkS_6 : xchkS 6 = true := by decide +kernel
theorem xchkS_7 : xchkS 7 = true := by decide +kernel
theorem xchkS_8 : xchkS 8 = true := by decide +kernel
theorem xchkS_9 : xchkS 9 = true := by decide +kernel
theorem xchkS_10 : xchkS 10 = true := by decide +kernel
theorem xchkS_11 : xchkS 11 = true := by decide +kernel
theorem xchkS_12 : xchkS 12 = true := by decide +kernel
theorem xchkS_13 : xchkS 13 = true := by decide +kernel
theorem xchkS_14 : xchkS 14 = true := by decide +kernel
theorem xchkS_15 : xchkS 15 = true := by decide +kernel
theorem xchkS_16 : xchkS 16 = true := by decide +kernel
theorem xchkS_17 : xchkS 17 = true := by decide +kernel
theorem xchkS_all : ∀ oc, oc < 18 → xchkS oc = true
  | 0, _ => xchkS_0
  | 1, _ => xchkS_1
  | 2, _ => xchkS_2
  | 3, _ => xchkS_3
  | 4, _ => xchkS_4
  | 5, _ => xchkS_5
  | 6, _ => xchkS_6
  | 7, _ => xchkS_7
  | 8, _ => xchkS_8
  | 9, _ => xchkS_9
  | 10, _ => xchkS_10
  | 11, _ => xchkS_11
  | 12, _ => xchkS_12
  | 13, _ => xchkS_13
  | 14, _ => xchkS_14
  | 15, _ => xchkS_15
  | 16, _ => xchkS_16
  | 17, _ => xchkS_17
  | n + 18, h => absurd h (by omega)
theorem xT_S0_out {oc idx : Nat} {x : Value} (h : xT_S0 oc idx = some x) : oc < 18 ∧ idx < 1063 := by
  unfold xT_S0 at h
  cases hb : Nat.blt idx 1063 with
  | false => rw [hb] at h; cases h
  | true =>
    refine ⟨?_, Nat.blt_eq.mp hb⟩
    rw [hb] at h
    rcases Nat.lt_or_ge oc 18 with h1 | h1
    · exact h1
    · obtain ⟨n, rfl⟩ : ∃ n, oc = n + 18 := ⟨oc - 18, by omega⟩
      cases h
theorem xS0_ok {oc idx : Nat} {v : Value} (h : xT_S0 oc idx = some v) : ∃ (q : Nat) (z : String × String × String × Value), xst9[q]? = some z ∧ z.2.2.2 = v ∧ Cond.fieldLink (xon oc) idx z.1 z.2.1 z.2.2.1 ∈ xTs := by
  obtain ⟨h1, h2⟩ := xT_S0_out h
  have h3 := List.all_eq_true.mp (xchkS_all oc h1) idx (List.mem_range.mpr h2)
  rw [h] at h3
  simp only at h3
  split at h3
  · cases h3
  · split at h3
    · cases h3
    · rename_i z hz
      rw [Bool.and_eq_true] at h3
      exact ⟨_, z, hz, of_decide_eq_true h3.1, xat_ok h3.2 rfl⟩
end
section
/-! ===== the law, on: links, constants ===== -/
theorem xw_fmt : Cond.fieldLink "java/lang/String" 1053 "jdk/internal/util/Preconditions" "SIOOBE_FORMATTER" "Ljava/util/function/BiFunction;" ∈ xTs := xat_ok (q := some (5, 130)) (by decide +kernel) rfl
theorem xw_gv : Cond.fieldLink "java/lang/String" 9 "java/lang/String" "value" "[B" ∈ xTs := xat_ok (q := some (12, 160)) (by decide +kernel) rfl
theorem xw_gc : Cond.fieldLink "java/lang/String" 15 "java/lang/String" "coder" "B" ∈ xTs := xat_ok (q := some (12, 161)) (by decide +kernel) rfl
theorem xw_ls0 : Cond.laysStatic "PacketWall$Headers" "LEAST" "[I" ∈ lw_tbl := xW_in 3 _ (List.mem_of_getElem? (i := 151) (by decide +kernel))
theorem xw_ls1 : Cond.laysStatic "PacketWall$Headers" "FIELD_COUNTS" "[I" ∈ lw_tbl := xW_in 3 _ (List.mem_of_getElem? (i := 208) (by decide +kernel))
theorem xw_ls2 : Cond.laysStatic "PacketWall$Headers" "FIRST_FORM" "[I" ∈ lw_tbl := xW_in 3 _ (List.mem_of_getElem? (i := 211) (by decide +kernel))
theorem xw_ls3 : Cond.laysStatic "PacketWall$Headers" "FORMS" "[I" ∈ lw_tbl := xW_in 3 _ (List.mem_of_getElem? (i := 213) (by decide +kernel))
theorem xw_ls4 : Cond.laysStatic "PacketWall$Flow" "NEXT_STATES" "[I" ∈ lw_tbl := xW_in 5 _ (List.mem_of_getElem? (i := 10) (by decide +kernel))
theorem xw_ls5 : Cond.laysStatic "PacketWall$Flow" "STREAM_LIVES" "[I" ∈ lw_tbl := xW_in 5 _ (List.mem_of_getElem? (i := 22) (by decide +kernel))
theorem xw_ls6 : Cond.laysStatic "PacketWall$Headers" "NET_IN_SIX" "[I" ∈ lw_tbl := xW_in 6 _ (List.mem_of_getElem? (i := 233) (by decide +kernel))
theorem xw_ls7 : Cond.laysStatic "PacketWall$Headers" "NET_IN_FOUR" "[I" ∈ lw_tbl := xW_in 6 _ (List.mem_of_getElem? (i := 235) (by decide +kernel))
theorem xw_ls8 : Cond.laysStatic "java/lang/String" "COMPACT_STRINGS" "Z" ∈ lw_tbl := xW_in 5 _ (List.mem_of_getElem? (i := 115) (by decide +kernel))
theorem xw_ls9 : Cond.laysStatic "jdk/internal/util/Preconditions" "SIOOBE_FORMATTER" "Ljava/util/function/BiFunction;" ∈ lw_tbl := xW_in 5 _ (List.mem_of_getElem? (i := 131) (by decide +kernel))
theorem xw_in0 : Cond.initialized "PacketWall$Headers" ∈ lw_tbl := xW_in 1 _ (List.mem_of_getElem? (i := 2) (by decide +kernel))
theorem xw_in1 : Cond.initialized "PacketWall$Flow" ∈ lw_tbl := xW_in 1 _ (List.mem_of_getElem? (i := 6) (by decide +kernel))
theorem xw_in2 : Cond.initialized "java/lang/String" ∈ lw_tbl := xW_in 1 _ (List.mem_of_getElem? (i := 16) (by decide +kernel))
theorem xw_in3 : Cond.initialized "jdk/internal/util/Preconditions" ∈ lw_tbl := xW_in 1 _ (List.mem_of_getElem? (i := 18) (by decide +kernel))
theorem xw_sr0 : Cond.stringRef "PacketWall$Parser" 209 "chain behind else if take drop answer return jump try mark count log learn put copy fresh list fail time size flow state failure has byte spend long in row head link tag four six hops route part control stream datagram tunnel rest net carried" ∈ lw_tbl := xW_in 5 _ (List.mem_of_getElem? (i := 101) (by decide +kernel))
theorem xw_sr1 : Cond.stringRef "PacketWall$Parser" 217 "{}()[];,.=<>+-*/%&|!" ∈ lw_tbl := xW_in 5 _ (List.mem_of_getElem? (i := 163) (by decide +kernel))
theorem xw_sr2 : Cond.stringRef "PacketWall$Parser" 173 "to from kind" ∈ lw_tbl := xW_in 6 _ (List.mem_of_getElem? (i := 59) (by decide +kernel))
theorem xw_sr3 : Cond.stringRef "PacketWall$Parser" 175 "rank id kind" ∈ lw_tbl := xW_in 6 _ (List.mem_of_getElem? (i := 60) (by decide +kernel))
theorem xw_sr4 : Cond.stringRef "PacketWall$Parser" 177 "words mark total number flags offset life next sum from to" ∈ lw_tbl := xW_in 6 _ (List.mem_of_getElem? (i := 61) (by decide +kernel))
theorem xw_sr5 : Cond.stringRef "PacketWall$Parser" 179 "mark length next life label from to" ∈ lw_tbl := xW_in 6 _ (List.mem_of_getElem? (i := 62) (by decide +kernel))
theorem xw_sr6 : Cond.stringRef "PacketWall$Parser" 181 "next n" ∈ lw_tbl := xW_in 6 _ (List.mem_of_getElem? (i := 63) (by decide +kernel))
theorem xw_sr7 : Cond.stringRef "PacketWall$Parser" 183 "next n left" ∈ lw_tbl := xW_in 6 _ (List.mem_of_getElem? (i := 64) (by decide +kernel))
theorem xw_sr8 : Cond.stringRef "PacketWall$Parser" 185 "next offset more number" ∈ lw_tbl := xW_in 6 _ (List.mem_of_getElem? (i := 65) (by decide +kernel))
theorem xw_sr9 : Cond.stringRef "PacketWall$Parser" 187 "type code sum rest" ∈ lw_tbl := xW_in 6 _ (List.mem_of_getElem? (i := 66) (by decide +kernel))
theorem xw_sr10 : Cond.stringRef "PacketWall$Parser" 189 "from to sequence ack words flags window sum" ∈ lw_tbl := xW_in 6 _ (List.mem_of_getElem? (i := 67) (by decide +kernel))
theorem xw_sr11 : Cond.stringRef "PacketWall$Parser" 191 "from to length sum" ∈ lw_tbl := xW_in 6 _ (List.mem_of_getElem? (i := 68) (by decide +kernel))
theorem xw_sr12 : Cond.stringRef "PacketWall$Parser" 193 "flags kind" ∈ lw_tbl := xW_in 6 _ (List.mem_of_getElem? (i := 69) (by decide +kernel))
theorem xw_sr13 : Cond.stringRef "PacketWall$Parser" 195 "bytes" ∈ lw_tbl := xW_in 6 _ (List.mem_of_getElem? (i := 70) (by decide +kernel))
theorem xw_sr14 : Cond.stringRef "PacketWall$Parser" 197 "mark life next from to" ∈ lw_tbl := xW_in 6 _ (List.mem_of_getElem? (i := 71) (by decide +kernel))
theorem xw_sr15 : Cond.stringRef "PacketWall$Parser" 199 "sum" ∈ lw_tbl := xW_in 6 _ (List.mem_of_getElem? (i := 72) (by decide +kernel))
/-! ===== the law's frame over the interpreter ===== -/
/-- the script; whether the formatter is null (0) or a reference (1) -/
noncomputable def xs_A (L : Nat) (xs : Nat → Int32) (fm : Nat) : Nat → Option (Nat × (Nat → Int32)) := fun k => bif Nat.beq k 0 then some (L, xs) else bif Nat.beq k 300 then some (fm, fun _ => 0) else none
noncomputable def xcst (b : Nat) (tR : List Nat) (aK aV : List Nat) (tF : Nat) (k : Nat) : Nat := bif Nat.beq k 0 then b else bif Nat.blt k 100 then tR.getD (k - 1) 0 else bif Nat.blt k 200 then aK.getD (k - 100) 0 else bif Nat.blt k 300 then aV.getD (k - 200) 0 else tF
noncomputable def xh_e : ix_H := (0, 0, fun _ => .inr (0, []))
theorem xarr_p {s : State} {args : Array Value} {ty : FieldType} (h : (Cond.arrayClass ty).before args s = true) : ∃ cA : ClassId, ArrOfT s cA ty ∧ s.vm.findClass ("[" ++ ty.toString) = some cA := by
  obtain ⟨cA, kA, comp, hf, hk, hkind⟩ := Cond.arrayClass_spec h
  exact ⟨cA, fun N z => ⟨(fun k h => by cases h), kA, hk, comp, hkind⟩, hf⟩
theorem xarr_o {s : State} {args : Array Value} {C : String} (h : (Cond.arrayOver (.object C)).before args s = true) : ∃ cA : ClassId, ArrOfT s cA (.object C) ∧ va_RA s cA (.object C) := by
  obtain ⟨comp, cA, kA, h1, -, h3, h4, h5⟩ := Cond.arrayOver_spec h
  exact ⟨cA, fun N z => ⟨(fun k h => by cases h), kA, h3, comp, h4⟩, kA, comp, h3, h4, h1, h5⟩
theorem xcl_D : ∀ (k : Nat) (q : vw_C), xcl[k]? = some q → (∀ w ∈ u_ws q.1 q.2.1 q.2.2, w ∈ xTs) ∧ Cond.instantiable q.1 q.2.2 ∈ xTs := fun k q h => by
  obtain ⟨-, -, h3, -, -, -, h7, -⟩ := xok_D (fun _ => none) k q h
  exact ⟨h3, h7⟩
theorem xNs_in : ∀ q ∈ xNs, Cond.methodLinkNest q.1 q.2.1 q.2.2 ix_host ∈ lw_tbl := by
  have h : xNs.all (fun q => match xpN q.1 q.2.1 with
    | some (k, i) => decide ((xW k)[i]? = some (Cond.methodLinkNest q.1 q.2.1 q.2.2 ix_host))
    | none => false) = true := by decide +kernel
  intro q hq
  have h1 := List.all_eq_true.mp h q hq
  split at h1
  · exact xW_in _ _ (List.mem_of_getElem? (of_decide_eq_true h1))
  · cases h1
noncomputable def xks : List (Nat × Nat) := [(9, 209), (9, 217), (9, 173), (9, 175), (9, 177), (9, 179), (9, 181), (9, 183), (9, 185), (9, 187), (9, 189), (9, 191), (9, 193), (9, 195), (9, 197), (9, 199)]
noncomputable def xchkKs (oc : Nat) : Bool := (List.range 1063).all (fun idx => match xT_K oc idx with
  | some (.ref a) => Nat.ble 1000100 a && (Nat.blt a 1000116 && decide (xks[a - 1000100]? = some (oc, idx)))
  | _ => true)
theorem xchkKs_0 : xchkKs 0 = true := by decide +kernel
theorem xchkKs_1 : xchkKs 1 = true := by decide +kernel
theorem xchkKs_2 : xchkKs 2 = true := by decide +kernel
theorem xchkKs_3 : xchkKs 3 = true := by decide +kernel
theorem xchkKs_4 : xchkKs 4 = true := by decide +kernel
theorem xchkKs_5 : xchkKs 5 = true := by decide +kernel
theorem xchkKs_6 : xchkKs 6 = true := by decide +kernel
theorem xchkKs_7 : xchkKs 7 = true := by decide +kernel
theorem xchkKs_8 : xchkKs 8 = true := by decide +kernel
theorem xchkKs_9 : xchkKs 9 = true := by decide +kernel
theorem xchkKs_10 : xchkKs 10 = true := by decide +kernel
theorem xchkKs_11 : xchkKs 11 = true := by decide +kernel
theorem xchkKs_12 : xchkKs 12 = true := by decide +kernel
theorem xchkKs_13 : xchkKs 13 = true := by decide +kernel
theorem xchkKs_14 : xchkKs 14 = true := by decide +kernel
theorem xchkKs_15 : xchkKs 15 = true := by decide +kernel
theorem xchkKs_16 : xchkKs 16 = true := by decide +kernel
theorem xchkKs_17 : xchkKs 17 = true := by decide +kernel
theorem xchkKs_all : ∀ oc, oc < 18 → xchkKs oc = true
  | 0, _ => xchkKs_0
  | 1, _ => xchkKs_1
  | 2, _ => xchkKs_2
  | 3, _ => xchkKs_3
  | 4, _ => xchkKs_4
  | 5, _ => xchkKs_5
  | 6, _ => xchkKs_6
  | 7, _ => xchkKs_7
  | 8, _ => xchkKs_8
  | 9, _ => xchkKs_9
  | 10, _ => xchkKs_10
  | 11, _ => xchkKs_11
  | 12, _ => xchkKs_12
  | 13, _ => xchkKs_13
  | 14, _ => xchkKs_14
  | 15, _ => xchkKs_15
  | 16, _ => xchkKs_16
  | 17, _ => xchkKs_17
  | n + 18, h => absurd h (by omega)
noncomputable def xks_o (q : Nat) : String := xon ((xks.getD q (0, 0)).1)
theorem xKs_ok {oc idx a : Nat} (h : xT_K oc idx = some (.ref a)) : ∃ q : Nat, q < 16 ∧ a = 1000100 + q ∧ (oc, idx) = xks.getD q (0, 0) := by
  obtain ⟨h1, h2⟩ := xT_K_out h
  have h3 := List.all_eq_true.mp (xchkKs_all oc h1) idx (List.mem_range.mpr h2)
  rw [h] at h3
  simp only [Bool.and_eq_true, decide_eq_true_eq] at h3
  obtain ⟨a1, a2, a3⟩ := h3
  have a1 := Nat.le_of_ble_eq_true a1
  have a2 := Nat.blt_eq.mp a2
  exact ⟨a - 1000100, by omega, by omega, by rw [List.getD_eq_getElem?_getD, a3]; rfl⟩
end
section
/-! ===== more rules: Math, System.arraycopy, methods of texts ===== -/
section JL
variable {A : Nat → Option (Nat × (Nat → Int32))} {D : Nat} {m : ix_M} {pc : Nat} {ls : ix_L} {st : List Value} {M : jm} {Q : Option Value → jm → Prop}
/-- a call that is one step -/
theorem jr_c1 {i : Instr} {st' : List Value} {M1 : jm} (hk : (∃ n, i = .invokevirtual n) ∨ (∃ n, i = .invokespecial n) ∨ ∃ n, i = .invokestatic n) (hi : m.2.2.2.2.2.2 pc = some i) (hc : ∀ f : ix_F, ix_cal (xT A) f m.1 i st (jH M) = some (st', jH M1)) (k : jr A D m (pc + 3) ls st' M1 Q) : jr A D m pc ls st M Q := by
  obtain ⟨K, N, rv, M2, h1, h2⟩ := k
  exact ⟨K, 1 + N, rv, M2, fun K' hK D' hD => ix_R.step 1 (ix_n_call hk hi (hc _)) (h1 K' hK D' hD), h2⟩
theorem ix_cal_m {f : ix_F} {oc idx kd mid na : Nat} {s s' : List Value} {hp : ix_H} (h1 : ix_tI (xT A) oc idx = some (kd, mid, na)) (h7 : kd ≠ 7) (h5 : kd ≠ 5) (h6 : kd ≠ 6) (h : ix_mth kd s = some s') : ix_cal (xT A) f oc (.invokestatic idx) s hp = some (s', hp) := by
  unfold ix_cal
  simp only [h1]
  split
  · rename_i e; rcases e.1 with q | q
    · exact absurd q h5
    · exact absurd q h6
  · rw [h]
theorem jr.imin {idx mid na : Nat} {x y : Int} (hi : m.2.2.2.2.2.2 pc = some (.invokestatic idx)) (h1 : ix_tI (xT A) m.1 idx = some (9, mid, na)) (hc : ix_cats st ≤ 8) (hx : -2147483648 ≤ x ∧ x ≤ 2147483647) (hy : -2147483648 ≤ y ∧ y ≤ 2147483647) (k : ∀ z : Int, (z = x ∨ z = y) → z ≤ x → z ≤ y → jr A D m (pc + 3) ls (.int (Int32.ofInt z) :: st) M Q) : jr A D m pc ls (.int (Int32.ofInt y) :: .int (Int32.ofInt x) :: st) M Q := by
  refine jr_c1 (st' := .int (Int32.ofInt (if y < x then y else x)) :: st) (M1 := M) (Or.inr (Or.inr ⟨_, rfl⟩)) hi (fun f => ix_cal_m h1 (by decide) (by decide) (by decide) ?_) (k _ ?_ ?_ ?_)
  · show (if ix_cats st ≤ 8 then some (Value.int (if Int32.ofInt y < Int32.ofInt x then Int32.ofInt y else Int32.ofInt x) :: st) else none) = _
    rw [if_pos hc]
    by_cases h : y < x
    · rw [if_pos ((j_cb hy hx).2.1.mpr h), if_pos h]
    · rw [if_neg (fun q => h ((j_cb hy hx).2.1.mp q)), if_neg h]
  · by_cases h : y < x
    · rw [if_pos h]; exact Or.inr rfl
    · rw [if_neg h]; exact Or.inl rfl
  · by_cases h : y < x
    · rw [if_pos h]; omega
    · rw [if_neg h]; omega
  · by_cases h : y < x
    · rw [if_pos h]; omega
    · rw [if_neg h]; omega
theorem jr.imax {idx mid na : Nat} {x y : Int} (hi : m.2.2.2.2.2.2 pc = some (.invokestatic idx)) (h1 : ix_tI (xT A) m.1 idx = some (10, mid, na)) (hc : ix_cats st ≤ 8) (hx : -2147483648 ≤ x ∧ x ≤ 2147483647) (hy : -2147483648 ≤ y ∧ y ≤ 2147483647) (k : ∀ z : Int, (z = x ∨ z = y) → x ≤ z → y ≤ z → jr A D m (pc + 3) ls (.int (Int32.ofInt z) :: st) M Q) : jr A D m pc ls (.int (Int32.ofInt y) :: .int (Int32.ofInt x) :: st) M Q := by
  refine jr_c1 (st' := .int (Int32.ofInt (if x < y then y else x)) :: st) (M1 := M) (Or.inr (Or.inr ⟨_, rfl⟩)) hi (fun f => ix_cal_m h1 (by decide) (by decide) (by decide) ?_) (k _ ?_ ?_ ?_)
  · show (if ix_cats st ≤ 8 then some (Value.int (if Int32.ofInt x < Int32.ofInt y then Int32.ofInt y else Int32.ofInt x) :: st) else none) = _
    rw [if_pos hc]
    by_cases h : x < y
    · rw [if_pos ((j_cb hx hy).2.1.mpr h), if_pos h]
    · rw [if_neg (fun q => h ((j_cb hx hy).2.1.mp q)), if_neg h]
  · by_cases h : x < y
    · rw [if_pos h]; exact Or.inr rfl
    · rw [if_neg h]; exact Or.inl rfl
  · by_cases h : x < y
    · rw [if_pos h]; omega
    · rw [if_neg h]; omega
  · by_cases h : x < y
    · rw [if_pos h]; omega
    · rw [if_neg h]; omega
theorem jr.lmin {idx mid na : Nat} {x y : Int} (hi : m.2.2.2.2.2.2 pc = some (.invokestatic idx)) (h1 : ix_tI (xT A) m.1 idx = some (11, mid, na)) (hc : ix_cats st ≤ 8) (hx : -9223372036854775808 ≤ x ∧ x ≤ 9223372036854775807) (hy : -9223372036854775808 ≤ y ∧ y ≤ 9223372036854775807) (k : ∀ z : Int, (z = x ∨ z = y) → z ≤ x → z ≤ y → jr A D m (pc + 3) ls (.long (Int64.ofInt z) :: st) M Q) : jr A D m pc ls (.long (Int64.ofInt y) :: .long (Int64.ofInt x) :: st) M Q := by
  have hL : Int64.ofInt y < Int64.ofInt x ↔ y < x := by
    rw [Int64.lt_iff_toInt_lt, Int64.toInt_ofInt_of_le (by omega) (by omega), Int64.toInt_ofInt_of_le (by omega) (by omega)]
  refine jr_c1 (st' := .long (Int64.ofInt (if y < x then y else x)) :: st) (M1 := M) (Or.inr (Or.inr ⟨_, rfl⟩)) hi (fun f => ix_cal_m h1 (by decide) (by decide) (by decide) ?_) (k _ ?_ ?_ ?_)
  · show (if ix_cats st ≤ 8 then some (Value.long (if Int64.ofInt y < Int64.ofInt x then Int64.ofInt y else Int64.ofInt x) :: st) else none) = _
    rw [if_pos hc]
    by_cases h : y < x
    · rw [if_pos (hL.mpr h), if_pos h]
    · rw [if_neg (fun q => h (hL.mp q)), if_neg h]
  · by_cases h : y < x
    · rw [if_pos h]; exact Or.inr rfl
    · rw [if_neg h]; exact Or.inl rfl
  · by_cases h : y < x
    · rw [if_pos h]; omega
    · rw [if_neg h]; omega
  · by_cases h : y < x
    · rw [if_pos h]; omega
    · rw [if_neg h]; omega
/-- the memory behind System.arraycopy -/
noncomputable def jcpy (M : jm) (a : Nat) (sp : Int) (d : Nat) (dp n : Int) : jm := fun b k => if b = d ∧ dp ≤ k ∧ k < dp + n then M a (sp + (k - dp)) else M b k
theorem jcpy_ne (M : jm) {a d b : Nat} {sp dp n k : Int} (h : ¬ (b = d ∧ dp ≤ k ∧ k < dp + n)) : jcpy M a sp d dp n b k = M b k := by
  unfold jcpy
  rw [if_neg h]
theorem jcpy_c (M : jm) {a d b : Nat} {sp dp n k : Int} (h : b ≠ d) : jcpy M a sp d dp n b k = M b k := jcpy_ne M (fun q => h q.1)
theorem jcpy_in (M : jm) {a d : Nat} {sp dp n k : Int} (h1 : dp ≤ k) (h2 : k < dp + n) : jcpy M a sp d dp n d k = M a (sp + (k - dp)) := by
  unfold jcpy
  rw [if_pos ⟨rfl, h1, h2⟩]
theorem jH_cpy (M : jm) {a d : Nat} {sp dp n : Int} {c : ix_C} (h : c = jcell d (xsh d) (jcpy M a sp d dp n d)) : ix_put (jH M) d c = jH (jcpy M a sp d dp n) := by
  show (xNc, xNs_, ix_up (jh M) d c) = (xNc, xNs_, jh (jcpy M a sp d dp n))
  have e : ix_up (jh M) d c = jh (jcpy M a sp d dp n) := by
    funext b
    by_cases hb : b = d
    · subst hb
      rw [ix_up_self]
      exact h
    · rw [ix_up_ne _ _ hb]
      unfold jh
      congr 1
      funext k
      exact (jcpy_c M hb).symm
  rw [e]
theorem jnn {x : Int} (h0 : 0 ≤ x) (h1 : x ≤ 2000000) : ¬ Int32.ofInt x < 0 ∧ (Int32.ofInt x).toNatClampNeg = x.toNat := by
  have e : (Int32.ofInt x).toNatClampNeg = x.toNat := Int32.toNatClampNeg_ofInt_of_le (by omega) (by omega)
  have e2 : (Int32.ofInt x).toInt = x := Int32.toInt_ofInt_of_le (by omega) (by omega)
  refine ⟨fun h => ?_, e⟩
  have := Int32.lt_iff_toInt_lt.mp h
  rw [e2] at this
  have h3 : (0 : Int32).toInt = 0 := rfl
  omega
theorem jr.acp {idx mid na a d n0 n1 : Nat} {sp dp n : Int} (hi : m.2.2.2.2.2.2 pc = some (.invokestatic idx)) (h1 : ix_tI (xT A) m.1 idx = some (7, mid, na)) (hc : ix_cats st ≤ 8) (ha : a < xNc) (hs : xsh a = (0, n0)) (hd : d < xNc) (ht : xsh d = (0, n1)) (hn0 : n0 ≤ 2000000) (hn1 : n1 ≤ 2000000) (hsp : 0 ≤ sp) (hdp : 0 ≤ dp) (hn : 0 ≤ n) (h0 : sp + n ≤ (n0 : Nat)) (h2 : dp + n ≤ (n1 : Nat)) (k : jr A D m (pc + 3) ls st (jcpy M a sp d dp n) Q) : jr A D m pc ls (.int (Int32.ofInt n) :: .int (Int32.ofInt dp) :: .ref d :: .int (Int32.ofInt sp) :: .ref a :: st) M Q := by
  refine jr_c1 (Or.inr (Or.inr ⟨_, rfl⟩)) hi (fun f => ?_) k
  obtain ⟨p1, p2⟩ := jnn hsp (by omega)
  obtain ⟨q1, q2⟩ := jnn hdp (by omega)
  obtain ⟨r1, r2⟩ := jnn hn (by omega)
  unfold ix_cal
  simp only [h1]
  unfold ix_acp
  simp only [jarr0 ha hs, jarr0 hd ht]
  rw [p2, q2, r2, if_pos ⟨p1, q1, r1, by omega, by omega, hc⟩]
  congr 2
  refine jH_cpy M ?_
  rw [ht]
  show _ = Sum.inl (0, n1, Sum.inl _)
  congr 3
  congr 1
  funext j
  unfold va_cpy jcpy
  by_cases hj : dp.toNat ≤ j ∧ j < dp.toNat + n.toNat
  · rw [if_pos hj, if_pos ⟨rfl, by omega, by omega⟩]
    show Int32.ofInt (M a ((sp.toNat + (j - dp.toNat) : Nat) : Int)) = Int32.ofInt (M a (sp + ((j : Int) - dp)))
    rw [show (((sp.toNat + (j - dp.toNat) : Nat) : Int)) = sp + ((j : Int) - dp) by omega]
  · rw [if_neg hj, if_neg (by omega)]
end JL
end
section
/-! ===== the law: its start ===== -/
theorem xstart {p : Program} {s : State} {m : MethodId} {meth : Method} {c : Code} {b L : Nat} {xs : Nat → Int32} (C0 : lw_At p s m meth c b L xs) : ∃ (D : va_G) (aC : Nat → ClassId) (tys : List (ClassId × FieldType)) (cst : Nat → Nat) (fm : Nat), cst 0 = b ∧ ∀ A : Nat → Option (Nat × (Nat → Int32)), (A = (fun _ => none) ∨ A = xs_A L xs fm) → ix_St (xT A) D xcl aC tys xon xTs xNs (ix_ad s.heap.size cst) s.heap.size s := by
  obtain ⟨hx, hb, hr, hml, hown, hts, hX, hbl, hlocks, hgv⟩ := C0
  have hwt := xwant_ok hgv
  have hAq : ∀ a : Nat, a < s.heap.size → ¬ s.heap.size ≤ a := fun a h => by omega
  obtain ⟨t1, z1, y1⟩ := xstat_ok (A := fun q => s.heap.size ≤ q) (by decide +kernel) (fun w hw => hwt w (xwm_s0 w hw)) (hts _ xw_ls0) (hts _ xw_in0) hAq
  obtain ⟨t2, z2, y2⟩ := xstat_ok (A := fun q => s.heap.size ≤ q) (by decide +kernel) (fun w hw => hwt w (xwm_s1 w hw)) (hts _ xw_ls1) (hts _ xw_in0) hAq
  obtain ⟨t3, z3, y3⟩ := xstat_ok (A := fun q => s.heap.size ≤ q) (by decide +kernel) (fun w hw => hwt w (xwm_s2 w hw)) (hts _ xw_ls2) (hts _ xw_in0) hAq
  obtain ⟨t4, z4, y4⟩ := xstat_ok (A := fun q => s.heap.size ≤ q) (by decide +kernel) (fun w hw => hwt w (xwm_s3 w hw)) (hts _ xw_ls3) (hts _ xw_in0) hAq
  obtain ⟨t5, z5, y5⟩ := xstat_ok (A := fun q => s.heap.size ≤ q) (by decide +kernel) (fun w hw => hwt w (xwm_s4 w hw)) (hts _ xw_ls4) (hts _ xw_in1) hAq
  obtain ⟨t6, z6, y6⟩ := xstat_ok (A := fun q => s.heap.size ≤ q) (by decide +kernel) (fun w hw => hwt w (xwm_s5 w hw)) (hts _ xw_ls5) (hts _ xw_in1) hAq
  obtain ⟨t7, z7, y7⟩ := xstat_ok (A := fun q => s.heap.size ≤ q) (by decide +kernel) (fun w hw => hwt w (xwm_s6 w hw)) (hts _ xw_ls6) (hts _ xw_in0) hAq
  obtain ⟨t8, z8, y8⟩ := xstat_ok (A := fun q => s.heap.size ≤ q) (by decide +kernel) (fun w hw => hwt w (xwm_s7 w hw)) (hts _ xw_ls7) (hts _ xw_in0) hAq
  have zc : va_Z "java/lang/String" "COMPACT_STRINGS" "Z" (.int 1) (fun q => s.heap.size ≤ q) s s.heap := va_Zof (hts _ xw_ls8) (hts _ xw_in2) (va_eqt (hwt _ (xwm_c0 _ List.mem_cons_self))) hAq
  have zf := va_Zqof (A := fun q => s.heap.size ≤ q) (hts _ xw_ls9) (hts _ xw_in3) (hwt _ (xwm_c0 _ (List.mem_cons_of_mem _ List.mem_cons_self))) hAq
  obtain ⟨k0, v0, e0, o0, c0, w0, b0⟩ := xstr_ok (A := fun q => s.heap.size ≤ q) (by decide +kernel) (fun w hw => hwt w (xwm_t0 w hw)) hAq
  obtain ⟨k1, v1, e1, o1, c1, w1, b1⟩ := xstr_ok (A := fun q => s.heap.size ≤ q) (by decide +kernel) (fun w hw => hwt w (xwm_t1 w hw)) hAq
  obtain ⟨k2, v2, e2, o2, c2, w2, b2⟩ := xstr_ok (A := fun q => s.heap.size ≤ q) (by decide +kernel) (fun w hw => hwt w (xwm_t2 w hw)) hAq
  obtain ⟨k3, v3, e3, o3, c3, w3, b3⟩ := xstr_ok (A := fun q => s.heap.size ≤ q) (by decide +kernel) (fun w hw => hwt w (xwm_t3 w hw)) hAq
  obtain ⟨k4, v4, e4, o4, c4, w4, b4⟩ := xstr_ok (A := fun q => s.heap.size ≤ q) (by decide +kernel) (fun w hw => hwt w (xwm_t4 w hw)) hAq
  obtain ⟨k5, v5, e5, o5, c5, w5, b5⟩ := xstr_ok (A := fun q => s.heap.size ≤ q) (by decide +kernel) (fun w hw => hwt w (xwm_t5 w hw)) hAq
  obtain ⟨k6, v6, e6, o6, c6, w6, b6⟩ := xstr_ok (A := fun q => s.heap.size ≤ q) (by decide +kernel) (fun w hw => hwt w (xwm_t6 w hw)) hAq
  obtain ⟨k7, v7, e7, o7, c7, w7, b7⟩ := xstr_ok (A := fun q => s.heap.size ≤ q) (by decide +kernel) (fun w hw => hwt w (xwm_t7 w hw)) hAq
  obtain ⟨k8, v8, e8, o8, c8, w8, b8⟩ := xstr_ok (A := fun q => s.heap.size ≤ q) (by decide +kernel) (fun w hw => hwt w (xwm_t8 w hw)) hAq
  obtain ⟨k9, v9, e9, o9, c9, w9, b9⟩ := xstr_ok (A := fun q => s.heap.size ≤ q) (by decide +kernel) (fun w hw => hwt w (xwm_t9 w hw)) hAq
  obtain ⟨k10, v10, e10, o10, c10, w10, b10⟩ := xstr_ok (A := fun q => s.heap.size ≤ q) (by decide +kernel) (fun w hw => hwt w (xwm_t10 w hw)) hAq
  obtain ⟨k11, v11, e11, o11, c11, w11, b11⟩ := xstr_ok (A := fun q => s.heap.size ≤ q) (by decide +kernel) (fun w hw => hwt w (xwm_t11 w hw)) hAq
  obtain ⟨k12, v12, e12, o12, c12, w12, b12⟩ := xstr_ok (A := fun q => s.heap.size ≤ q) (by decide +kernel) (fun w hw => hwt w (xwm_t12 w hw)) hAq
  obtain ⟨k13, v13, e13, o13, c13, w13, b13⟩ := xstr_ok (A := fun q => s.heap.size ≤ q) (by decide +kernel) (fun w hw => hwt w (xwm_t13 w hw)) hAq
  obtain ⟨k14, v14, e14, o14, c14, w14, b14⟩ := xstr_ok (A := fun q => s.heap.size ≤ q) (by decide +kernel) (fun w hw => hwt w (xwm_t14 w hw)) hAq
  obtain ⟨k15, v15, e15, o15, c15, w15, b15⟩ := xstr_ok (A := fun q => s.heap.size ≤ q) (by decide +kernel) (fun w hw => hwt w (xwm_t15 w hw)) hAq
  obtain ⟨fm, tF, hfm⟩ : ∃ fm tF : Nat, va_Z "jdk/internal/util/Preconditions" "SIOOBE_FORMATTER" "Ljava/util/function/BiFunction;" (bif Nat.beq fm 0 then .null else .ref tF) (fun q => s.heap.size ≤ q) s s.heap := by
    rcases zf with q | ⟨t, q⟩
    · exact ⟨0, 0, q⟩
    · exact ⟨1, t, q⟩
  have htsT : ∀ w ∈ xTs, w.before #[Value.ref b] s = true := fun w hw => hts w (List.mem_filter.mp hw).1
  have h0 : ∀ k : Nat, ∃ x : ClassId × (Nat → Nat), ∀ q : vw_C, xcl[k]? = some q → u_Kn s q.1 q.2.1 q.2.2 x.1 x.2 := by
    intro k
    cases hq : xcl[k]? with
    | none => exact ⟨(0, fun _ => 0), fun q h => by cases h⟩
    | some q =>
      obtain ⟨h1, h2⟩ := xcl_D k q hq
      obtain ⟨cC, iS, h3⟩ := u_known htsT h1 (htsT _ h2)
      exact ⟨(cC, iS), fun q' h => by cases h; exact h3⟩
  obtain ⟨cI, hcI⟩ := Classical.axiomOfChoice h0
  obtain ⟨a0, r0, f0⟩ := xarr_p (htsT _ xw_a0)
  obtain ⟨a1, r1, f1⟩ := xarr_p (htsT _ xw_a1)
  obtain ⟨a2, r2, f2⟩ := xarr_p (htsT _ xw_a2)
  obtain ⟨a3, r3, f3⟩ := xarr_o (hts _ xw_o3)
  obtain ⟨a4, r4, f4⟩ := xarr_o (hts _ xw_o4)
  obtain ⟨a5, r5, f5⟩ := xarr_o (hts _ xw_o5)
  obtain ⟨a6, r6, f6⟩ := xarr_o (hts _ xw_o6)
  obtain ⟨a7, r7, f7⟩ := xarr_o (hts _ xw_o7)
  refine ⟨(fun k => (cI k).1, fun k => (cI k).2), fun t => ([a0, a1, a2, a3, a4, a5, a6, a7] : List ClassId).getD t 0, [(a0, .int), (a1, .long), (a2, .boolean), (a3, .object "PacketWall$Packet"), (a4, .object "PacketWall$Gathering"), (a5, .object "PacketWall$Flow"), (a6, .object "PacketWall$Row"), (a7, .object "PacketWall$Frame")], xcst b [t1, t2, t3, t4, t5, t6, t7, t8] [k0, k1, k2, k3, k4, k5, k6, k7, k8, k9, k10, k11, k12, k13, k14, k15] [v0, v1, v2, v3, v4, v5, v6, v7, v8, v9, v10, v11, v12, v13, v14, v15] tF, fm, rfl, fun A hA => ⟨⟨fun k q h => hcI k q h, ?_⟩, ⟨⟨rfl, rfl, rfl⟩, ⟨xw_a0, xw_a1, xw_a2⟩, ?_⟩, ⟨?_, ?_, ?_, ?_, ?_, ?_⟩, fun q hq => va_Nw.of rfl (hts _ (xNs_in q hq))⟩⟩
  · intro k q h
    match k, h with
    | 0, h => cases h; exact ⟨r0, f0⟩
    | 1, h => cases h; exact ⟨r1, f1⟩
    | 2, h => cases h; exact ⟨r2, f2⟩
    | 3, h => cases h; exact ⟨r3, f3⟩
    | 4, h => cases h; exact ⟨r4, f4⟩
    | 5, h => cases h; exact ⟨r5, f5⟩
    | 6, h => cases h; exact ⟨r6, f6⟩
    | 7, h => cases h; exact ⟨r7, f7⟩
    | k + 8, h => simp at h
  · intro t ci ht
    have ht : xT_E t = some ci := ht
    match t, ht with
    | 0, ht => cases ht
    | 1, ht => cases ht
    | 2, ht => cases ht
    | 3, ht => cases ht; exact ⟨_, rfl, rfl, va_AO.of (hts _ xw_o3)⟩
    | 4, ht => cases ht; exact ⟨_, rfl, rfl, va_AO.of (hts _ xw_o4)⟩
    | 5, ht => cases ht; exact ⟨_, rfl, rfl, va_AO.of (hts _ xw_o5)⟩
    | 6, ht => cases ht; exact ⟨_, rfl, rfl, va_AO.of (hts _ xw_o6)⟩
    | 7, ht => cases ht; exact ⟨_, rfl, rfl, va_AO.of (hts _ xw_o7)⟩
    | t + 8, ht => cases ht
  · intro k N f hk
    have hk : xT_A A k = some (N, f) := hk
    match k, hk with
    | 0, hk =>
      rcases hA with rfl | rfl
      · cases hk
      cases hk
      obtain ⟨scr, g1, g2, g3, g4, g5⟩ := hX
      exact ⟨scr, g1, g2, g3, by omega, by rw [g4], g5, by show ¬ s.heap.size ≤ b; omega⟩
    | 1, hk => cases hk; exact y1
    | 2, hk => cases hk; exact y2
    | 3, hk => cases hk; exact y3
    | 4, hk => cases hk; exact y4
    | 5, hk => cases hk; exact y5
    | 6, hk => cases hk; exact y6
    | 7, hk => cases hk; exact y7
    | 8, hk => cases hk; exact y8
    | k + 9, hk => cases hk
  · intro oc idx v hk
    have hk : xT_S A oc idx = some v := hk
    unfold xT_S at hk
    cases hb : (Nat.beq oc 15 && Nat.beq idx 1053) with
    | true =>
      rw [hb] at hk
      rw [Bool.and_eq_true] at hb
      obtain ⟨q1, q2⟩ := hb
      have q1 := Nat.eq_of_beq_eq_true q1
      have q2 := Nat.eq_of_beq_eq_true q2
      subst q1
      subst q2
      rcases hA with rfl | rfl
      · cases hk
      refine ⟨_, _, _, xw_fmt, ?_⟩
      have hk : (bif Nat.beq fm 0 then some (Value.null) else some (.ref 1000300)) = some v := hk
      cases h0 : Nat.beq fm 0 with
      | true => rw [h0] at hk hfm; cases hk; exact hfm
      | false => rw [h0] at hk hfm; cases hk; exact hfm
    | false =>
      rw [hb] at hk
      obtain ⟨q, z, hz, hv, hl⟩ := xS0_ok hk
      refine ⟨_, _, _, hl, ?_⟩
      subst hv
      match q, hz with
      | 0, hz => cases hz; exact z1
      | 1, hz => cases hz; exact z2
      | 2, hz => cases hz; exact z3
      | 3, hz => cases hz; exact z4
      | 4, hz => cases hz; exact z5
      | 5, hz => cases hz; exact z6
      | 6, hz => cases hz; exact z7
      | 7, hz => cases hz; exact z8
      | 8, hz => cases hz; exact zc
      | q + 9, hz => cases hz
  · intro k N f hk
    have hk : xT_B k = some (N, f) := hk
    unfold xT_B at hk
    cases hb : (Nat.ble 200 k && Nat.blt k 216) with
    | false => rw [hb] at hk; cases hk
    | true =>
      rw [hb] at hk
      rw [Bool.and_eq_true] at hb
      have q1 := Nat.le_of_ble_eq_true hb.1
      have q2 := Nat.blt_eq.mp hb.2
      obtain ⟨j, rfl⟩ : ∃ j, k = 200 + j := ⟨k - 200, by omega⟩
      rw [cond_true] at hk
      obtain ⟨e1, e2⟩ := Prod.mk.inj (Option.some.inj hk)
      subst e1
      subst e2
      rcases (show j = 0 ∨ j = 1 ∨ j = 2 ∨ j = 3 ∨ j = 4 ∨ j = 5 ∨ j = 6 ∨ j = 7 ∨ j = 8 ∨ j = 9 ∨ j = 10 ∨ j = 11 ∨ j = 12 ∨ j = 13 ∨ j = 14 ∨ j = 15 by omega) with rfl | rfl | rfl | rfl | rfl | rfl | rfl | rfl | rfl | rfl | rfl | rfl | rfl | rfl | rfl | rfl
      · exact b0
      · exact b1
      · exact b2
      · exact b3
      · exact b4
      · exact b5
      · exact b6
      · exact b7
      · exact b8
      · exact b9
      · exact b10
      · exact b11
      · exact b12
      · exact b13
      · exact b14
      · exact b15
  · intro k x hk
    have hk : xT_O k = some x := hk
    unfold xT_O at hk
    cases hb : (Nat.ble 100 k && Nat.blt k 116) with
    | false => rw [hb] at hk; cases hk
    | true =>
      rw [hb] at hk
      rw [Bool.and_eq_true] at hb
      have q1 := Nat.le_of_ble_eq_true hb.1
      have q2 := Nat.blt_eq.mp hb.2
      obtain ⟨j, rfl⟩ : ∃ j, k = 100 + j := ⟨k - 100, by omega⟩
      cases hk
      rcases (show j = 0 ∨ j = 1 ∨ j = 2 ∨ j = 3 ∨ j = 4 ∨ j = 5 ∨ j = 6 ∨ j = 7 ∨ j = 8 ∨ j = 9 ∨ j = 10 ∨ j = 11 ∨ j = 12 ∨ j = 13 ∨ j = 14 ∨ j = 15 by omega) with rfl | rfl | rfl | rfl | rfl | rfl | rfl | rfl | rfl | rfl | rfl | rfl | rfl | rfl | rfl | rfl
      · exact ⟨o0, c0, w0⟩
      · exact ⟨o1, c1, w1⟩
      · exact ⟨o2, c2, w2⟩
      · exact ⟨o3, c3, w3⟩
      · exact ⟨o4, c4, w4⟩
      · exact ⟨o5, c5, w5⟩
      · exact ⟨o6, c6, w6⟩
      · exact ⟨o7, c7, w7⟩
      · exact ⟨o8, c8, w8⟩
      · exact ⟨o9, c9, w9⟩
      · exact ⟨o10, c10, w10⟩
      · exact ⟨o11, c11, w11⟩
      · exact ⟨o12, c12, w12⟩
      · exact ⟨o13, c13, w13⟩
      · exact ⟨o14, c14, w14⟩
      · exact ⟨o15, c15, w15⟩
  · intro oc idx a hk
    have hk : xT_K oc idx = some (.ref a) := hk
    obtain ⟨q, h1, h2, h3⟩ := xKs_ok hk
    subst h2
    match q, h1, h3 with
    | 0, _, h3 => cases h3; exact ⟨_, vk_R.of (hts _ xw_sr0) e0⟩
    | 1, _, h3 => cases h3; exact ⟨_, vk_R.of (hts _ xw_sr1) e1⟩
    | 2, _, h3 => cases h3; exact ⟨_, vk_R.of (hts _ xw_sr2) e2⟩
    | 3, _, h3 => cases h3; exact ⟨_, vk_R.of (hts _ xw_sr3) e3⟩
    | 4, _, h3 => cases h3; exact ⟨_, vk_R.of (hts _ xw_sr4) e4⟩
    | 5, _, h3 => cases h3; exact ⟨_, vk_R.of (hts _ xw_sr5) e5⟩
    | 6, _, h3 => cases h3; exact ⟨_, vk_R.of (hts _ xw_sr6) e6⟩
    | 7, _, h3 => cases h3; exact ⟨_, vk_R.of (hts _ xw_sr7) e7⟩
    | 8, _, h3 => cases h3; exact ⟨_, vk_R.of (hts _ xw_sr8) e8⟩
    | 9, _, h3 => cases h3; exact ⟨_, vk_R.of (hts _ xw_sr9) e9⟩
    | 10, _, h3 => cases h3; exact ⟨_, vk_R.of (hts _ xw_sr10) e10⟩
    | 11, _, h3 => cases h3; exact ⟨_, vk_R.of (hts _ xw_sr11) e11⟩
    | 12, _, h3 => cases h3; exact ⟨_, vk_R.of (hts _ xw_sr12) e12⟩
    | 13, _, h3 => cases h3; exact ⟨_, vk_R.of (hts _ xw_sr13) e13⟩
    | 14, _, h3 => cases h3; exact ⟨_, vk_R.of (hts _ xw_sr14) e14⟩
    | 15, _, h3 => cases h3; exact ⟨_, vk_R.of (hts _ xw_sr15) e15⟩
    | q + 16, h1, _ => exact absurd h1 (by omega)
  · intro oc idx g hk
    have hk : xT_G oc idx = some g := hk
    unfold xT_G at hk
    cases h1 : Nat.beq oc 15 with
    | false => rw [h1] at hk; cases hk
    | true =>
      have q1 := Nat.eq_of_beq_eq_true h1
      subst q1
      rw [h1] at hk
      cases h2 : Nat.beq idx 9 with
      | true =>
        have q2 := Nat.eq_of_beq_eq_true h2
        subst q2
        rw [h2] at hk
        cases hk
        exact xw_gv
      | false =>
        rw [h2] at hk
        cases h3 : Nat.beq idx 15 with
        | false => rw [h3] at hk; cases hk
        | true =>
          have q3 := Nat.eq_of_beq_eq_true h3
          subst q3
          rw [h3] at hk
          cases hk
          exact xw_gc
theorem xlaw_cd (pc : Nat) (i : Instr) (h : xm_law.2.2.2.2.2.2 pc = some i) : ∃ len : Nat, decode xm_law.2.2.1 pc = .ok (i, len) ∧ (ix_len i = 0 ∨ ix_len i = len) := by
  have h1 : xc_law_c pc = some i := h
  have h2 := ix_cd_ok (b := code) (cd := xc_law_c) xc_law_ok (xg_no _ _) pc i h1
  exact h2
section XLAW
variable {p : Program} {l : Launch} {e : Env} {s : State} {m : MethodId} {below : List Frame} {meth : Method} {c : Code} {b L : Nat} {xs : Nat → Int32} {D : va_G} {aC : Nat → ClassId} {tys : List (ClassId × FieldType)} {cst : Nat → Nat}
set_option maxRecDepth 100000 in
/-- a piece of the law's run -/
theorem xstep (C0 : lw_At p s m meth c b L xs) {A : Nat → Option (Nat × (Nat → Int32))} (hSt : ix_St (xT A) D xcl aC tys xon xTs xNs (ix_ad s.heap.size cst) s.heap.size s) {k d j : Nat} (hd : d ≤ 1000) {σ : ix_S} {res : ix_S ⊕ (Option Value × ix_H)} (h : ix_iter (xT A) (ix_run (xT A) k d) xm_law j σ = some res) (h1 : (ix_rh res).1 ≤ 600000) (h2 : (ix_rh res).2.1 ≤ 7302250)
    (hE : ix_End p l e room_1 s m #[Value.ref b] below meth c (lw_Z below #[Value.ref b] s) D xcl aC (ix_ad s.heap.size cst) s.heap.size 0 0 xm_law res) : ix_End p l e room_1 s m #[Value.ref b] below meth c (lw_Z below #[Value.ref b] s) D xcl aC (ix_ad s.heap.size cst) s.heap.size 0 0 xm_law (.inl σ) := by
  obtain ⟨hx, hb, hr, hml, hown, hts, hX, hbl, hlocks, hgv⟩ := C0
  have had : ∀ a : Nat, a < 1000000 → ix_ad s.heap.size cst a = s.heap.size + a := fun a ha => ix_ad_lt ha
  have hsnd : ix_Snd l (xT A) D xcl aC tys xon xTs xNs (ix_ad s.heap.size cst) s.heap.size d (ix_run (xT A) k d) := ix_run_ok l had (xok A) k d
  refine (ix_iter_ok (n0 := 0) (k0 := 0) (ix_run_mono (xT A) k d) hx hb hml had (fun w hw => hts w (List.mem_filter.mp hw).1) hown (xok A) hSt (Nat.add_zero _).symm hsnd ?_ ?_ (fun q => by cases q) xlaw_cd j σ res h).2 (Nat.zero_le _) (Nat.zero_le _) ?_ ?_ hE
  · show d + 1 ≤ 2048
    omega
  · show 64 * (d + 1) ≤ 84000
    omega
  · show (ix_rh res).1 - 0 ≤ 600000
    omega
  · show (ix_rh res).2.1 - 0 ≤ 7302250
    omega
/-- the law's end -/
theorem xend (C0 : lw_At p s m meth c b L xs) {hp : ix_H} (h1 : hp.1 ≤ 600000) (h2 : hp.2.1 ≤ 7302250) : ix_End p l e room_1 s m #[Value.ref b] below meth c (lw_Z below #[Value.ref b] s) D xcl aC (ix_ad s.heap.size cst) s.heap.size 0 0 xm_law (.inr (some (.int 1), hp)) := by
  obtain ⟨hx, hb, hr, hml, hown, hts, hX, hbl, hlocks, hgv⟩ := C0
  intro H1 locs1 arr1 pc' i st' hW hi hret
  unfold ix_ret at hret
  split at hret
  · split at hret <;> cases hret
  · split at hret
    · split at hret
      · cases hret
        obtain ⟨len, hdc, hlen⟩ := xlaw_cd pc' _ hi
        refine va_forget (fun q hq => hW.2.2.2.2.2 q hq) ?_
        refine W.widen (k := 600000) (n := 7302250) (by omega) (by omega) ?_
        have e9 : ix_len Instr.ireturn = len := hlen.resolve_left (by decide)
        rw [← e9] at hdc
        exact lw_ret hx hb hr hlocks hdc
      · cases hret
    · cases hret
  · split at hret <;> cases hret
  · split at hret <;> cases hret
  · cases hret
/-- from the entry -/
theorem xentry (C0 : lw_At p s m meth c b L xs) (hcst : cst 0 = b) (hE : ix_End p l e room_1 s m #[Value.ref b] below meth c (lw_Z below #[Value.ref b] s) D xcl aC (ix_ad s.heap.size cst) s.heap.size 0 0 xm_law (.inl (0, [(0, .ref 1000000)], [], xh_e))) : W p l e room_1 s m #[Value.ref b] below meth c s.heap [] 0 0 (lw_Z below #[Value.ref b] s) (entryFrame m ([Value.ref b] : List Value).toArray 4) := by
  rw [lg_entry_eq]
  have hl := lv_entry ([Value.ref b]) (n := 4) (Nat.le_of_ble_eq_true rfl)
  exact hE s.heap [] _ ⟨Nat.zero_le _, fun k q h => by simp [ix_ws, xh_e] at h, ⟨fun i j x y h => by simp [ix_ws, xh_e] at h, fun k q h => by simp [ix_ws, xh_e] at h⟩, va_S.rf⟩ (by
    have e : lv_args 0 [Value.ref b] = ix_l (ix_ad s.heap.size cst) [(0, Value.ref 1000000)] := by
      show [(0, Value.ref b)] = [(0, Value.ref (cst 0))]
      rw [hcst]
    rw [← e]
    exact hl)
end XLAW
end
