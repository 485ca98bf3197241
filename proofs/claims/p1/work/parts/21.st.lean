/-! ===== steps with a symbol: a field is written, an answer is given ===== -/
section IXP
variable {T : ix_T} {f : ix_F} {M : ix_M}
theorem ix_n_put {pc idx a ci j : Nat} {ls : ix_L} {st fs : List Value} {hp : ix_H} {v : Value} (hi : M.2.2.2.2.2.2 pc = some (.putfield idx)) (h1 : ix_tF T M.1 idx = some (ci, j)) (h2 : ix_obj hp a = some (ci, fs)) (h3 : j < fs.length) (h4 : narrow ((ix_tD T ci).2 j).1 v = v) (h5 : fits ((ix_tD T ci).2 j).1 v = true) (h6 : ((ix_tD T ci).2 j).2 = false) : ix_n T f M 1 (pc, ls, v :: .ref a :: st, hp) = some (.inl (pc + 3, ls, st, ix_put hp a (.inr (ci, fs.set j v)))) := by
  refine ix_n_s ?_
  rw [ix_one_sem T f M pc ls _ hp hi, fxk_putfield (res := .inl (pc + 3, ls, st, ix_put hp a (.inr (ci, fs.set j v)))) (by
    unfold fx_putfield
    simp only [h1, h2]
    simp only [h3, h4, h5, h6, true_and, true_or, if_true])]
theorem ix_n_reti {pc : Nat} {ls : ix_L} {hp : ix_H} {v : Int32} {ty : FieldType} (hi : M.2.2.2.2.2.2 pc = some .ireturn) (hr : M.2.2.2.2.1 = some ty) (hn : narrow ty (.int v) = .int v) : ix_n T f M 1 (pc, ls, [.int v], hp) = some (.inr (some (.int v), hp)) := by
  refine ix_n_e ?_
  rw [ix_one_sem T f M pc ls _ hp hi, fxk_ireturn (res := .inr (some (.int v), hp)) (by
    unfold fx_ireturn
    simp only [hr]
    rw [if_pos hn])]
end IXP
