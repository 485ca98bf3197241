theorem PX_all {A : Nat → Option (Nat × (Nat → Int32))} [HA A] (n : Nat) : PX A n := by
  induction n with
  | zero => exact ⟨by unfold PX_ask; intros; exfalso; omega, by unfold PX_one; intros; exfalso; omega, by unfold PX_exp; intros; exfalso; omega, by unfold PX_exps; intros; exfalso; omega, by unfold PX_block; intros; exfalso; omega, by unfold PX_choice; intros; exfalso; omega, by unfold PX_deed; intros; exfalso; omega⟩
  | succ n ih => exact ⟨c_Parser_askingWord ih, c_Parser_one ih, c_Parser_exp ih, c_Parser_exps ih, c_Parser_block ih, c_Parser_choice ih, c_Parser_deed ih⟩

