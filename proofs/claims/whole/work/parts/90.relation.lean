def RL (X : ST) (O : Nat → Int64) (Z : ST) (Y : Int64) : Prop := sorry
theorem rl_0 : ∀ sd : Int32, RL (X0 sd) (fun _ => 0) (Z0 sd) 0 := sorry
theorem rl_s : LStep RL := sorry

