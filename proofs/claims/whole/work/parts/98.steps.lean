-- ===== every call keeps the relation =====
theorem rl_s : LStep RL := ⟨fun _ _ _ _ h => sp_0 h, fun _ _ _ _ h => sp_1 h, fun _ _ _ _ h => sp_2 h, fun _ _ _ _ h => sp_3 h, fun _ _ _ _ h => sp_4 h, fun _ _ _ _ h => sp_5 h, fun _ _ _ _ h => sp_6 h, fun _ _ _ _ h => sp_7 h, fun _ _ _ _ h => sp_8 h, fun _ _ _ _ h => sp_9 h, fun _ _ _ _ h => sp_10 h, fun _ _ _ _ h => sp_11 h, fun _ _ _ _ h => sp_12 h, fun _ _ _ _ h => sp_13 h, fun _ _ _ _ h => sp_14 h, fun _ _ _ _ h => sp_15 h, fun _ _ _ _ h => sp_16 h, fun _ _ _ _ h => sp_17 h, fun _ _ _ _ h => sp_18 h⟩

