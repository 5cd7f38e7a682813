theorem rl_s : LStep RL := sorry

