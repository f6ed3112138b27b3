set_option maxRecDepth 100000 in
theorem oL_law : dm_okM RL rL_law.2.1 false qL_law = true := by decide +kernel
