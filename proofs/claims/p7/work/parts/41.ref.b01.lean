theorem dX12_statement_146 : decode cX12_statement 146 = .ok (.ifCond .eq 10, 3) := by decide +kernel
theorem dX12_statement_149 : decode cX12_statement 149 = .ok (.aload_n 0, 1) := by decide +kernel
theorem dX12_statement_150 : decode cX12_statement 150 = .ok (.invokevirtual 238, 3) := by decide +kernel
theorem dX12_statement_153 : decode cX12_statement 153 = .ok (.goto 8, 3) := by decide +kernel
theorem dX12_statement_156 : decode cX12_statement 156 = .ok (.aload_n 0, 1) := by decide +kernel
theorem dX12_statement_157 : decode cX12_statement 157 = .ok (.iconst 1, 1) := by decide +kernel
theorem dX12_statement_158 : decode cX12_statement 158 = .ok (.invokevirtual 137, 3) := by decide +kernel
