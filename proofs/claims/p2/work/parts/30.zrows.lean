theorem dX3_replace_0 : decode cX3_replace 0 = .ok (.aload_n 0, 1) := by decide +kernel
theorem dX3_replace_1 : decode cX3_replace 1 = .ok (.getfield 30, 3) := by decide +kernel
theorem dX3_replace_4 : decode cX3_replace 4 = .ok (.getfield 90, 3) := by decide +kernel
theorem dX3_replace_7 : decode cX3_replace 7 = .ok (.aload_n 0, 1) := by decide +kernel
theorem dX3_replace_8 : decode cX3_replace 8 = .ok (.getfield 18, 3) := by decide +kernel
theorem dX3_replace_11 : decode cX3_replace 11 = .ok (.iload_n 1, 1) := by decide +kernel
theorem dX3_replace_12 : decode cX3_replace 12 = .ok (.iaload, 1) := by decide +kernel
theorem dX3_replace_13 : decode cX3_replace 13 = .ok (.iconst 0, 1) := by decide +kernel
theorem dX3_replace_14 : decode cX3_replace 14 = .ok (.bastore, 1) := by decide +kernel
theorem dX3_replace_15 : decode cX3_replace 15 = .ok (.aload_n 0, 1) := by decide +kernel
theorem dX3_replace_16 : decode cX3_replace 16 = .ok (.getfield 18, 3) := by decide +kernel
theorem dX3_replace_19 : decode cX3_replace 19 = .ok (.iload_n 1, 1) := by decide +kernel
theorem dX3_replace_20 : decode cX3_replace 20 = .ok (.iconst (-1), 1) := by decide +kernel
theorem dX3_replace_21 : decode cX3_replace 21 = .ok (.iastore, 1) := by decide +kernel
theorem dX3_replace_22 : decode cX3_replace 22 = .ok (.aload_n 0, 1) := by decide +kernel
theorem dX3_replace_23 : decode cX3_replace 23 = .ok (.getfield 34, 3) := by decide +kernel
theorem dX3_replace_26 : decode cX3_replace 26 = .ok (.getfield 93, 3) := by decide +kernel
theorem dX3_replace_29 : decode cX3_replace 29 = .ok (.iload_n 1, 1) := by decide +kernel
theorem dX3_replace_30 : decode cX3_replace 30 = .ok (.dup2, 1) := by decide +kernel
theorem dX3_replace_31 : decode cX3_replace 31 = .ok (.iaload, 1) := by decide +kernel
theorem dX3_replace_32 : decode cX3_replace 32 = .ok (.iconst 1, 1) := by decide +kernel
theorem dX3_replace_33 : decode cX3_replace 33 = .ok (.iadd, 1) := by decide +kernel
theorem dX3_replace_34 : decode cX3_replace 34 = .ok (.iastore, 1) := by decide +kernel
theorem dX3_replace_35 : decode cX3_replace 35 = .ok (.return_, 1) := by decide +kernel
