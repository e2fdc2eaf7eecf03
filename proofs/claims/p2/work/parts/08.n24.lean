theorem d_AR_copyOf_2_27 : decode b_AR_copyOf_2 27 = .ok (.aload_n 3, 1) := by decide +kernel
theorem d_AR_copyOf_2_28 : decode b_AR_copyOf_2 28 = .ok (.iconst 0, 1) := by decide +kernel
theorem d_AR_copyOf_2_29 : decode b_AR_copyOf_2 29 = .ok (.aload_n 0, 1) := by decide +kernel
theorem d_AR_copyOf_2_30 : decode b_AR_copyOf_2 30 = .ok (.arraylength, 1) := by decide +kernel
theorem d_AR_copyOf_2_31 : decode b_AR_copyOf_2 31 = .ok (.iload_n 1, 1) := by decide +kernel
theorem d_AR_copyOf_2_32 : decode b_AR_copyOf_2 32 = .ok (.invokestatic 304, 3) := by decide +kernel
theorem d_AR_copyOf_2_35 : decode b_AR_copyOf_2 35 = .ok (.invokestatic 150, 3) := by decide +kernel
theorem d_AR_copyOf_2_38 : decode b_AR_copyOf_2 38 = .ok (.aload_n 3, 1) := by decide +kernel
theorem d_AR_copyOf_2_39 : decode b_AR_copyOf_2 39 = .ok (.areturn, 1) := by decide +kernel
theorem d_OB_checkIndex_0 : decode b_OB_checkIndex 0 = .ok (.iload_n 0, 1) := by decide +kernel
theorem d_OB_checkIndex_1 : decode b_OB_checkIndex 1 = .ok (.iload_n 1, 1) := by decide +kernel
theorem d_OB_checkIndex_2 : decode b_OB_checkIndex 2 = .ok (.aconst_null, 1) := by decide +kernel
theorem d_OB_checkIndex_3 : decode b_OB_checkIndex 3 = .ok (.invokestatic 105, 3) := by decide +kernel
theorem d_OB_checkIndex_6 : decode b_OB_checkIndex 6 = .ok (.ireturn, 1) := by decide +kernel
