theorem d_AR_copyOf_2_0 : decode b_AR_copyOf_2 0 = .ok (.aload_n 2, 1) := by decide +kernel
theorem d_AR_copyOf_2_1 : decode b_AR_copyOf_2 1 = .ok (.ldc 110, 2) := by decide +kernel
theorem d_AR_copyOf_2_3 : decode b_AR_copyOf_2 3 = .ok (.if_acmp .ne 10, 3) := by decide +kernel
theorem d_AR_copyOf_2_6 : decode b_AR_copyOf_2 6 = .ok (.iload_n 1, 1) := by decide +kernel
theorem d_AR_copyOf_2_7 : decode b_AR_copyOf_2 7 = .ok (.anewarray 2, 3) := by decide +kernel
theorem d_AR_copyOf_2_10 : decode b_AR_copyOf_2 10 = .ok (.goto 14, 3) := by decide +kernel
theorem d_AR_copyOf_2_24 : decode b_AR_copyOf_2 24 = .ok (.astore_n 3, 1) := by decide +kernel
theorem d_AR_copyOf_2_25 : decode b_AR_copyOf_2 25 = .ok (.aload_n 0, 1) := by decide +kernel
theorem d_AR_copyOf_2_26 : decode b_AR_copyOf_2 26 = .ok (.iconst 0, 1) := by decide +kernel
theorem d_AR_copyOf_2_27 : decode b_AR_copyOf_2 27 = .ok (.aload_n 3, 1) := by decide +kernel
theorem d_AR_copyOf_2_28 : decode b_AR_copyOf_2 28 = .ok (.iconst 0, 1) := by decide +kernel
theorem d_AR_copyOf_2_29 : decode b_AR_copyOf_2 29 = .ok (.aload_n 0, 1) := by decide +kernel
theorem d_AR_copyOf_2_30 : decode b_AR_copyOf_2 30 = .ok (.arraylength, 1) := by decide +kernel
theorem d_AR_copyOf_2_31 : decode b_AR_copyOf_2 31 = .ok (.iload_n 1, 1) := by decide +kernel
theorem d_AR_copyOf_2_32 : decode b_AR_copyOf_2 32 = .ok (.invokestatic 304, 3) := by decide +kernel
theorem d_AR_copyOf_2_35 : decode b_AR_copyOf_2 35 = .ok (.invokestatic 150, 3) := by decide +kernel
theorem d_AR_copyOf_2_38 : decode b_AR_copyOf_2 38 = .ok (.aload_n 3, 1) := by decide +kernel
theorem d_AR_copyOf_2_39 : decode b_AR_copyOf_2 39 = .ok (.areturn, 1) := by decide +kernel
theorem d_OB_checkIndex_0 : decode b_OB_checkIndex 0 = .ok (.iload_n 0, 1) := by decide +kernel
theorem d_OB_checkIndex_1 : decode b_OB_checkIndex 1 = .ok (.iload_n 1, 1) := by decide +kernel
theorem d_OB_checkIndex_2 : decode b_OB_checkIndex 2 = .ok (.aconst_null, 1) := by decide +kernel
theorem d_OB_checkIndex_3 : decode b_OB_checkIndex 3 = .ok (.invokestatic 105, 3) := by decide +kernel
theorem d_OB_checkIndex_6 : decode b_OB_checkIndex 6 = .ok (.ireturn, 1) := by decide +kernel
