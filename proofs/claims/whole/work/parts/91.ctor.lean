set_option maxHeartbeats 8000000 in
theorem k_X8_init_2 {E : En} : CM E 1 M_X8_init [vr 2] (Gm 3 1) (ML 0) Z0 (QG 4 2 0) := by
  refine CM_of (al := [vr 2]) rfl (Nat.le_of_ble_eq_true rfl) rfl ?_
  refine E_aload_n dX8_init_0 rfl ?_
  show Ev E 1 M_X8_init 1 [vr 2] [vr 2] (Gm 3 1, 0, 0) (ML 0) Z0 (ZQ E M_X8_init (QG 4 2 0))
  refine E_objInit dX8_init_1 wM_RX8_3 wO_1 wO_2 (by omega) (Nat.le_of_ble_eq_true rfl) ?_
  show Ev E 1 M_X8_init 4 [vr 2] [] (Gm 3 1, 0, 0) (ML 0) Z0 (ZQ E M_X8_init (QG 4 2 0))
  refine E_aload_n dX8_init_4 rfl ?_
  show Ev E 1 M_X8_init 5 [vr 2] [vr 2] (Gm 3 1, 0, 0) (ML 0) Z0 (ZQ E M_X8_init (QG 4 2 0))
  refine E_sipush (v := 400) dX8_init_5 rfl ?_
  show Ev E 1 M_X8_init 8 [vr 2] [vi 400, vr 2] (Gm 3 1, 0, 0) (ML 0) Z0 (ZQ E M_X8_init (QG 4 2 0))
  refine N_newaB (N := 400) dX8_init_8 wA_byte rfl (by decide) rfl (by decide) (by decide) (by decide) (by decide) (by decide) ?_
  show Ev E 1 M_X8_init 10 [vr 2] [vr 3, vr 2] (Gm 4 1, 1, 400) (ML 0) Z0 (ZQ E M_X8_init (QG 4 2 0))
  refine N_put (ci := 8) (i := 1) dX8_init_10 wF_RX8_9 (by decide) rfl rfl rfl rfl rfl rfl (by decide) ?_
  show Ev E 1 M_X8_init 13 [vr 2] [] (Gm 4 2, 1, 400) (ML 0) Z0 (ZQ E M_X8_init (QG 4 2 0))
  exact E_return rfl dX8_init_13 ⟨rfl, rfl, rfl, rfl⟩ (by decide) (by decide)
set_option maxHeartbeats 8000000 in
theorem k_X9_init_4 {E : En} : CM E 1 M_X9_init [vr 4] (Gm 5 3) (ML 0) Z0 (QG 13 11 0) := by
  refine CM_of (al := [vr 4]) rfl (Nat.le_of_ble_eq_true rfl) rfl ?_
  refine E_aload_n dX9_init_0 rfl ?_
  show Ev E 1 M_X9_init 1 [vr 4] [vr 4] (Gm 5 3, 0, 0) (ML 0) Z0 (ZQ E M_X9_init (QG 13 11 0))
  refine E_objInit dX9_init_1 wM_RX9_3 wO_1 wO_2 (by omega) (Nat.le_of_ble_eq_true rfl) ?_
  show Ev E 1 M_X9_init 4 [vr 4] [] (Gm 5 3, 0, 0) (ML 0) Z0 (ZQ E M_X9_init (QG 13 11 0))
  refine E_aload_n dX9_init_4 rfl ?_
  show Ev E 1 M_X9_init 5 [vr 4] [vr 4] (Gm 5 3, 0, 0) (ML 0) Z0 (ZQ E M_X9_init (QG 13 11 0))
  refine E_bipush (v := 12) dX9_init_5 rfl ?_
  show Ev E 1 M_X9_init 7 [vr 4] [vi 12, vr 4] (Gm 5 3, 0, 0) (ML 0) Z0 (ZQ E M_X9_init (QG 13 11 0))
  refine N_newaI (N := 12) dX9_init_7 wA_int rfl (by decide) rfl (by decide) (by decide) (by decide) (by decide) (by decide) ?_
  show Ev E 1 M_X9_init 9 [vr 4] [vr 5, vr 4] (Gm 6 3, 1, 12) (ML 0) Z0 (ZQ E M_X9_init (QG 13 11 0))
  refine N_put (ci := 9) (i := 3) dX9_init_9 wF_RX9_9 (by decide) rfl rfl rfl rfl rfl rfl (by decide) ?_
  show Ev E 1 M_X9_init 12 [vr 4] [] (Gm 6 4, 1, 12) (ML 0) Z0 (ZQ E M_X9_init (QG 13 11 0))
  refine E_aload_n dX9_init_12 rfl ?_
  show Ev E 1 M_X9_init 13 [vr 4] [vr 4] (Gm 6 4, 1, 12) (ML 0) Z0 (ZQ E M_X9_init (QG 13 11 0))
  refine E_bipush (v := 12) dX9_init_13 rfl ?_
  show Ev E 1 M_X9_init 15 [vr 4] [vi 12, vr 4] (Gm 6 4, 1, 12) (ML 0) Z0 (ZQ E M_X9_init (QG 13 11 0))
  refine N_newaI (N := 12) dX9_init_15 wA_int rfl (by decide) rfl (by decide) (by decide) (by decide) (by decide) (by decide) ?_
  show Ev E 1 M_X9_init 17 [vr 4] [vr 6, vr 4] (Gm 7 4, 2, 24) (ML 0) Z0 (ZQ E M_X9_init (QG 13 11 0))
  refine N_put (ci := 9) (i := 4) dX9_init_17 wF_RX9_15 (by decide) rfl rfl rfl rfl rfl rfl (by decide) ?_
  show Ev E 1 M_X9_init 20 [vr 4] [] (Gm 7 5, 2, 24) (ML 0) Z0 (ZQ E M_X9_init (QG 13 11 0))
  refine E_aload_n dX9_init_20 rfl ?_
  show Ev E 1 M_X9_init 21 [vr 4] [vr 4] (Gm 7 5, 2, 24) (ML 0) Z0 (ZQ E M_X9_init (QG 13 11 0))
  refine E_bipush (v := 12) dX9_init_21 rfl ?_
  show Ev E 1 M_X9_init 23 [vr 4] [vi 12, vr 4] (Gm 7 5, 2, 24) (ML 0) Z0 (ZQ E M_X9_init (QG 13 11 0))
  refine N_newaI (N := 12) dX9_init_23 wA_int rfl (by decide) rfl (by decide) (by decide) (by decide) (by decide) (by decide) ?_
  show Ev E 1 M_X9_init 25 [vr 4] [vr 7, vr 4] (Gm 8 5, 3, 36) (ML 0) Z0 (ZQ E M_X9_init (QG 13 11 0))
  refine N_put (ci := 9) (i := 5) dX9_init_25 wF_RX9_18 (by decide) rfl rfl rfl rfl rfl rfl (by decide) ?_
  show Ev E 1 M_X9_init 28 [vr 4] [] (Gm 8 6, 3, 36) (ML 0) Z0 (ZQ E M_X9_init (QG 13 11 0))
  refine E_aload_n dX9_init_28 rfl ?_
  show Ev E 1 M_X9_init 29 [vr 4] [vr 4] (Gm 8 6, 3, 36) (ML 0) Z0 (ZQ E M_X9_init (QG 13 11 0))
  refine E_iconst (v := 5) dX9_init_29 rfl ?_
  show Ev E 1 M_X9_init 30 [vr 4] [vi 5, vr 4] (Gm 8 6, 3, 36) (ML 0) Z0 (ZQ E M_X9_init (QG 13 11 0))
  refine N_newaI (N := 5) dX9_init_30 wA_int rfl (by decide) rfl (by decide) (by decide) (by decide) (by decide) (by decide) ?_
  show Ev E 1 M_X9_init 32 [vr 4] [vr 8, vr 4] (Gm 9 6, 4, 41) (ML 0) Z0 (ZQ E M_X9_init (QG 13 11 0))
  refine N_put (ci := 9) (i := 6) dX9_init_32 wF_RX9_21 (by decide) rfl rfl rfl rfl rfl rfl (by decide) ?_
  show Ev E 1 M_X9_init 35 [vr 4] [] (Gm 9 7, 4, 41) (ML 0) Z0 (ZQ E M_X9_init (QG 13 11 0))
  refine E_aload_n dX9_init_35 rfl ?_
  show Ev E 1 M_X9_init 36 [vr 4] [vr 4] (Gm 9 7, 4, 41) (ML 0) Z0 (ZQ E M_X9_init (QG 13 11 0))
  refine E_iconst (v := 5) dX9_init_36 rfl ?_
  show Ev E 1 M_X9_init 37 [vr 4] [vi 5, vr 4] (Gm 9 7, 4, 41) (ML 0) Z0 (ZQ E M_X9_init (QG 13 11 0))
  refine N_newaI (N := 5) dX9_init_37 wA_int rfl (by decide) rfl (by decide) (by decide) (by decide) (by decide) (by decide) ?_
  show Ev E 1 M_X9_init 39 [vr 4] [vr 9, vr 4] (Gm 10 7, 5, 46) (ML 0) Z0 (ZQ E M_X9_init (QG 13 11 0))
  refine N_put (ci := 9) (i := 7) dX9_init_39 wF_RX9_24 (by decide) rfl rfl rfl rfl rfl rfl (by decide) ?_
  show Ev E 1 M_X9_init 42 [vr 4] [] (Gm 10 8, 5, 46) (ML 0) Z0 (ZQ E M_X9_init (QG 13 11 0))
  refine E_aload_n dX9_init_42 rfl ?_
  show Ev E 1 M_X9_init 43 [vr 4] [vr 4] (Gm 10 8, 5, 46) (ML 0) Z0 (ZQ E M_X9_init (QG 13 11 0))
  refine E_iconst (v := 5) dX9_init_43 rfl ?_
  show Ev E 1 M_X9_init 44 [vr 4] [vi 5, vr 4] (Gm 10 8, 5, 46) (ML 0) Z0 (ZQ E M_X9_init (QG 13 11 0))
  refine N_newaI (N := 5) dX9_init_44 wA_int rfl (by decide) rfl (by decide) (by decide) (by decide) (by decide) (by decide) ?_
  show Ev E 1 M_X9_init 46 [vr 4] [vr 10, vr 4] (Gm 11 8, 6, 51) (ML 0) Z0 (ZQ E M_X9_init (QG 13 11 0))
  refine N_put (ci := 9) (i := 8) dX9_init_46 wF_RX9_27 (by decide) rfl rfl rfl rfl rfl rfl (by decide) ?_
  show Ev E 1 M_X9_init 49 [vr 4] [] (Gm 11 9, 6, 51) (ML 0) Z0 (ZQ E M_X9_init (QG 13 11 0))
  refine E_aload_n dX9_init_49 rfl ?_
  show Ev E 1 M_X9_init 50 [vr 4] [vr 4] (Gm 11 9, 6, 51) (ML 0) Z0 (ZQ E M_X9_init (QG 13 11 0))
  refine E_bipush (v := 8) dX9_init_50 rfl ?_
  show Ev E 1 M_X9_init 52 [vr 4] [vi 8, vr 4] (Gm 11 9, 6, 51) (ML 0) Z0 (ZQ E M_X9_init (QG 13 11 0))
  refine N_newaI (N := 8) dX9_init_52 wA_int rfl (by decide) rfl (by decide) (by decide) (by decide) (by decide) (by decide) ?_
  show Ev E 1 M_X9_init 54 [vr 4] [vr 11, vr 4] (Gm 12 9, 7, 59) (ML 0) Z0 (ZQ E M_X9_init (QG 13 11 0))
  refine N_put (ci := 9) (i := 9) dX9_init_54 wF_RX9_30 (by decide) rfl rfl rfl rfl rfl rfl (by decide) ?_
  show Ev E 1 M_X9_init 57 [vr 4] [] (Gm 12 10, 7, 59) (ML 0) Z0 (ZQ E M_X9_init (QG 13 11 0))
  refine E_aload_n dX9_init_57 rfl ?_
  show Ev E 1 M_X9_init 58 [vr 4] [vr 4] (Gm 12 10, 7, 59) (ML 0) Z0 (ZQ E M_X9_init (QG 13 11 0))
  refine E_bipush (v := 8) dX9_init_58 rfl ?_
  show Ev E 1 M_X9_init 60 [vr 4] [vi 8, vr 4] (Gm 12 10, 7, 59) (ML 0) Z0 (ZQ E M_X9_init (QG 13 11 0))
  refine N_newaI (N := 8) dX9_init_60 wA_int rfl (by decide) rfl (by decide) (by decide) (by decide) (by decide) (by decide) ?_
  show Ev E 1 M_X9_init 62 [vr 4] [vr 12, vr 4] (Gm 13 10, 8, 67) (ML 0) Z0 (ZQ E M_X9_init (QG 13 11 0))
  refine N_put (ci := 9) (i := 10) dX9_init_62 wF_RX9_33 (by decide) rfl rfl rfl rfl rfl rfl (by decide) ?_
  show Ev E 1 M_X9_init 65 [vr 4] [] (Gm 13 11, 8, 67) (ML 0) Z0 (ZQ E M_X9_init (QG 13 11 0))
  exact E_return rfl dX9_init_65 ⟨rfl, rfl, rfl, rfl⟩ (by decide) (by decide)
set_option maxHeartbeats 8000000 in
theorem k_X5_init_13 {E : En} : CM E 1 M_X5_init [vr 13, vr 2, vr 4] (Gm 14 12) (ML 0) Z0 (QG 14 14 0) := by
  refine CM_of (al := [vr 13, vr 2, vr 4]) rfl (Nat.le_of_ble_eq_true rfl) rfl ?_
  refine E_aload_n dX5_init_0 rfl ?_
  show Ev E 1 M_X5_init 1 [vr 13, vr 2, vr 4] [vr 13] (Gm 14 12, 0, 0) (ML 0) Z0 (ZQ E M_X5_init (QG 14 14 0))
  refine E_objInit dX5_init_1 wM_RX5_3 wO_1 wO_2 (by omega) (Nat.le_of_ble_eq_true rfl) ?_
  show Ev E 1 M_X5_init 4 [vr 13, vr 2, vr 4] [] (Gm 14 12, 0, 0) (ML 0) Z0 (ZQ E M_X5_init (QG 14 14 0))
  refine E_aload_n dX5_init_4 rfl ?_
  show Ev E 1 M_X5_init 5 [vr 13, vr 2, vr 4] [vr 13] (Gm 14 12, 0, 0) (ML 0) Z0 (ZQ E M_X5_init (QG 14 14 0))
  refine E_aload_n dX5_init_5 rfl ?_
  show Ev E 1 M_X5_init 6 [vr 13, vr 2, vr 4] [vr 2, vr 13] (Gm 14 12, 0, 0) (ML 0) Z0 (ZQ E M_X5_init (QG 14 14 0))
  refine N_put (ci := 5) (i := 0) dX5_init_6 wF_RX5_9 (by decide) rfl rfl rfl rfl rfl rfl (by decide) ?_
  show Ev E 1 M_X5_init 9 [vr 13, vr 2, vr 4] [] (Gm 14 13, 0, 0) (ML 0) Z0 (ZQ E M_X5_init (QG 14 14 0))
  refine E_aload_n dX5_init_9 rfl ?_
  show Ev E 1 M_X5_init 10 [vr 13, vr 2, vr 4] [vr 13] (Gm 14 13, 0, 0) (ML 0) Z0 (ZQ E M_X5_init (QG 14 14 0))
  refine E_aload_n dX5_init_10 rfl ?_
  show Ev E 1 M_X5_init 11 [vr 13, vr 2, vr 4] [vr 4, vr 13] (Gm 14 13, 0, 0) (ML 0) Z0 (ZQ E M_X5_init (QG 14 14 0))
  refine N_put (ci := 5) (i := 1) dX5_init_11 wF_RX5_15 (by decide) rfl rfl rfl rfl rfl rfl (by decide) ?_
  show Ev E 1 M_X5_init 14 [vr 13, vr 2, vr 4] [] (Gm 14 14, 0, 0) (ML 0) Z0 (ZQ E M_X5_init (QG 14 14 0))
  exact E_return rfl dX5_init_14 ⟨rfl, rfl, rfl, rfl⟩ (by decide) (by decide)
set_option maxHeartbeats 8000000 in
theorem k_X9_init_15 {E : En} : CM E 1 M_X9_init [vr 15] (Gm 16 15) (ML 0) Z0 (QG 24 23 0) := by
  refine CM_of (al := [vr 15]) rfl (Nat.le_of_ble_eq_true rfl) rfl ?_
  refine E_aload_n dX9_init_0 rfl ?_
  show Ev E 1 M_X9_init 1 [vr 15] [vr 15] (Gm 16 15, 0, 0) (ML 0) Z0 (ZQ E M_X9_init (QG 24 23 0))
  refine E_objInit dX9_init_1 wM_RX9_3 wO_1 wO_2 (by omega) (Nat.le_of_ble_eq_true rfl) ?_
  show Ev E 1 M_X9_init 4 [vr 15] [] (Gm 16 15, 0, 0) (ML 0) Z0 (ZQ E M_X9_init (QG 24 23 0))
  refine E_aload_n dX9_init_4 rfl ?_
  show Ev E 1 M_X9_init 5 [vr 15] [vr 15] (Gm 16 15, 0, 0) (ML 0) Z0 (ZQ E M_X9_init (QG 24 23 0))
  refine E_bipush (v := 12) dX9_init_5 rfl ?_
  show Ev E 1 M_X9_init 7 [vr 15] [vi 12, vr 15] (Gm 16 15, 0, 0) (ML 0) Z0 (ZQ E M_X9_init (QG 24 23 0))
  refine N_newaI (N := 12) dX9_init_7 wA_int rfl (by decide) rfl (by decide) (by decide) (by decide) (by decide) (by decide) ?_
  show Ev E 1 M_X9_init 9 [vr 15] [vr 16, vr 15] (Gm 17 15, 1, 12) (ML 0) Z0 (ZQ E M_X9_init (QG 24 23 0))
  refine N_put (ci := 9) (i := 3) dX9_init_9 wF_RX9_9 (by decide) rfl rfl rfl rfl rfl rfl (by decide) ?_
  show Ev E 1 M_X9_init 12 [vr 15] [] (Gm 17 16, 1, 12) (ML 0) Z0 (ZQ E M_X9_init (QG 24 23 0))
  refine E_aload_n dX9_init_12 rfl ?_
  show Ev E 1 M_X9_init 13 [vr 15] [vr 15] (Gm 17 16, 1, 12) (ML 0) Z0 (ZQ E M_X9_init (QG 24 23 0))
  refine E_bipush (v := 12) dX9_init_13 rfl ?_
  show Ev E 1 M_X9_init 15 [vr 15] [vi 12, vr 15] (Gm 17 16, 1, 12) (ML 0) Z0 (ZQ E M_X9_init (QG 24 23 0))
  refine N_newaI (N := 12) dX9_init_15 wA_int rfl (by decide) rfl (by decide) (by decide) (by decide) (by decide) (by decide) ?_
  show Ev E 1 M_X9_init 17 [vr 15] [vr 17, vr 15] (Gm 18 16, 2, 24) (ML 0) Z0 (ZQ E M_X9_init (QG 24 23 0))
  refine N_put (ci := 9) (i := 4) dX9_init_17 wF_RX9_15 (by decide) rfl rfl rfl rfl rfl rfl (by decide) ?_
  show Ev E 1 M_X9_init 20 [vr 15] [] (Gm 18 17, 2, 24) (ML 0) Z0 (ZQ E M_X9_init (QG 24 23 0))
  refine E_aload_n dX9_init_20 rfl ?_
  show Ev E 1 M_X9_init 21 [vr 15] [vr 15] (Gm 18 17, 2, 24) (ML 0) Z0 (ZQ E M_X9_init (QG 24 23 0))
  refine E_bipush (v := 12) dX9_init_21 rfl ?_
  show Ev E 1 M_X9_init 23 [vr 15] [vi 12, vr 15] (Gm 18 17, 2, 24) (ML 0) Z0 (ZQ E M_X9_init (QG 24 23 0))
  refine N_newaI (N := 12) dX9_init_23 wA_int rfl (by decide) rfl (by decide) (by decide) (by decide) (by decide) (by decide) ?_
  show Ev E 1 M_X9_init 25 [vr 15] [vr 18, vr 15] (Gm 19 17, 3, 36) (ML 0) Z0 (ZQ E M_X9_init (QG 24 23 0))
  refine N_put (ci := 9) (i := 5) dX9_init_25 wF_RX9_18 (by decide) rfl rfl rfl rfl rfl rfl (by decide) ?_
  show Ev E 1 M_X9_init 28 [vr 15] [] (Gm 19 18, 3, 36) (ML 0) Z0 (ZQ E M_X9_init (QG 24 23 0))
  refine E_aload_n dX9_init_28 rfl ?_
  show Ev E 1 M_X9_init 29 [vr 15] [vr 15] (Gm 19 18, 3, 36) (ML 0) Z0 (ZQ E M_X9_init (QG 24 23 0))
  refine E_iconst (v := 5) dX9_init_29 rfl ?_
  show Ev E 1 M_X9_init 30 [vr 15] [vi 5, vr 15] (Gm 19 18, 3, 36) (ML 0) Z0 (ZQ E M_X9_init (QG 24 23 0))
  refine N_newaI (N := 5) dX9_init_30 wA_int rfl (by decide) rfl (by decide) (by decide) (by decide) (by decide) (by decide) ?_
  show Ev E 1 M_X9_init 32 [vr 15] [vr 19, vr 15] (Gm 20 18, 4, 41) (ML 0) Z0 (ZQ E M_X9_init (QG 24 23 0))
  refine N_put (ci := 9) (i := 6) dX9_init_32 wF_RX9_21 (by decide) rfl rfl rfl rfl rfl rfl (by decide) ?_
  show Ev E 1 M_X9_init 35 [vr 15] [] (Gm 20 19, 4, 41) (ML 0) Z0 (ZQ E M_X9_init (QG 24 23 0))
  refine E_aload_n dX9_init_35 rfl ?_
  show Ev E 1 M_X9_init 36 [vr 15] [vr 15] (Gm 20 19, 4, 41) (ML 0) Z0 (ZQ E M_X9_init (QG 24 23 0))
  refine E_iconst (v := 5) dX9_init_36 rfl ?_
  show Ev E 1 M_X9_init 37 [vr 15] [vi 5, vr 15] (Gm 20 19, 4, 41) (ML 0) Z0 (ZQ E M_X9_init (QG 24 23 0))
  refine N_newaI (N := 5) dX9_init_37 wA_int rfl (by decide) rfl (by decide) (by decide) (by decide) (by decide) (by decide) ?_
  show Ev E 1 M_X9_init 39 [vr 15] [vr 20, vr 15] (Gm 21 19, 5, 46) (ML 0) Z0 (ZQ E M_X9_init (QG 24 23 0))
  refine N_put (ci := 9) (i := 7) dX9_init_39 wF_RX9_24 (by decide) rfl rfl rfl rfl rfl rfl (by decide) ?_
  show Ev E 1 M_X9_init 42 [vr 15] [] (Gm 21 20, 5, 46) (ML 0) Z0 (ZQ E M_X9_init (QG 24 23 0))
  refine E_aload_n dX9_init_42 rfl ?_
  show Ev E 1 M_X9_init 43 [vr 15] [vr 15] (Gm 21 20, 5, 46) (ML 0) Z0 (ZQ E M_X9_init (QG 24 23 0))
  refine E_iconst (v := 5) dX9_init_43 rfl ?_
  show Ev E 1 M_X9_init 44 [vr 15] [vi 5, vr 15] (Gm 21 20, 5, 46) (ML 0) Z0 (ZQ E M_X9_init (QG 24 23 0))
  refine N_newaI (N := 5) dX9_init_44 wA_int rfl (by decide) rfl (by decide) (by decide) (by decide) (by decide) (by decide) ?_
  show Ev E 1 M_X9_init 46 [vr 15] [vr 21, vr 15] (Gm 22 20, 6, 51) (ML 0) Z0 (ZQ E M_X9_init (QG 24 23 0))
  refine N_put (ci := 9) (i := 8) dX9_init_46 wF_RX9_27 (by decide) rfl rfl rfl rfl rfl rfl (by decide) ?_
  show Ev E 1 M_X9_init 49 [vr 15] [] (Gm 22 21, 6, 51) (ML 0) Z0 (ZQ E M_X9_init (QG 24 23 0))
  refine E_aload_n dX9_init_49 rfl ?_
  show Ev E 1 M_X9_init 50 [vr 15] [vr 15] (Gm 22 21, 6, 51) (ML 0) Z0 (ZQ E M_X9_init (QG 24 23 0))
  refine E_bipush (v := 8) dX9_init_50 rfl ?_
  show Ev E 1 M_X9_init 52 [vr 15] [vi 8, vr 15] (Gm 22 21, 6, 51) (ML 0) Z0 (ZQ E M_X9_init (QG 24 23 0))
  refine N_newaI (N := 8) dX9_init_52 wA_int rfl (by decide) rfl (by decide) (by decide) (by decide) (by decide) (by decide) ?_
  show Ev E 1 M_X9_init 54 [vr 15] [vr 22, vr 15] (Gm 23 21, 7, 59) (ML 0) Z0 (ZQ E M_X9_init (QG 24 23 0))
  refine N_put (ci := 9) (i := 9) dX9_init_54 wF_RX9_30 (by decide) rfl rfl rfl rfl rfl rfl (by decide) ?_
  show Ev E 1 M_X9_init 57 [vr 15] [] (Gm 23 22, 7, 59) (ML 0) Z0 (ZQ E M_X9_init (QG 24 23 0))
  refine E_aload_n dX9_init_57 rfl ?_
  show Ev E 1 M_X9_init 58 [vr 15] [vr 15] (Gm 23 22, 7, 59) (ML 0) Z0 (ZQ E M_X9_init (QG 24 23 0))
  refine E_bipush (v := 8) dX9_init_58 rfl ?_
  show Ev E 1 M_X9_init 60 [vr 15] [vi 8, vr 15] (Gm 23 22, 7, 59) (ML 0) Z0 (ZQ E M_X9_init (QG 24 23 0))
  refine N_newaI (N := 8) dX9_init_60 wA_int rfl (by decide) rfl (by decide) (by decide) (by decide) (by decide) (by decide) ?_
  show Ev E 1 M_X9_init 62 [vr 15] [vr 23, vr 15] (Gm 24 22, 8, 67) (ML 0) Z0 (ZQ E M_X9_init (QG 24 23 0))
  refine N_put (ci := 9) (i := 10) dX9_init_62 wF_RX9_33 (by decide) rfl rfl rfl rfl rfl rfl (by decide) ?_
  show Ev E 1 M_X9_init 65 [vr 15] [] (Gm 24 23, 8, 67) (ML 0) Z0 (ZQ E M_X9_init (QG 24 23 0))
  exact E_return rfl dX9_init_65 ⟨rfl, rfl, rfl, rfl⟩ (by decide) (by decide)
set_option maxHeartbeats 8000000 in
theorem k_X7_init_14 {E : En} : CM E 2 M_X7_init [vr 14] (Gm 15 15) (ML 0) Z0 (QG 25 25 0) := by
  refine CM_of (al := [vr 14]) rfl (Nat.le_of_ble_eq_true rfl) rfl ?_
  refine E_aload_n dX7_init_0 rfl ?_
  show Ev E 2 M_X7_init 1 [vr 14] [vr 14] (Gm 15 15, 0, 0) (ML 0) Z0 (ZQ E M_X7_init (QG 25 25 0))
  refine E_objInit dX7_init_1 wM_RX7_3 wO_1 wO_2 (by omega) (Nat.le_of_ble_eq_true rfl) ?_
  show Ev E 2 M_X7_init 4 [vr 14] [] (Gm 15 15, 0, 0) (ML 0) Z0 (ZQ E M_X7_init (QG 25 25 0))
  refine E_aload_n dX7_init_4 rfl ?_
  show Ev E 2 M_X7_init 5 [vr 14] [vr 14] (Gm 15 15, 0, 0) (ML 0) Z0 (ZQ E M_X7_init (QG 25 25 0))
  refine N_new (ci := 9) dX7_init_5 (by decide) wN_RX7_9 wB_9 wI_X9 rfl (by decide) (by decide) (by decide) (by decide) (by decide) ?_
  show Ev E 2 M_X7_init 8 [vr 14] [vr 15, vr 14] (Gm 16 15, 1, 11) (ML 0) Z0 (ZQ E M_X7_init (QG 25 25 0))
  refine E_dup dX7_init_8 rfl ?_
  show Ev E 2 M_X7_init 9 [vr 14] [vr 15, vr 15, vr 14] (Gm 16 15, 1, 11) (ML 0) Z0 (ZQ E M_X7_init (QG 25 25 0))
  refine E_callIN (as := []) (rest := [vr 15, vr 14]) (n := 0) (by decide) k_X9_init_15 dX7_init_9 rfl rfl rfl (host := "SaidByTimes") (cl := RX7) (by decide +kernel) wS_X9_init (by omega) wC_X9_init wI_X9 (by decide +kernel) rfl (by decide) (Nat.le_of_ble_eq_true rfl) (by decide) (by decide) rfl (fun r g' I' L' h => ?_)
  obtain ⟨rfl, rfl, rfl, rfl⟩ := h
  show Ev E 2 M_X7_init 12 [vr 14] [vr 15, vr 14] (Gm 24 23, 9, 78) (ML 0) Z0 (ZQ E M_X7_init (QG 25 25 0))
  refine N_put (ci := 7) (i := 0) dX7_init_12 wF_RX7_12 (by decide) rfl rfl rfl rfl rfl rfl (by decide) ?_
  show Ev E 2 M_X7_init 15 [vr 14] [] (Gm 24 24, 9, 78) (ML 0) Z0 (ZQ E M_X7_init (QG 25 25 0))
  refine E_aload_n dX7_init_15 rfl ?_
  show Ev E 2 M_X7_init 16 [vr 14] [vr 14] (Gm 24 24, 9, 78) (ML 0) Z0 (ZQ E M_X7_init (QG 25 25 0))
  refine E_bipush (v := 8) dX7_init_16 rfl ?_
  show Ev E 2 M_X7_init 18 [vr 14] [vi 8, vr 14] (Gm 24 24, 9, 78) (ML 0) Z0 (ZQ E M_X7_init (QG 25 25 0))
  refine N_newaL (N := 8) dX7_init_18 wA_long rfl (by decide) rfl (by decide) (by decide) (by decide) (by decide) (by decide) ?_
  show Ev E 2 M_X7_init 20 [vr 14] [vr 24, vr 14] (Gm 25 24, 10, 86) (ML 0) Z0 (ZQ E M_X7_init (QG 25 25 0))
  refine N_put (ci := 7) (i := 1) dX7_init_20 wF_RX7_18 (by decide) rfl rfl rfl rfl rfl rfl (by decide) ?_
  show Ev E 2 M_X7_init 23 [vr 14] [] (Gm 25 25, 10, 86) (ML 0) Z0 (ZQ E M_X7_init (QG 25 25 0))
  exact E_return rfl dX7_init_23 ⟨rfl, rfl, rfl, rfl⟩ (by decide) (by decide)
set_option maxHeartbeats 8000000 in
theorem k_X3_init_26 {E : En} : CM E 1 M_X3_init [vr 26] (Gm 27 27) (ML 0) Z0 (QG 28 28 0) := by
  refine CM_of (al := [vr 26]) rfl (Nat.le_of_ble_eq_true rfl) rfl ?_
  refine E_aload_n dX3_init_0 rfl ?_
  show Ev E 1 M_X3_init 1 [vr 26] [vr 26] (Gm 27 27, 0, 0) (ML 0) Z0 (ZQ E M_X3_init (QG 28 28 0))
  refine E_objInit dX3_init_1 wM_RX3_3 wO_1 wO_2 (by omega) (Nat.le_of_ble_eq_true rfl) ?_
  show Ev E 1 M_X3_init 4 [vr 26] [] (Gm 27 27, 0, 0) (ML 0) Z0 (ZQ E M_X3_init (QG 28 28 0))
  refine E_aload_n dX3_init_4 rfl ?_
  show Ev E 1 M_X3_init 5 [vr 26] [vr 26] (Gm 27 27, 0, 0) (ML 0) Z0 (ZQ E M_X3_init (QG 28 28 0))
  refine E_bipush (v := 12) dX3_init_5 rfl ?_
  show Ev E 1 M_X3_init 7 [vr 26] [vi 12, vr 26] (Gm 27 27, 0, 0) (ML 0) Z0 (ZQ E M_X3_init (QG 28 28 0))
  refine N_newaI (N := 12) dX3_init_7 wA_int rfl (by decide) rfl (by decide) (by decide) (by decide) (by decide) (by decide) ?_
  show Ev E 1 M_X3_init 9 [vr 26] [vr 27, vr 26] (Gm 28 27, 1, 12) (ML 0) Z0 (ZQ E M_X3_init (QG 28 28 0))
  refine N_put (ci := 3) (i := 0) dX3_init_9 wF_RX3_9 (by decide) rfl rfl rfl rfl rfl rfl (by decide) ?_
  show Ev E 1 M_X3_init 12 [vr 26] [] (Gm 28 28, 1, 12) (ML 0) Z0 (ZQ E M_X3_init (QG 28 28 0))
  exact E_return rfl dX3_init_12 ⟨rfl, rfl, rfl, rfl⟩ (by decide) (by decide)
set_option maxHeartbeats 8000000 in
theorem k_X3_init_30 {E : En} : CM E 1 M_X3_init [vr 30] (Gm 31 30) (ML 0) Z0 (QG 32 31 0) := by
  refine CM_of (al := [vr 30]) rfl (Nat.le_of_ble_eq_true rfl) rfl ?_
  refine E_aload_n dX3_init_0 rfl ?_
  show Ev E 1 M_X3_init 1 [vr 30] [vr 30] (Gm 31 30, 0, 0) (ML 0) Z0 (ZQ E M_X3_init (QG 32 31 0))
  refine E_objInit dX3_init_1 wM_RX3_3 wO_1 wO_2 (by omega) (Nat.le_of_ble_eq_true rfl) ?_
  show Ev E 1 M_X3_init 4 [vr 30] [] (Gm 31 30, 0, 0) (ML 0) Z0 (ZQ E M_X3_init (QG 32 31 0))
  refine E_aload_n dX3_init_4 rfl ?_
  show Ev E 1 M_X3_init 5 [vr 30] [vr 30] (Gm 31 30, 0, 0) (ML 0) Z0 (ZQ E M_X3_init (QG 32 31 0))
  refine E_bipush (v := 12) dX3_init_5 rfl ?_
  show Ev E 1 M_X3_init 7 [vr 30] [vi 12, vr 30] (Gm 31 30, 0, 0) (ML 0) Z0 (ZQ E M_X3_init (QG 32 31 0))
  refine N_newaI (N := 12) dX3_init_7 wA_int rfl (by decide) rfl (by decide) (by decide) (by decide) (by decide) (by decide) ?_
  show Ev E 1 M_X3_init 9 [vr 30] [vr 31, vr 30] (Gm 32 30, 1, 12) (ML 0) Z0 (ZQ E M_X3_init (QG 32 31 0))
  refine N_put (ci := 3) (i := 0) dX3_init_9 wF_RX3_9 (by decide) rfl rfl rfl rfl rfl rfl (by decide) ?_
  show Ev E 1 M_X3_init 12 [vr 30] [] (Gm 32 31, 1, 12) (ML 0) Z0 (ZQ E M_X3_init (QG 32 31 0))
  exact E_return rfl dX3_init_12 ⟨rfl, rfl, rfl, rfl⟩ (by decide) (by decide)
set_option maxHeartbeats 8000000 in
theorem k_X2_init_28 {E : En} : CM E 2 M_X2_init [vr 28] (Gm 29 29) (ML 0) Z0 (QG 32 32 0) := by
  refine CM_of (al := [vr 28]) rfl (Nat.le_of_ble_eq_true rfl) rfl ?_
  refine E_aload_n dX2_init_0 rfl ?_
  show Ev E 2 M_X2_init 1 [vr 28] [vr 28] (Gm 29 29, 0, 0) (ML 0) Z0 (ZQ E M_X2_init (QG 32 32 0))
  refine E_objInit dX2_init_1 wM_RX2_3 wO_1 wO_2 (by omega) (Nat.le_of_ble_eq_true rfl) ?_
  show Ev E 2 M_X2_init 4 [vr 28] [] (Gm 29 29, 0, 0) (ML 0) Z0 (ZQ E M_X2_init (QG 32 32 0))
  refine E_aload_n dX2_init_4 rfl ?_
  show Ev E 2 M_X2_init 5 [vr 28] [vr 28] (Gm 29 29, 0, 0) (ML 0) Z0 (ZQ E M_X2_init (QG 32 32 0))
  refine E_sipush (v := 2001) dX2_init_5 rfl ?_
  show Ev E 2 M_X2_init 8 [vr 28] [vi 2001, vr 28] (Gm 29 29, 0, 0) (ML 0) Z0 (ZQ E M_X2_init (QG 32 32 0))
  refine N_newaI (N := 2001) dX2_init_8 wA_int rfl (by decide) rfl (by decide) (by decide) (by decide) (by decide) (by decide) ?_
  show Ev E 2 M_X2_init 10 [vr 28] [vr 29, vr 28] (Gm 30 29, 1, 2001) (ML 0) Z0 (ZQ E M_X2_init (QG 32 32 0))
  refine N_put (ci := 2) (i := 0) dX2_init_10 wF_RX2_9 (by decide) rfl rfl rfl rfl rfl rfl (by decide) ?_
  show Ev E 2 M_X2_init 13 [vr 28] [] (Gm 30 30, 1, 2001) (ML 0) Z0 (ZQ E M_X2_init (QG 32 32 0))
  refine E_aload_n dX2_init_13 rfl ?_
  show Ev E 2 M_X2_init 14 [vr 28] [vr 28] (Gm 30 30, 1, 2001) (ML 0) Z0 (ZQ E M_X2_init (QG 32 32 0))
  refine N_new (ci := 3) dX2_init_14 (by decide) wN_RX2_15 wB_3 wI_X3 rfl (by decide) (by decide) (by decide) (by decide) (by decide) ?_
  show Ev E 2 M_X2_init 17 [vr 28] [vr 30, vr 28] (Gm 31 30, 2, 2005) (ML 0) Z0 (ZQ E M_X2_init (QG 32 32 0))
  refine E_dup dX2_init_17 rfl ?_
  show Ev E 2 M_X2_init 18 [vr 28] [vr 30, vr 30, vr 28] (Gm 31 30, 2, 2005) (ML 0) Z0 (ZQ E M_X2_init (QG 32 32 0))
  refine E_callIN (as := []) (rest := [vr 30, vr 28]) (n := 0) (by decide) k_X3_init_30 dX2_init_18 rfl rfl rfl (host := "SaidByTimes") (cl := RX2) (by decide +kernel) wS_X3_init (by omega) wC_X3_init wI_X3 (by decide +kernel) rfl (by decide) (Nat.le_of_ble_eq_true rfl) (by decide) (by decide) rfl (fun r g' I' L' h => ?_)
  obtain ⟨rfl, rfl, rfl, rfl⟩ := h
  show Ev E 2 M_X2_init 21 [vr 28] [vr 30, vr 28] (Gm 32 31, 3, 2017) (ML 0) Z0 (ZQ E M_X2_init (QG 32 32 0))
  refine N_put (ci := 2) (i := 1) dX2_init_21 wF_RX2_18 (by decide) rfl rfl rfl rfl rfl rfl (by decide) ?_
  show Ev E 2 M_X2_init 24 [vr 28] [] (Gm 32 32, 3, 2017) (ML 0) Z0 (ZQ E M_X2_init (QG 32 32 0))
  exact E_return rfl dX2_init_24 ⟨rfl, rfl, rfl, rfl⟩ (by decide) (by decide)
set_option maxHeartbeats 8000000 in
theorem k_X4_init_32 {E : En} : CM E 1 M_X4_init [vr 32] (Gm 33 33) (ML 0) Z0 (QG 33 33 0) := by
  refine CM_of (al := [vr 32]) rfl (Nat.le_of_ble_eq_true rfl) rfl ?_
  refine E_aload_n dX4_init_0 rfl ?_
  show Ev E 1 M_X4_init 1 [vr 32] [vr 32] (Gm 33 33, 0, 0) (ML 0) Z0 (ZQ E M_X4_init (QG 33 33 0))
  refine E_objInit dX4_init_1 wM_RX4_3 wO_1 wO_2 (by omega) (Nat.le_of_ble_eq_true rfl) ?_
  show Ev E 1 M_X4_init 4 [vr 32] [] (Gm 33 33, 0, 0) (ML 0) Z0 (ZQ E M_X4_init (QG 33 33 0))
  exact E_return rfl dX4_init_4 ⟨rfl, rfl, rfl, rfl⟩ (by decide) (by decide)
set_option maxHeartbeats 8000000 in
theorem k_X1_init_33 {E : En} : CM E 1 M_X1_init [vr 33] (Gm 34 34) (ML 0) Z0 (QG 38 38 0) := by
  refine CM_of (al := [vr 33]) rfl (Nat.le_of_ble_eq_true rfl) rfl ?_
  refine E_aload_n dX1_init_0 rfl ?_
  show Ev E 1 M_X1_init 1 [vr 33] [vr 33] (Gm 34 34, 0, 0) (ML 0) Z0 (ZQ E M_X1_init (QG 38 38 0))
  refine E_objInit dX1_init_1 wM_RX1_3 wO_1 wO_2 (by omega) (Nat.le_of_ble_eq_true rfl) ?_
  show Ev E 1 M_X1_init 4 [vr 33] [] (Gm 34 34, 0, 0) (ML 0) Z0 (ZQ E M_X1_init (QG 38 38 0))
  refine E_aload_n dX1_init_4 rfl ?_
  show Ev E 1 M_X1_init 5 [vr 33] [vr 33] (Gm 34 34, 0, 0) (ML 0) Z0 (ZQ E M_X1_init (QG 38 38 0))
  refine E_bipush (v := 24) dX1_init_5 rfl ?_
  show Ev E 1 M_X1_init 7 [vr 33] [vi 24, vr 33] (Gm 34 34, 0, 0) (ML 0) Z0 (ZQ E M_X1_init (QG 38 38 0))
  refine N_newaI (N := 24) dX1_init_7 wA_int rfl (by decide) rfl (by decide) (by decide) (by decide) (by decide) (by decide) ?_
  show Ev E 1 M_X1_init 9 [vr 33] [vr 34, vr 33] (Gm 35 34, 1, 24) (ML 0) Z0 (ZQ E M_X1_init (QG 38 38 0))
  refine N_put (ci := 1) (i := 0) dX1_init_9 wF_RX1_9 (by decide) rfl rfl rfl rfl rfl rfl (by decide) ?_
  show Ev E 1 M_X1_init 12 [vr 33] [] (Gm 35 35, 1, 24) (ML 0) Z0 (ZQ E M_X1_init (QG 38 38 0))
  refine E_aload_n dX1_init_12 rfl ?_
  show Ev E 1 M_X1_init 13 [vr 33] [vr 33] (Gm 35 35, 1, 24) (ML 0) Z0 (ZQ E M_X1_init (QG 38 38 0))
  refine E_bipush (v := 6) dX1_init_13 rfl ?_
  show Ev E 1 M_X1_init 15 [vr 33] [vi 6, vr 33] (Gm 35 35, 1, 24) (ML 0) Z0 (ZQ E M_X1_init (QG 38 38 0))
  refine N_newaI (N := 6) dX1_init_15 wA_int rfl (by decide) rfl (by decide) (by decide) (by decide) (by decide) (by decide) ?_
  show Ev E 1 M_X1_init 17 [vr 33] [vr 35, vr 33] (Gm 36 35, 2, 30) (ML 0) Z0 (ZQ E M_X1_init (QG 38 38 0))
  refine N_put (ci := 1) (i := 1) dX1_init_17 wF_RX1_15 (by decide) rfl rfl rfl rfl rfl rfl (by decide) ?_
  show Ev E 1 M_X1_init 20 [vr 33] [] (Gm 36 36, 2, 30) (ML 0) Z0 (ZQ E M_X1_init (QG 38 38 0))
  refine E_aload_n dX1_init_20 rfl ?_
  show Ev E 1 M_X1_init 21 [vr 33] [vr 33] (Gm 36 36, 2, 30) (ML 0) Z0 (ZQ E M_X1_init (QG 38 38 0))
  refine E_bipush (v := 28) dX1_init_21 rfl ?_
  show Ev E 1 M_X1_init 23 [vr 33] [vi 28, vr 33] (Gm 36 36, 2, 30) (ML 0) Z0 (ZQ E M_X1_init (QG 38 38 0))
  refine N_newaL (N := 28) dX1_init_23 wA_long rfl (by decide) rfl (by decide) (by decide) (by decide) (by decide) (by decide) ?_
  show Ev E 1 M_X1_init 25 [vr 33] [vr 36, vr 33] (Gm 37 36, 3, 58) (ML 0) Z0 (ZQ E M_X1_init (QG 38 38 0))
  refine N_put (ci := 1) (i := 2) dX1_init_25 wF_RX1_18 (by decide) rfl rfl rfl rfl rfl rfl (by decide) ?_
  show Ev E 1 M_X1_init 28 [vr 33] [] (Gm 37 37, 3, 58) (ML 0) Z0 (ZQ E M_X1_init (QG 38 38 0))
  refine E_aload_n dX1_init_28 rfl ?_
  show Ev E 1 M_X1_init 29 [vr 33] [vr 33] (Gm 37 37, 3, 58) (ML 0) Z0 (ZQ E M_X1_init (QG 38 38 0))
  refine E_bipush (v := 6) dX1_init_29 rfl ?_
  show Ev E 1 M_X1_init 31 [vr 33] [vi 6, vr 33] (Gm 37 37, 3, 58) (ML 0) Z0 (ZQ E M_X1_init (QG 38 38 0))
  refine N_newaI (N := 6) dX1_init_31 wA_int rfl (by decide) rfl (by decide) (by decide) (by decide) (by decide) (by decide) ?_
  show Ev E 1 M_X1_init 33 [vr 33] [vr 37, vr 33] (Gm 38 37, 4, 64) (ML 0) Z0 (ZQ E M_X1_init (QG 38 38 0))
  refine N_put (ci := 1) (i := 5) dX1_init_33 wF_RX1_22 (by decide) rfl rfl rfl rfl rfl rfl (by decide) ?_
  show Ev E 1 M_X1_init 36 [vr 33] [] (Gm 38 38, 4, 64) (ML 0) Z0 (ZQ E M_X1_init (QG 38 38 0))
  exact E_return rfl dX1_init_36 ⟨rfl, rfl, rfl, rfl⟩ (by decide) (by decide)
set_option maxHeartbeats 8000000 in
theorem k_X0_init_38 {E : En} : CM E 1 M_X0_init [vr 38] (Gm 39 39) (ML 0) Z0 (QG 40 40 0) := by
  refine CM_of (al := [vr 38]) rfl (Nat.le_of_ble_eq_true rfl) rfl ?_
  refine E_aload_n dX0_init_0 rfl ?_
  show Ev E 1 M_X0_init 1 [vr 38] [vr 38] (Gm 39 39, 0, 0) (ML 0) Z0 (ZQ E M_X0_init (QG 40 40 0))
  refine E_objInit dX0_init_1 wM_RX0_3 wO_1 wO_2 (by omega) (Nat.le_of_ble_eq_true rfl) ?_
  show Ev E 1 M_X0_init 4 [vr 38] [] (Gm 39 39, 0, 0) (ML 0) Z0 (ZQ E M_X0_init (QG 40 40 0))
  refine E_aload_n dX0_init_4 rfl ?_
  show Ev E 1 M_X0_init 5 [vr 38] [vr 38] (Gm 39 39, 0, 0) (ML 0) Z0 (ZQ E M_X0_init (QG 40 40 0))
  refine E_bipush (v := 16) dX0_init_5 rfl ?_
  show Ev E 1 M_X0_init 7 [vr 38] [vi 16, vr 38] (Gm 39 39, 0, 0) (ML 0) Z0 (ZQ E M_X0_init (QG 40 40 0))
  refine N_newaI (N := 16) dX0_init_7 wA_int rfl (by decide) rfl (by decide) (by decide) (by decide) (by decide) (by decide) ?_
  show Ev E 1 M_X0_init 9 [vr 38] [vr 39, vr 38] (Gm 40 39, 1, 16) (ML 0) Z0 (ZQ E M_X0_init (QG 40 40 0))
  refine N_put (ci := 0) (i := 0) dX0_init_9 wF_RX0_9 (by decide) rfl rfl rfl rfl rfl rfl (by decide) ?_
  show Ev E 1 M_X0_init 12 [vr 38] [] (Gm 40 40, 1, 16) (ML 0) Z0 (ZQ E M_X0_init (QG 40 40 0))
  exact E_return rfl dX0_init_12 ⟨rfl, rfl, rfl, rfl⟩ (by decide) (by decide)
set_option maxHeartbeats 8000000 in
theorem k_X6_init_40 {E : En} : CM E 1 M_X6_init [vr 40] (Gm 41 41) (ML 0) Z0 (QG 42 42 0) := by
  refine CM_of (al := [vr 40]) rfl (Nat.le_of_ble_eq_true rfl) rfl ?_
  refine E_aload_n dX6_init_0 rfl ?_
  show Ev E 1 M_X6_init 1 [vr 40] [vr 40] (Gm 41 41, 0, 0) (ML 0) Z0 (ZQ E M_X6_init (QG 42 42 0))
  refine E_objInit dX6_init_1 wM_RX6_3 wO_1 wO_2 (by omega) (Nat.le_of_ble_eq_true rfl) ?_
  show Ev E 1 M_X6_init 4 [vr 40] [] (Gm 41 41, 0, 0) (ML 0) Z0 (ZQ E M_X6_init (QG 42 42 0))
  refine E_aload_n dX6_init_4 rfl ?_
  show Ev E 1 M_X6_init 5 [vr 40] [vr 40] (Gm 41 41, 0, 0) (ML 0) Z0 (ZQ E M_X6_init (QG 42 42 0))
  refine E_bipush (v := 40) dX6_init_5 rfl ?_
  show Ev E 1 M_X6_init 7 [vr 40] [vi 40, vr 40] (Gm 41 41, 0, 0) (ML 0) Z0 (ZQ E M_X6_init (QG 42 42 0))
  refine N_newaI (N := 40) dX6_init_7 wA_int rfl (by decide) rfl (by decide) (by decide) (by decide) (by decide) (by decide) ?_
  show Ev E 1 M_X6_init 9 [vr 40] [vr 41, vr 40] (Gm 42 41, 1, 40) (ML 0) Z0 (ZQ E M_X6_init (QG 42 42 0))
  refine N_put (ci := 6) (i := 3) dX6_init_9 wF_RX6_9 (by decide) rfl rfl rfl rfl rfl rfl (by decide) ?_
  show Ev E 1 M_X6_init 12 [vr 40] [] (Gm 42 42, 1, 40) (ML 0) Z0 (ZQ E M_X6_init (QG 42 42 0))
  exact E_return rfl dX6_init_12 ⟨rfl, rfl, rfl, rfl⟩ (by decide) (by decide)
set_option maxHeartbeats 8000000 in
theorem k_X6_init_42 {E : En} : CM E 1 M_X6_init [vr 42] (Gm 43 43) (ML 0) Z0 (QG 44 44 0) := by
  refine CM_of (al := [vr 42]) rfl (Nat.le_of_ble_eq_true rfl) rfl ?_
  refine E_aload_n dX6_init_0 rfl ?_
  show Ev E 1 M_X6_init 1 [vr 42] [vr 42] (Gm 43 43, 0, 0) (ML 0) Z0 (ZQ E M_X6_init (QG 44 44 0))
  refine E_objInit dX6_init_1 wM_RX6_3 wO_1 wO_2 (by omega) (Nat.le_of_ble_eq_true rfl) ?_
  show Ev E 1 M_X6_init 4 [vr 42] [] (Gm 43 43, 0, 0) (ML 0) Z0 (ZQ E M_X6_init (QG 44 44 0))
  refine E_aload_n dX6_init_4 rfl ?_
  show Ev E 1 M_X6_init 5 [vr 42] [vr 42] (Gm 43 43, 0, 0) (ML 0) Z0 (ZQ E M_X6_init (QG 44 44 0))
  refine E_bipush (v := 40) dX6_init_5 rfl ?_
  show Ev E 1 M_X6_init 7 [vr 42] [vi 40, vr 42] (Gm 43 43, 0, 0) (ML 0) Z0 (ZQ E M_X6_init (QG 44 44 0))
  refine N_newaI (N := 40) dX6_init_7 wA_int rfl (by decide) rfl (by decide) (by decide) (by decide) (by decide) (by decide) ?_
  show Ev E 1 M_X6_init 9 [vr 42] [vr 43, vr 42] (Gm 44 43, 1, 40) (ML 0) Z0 (ZQ E M_X6_init (QG 44 44 0))
  refine N_put (ci := 6) (i := 3) dX6_init_9 wF_RX6_9 (by decide) rfl rfl rfl rfl rfl rfl (by decide) ?_
  show Ev E 1 M_X6_init 12 [vr 42] [] (Gm 44 44, 1, 40) (ML 0) Z0 (ZQ E M_X6_init (QG 44 44 0))
  exact E_return rfl dX6_init_12 ⟨rfl, rfl, rfl, rfl⟩ (by decide) (by decide)
set_option maxHeartbeats 8000000 in
theorem k_X6_init_44 {E : En} : CM E 1 M_X6_init [vr 44] (Gm 45 45) (ML 0) Z0 (QG 46 46 0) := by
  refine CM_of (al := [vr 44]) rfl (Nat.le_of_ble_eq_true rfl) rfl ?_
  refine E_aload_n dX6_init_0 rfl ?_
  show Ev E 1 M_X6_init 1 [vr 44] [vr 44] (Gm 45 45, 0, 0) (ML 0) Z0 (ZQ E M_X6_init (QG 46 46 0))
  refine E_objInit dX6_init_1 wM_RX6_3 wO_1 wO_2 (by omega) (Nat.le_of_ble_eq_true rfl) ?_
  show Ev E 1 M_X6_init 4 [vr 44] [] (Gm 45 45, 0, 0) (ML 0) Z0 (ZQ E M_X6_init (QG 46 46 0))
  refine E_aload_n dX6_init_4 rfl ?_
  show Ev E 1 M_X6_init 5 [vr 44] [vr 44] (Gm 45 45, 0, 0) (ML 0) Z0 (ZQ E M_X6_init (QG 46 46 0))
  refine E_bipush (v := 40) dX6_init_5 rfl ?_
  show Ev E 1 M_X6_init 7 [vr 44] [vi 40, vr 44] (Gm 45 45, 0, 0) (ML 0) Z0 (ZQ E M_X6_init (QG 46 46 0))
  refine N_newaI (N := 40) dX6_init_7 wA_int rfl (by decide) rfl (by decide) (by decide) (by decide) (by decide) (by decide) ?_
  show Ev E 1 M_X6_init 9 [vr 44] [vr 45, vr 44] (Gm 46 45, 1, 40) (ML 0) Z0 (ZQ E M_X6_init (QG 46 46 0))
  refine N_put (ci := 6) (i := 3) dX6_init_9 wF_RX6_9 (by decide) rfl rfl rfl rfl rfl rfl (by decide) ?_
  show Ev E 1 M_X6_init 12 [vr 44] [] (Gm 46 46, 1, 40) (ML 0) Z0 (ZQ E M_X6_init (QG 46 46 0))
  exact E_return rfl dX6_init_12 ⟨rfl, rfl, rfl, rfl⟩ (by decide) (by decide)
set_option maxHeartbeats 8000000 in
theorem k_X6_init_46 {E : En} : CM E 1 M_X6_init [vr 46] (Gm 47 47) (ML 0) Z0 (QG 48 48 0) := by
  refine CM_of (al := [vr 46]) rfl (Nat.le_of_ble_eq_true rfl) rfl ?_
  refine E_aload_n dX6_init_0 rfl ?_
  show Ev E 1 M_X6_init 1 [vr 46] [vr 46] (Gm 47 47, 0, 0) (ML 0) Z0 (ZQ E M_X6_init (QG 48 48 0))
  refine E_objInit dX6_init_1 wM_RX6_3 wO_1 wO_2 (by omega) (Nat.le_of_ble_eq_true rfl) ?_
  show Ev E 1 M_X6_init 4 [vr 46] [] (Gm 47 47, 0, 0) (ML 0) Z0 (ZQ E M_X6_init (QG 48 48 0))
  refine E_aload_n dX6_init_4 rfl ?_
  show Ev E 1 M_X6_init 5 [vr 46] [vr 46] (Gm 47 47, 0, 0) (ML 0) Z0 (ZQ E M_X6_init (QG 48 48 0))
  refine E_bipush (v := 40) dX6_init_5 rfl ?_
  show Ev E 1 M_X6_init 7 [vr 46] [vi 40, vr 46] (Gm 47 47, 0, 0) (ML 0) Z0 (ZQ E M_X6_init (QG 48 48 0))
  refine N_newaI (N := 40) dX6_init_7 wA_int rfl (by decide) rfl (by decide) (by decide) (by decide) (by decide) (by decide) ?_
  show Ev E 1 M_X6_init 9 [vr 46] [vr 47, vr 46] (Gm 48 47, 1, 40) (ML 0) Z0 (ZQ E M_X6_init (QG 48 48 0))
  refine N_put (ci := 6) (i := 3) dX6_init_9 wF_RX6_9 (by decide) rfl rfl rfl rfl rfl rfl (by decide) ?_
  show Ev E 1 M_X6_init 12 [vr 46] [] (Gm 48 48, 1, 40) (ML 0) Z0 (ZQ E M_X6_init (QG 48 48 0))
  exact E_return rfl dX6_init_12 ⟨rfl, rfl, rfl, rfl⟩ (by decide) (by decide)
set_option maxHeartbeats 8000000 in
theorem k_X6_init_48 {E : En} : CM E 1 M_X6_init [vr 48] (Gm 49 49) (ML 0) Z0 (QG 50 50 0) := by
  refine CM_of (al := [vr 48]) rfl (Nat.le_of_ble_eq_true rfl) rfl ?_
  refine E_aload_n dX6_init_0 rfl ?_
  show Ev E 1 M_X6_init 1 [vr 48] [vr 48] (Gm 49 49, 0, 0) (ML 0) Z0 (ZQ E M_X6_init (QG 50 50 0))
  refine E_objInit dX6_init_1 wM_RX6_3 wO_1 wO_2 (by omega) (Nat.le_of_ble_eq_true rfl) ?_
  show Ev E 1 M_X6_init 4 [vr 48] [] (Gm 49 49, 0, 0) (ML 0) Z0 (ZQ E M_X6_init (QG 50 50 0))
  refine E_aload_n dX6_init_4 rfl ?_
  show Ev E 1 M_X6_init 5 [vr 48] [vr 48] (Gm 49 49, 0, 0) (ML 0) Z0 (ZQ E M_X6_init (QG 50 50 0))
  refine E_bipush (v := 40) dX6_init_5 rfl ?_
  show Ev E 1 M_X6_init 7 [vr 48] [vi 40, vr 48] (Gm 49 49, 0, 0) (ML 0) Z0 (ZQ E M_X6_init (QG 50 50 0))
  refine N_newaI (N := 40) dX6_init_7 wA_int rfl (by decide) rfl (by decide) (by decide) (by decide) (by decide) (by decide) ?_
  show Ev E 1 M_X6_init 9 [vr 48] [vr 49, vr 48] (Gm 50 49, 1, 40) (ML 0) Z0 (ZQ E M_X6_init (QG 50 50 0))
  refine N_put (ci := 6) (i := 3) dX6_init_9 wF_RX6_9 (by decide) rfl rfl rfl rfl rfl rfl (by decide) ?_
  show Ev E 1 M_X6_init 12 [vr 48] [] (Gm 50 50, 1, 40) (ML 0) Z0 (ZQ E M_X6_init (QG 50 50 0))
  exact E_return rfl dX6_init_12 ⟨rfl, rfl, rfl, rfl⟩ (by decide) (by decide)
set_option maxHeartbeats 8000000 in
theorem k_X6_init_50 {E : En} : CM E 1 M_X6_init [vr 50] (Gm 51 51) (ML 0) Z0 (QG 52 52 0) := by
  refine CM_of (al := [vr 50]) rfl (Nat.le_of_ble_eq_true rfl) rfl ?_
  refine E_aload_n dX6_init_0 rfl ?_
  show Ev E 1 M_X6_init 1 [vr 50] [vr 50] (Gm 51 51, 0, 0) (ML 0) Z0 (ZQ E M_X6_init (QG 52 52 0))
  refine E_objInit dX6_init_1 wM_RX6_3 wO_1 wO_2 (by omega) (Nat.le_of_ble_eq_true rfl) ?_
  show Ev E 1 M_X6_init 4 [vr 50] [] (Gm 51 51, 0, 0) (ML 0) Z0 (ZQ E M_X6_init (QG 52 52 0))
  refine E_aload_n dX6_init_4 rfl ?_
  show Ev E 1 M_X6_init 5 [vr 50] [vr 50] (Gm 51 51, 0, 0) (ML 0) Z0 (ZQ E M_X6_init (QG 52 52 0))
  refine E_bipush (v := 40) dX6_init_5 rfl ?_
  show Ev E 1 M_X6_init 7 [vr 50] [vi 40, vr 50] (Gm 51 51, 0, 0) (ML 0) Z0 (ZQ E M_X6_init (QG 52 52 0))
  refine N_newaI (N := 40) dX6_init_7 wA_int rfl (by decide) rfl (by decide) (by decide) (by decide) (by decide) (by decide) ?_
  show Ev E 1 M_X6_init 9 [vr 50] [vr 51, vr 50] (Gm 52 51, 1, 40) (ML 0) Z0 (ZQ E M_X6_init (QG 52 52 0))
  refine N_put (ci := 6) (i := 3) dX6_init_9 wF_RX6_9 (by decide) rfl rfl rfl rfl rfl rfl (by decide) ?_
  show Ev E 1 M_X6_init 12 [vr 50] [] (Gm 52 52, 1, 40) (ML 0) Z0 (ZQ E M_X6_init (QG 52 52 0))
  exact E_return rfl dX6_init_12 ⟨rfl, rfl, rfl, rfl⟩ (by decide) (by decide)
set_option maxHeartbeats 8000000 in
theorem k_X6_init_52 {E : En} : CM E 1 M_X6_init [vr 52] (Gm 53 53) (ML 0) Z0 (QG 54 54 0) := by
  refine CM_of (al := [vr 52]) rfl (Nat.le_of_ble_eq_true rfl) rfl ?_
  refine E_aload_n dX6_init_0 rfl ?_
  show Ev E 1 M_X6_init 1 [vr 52] [vr 52] (Gm 53 53, 0, 0) (ML 0) Z0 (ZQ E M_X6_init (QG 54 54 0))
  refine E_objInit dX6_init_1 wM_RX6_3 wO_1 wO_2 (by omega) (Nat.le_of_ble_eq_true rfl) ?_
  show Ev E 1 M_X6_init 4 [vr 52] [] (Gm 53 53, 0, 0) (ML 0) Z0 (ZQ E M_X6_init (QG 54 54 0))
  refine E_aload_n dX6_init_4 rfl ?_
  show Ev E 1 M_X6_init 5 [vr 52] [vr 52] (Gm 53 53, 0, 0) (ML 0) Z0 (ZQ E M_X6_init (QG 54 54 0))
  refine E_bipush (v := 40) dX6_init_5 rfl ?_
  show Ev E 1 M_X6_init 7 [vr 52] [vi 40, vr 52] (Gm 53 53, 0, 0) (ML 0) Z0 (ZQ E M_X6_init (QG 54 54 0))
  refine N_newaI (N := 40) dX6_init_7 wA_int rfl (by decide) rfl (by decide) (by decide) (by decide) (by decide) (by decide) ?_
  show Ev E 1 M_X6_init 9 [vr 52] [vr 53, vr 52] (Gm 54 53, 1, 40) (ML 0) Z0 (ZQ E M_X6_init (QG 54 54 0))
  refine N_put (ci := 6) (i := 3) dX6_init_9 wF_RX6_9 (by decide) rfl rfl rfl rfl rfl rfl (by decide) ?_
  show Ev E 1 M_X6_init 12 [vr 52] [] (Gm 54 54, 1, 40) (ML 0) Z0 (ZQ E M_X6_init (QG 54 54 0))
  exact E_return rfl dX6_init_12 ⟨rfl, rfl, rfl, rfl⟩ (by decide) (by decide)
set_option maxHeartbeats 8000000 in
theorem k_X6_init_54 {E : En} : CM E 1 M_X6_init [vr 54] (Gm 55 55) (ML 0) Z0 (QG 56 56 0) := by
  refine CM_of (al := [vr 54]) rfl (Nat.le_of_ble_eq_true rfl) rfl ?_
  refine E_aload_n dX6_init_0 rfl ?_
  show Ev E 1 M_X6_init 1 [vr 54] [vr 54] (Gm 55 55, 0, 0) (ML 0) Z0 (ZQ E M_X6_init (QG 56 56 0))
  refine E_objInit dX6_init_1 wM_RX6_3 wO_1 wO_2 (by omega) (Nat.le_of_ble_eq_true rfl) ?_
  show Ev E 1 M_X6_init 4 [vr 54] [] (Gm 55 55, 0, 0) (ML 0) Z0 (ZQ E M_X6_init (QG 56 56 0))
  refine E_aload_n dX6_init_4 rfl ?_
  show Ev E 1 M_X6_init 5 [vr 54] [vr 54] (Gm 55 55, 0, 0) (ML 0) Z0 (ZQ E M_X6_init (QG 56 56 0))
  refine E_bipush (v := 40) dX6_init_5 rfl ?_
  show Ev E 1 M_X6_init 7 [vr 54] [vi 40, vr 54] (Gm 55 55, 0, 0) (ML 0) Z0 (ZQ E M_X6_init (QG 56 56 0))
  refine N_newaI (N := 40) dX6_init_7 wA_int rfl (by decide) rfl (by decide) (by decide) (by decide) (by decide) (by decide) ?_
  show Ev E 1 M_X6_init 9 [vr 54] [vr 55, vr 54] (Gm 56 55, 1, 40) (ML 0) Z0 (ZQ E M_X6_init (QG 56 56 0))
  refine N_put (ci := 6) (i := 3) dX6_init_9 wF_RX6_9 (by decide) rfl rfl rfl rfl rfl rfl (by decide) ?_
  show Ev E 1 M_X6_init 12 [vr 54] [] (Gm 56 56, 1, 40) (ML 0) Z0 (ZQ E M_X6_init (QG 56 56 0))
  exact E_return rfl dX6_init_12 ⟨rfl, rfl, rfl, rfl⟩ (by decide) (by decide)
set_option maxHeartbeats 8000000 in
theorem k_X9_init_57 {E : En} : CM E 1 M_X9_init [vr 57] (Gm 58 57) (ML 0) Z0 (QG 66 65 0) := by
  refine CM_of (al := [vr 57]) rfl (Nat.le_of_ble_eq_true rfl) rfl ?_
  refine E_aload_n dX9_init_0 rfl ?_
  show Ev E 1 M_X9_init 1 [vr 57] [vr 57] (Gm 58 57, 0, 0) (ML 0) Z0 (ZQ E M_X9_init (QG 66 65 0))
  refine E_objInit dX9_init_1 wM_RX9_3 wO_1 wO_2 (by omega) (Nat.le_of_ble_eq_true rfl) ?_
  show Ev E 1 M_X9_init 4 [vr 57] [] (Gm 58 57, 0, 0) (ML 0) Z0 (ZQ E M_X9_init (QG 66 65 0))
  refine E_aload_n dX9_init_4 rfl ?_
  show Ev E 1 M_X9_init 5 [vr 57] [vr 57] (Gm 58 57, 0, 0) (ML 0) Z0 (ZQ E M_X9_init (QG 66 65 0))
  refine E_bipush (v := 12) dX9_init_5 rfl ?_
  show Ev E 1 M_X9_init 7 [vr 57] [vi 12, vr 57] (Gm 58 57, 0, 0) (ML 0) Z0 (ZQ E M_X9_init (QG 66 65 0))
  refine N_newaI (N := 12) dX9_init_7 wA_int rfl (by decide) rfl (by decide) (by decide) (by decide) (by decide) (by decide) ?_
  show Ev E 1 M_X9_init 9 [vr 57] [vr 58, vr 57] (Gm 59 57, 1, 12) (ML 0) Z0 (ZQ E M_X9_init (QG 66 65 0))
  refine N_put (ci := 9) (i := 3) dX9_init_9 wF_RX9_9 (by decide) rfl rfl rfl rfl rfl rfl (by decide) ?_
  show Ev E 1 M_X9_init 12 [vr 57] [] (Gm 59 58, 1, 12) (ML 0) Z0 (ZQ E M_X9_init (QG 66 65 0))
  refine E_aload_n dX9_init_12 rfl ?_
  show Ev E 1 M_X9_init 13 [vr 57] [vr 57] (Gm 59 58, 1, 12) (ML 0) Z0 (ZQ E M_X9_init (QG 66 65 0))
  refine E_bipush (v := 12) dX9_init_13 rfl ?_
  show Ev E 1 M_X9_init 15 [vr 57] [vi 12, vr 57] (Gm 59 58, 1, 12) (ML 0) Z0 (ZQ E M_X9_init (QG 66 65 0))
  refine N_newaI (N := 12) dX9_init_15 wA_int rfl (by decide) rfl (by decide) (by decide) (by decide) (by decide) (by decide) ?_
  show Ev E 1 M_X9_init 17 [vr 57] [vr 59, vr 57] (Gm 60 58, 2, 24) (ML 0) Z0 (ZQ E M_X9_init (QG 66 65 0))
  refine N_put (ci := 9) (i := 4) dX9_init_17 wF_RX9_15 (by decide) rfl rfl rfl rfl rfl rfl (by decide) ?_
  show Ev E 1 M_X9_init 20 [vr 57] [] (Gm 60 59, 2, 24) (ML 0) Z0 (ZQ E M_X9_init (QG 66 65 0))
  refine E_aload_n dX9_init_20 rfl ?_
  show Ev E 1 M_X9_init 21 [vr 57] [vr 57] (Gm 60 59, 2, 24) (ML 0) Z0 (ZQ E M_X9_init (QG 66 65 0))
  refine E_bipush (v := 12) dX9_init_21 rfl ?_
  show Ev E 1 M_X9_init 23 [vr 57] [vi 12, vr 57] (Gm 60 59, 2, 24) (ML 0) Z0 (ZQ E M_X9_init (QG 66 65 0))
  refine N_newaI (N := 12) dX9_init_23 wA_int rfl (by decide) rfl (by decide) (by decide) (by decide) (by decide) (by decide) ?_
  show Ev E 1 M_X9_init 25 [vr 57] [vr 60, vr 57] (Gm 61 59, 3, 36) (ML 0) Z0 (ZQ E M_X9_init (QG 66 65 0))
  refine N_put (ci := 9) (i := 5) dX9_init_25 wF_RX9_18 (by decide) rfl rfl rfl rfl rfl rfl (by decide) ?_
  show Ev E 1 M_X9_init 28 [vr 57] [] (Gm 61 60, 3, 36) (ML 0) Z0 (ZQ E M_X9_init (QG 66 65 0))
  refine E_aload_n dX9_init_28 rfl ?_
  show Ev E 1 M_X9_init 29 [vr 57] [vr 57] (Gm 61 60, 3, 36) (ML 0) Z0 (ZQ E M_X9_init (QG 66 65 0))
  refine E_iconst (v := 5) dX9_init_29 rfl ?_
  show Ev E 1 M_X9_init 30 [vr 57] [vi 5, vr 57] (Gm 61 60, 3, 36) (ML 0) Z0 (ZQ E M_X9_init (QG 66 65 0))
  refine N_newaI (N := 5) dX9_init_30 wA_int rfl (by decide) rfl (by decide) (by decide) (by decide) (by decide) (by decide) ?_
  show Ev E 1 M_X9_init 32 [vr 57] [vr 61, vr 57] (Gm 62 60, 4, 41) (ML 0) Z0 (ZQ E M_X9_init (QG 66 65 0))
  refine N_put (ci := 9) (i := 6) dX9_init_32 wF_RX9_21 (by decide) rfl rfl rfl rfl rfl rfl (by decide) ?_
  show Ev E 1 M_X9_init 35 [vr 57] [] (Gm 62 61, 4, 41) (ML 0) Z0 (ZQ E M_X9_init (QG 66 65 0))
  refine E_aload_n dX9_init_35 rfl ?_
  show Ev E 1 M_X9_init 36 [vr 57] [vr 57] (Gm 62 61, 4, 41) (ML 0) Z0 (ZQ E M_X9_init (QG 66 65 0))
  refine E_iconst (v := 5) dX9_init_36 rfl ?_
  show Ev E 1 M_X9_init 37 [vr 57] [vi 5, vr 57] (Gm 62 61, 4, 41) (ML 0) Z0 (ZQ E M_X9_init (QG 66 65 0))
  refine N_newaI (N := 5) dX9_init_37 wA_int rfl (by decide) rfl (by decide) (by decide) (by decide) (by decide) (by decide) ?_
  show Ev E 1 M_X9_init 39 [vr 57] [vr 62, vr 57] (Gm 63 61, 5, 46) (ML 0) Z0 (ZQ E M_X9_init (QG 66 65 0))
  refine N_put (ci := 9) (i := 7) dX9_init_39 wF_RX9_24 (by decide) rfl rfl rfl rfl rfl rfl (by decide) ?_
  show Ev E 1 M_X9_init 42 [vr 57] [] (Gm 63 62, 5, 46) (ML 0) Z0 (ZQ E M_X9_init (QG 66 65 0))
  refine E_aload_n dX9_init_42 rfl ?_
  show Ev E 1 M_X9_init 43 [vr 57] [vr 57] (Gm 63 62, 5, 46) (ML 0) Z0 (ZQ E M_X9_init (QG 66 65 0))
  refine E_iconst (v := 5) dX9_init_43 rfl ?_
  show Ev E 1 M_X9_init 44 [vr 57] [vi 5, vr 57] (Gm 63 62, 5, 46) (ML 0) Z0 (ZQ E M_X9_init (QG 66 65 0))
  refine N_newaI (N := 5) dX9_init_44 wA_int rfl (by decide) rfl (by decide) (by decide) (by decide) (by decide) (by decide) ?_
  show Ev E 1 M_X9_init 46 [vr 57] [vr 63, vr 57] (Gm 64 62, 6, 51) (ML 0) Z0 (ZQ E M_X9_init (QG 66 65 0))
  refine N_put (ci := 9) (i := 8) dX9_init_46 wF_RX9_27 (by decide) rfl rfl rfl rfl rfl rfl (by decide) ?_
  show Ev E 1 M_X9_init 49 [vr 57] [] (Gm 64 63, 6, 51) (ML 0) Z0 (ZQ E M_X9_init (QG 66 65 0))
  refine E_aload_n dX9_init_49 rfl ?_
  show Ev E 1 M_X9_init 50 [vr 57] [vr 57] (Gm 64 63, 6, 51) (ML 0) Z0 (ZQ E M_X9_init (QG 66 65 0))
  refine E_bipush (v := 8) dX9_init_50 rfl ?_
  show Ev E 1 M_X9_init 52 [vr 57] [vi 8, vr 57] (Gm 64 63, 6, 51) (ML 0) Z0 (ZQ E M_X9_init (QG 66 65 0))
  refine N_newaI (N := 8) dX9_init_52 wA_int rfl (by decide) rfl (by decide) (by decide) (by decide) (by decide) (by decide) ?_
  show Ev E 1 M_X9_init 54 [vr 57] [vr 64, vr 57] (Gm 65 63, 7, 59) (ML 0) Z0 (ZQ E M_X9_init (QG 66 65 0))
  refine N_put (ci := 9) (i := 9) dX9_init_54 wF_RX9_30 (by decide) rfl rfl rfl rfl rfl rfl (by decide) ?_
  show Ev E 1 M_X9_init 57 [vr 57] [] (Gm 65 64, 7, 59) (ML 0) Z0 (ZQ E M_X9_init (QG 66 65 0))
  refine E_aload_n dX9_init_57 rfl ?_
  show Ev E 1 M_X9_init 58 [vr 57] [vr 57] (Gm 65 64, 7, 59) (ML 0) Z0 (ZQ E M_X9_init (QG 66 65 0))
  refine E_bipush (v := 8) dX9_init_58 rfl ?_
  show Ev E 1 M_X9_init 60 [vr 57] [vi 8, vr 57] (Gm 65 64, 7, 59) (ML 0) Z0 (ZQ E M_X9_init (QG 66 65 0))
  refine N_newaI (N := 8) dX9_init_60 wA_int rfl (by decide) rfl (by decide) (by decide) (by decide) (by decide) (by decide) ?_
  show Ev E 1 M_X9_init 62 [vr 57] [vr 65, vr 57] (Gm 66 64, 8, 67) (ML 0) Z0 (ZQ E M_X9_init (QG 66 65 0))
  refine N_put (ci := 9) (i := 10) dX9_init_62 wF_RX9_33 (by decide) rfl rfl rfl rfl rfl rfl (by decide) ?_
  show Ev E 1 M_X9_init 65 [vr 57] [] (Gm 66 65, 8, 67) (ML 0) Z0 (ZQ E M_X9_init (QG 66 65 0))
  exact E_return rfl dX9_init_65 ⟨rfl, rfl, rfl, rfl⟩ (by decide) (by decide)
set_option maxHeartbeats 8000000 in
theorem k_X7_init_56 {E : En} : CM E 2 M_X7_init [vr 56] (Gm 57 57) (ML 0) Z0 (QG 67 67 0) := by
  refine CM_of (al := [vr 56]) rfl (Nat.le_of_ble_eq_true rfl) rfl ?_
  refine E_aload_n dX7_init_0 rfl ?_
  show Ev E 2 M_X7_init 1 [vr 56] [vr 56] (Gm 57 57, 0, 0) (ML 0) Z0 (ZQ E M_X7_init (QG 67 67 0))
  refine E_objInit dX7_init_1 wM_RX7_3 wO_1 wO_2 (by omega) (Nat.le_of_ble_eq_true rfl) ?_
  show Ev E 2 M_X7_init 4 [vr 56] [] (Gm 57 57, 0, 0) (ML 0) Z0 (ZQ E M_X7_init (QG 67 67 0))
  refine E_aload_n dX7_init_4 rfl ?_
  show Ev E 2 M_X7_init 5 [vr 56] [vr 56] (Gm 57 57, 0, 0) (ML 0) Z0 (ZQ E M_X7_init (QG 67 67 0))
  refine N_new (ci := 9) dX7_init_5 (by decide) wN_RX7_9 wB_9 wI_X9 rfl (by decide) (by decide) (by decide) (by decide) (by decide) ?_
  show Ev E 2 M_X7_init 8 [vr 56] [vr 57, vr 56] (Gm 58 57, 1, 11) (ML 0) Z0 (ZQ E M_X7_init (QG 67 67 0))
  refine E_dup dX7_init_8 rfl ?_
  show Ev E 2 M_X7_init 9 [vr 56] [vr 57, vr 57, vr 56] (Gm 58 57, 1, 11) (ML 0) Z0 (ZQ E M_X7_init (QG 67 67 0))
  refine E_callIN (as := []) (rest := [vr 57, vr 56]) (n := 0) (by decide) k_X9_init_57 dX7_init_9 rfl rfl rfl (host := "SaidByTimes") (cl := RX7) (by decide +kernel) wS_X9_init (by omega) wC_X9_init wI_X9 (by decide +kernel) rfl (by decide) (Nat.le_of_ble_eq_true rfl) (by decide) (by decide) rfl (fun r g' I' L' h => ?_)
  obtain ⟨rfl, rfl, rfl, rfl⟩ := h
  show Ev E 2 M_X7_init 12 [vr 56] [vr 57, vr 56] (Gm 66 65, 9, 78) (ML 0) Z0 (ZQ E M_X7_init (QG 67 67 0))
  refine N_put (ci := 7) (i := 0) dX7_init_12 wF_RX7_12 (by decide) rfl rfl rfl rfl rfl rfl (by decide) ?_
  show Ev E 2 M_X7_init 15 [vr 56] [] (Gm 66 66, 9, 78) (ML 0) Z0 (ZQ E M_X7_init (QG 67 67 0))
  refine E_aload_n dX7_init_15 rfl ?_
  show Ev E 2 M_X7_init 16 [vr 56] [vr 56] (Gm 66 66, 9, 78) (ML 0) Z0 (ZQ E M_X7_init (QG 67 67 0))
  refine E_bipush (v := 8) dX7_init_16 rfl ?_
  show Ev E 2 M_X7_init 18 [vr 56] [vi 8, vr 56] (Gm 66 66, 9, 78) (ML 0) Z0 (ZQ E M_X7_init (QG 67 67 0))
  refine N_newaL (N := 8) dX7_init_18 wA_long rfl (by decide) rfl (by decide) (by decide) (by decide) (by decide) (by decide) ?_
  show Ev E 2 M_X7_init 20 [vr 56] [vr 66, vr 56] (Gm 67 66, 10, 86) (ML 0) Z0 (ZQ E M_X7_init (QG 67 67 0))
  refine N_put (ci := 7) (i := 1) dX7_init_20 wF_RX7_18 (by decide) rfl rfl rfl rfl rfl rfl (by decide) ?_
  show Ev E 2 M_X7_init 23 [vr 56] [] (Gm 67 67, 10, 86) (ML 0) Z0 (ZQ E M_X7_init (QG 67 67 0))
  exact E_return rfl dX7_init_23 ⟨rfl, rfl, rfl, rfl⟩ (by decide) (by decide)
set_option maxHeartbeats 8000000 in
theorem k_X9_init_68 {E : En} : CM E 1 M_X9_init [vr 68] (Gm 69 68) (ML 0) Z0 (QG 77 76 0) := by
  refine CM_of (al := [vr 68]) rfl (Nat.le_of_ble_eq_true rfl) rfl ?_
  refine E_aload_n dX9_init_0 rfl ?_
  show Ev E 1 M_X9_init 1 [vr 68] [vr 68] (Gm 69 68, 0, 0) (ML 0) Z0 (ZQ E M_X9_init (QG 77 76 0))
  refine E_objInit dX9_init_1 wM_RX9_3 wO_1 wO_2 (by omega) (Nat.le_of_ble_eq_true rfl) ?_
  show Ev E 1 M_X9_init 4 [vr 68] [] (Gm 69 68, 0, 0) (ML 0) Z0 (ZQ E M_X9_init (QG 77 76 0))
  refine E_aload_n dX9_init_4 rfl ?_
  show Ev E 1 M_X9_init 5 [vr 68] [vr 68] (Gm 69 68, 0, 0) (ML 0) Z0 (ZQ E M_X9_init (QG 77 76 0))
  refine E_bipush (v := 12) dX9_init_5 rfl ?_
  show Ev E 1 M_X9_init 7 [vr 68] [vi 12, vr 68] (Gm 69 68, 0, 0) (ML 0) Z0 (ZQ E M_X9_init (QG 77 76 0))
  refine N_newaI (N := 12) dX9_init_7 wA_int rfl (by decide) rfl (by decide) (by decide) (by decide) (by decide) (by decide) ?_
  show Ev E 1 M_X9_init 9 [vr 68] [vr 69, vr 68] (Gm 70 68, 1, 12) (ML 0) Z0 (ZQ E M_X9_init (QG 77 76 0))
  refine N_put (ci := 9) (i := 3) dX9_init_9 wF_RX9_9 (by decide) rfl rfl rfl rfl rfl rfl (by decide) ?_
  show Ev E 1 M_X9_init 12 [vr 68] [] (Gm 70 69, 1, 12) (ML 0) Z0 (ZQ E M_X9_init (QG 77 76 0))
  refine E_aload_n dX9_init_12 rfl ?_
  show Ev E 1 M_X9_init 13 [vr 68] [vr 68] (Gm 70 69, 1, 12) (ML 0) Z0 (ZQ E M_X9_init (QG 77 76 0))
  refine E_bipush (v := 12) dX9_init_13 rfl ?_
  show Ev E 1 M_X9_init 15 [vr 68] [vi 12, vr 68] (Gm 70 69, 1, 12) (ML 0) Z0 (ZQ E M_X9_init (QG 77 76 0))
  refine N_newaI (N := 12) dX9_init_15 wA_int rfl (by decide) rfl (by decide) (by decide) (by decide) (by decide) (by decide) ?_
  show Ev E 1 M_X9_init 17 [vr 68] [vr 70, vr 68] (Gm 71 69, 2, 24) (ML 0) Z0 (ZQ E M_X9_init (QG 77 76 0))
  refine N_put (ci := 9) (i := 4) dX9_init_17 wF_RX9_15 (by decide) rfl rfl rfl rfl rfl rfl (by decide) ?_
  show Ev E 1 M_X9_init 20 [vr 68] [] (Gm 71 70, 2, 24) (ML 0) Z0 (ZQ E M_X9_init (QG 77 76 0))
  refine E_aload_n dX9_init_20 rfl ?_
  show Ev E 1 M_X9_init 21 [vr 68] [vr 68] (Gm 71 70, 2, 24) (ML 0) Z0 (ZQ E M_X9_init (QG 77 76 0))
  refine E_bipush (v := 12) dX9_init_21 rfl ?_
  show Ev E 1 M_X9_init 23 [vr 68] [vi 12, vr 68] (Gm 71 70, 2, 24) (ML 0) Z0 (ZQ E M_X9_init (QG 77 76 0))
  refine N_newaI (N := 12) dX9_init_23 wA_int rfl (by decide) rfl (by decide) (by decide) (by decide) (by decide) (by decide) ?_
  show Ev E 1 M_X9_init 25 [vr 68] [vr 71, vr 68] (Gm 72 70, 3, 36) (ML 0) Z0 (ZQ E M_X9_init (QG 77 76 0))
  refine N_put (ci := 9) (i := 5) dX9_init_25 wF_RX9_18 (by decide) rfl rfl rfl rfl rfl rfl (by decide) ?_
  show Ev E 1 M_X9_init 28 [vr 68] [] (Gm 72 71, 3, 36) (ML 0) Z0 (ZQ E M_X9_init (QG 77 76 0))
  refine E_aload_n dX9_init_28 rfl ?_
  show Ev E 1 M_X9_init 29 [vr 68] [vr 68] (Gm 72 71, 3, 36) (ML 0) Z0 (ZQ E M_X9_init (QG 77 76 0))
  refine E_iconst (v := 5) dX9_init_29 rfl ?_
  show Ev E 1 M_X9_init 30 [vr 68] [vi 5, vr 68] (Gm 72 71, 3, 36) (ML 0) Z0 (ZQ E M_X9_init (QG 77 76 0))
  refine N_newaI (N := 5) dX9_init_30 wA_int rfl (by decide) rfl (by decide) (by decide) (by decide) (by decide) (by decide) ?_
  show Ev E 1 M_X9_init 32 [vr 68] [vr 72, vr 68] (Gm 73 71, 4, 41) (ML 0) Z0 (ZQ E M_X9_init (QG 77 76 0))
  refine N_put (ci := 9) (i := 6) dX9_init_32 wF_RX9_21 (by decide) rfl rfl rfl rfl rfl rfl (by decide) ?_
  show Ev E 1 M_X9_init 35 [vr 68] [] (Gm 73 72, 4, 41) (ML 0) Z0 (ZQ E M_X9_init (QG 77 76 0))
  refine E_aload_n dX9_init_35 rfl ?_
  show Ev E 1 M_X9_init 36 [vr 68] [vr 68] (Gm 73 72, 4, 41) (ML 0) Z0 (ZQ E M_X9_init (QG 77 76 0))
  refine E_iconst (v := 5) dX9_init_36 rfl ?_
  show Ev E 1 M_X9_init 37 [vr 68] [vi 5, vr 68] (Gm 73 72, 4, 41) (ML 0) Z0 (ZQ E M_X9_init (QG 77 76 0))
  refine N_newaI (N := 5) dX9_init_37 wA_int rfl (by decide) rfl (by decide) (by decide) (by decide) (by decide) (by decide) ?_
  show Ev E 1 M_X9_init 39 [vr 68] [vr 73, vr 68] (Gm 74 72, 5, 46) (ML 0) Z0 (ZQ E M_X9_init (QG 77 76 0))
  refine N_put (ci := 9) (i := 7) dX9_init_39 wF_RX9_24 (by decide) rfl rfl rfl rfl rfl rfl (by decide) ?_
  show Ev E 1 M_X9_init 42 [vr 68] [] (Gm 74 73, 5, 46) (ML 0) Z0 (ZQ E M_X9_init (QG 77 76 0))
  refine E_aload_n dX9_init_42 rfl ?_
  show Ev E 1 M_X9_init 43 [vr 68] [vr 68] (Gm 74 73, 5, 46) (ML 0) Z0 (ZQ E M_X9_init (QG 77 76 0))
  refine E_iconst (v := 5) dX9_init_43 rfl ?_
  show Ev E 1 M_X9_init 44 [vr 68] [vi 5, vr 68] (Gm 74 73, 5, 46) (ML 0) Z0 (ZQ E M_X9_init (QG 77 76 0))
  refine N_newaI (N := 5) dX9_init_44 wA_int rfl (by decide) rfl (by decide) (by decide) (by decide) (by decide) (by decide) ?_
  show Ev E 1 M_X9_init 46 [vr 68] [vr 74, vr 68] (Gm 75 73, 6, 51) (ML 0) Z0 (ZQ E M_X9_init (QG 77 76 0))
  refine N_put (ci := 9) (i := 8) dX9_init_46 wF_RX9_27 (by decide) rfl rfl rfl rfl rfl rfl (by decide) ?_
  show Ev E 1 M_X9_init 49 [vr 68] [] (Gm 75 74, 6, 51) (ML 0) Z0 (ZQ E M_X9_init (QG 77 76 0))
  refine E_aload_n dX9_init_49 rfl ?_
  show Ev E 1 M_X9_init 50 [vr 68] [vr 68] (Gm 75 74, 6, 51) (ML 0) Z0 (ZQ E M_X9_init (QG 77 76 0))
  refine E_bipush (v := 8) dX9_init_50 rfl ?_
  show Ev E 1 M_X9_init 52 [vr 68] [vi 8, vr 68] (Gm 75 74, 6, 51) (ML 0) Z0 (ZQ E M_X9_init (QG 77 76 0))
  refine N_newaI (N := 8) dX9_init_52 wA_int rfl (by decide) rfl (by decide) (by decide) (by decide) (by decide) (by decide) ?_
  show Ev E 1 M_X9_init 54 [vr 68] [vr 75, vr 68] (Gm 76 74, 7, 59) (ML 0) Z0 (ZQ E M_X9_init (QG 77 76 0))
  refine N_put (ci := 9) (i := 9) dX9_init_54 wF_RX9_30 (by decide) rfl rfl rfl rfl rfl rfl (by decide) ?_
  show Ev E 1 M_X9_init 57 [vr 68] [] (Gm 76 75, 7, 59) (ML 0) Z0 (ZQ E M_X9_init (QG 77 76 0))
  refine E_aload_n dX9_init_57 rfl ?_
  show Ev E 1 M_X9_init 58 [vr 68] [vr 68] (Gm 76 75, 7, 59) (ML 0) Z0 (ZQ E M_X9_init (QG 77 76 0))
  refine E_bipush (v := 8) dX9_init_58 rfl ?_
  show Ev E 1 M_X9_init 60 [vr 68] [vi 8, vr 68] (Gm 76 75, 7, 59) (ML 0) Z0 (ZQ E M_X9_init (QG 77 76 0))
  refine N_newaI (N := 8) dX9_init_60 wA_int rfl (by decide) rfl (by decide) (by decide) (by decide) (by decide) (by decide) ?_
  show Ev E 1 M_X9_init 62 [vr 68] [vr 76, vr 68] (Gm 77 75, 8, 67) (ML 0) Z0 (ZQ E M_X9_init (QG 77 76 0))
  refine N_put (ci := 9) (i := 10) dX9_init_62 wF_RX9_33 (by decide) rfl rfl rfl rfl rfl rfl (by decide) ?_
  show Ev E 1 M_X9_init 65 [vr 68] [] (Gm 77 76, 8, 67) (ML 0) Z0 (ZQ E M_X9_init (QG 77 76 0))
  exact E_return rfl dX9_init_65 ⟨rfl, rfl, rfl, rfl⟩ (by decide) (by decide)
set_option maxHeartbeats 8000000 in
theorem k_X7_init_67 {E : En} : CM E 2 M_X7_init [vr 67] (Gm 68 68) (ML 0) Z0 (QG 78 78 0) := by
  refine CM_of (al := [vr 67]) rfl (Nat.le_of_ble_eq_true rfl) rfl ?_
  refine E_aload_n dX7_init_0 rfl ?_
  show Ev E 2 M_X7_init 1 [vr 67] [vr 67] (Gm 68 68, 0, 0) (ML 0) Z0 (ZQ E M_X7_init (QG 78 78 0))
  refine E_objInit dX7_init_1 wM_RX7_3 wO_1 wO_2 (by omega) (Nat.le_of_ble_eq_true rfl) ?_
  show Ev E 2 M_X7_init 4 [vr 67] [] (Gm 68 68, 0, 0) (ML 0) Z0 (ZQ E M_X7_init (QG 78 78 0))
  refine E_aload_n dX7_init_4 rfl ?_
  show Ev E 2 M_X7_init 5 [vr 67] [vr 67] (Gm 68 68, 0, 0) (ML 0) Z0 (ZQ E M_X7_init (QG 78 78 0))
  refine N_new (ci := 9) dX7_init_5 (by decide) wN_RX7_9 wB_9 wI_X9 rfl (by decide) (by decide) (by decide) (by decide) (by decide) ?_
  show Ev E 2 M_X7_init 8 [vr 67] [vr 68, vr 67] (Gm 69 68, 1, 11) (ML 0) Z0 (ZQ E M_X7_init (QG 78 78 0))
  refine E_dup dX7_init_8 rfl ?_
  show Ev E 2 M_X7_init 9 [vr 67] [vr 68, vr 68, vr 67] (Gm 69 68, 1, 11) (ML 0) Z0 (ZQ E M_X7_init (QG 78 78 0))
  refine E_callIN (as := []) (rest := [vr 68, vr 67]) (n := 0) (by decide) k_X9_init_68 dX7_init_9 rfl rfl rfl (host := "SaidByTimes") (cl := RX7) (by decide +kernel) wS_X9_init (by omega) wC_X9_init wI_X9 (by decide +kernel) rfl (by decide) (Nat.le_of_ble_eq_true rfl) (by decide) (by decide) rfl (fun r g' I' L' h => ?_)
  obtain ⟨rfl, rfl, rfl, rfl⟩ := h
  show Ev E 2 M_X7_init 12 [vr 67] [vr 68, vr 67] (Gm 77 76, 9, 78) (ML 0) Z0 (ZQ E M_X7_init (QG 78 78 0))
  refine N_put (ci := 7) (i := 0) dX7_init_12 wF_RX7_12 (by decide) rfl rfl rfl rfl rfl rfl (by decide) ?_
  show Ev E 2 M_X7_init 15 [vr 67] [] (Gm 77 77, 9, 78) (ML 0) Z0 (ZQ E M_X7_init (QG 78 78 0))
  refine E_aload_n dX7_init_15 rfl ?_
  show Ev E 2 M_X7_init 16 [vr 67] [vr 67] (Gm 77 77, 9, 78) (ML 0) Z0 (ZQ E M_X7_init (QG 78 78 0))
  refine E_bipush (v := 8) dX7_init_16 rfl ?_
  show Ev E 2 M_X7_init 18 [vr 67] [vi 8, vr 67] (Gm 77 77, 9, 78) (ML 0) Z0 (ZQ E M_X7_init (QG 78 78 0))
  refine N_newaL (N := 8) dX7_init_18 wA_long rfl (by decide) rfl (by decide) (by decide) (by decide) (by decide) (by decide) ?_
  show Ev E 2 M_X7_init 20 [vr 67] [vr 77, vr 67] (Gm 78 77, 10, 86) (ML 0) Z0 (ZQ E M_X7_init (QG 78 78 0))
  refine N_put (ci := 7) (i := 1) dX7_init_20 wF_RX7_18 (by decide) rfl rfl rfl rfl rfl rfl (by decide) ?_
  show Ev E 2 M_X7_init 23 [vr 67] [] (Gm 78 78, 10, 86) (ML 0) Z0 (ZQ E M_X7_init (QG 78 78 0))
  exact E_return rfl dX7_init_23 ⟨rfl, rfl, rfl, rfl⟩ (by decide) (by decide)
set_option maxHeartbeats 8000000 in
theorem k_X10_init_0 {E : En} : CM E 3 M_X10_init [vr 0] (Gm 1 0) (ML 0) Z0 (QG 78 79 0) := by
  refine CM_of (al := [vr 0, vu]) rfl (Nat.le_of_ble_eq_true rfl) rfl ?_
  refine E_aload_n dX10_init_0 rfl ?_
  show Ev E 3 M_X10_init 1 [vr 0, vu] [vr 0] (Gm 1 0, 0, 0) (ML 0) Z0 (ZQ E M_X10_init (QG 78 79 0))
  refine E_objInit dX10_init_1 wM_RX10_3 wO_1 wO_2 (by omega) (Nat.le_of_ble_eq_true rfl) ?_
  show Ev E 3 M_X10_init 4 [vr 0, vu] [] (Gm 1 0, 0, 0) (ML 0) Z0 (ZQ E M_X10_init (QG 78 79 0))
  refine E_aload_n dX10_init_4 rfl ?_
  show Ev E 3 M_X10_init 5 [vr 0, vu] [vr 0] (Gm 1 0, 0, 0) (ML 0) Z0 (ZQ E M_X10_init (QG 78 79 0))
  refine E_bipush (v := 8) dX10_init_5 rfl ?_
  show Ev E 3 M_X10_init 7 [vr 0, vu] [vi 8, vr 0] (Gm 1 0, 0, 0) (ML 0) Z0 (ZQ E M_X10_init (QG 78 79 0))
  refine N_anew (kd := 4) (N := 8) dX10_init_7 (by decide) rfl wN_RX10_9 rfl (by decide) rfl (by decide) (by decide) (by decide) (by decide) (by decide) ?_
  show Ev E 3 M_X10_init 10 [vr 0, vu] [vr 1, vr 0] (Gm 2 0, 1, 8) (ML 0) Z0 (ZQ E M_X10_init (QG 78 79 0))
  refine N_put (ci := 10) (i := 0) dX10_init_10 wF_RX10_11 (by decide) rfl rfl rfl rfl rfl rfl (by decide) ?_
  show Ev E 3 M_X10_init 13 [vr 0, vu] [] (Gm 2 1, 1, 8) (ML 0) Z0 (ZQ E M_X10_init (QG 78 79 0))
  refine E_aload_n dX10_init_13 rfl ?_
  show Ev E 3 M_X10_init 14 [vr 0, vu] [vr 0] (Gm 2 1, 1, 8) (ML 0) Z0 (ZQ E M_X10_init (QG 78 79 0))
  refine N_new (ci := 8) dX10_init_14 (by decide) wN_RX10_15 wB_8 wI_X8 rfl (by decide) (by decide) (by decide) (by decide) (by decide) ?_
  show Ev E 3 M_X10_init 17 [vr 0, vu] [vr 2, vr 0] (Gm 3 1, 2, 10) (ML 0) Z0 (ZQ E M_X10_init (QG 78 79 0))
  refine E_dup dX10_init_17 rfl ?_
  show Ev E 3 M_X10_init 18 [vr 0, vu] [vr 2, vr 2, vr 0] (Gm 3 1, 2, 10) (ML 0) Z0 (ZQ E M_X10_init (QG 78 79 0))
  refine E_callIN (as := []) (rest := [vr 2, vr 0]) (n := 0) (by decide) k_X8_init_2 dX10_init_18 rfl rfl rfl (host := "SaidByTimes") (cl := RX10) (by decide +kernel) wS_X8_init (by omega) wC_X8_init wI_X8 (by decide +kernel) rfl (by decide) (Nat.le_of_ble_eq_true rfl) (by decide) (by decide) rfl (fun r g' I' L' h => ?_)
  obtain ⟨rfl, rfl, rfl, rfl⟩ := h
  show Ev E 3 M_X10_init 21 [vr 0, vu] [vr 2, vr 0] (Gm 4 2, 3, 410) (ML 0) Z0 (ZQ E M_X10_init (QG 78 79 0))
  refine N_put (ci := 10) (i := 1) dX10_init_21 wF_RX10_18 (by decide) rfl rfl rfl rfl rfl rfl (by decide) ?_
  show Ev E 3 M_X10_init 24 [vr 0, vu] [] (Gm 4 3, 3, 410) (ML 0) Z0 (ZQ E M_X10_init (QG 78 79 0))
  refine E_aload_n dX10_init_24 rfl ?_
  show Ev E 3 M_X10_init 25 [vr 0, vu] [vr 0] (Gm 4 3, 3, 410) (ML 0) Z0 (ZQ E M_X10_init (QG 78 79 0))
  refine N_new (ci := 9) dX10_init_25 (by decide) wN_RX10_22 wB_9 wI_X9 rfl (by decide) (by decide) (by decide) (by decide) (by decide) ?_
  show Ev E 3 M_X10_init 28 [vr 0, vu] [vr 4, vr 0] (Gm 5 3, 4, 421) (ML 0) Z0 (ZQ E M_X10_init (QG 78 79 0))
  refine E_dup dX10_init_28 rfl ?_
  show Ev E 3 M_X10_init 29 [vr 0, vu] [vr 4, vr 4, vr 0] (Gm 5 3, 4, 421) (ML 0) Z0 (ZQ E M_X10_init (QG 78 79 0))
  refine E_callIN (as := []) (rest := [vr 4, vr 0]) (n := 0) (by decide) k_X9_init_4 dX10_init_29 rfl rfl rfl (host := "SaidByTimes") (cl := RX10) (by decide +kernel) wS_X9_init (by omega) wC_X9_init wI_X9 (by decide +kernel) rfl (by decide) (Nat.le_of_ble_eq_true rfl) (by decide) (by decide) rfl (fun r g' I' L' h => ?_)
  obtain ⟨rfl, rfl, rfl, rfl⟩ := h
  show Ev E 3 M_X10_init 32 [vr 0, vu] [vr 4, vr 0] (Gm 13 11, 12, 488) (ML 0) Z0 (ZQ E M_X10_init (QG 78 79 0))
  refine N_put (ci := 10) (i := 2) dX10_init_32 wF_RX10_25 (by decide) rfl rfl rfl rfl rfl rfl (by decide) ?_
  show Ev E 3 M_X10_init 35 [vr 0, vu] [] (Gm 13 12, 12, 488) (ML 0) Z0 (ZQ E M_X10_init (QG 78 79 0))
  refine E_aload_n dX10_init_35 rfl ?_
  show Ev E 3 M_X10_init 36 [vr 0, vu] [vr 0] (Gm 13 12, 12, 488) (ML 0) Z0 (ZQ E M_X10_init (QG 78 79 0))
  refine N_new (ci := 5) dX10_init_36 (by decide) wN_RX10_29 wB_5 wI_X5 rfl (by decide) (by decide) (by decide) (by decide) (by decide) ?_
  show Ev E 3 M_X10_init 39 [vr 0, vu] [vr 13, vr 0] (Gm 14 12, 13, 496) (ML 0) Z0 (ZQ E M_X10_init (QG 78 79 0))
  refine E_dup dX10_init_39 rfl ?_
  show Ev E 3 M_X10_init 40 [vr 0, vu] [vr 13, vr 13, vr 0] (Gm 14 12, 13, 496) (ML 0) Z0 (ZQ E M_X10_init (QG 78 79 0))
  refine E_aload_n dX10_init_40 rfl ?_
  show Ev E 3 M_X10_init 41 [vr 0, vu] [vr 0, vr 13, vr 13, vr 0] (Gm 14 12, 13, 496) (ML 0) Z0 (ZQ E M_X10_init (QG 78 79 0))
  refine E_getR (ci := 10) (n := 1) (q := 2) dX10_init_41 wF_RX10_18 (by decide) rfl rfl rfl ?_
  show Ev E 3 M_X10_init 44 [vr 0, vu] [vr 2, vr 13, vr 13, vr 0] (Gm 14 12, 13, 496) (ML 0) Z0 (ZQ E M_X10_init (QG 78 79 0))
  refine E_aload_n dX10_init_44 rfl ?_
  show Ev E 3 M_X10_init 45 [vr 0, vu] [vr 0, vr 2, vr 13, vr 13, vr 0] (Gm 14 12, 13, 496) (ML 0) Z0 (ZQ E M_X10_init (QG 78 79 0))
  refine E_getR (ci := 10) (n := 2) (q := 4) dX10_init_45 wF_RX10_25 (by decide) rfl rfl rfl ?_
  show Ev E 3 M_X10_init 48 [vr 0, vu] [vr 4, vr 2, vr 13, vr 13, vr 0] (Gm 14 12, 13, 496) (ML 0) Z0 (ZQ E M_X10_init (QG 78 79 0))
  refine E_callI (as := [vr 2, vr 4]) (rest := [vr 13, vr 0]) (n := 2) (by decide) k_X5_init_13 dX10_init_48 rfl rfl wM_RX10_31 wS_X5_init (by omega) wC_X5_init wI_X5 (by decide +kernel) rfl (by decide) (Nat.le_of_ble_eq_true rfl) (by decide) (by decide) rfl (fun r g' I' L' h => ?_)
  obtain ⟨rfl, rfl, rfl, rfl⟩ := h
  show Ev E 3 M_X10_init 51 [vr 0, vu] [vr 13, vr 0] (Gm 14 14, 13, 496) (ML 0) Z0 (ZQ E M_X10_init (QG 78 79 0))
  refine N_put (ci := 10) (i := 3) dX10_init_51 wF_RX10_34 (by decide) rfl rfl rfl rfl rfl rfl (by decide) ?_
  show Ev E 3 M_X10_init 54 [vr 0, vu] [] (Gm 14 15, 13, 496) (ML 0) Z0 (ZQ E M_X10_init (QG 78 79 0))
  refine E_aload_n dX10_init_54 rfl ?_
  show Ev E 3 M_X10_init 55 [vr 0, vu] [vr 0] (Gm 14 15, 13, 496) (ML 0) Z0 (ZQ E M_X10_init (QG 78 79 0))
  refine N_new (ci := 7) dX10_init_55 (by decide) wN_RX10_38 wB_7 wI_X7 rfl (by decide) (by decide) (by decide) (by decide) (by decide) ?_
  show Ev E 3 M_X10_init 58 [vr 0, vu] [vr 14, vr 0] (Gm 15 15, 14, 498) (ML 0) Z0 (ZQ E M_X10_init (QG 78 79 0))
  refine E_dup dX10_init_58 rfl ?_
  show Ev E 3 M_X10_init 59 [vr 0, vu] [vr 14, vr 14, vr 0] (Gm 15 15, 14, 498) (ML 0) Z0 (ZQ E M_X10_init (QG 78 79 0))
  refine E_callIN (as := []) (rest := [vr 14, vr 0]) (n := 0) (by decide) k_X7_init_14 dX10_init_59 rfl rfl rfl (host := "SaidByTimes") (cl := RX10) (by decide +kernel) wS_X7_init (by omega) wC_X7_init wI_X7 (by decide +kernel) rfl (by decide) (Nat.le_of_ble_eq_true rfl) (by decide) (by decide) rfl (fun r g' I' L' h => ?_)
  obtain ⟨rfl, rfl, rfl, rfl⟩ := h
  show Ev E 3 M_X10_init 62 [vr 0, vu] [vr 14, vr 0] (Gm 25 25, 24, 584) (ML 0) Z0 (ZQ E M_X10_init (QG 78 79 0))
  refine N_put (ci := 10) (i := 4) dX10_init_62 wF_RX10_41 (by decide) rfl rfl rfl rfl rfl rfl (by decide) ?_
  show Ev E 3 M_X10_init 65 [vr 0, vu] [] (Gm 25 26, 24, 584) (ML 0) Z0 (ZQ E M_X10_init (QG 78 79 0))
  refine E_aload_n dX10_init_65 rfl ?_
  show Ev E 3 M_X10_init 66 [vr 0, vu] [vr 0] (Gm 25 26, 24, 584) (ML 0) Z0 (ZQ E M_X10_init (QG 78 79 0))
  refine E_iconst (v := 2) dX10_init_66 rfl ?_
  show Ev E 3 M_X10_init 67 [vr 0, vu] [vi 2, vr 0] (Gm 25 26, 24, 584) (ML 0) Z0 (ZQ E M_X10_init (QG 78 79 0))
  refine N_anew (kd := 5) (N := 2) dX10_init_67 (by decide) rfl wN_RX10_38 rfl (by decide) rfl (by decide) (by decide) (by decide) (by decide) (by decide) ?_
  show Ev E 3 M_X10_init 70 [vr 0, vu] [vr 25, vr 0] (Gm 26 26, 25, 586) (ML 0) Z0 (ZQ E M_X10_init (QG 78 79 0))
  refine N_put (ci := 10) (i := 5) dX10_init_70 wF_RX10_45 (by decide) rfl rfl rfl rfl rfl rfl (by decide) ?_
  show Ev E 3 M_X10_init 73 [vr 0, vu] [] (Gm 26 27, 25, 586) (ML 0) Z0 (ZQ E M_X10_init (QG 78 79 0))
  refine E_aload_n dX10_init_73 rfl ?_
  show Ev E 3 M_X10_init 74 [vr 0, vu] [vr 0] (Gm 26 27, 25, 586) (ML 0) Z0 (ZQ E M_X10_init (QG 78 79 0))
  refine N_new (ci := 3) dX10_init_74 (by decide) wN_RX10_49 wB_3 wI_X3 rfl (by decide) (by decide) (by decide) (by decide) (by decide) ?_
  show Ev E 3 M_X10_init 77 [vr 0, vu] [vr 26, vr 0] (Gm 27 27, 26, 590) (ML 0) Z0 (ZQ E M_X10_init (QG 78 79 0))
  refine E_dup dX10_init_77 rfl ?_
  show Ev E 3 M_X10_init 78 [vr 0, vu] [vr 26, vr 26, vr 0] (Gm 27 27, 26, 590) (ML 0) Z0 (ZQ E M_X10_init (QG 78 79 0))
  refine E_callIN (as := []) (rest := [vr 26, vr 0]) (n := 0) (by decide) k_X3_init_26 dX10_init_78 rfl rfl rfl (host := "SaidByTimes") (cl := RX10) (by decide +kernel) wS_X3_init (by omega) wC_X3_init wI_X3 (by decide +kernel) rfl (by decide) (Nat.le_of_ble_eq_true rfl) (by decide) (by decide) rfl (fun r g' I' L' h => ?_)
  obtain ⟨rfl, rfl, rfl, rfl⟩ := h
  show Ev E 3 M_X10_init 81 [vr 0, vu] [vr 26, vr 0] (Gm 28 28, 27, 602) (ML 0) Z0 (ZQ E M_X10_init (QG 78 79 0))
  refine N_put (ci := 10) (i := 6) dX10_init_81 wF_RX10_52 (by decide) rfl rfl rfl rfl rfl rfl (by decide) ?_
  show Ev E 3 M_X10_init 84 [vr 0, vu] [] (Gm 28 29, 27, 602) (ML 0) Z0 (ZQ E M_X10_init (QG 78 79 0))
  refine E_aload_n dX10_init_84 rfl ?_
  show Ev E 3 M_X10_init 85 [vr 0, vu] [vr 0] (Gm 28 29, 27, 602) (ML 0) Z0 (ZQ E M_X10_init (QG 78 79 0))
  refine N_new (ci := 2) dX10_init_85 (by decide) wN_RX10_56 wB_2 wI_X2 rfl (by decide) (by decide) (by decide) (by decide) (by decide) ?_
  show Ev E 3 M_X10_init 88 [vr 0, vu] [vr 28, vr 0] (Gm 29 29, 28, 604) (ML 0) Z0 (ZQ E M_X10_init (QG 78 79 0))
  refine E_dup dX10_init_88 rfl ?_
  show Ev E 3 M_X10_init 89 [vr 0, vu] [vr 28, vr 28, vr 0] (Gm 29 29, 28, 604) (ML 0) Z0 (ZQ E M_X10_init (QG 78 79 0))
  refine E_callIN (as := []) (rest := [vr 28, vr 0]) (n := 0) (by decide) k_X2_init_28 dX10_init_89 rfl rfl rfl (host := "SaidByTimes") (cl := RX10) (by decide +kernel) wS_X2_init (by omega) wC_X2_init wI_X2 (by decide +kernel) rfl (by decide) (Nat.le_of_ble_eq_true rfl) (by decide) (by decide) rfl (fun r g' I' L' h => ?_)
  obtain ⟨rfl, rfl, rfl, rfl⟩ := h
  show Ev E 3 M_X10_init 92 [vr 0, vu] [vr 28, vr 0] (Gm 32 32, 31, 2621) (ML 0) Z0 (ZQ E M_X10_init (QG 78 79 0))
  refine N_put (ci := 10) (i := 7) dX10_init_92 wF_RX10_59 (by decide) rfl rfl rfl rfl rfl rfl (by decide) ?_
  show Ev E 3 M_X10_init 95 [vr 0, vu] [] (Gm 32 33, 31, 2621) (ML 0) Z0 (ZQ E M_X10_init (QG 78 79 0))
  refine E_aload_n dX10_init_95 rfl ?_
  show Ev E 3 M_X10_init 96 [vr 0, vu] [vr 0] (Gm 32 33, 31, 2621) (ML 0) Z0 (ZQ E M_X10_init (QG 78 79 0))
  refine N_new (ci := 4) dX10_init_96 (by decide) wN_RX10_63 wB_4 wI_X4 rfl (by decide) (by decide) (by decide) (by decide) (by decide) ?_
  show Ev E 3 M_X10_init 99 [vr 0, vu] [vr 32, vr 0] (Gm 33 33, 32, 2624) (ML 0) Z0 (ZQ E M_X10_init (QG 78 79 0))
  refine E_dup dX10_init_99 rfl ?_
  show Ev E 3 M_X10_init 100 [vr 0, vu] [vr 32, vr 32, vr 0] (Gm 33 33, 32, 2624) (ML 0) Z0 (ZQ E M_X10_init (QG 78 79 0))
  refine E_callIN (as := []) (rest := [vr 32, vr 0]) (n := 0) (by decide) k_X4_init_32 dX10_init_100 rfl rfl rfl (host := "SaidByTimes") (cl := RX10) (by decide +kernel) wS_X4_init (by omega) wC_X4_init wI_X4 (by decide +kernel) rfl (by decide) (Nat.le_of_ble_eq_true rfl) (by decide) (by decide) rfl (fun r g' I' L' h => ?_)
  obtain ⟨rfl, rfl, rfl, rfl⟩ := h
  show Ev E 3 M_X10_init 103 [vr 0, vu] [vr 32, vr 0] (Gm 33 33, 32, 2624) (ML 0) Z0 (ZQ E M_X10_init (QG 78 79 0))
  refine N_put (ci := 10) (i := 8) dX10_init_103 wF_RX10_66 (by decide) rfl rfl rfl rfl rfl rfl (by decide) ?_
  show Ev E 3 M_X10_init 106 [vr 0, vu] [] (Gm 33 34, 32, 2624) (ML 0) Z0 (ZQ E M_X10_init (QG 78 79 0))
  refine E_aload_n dX10_init_106 rfl ?_
  show Ev E 3 M_X10_init 107 [vr 0, vu] [vr 0] (Gm 33 34, 32, 2624) (ML 0) Z0 (ZQ E M_X10_init (QG 78 79 0))
  refine N_new (ci := 1) dX10_init_107 (by decide) wN_RX10_70 wB_1 wI_X1 rfl (by decide) (by decide) (by decide) (by decide) (by decide) ?_
  show Ev E 3 M_X10_init 110 [vr 0, vu] [vr 33, vr 0] (Gm 34 34, 33, 2631) (ML 0) Z0 (ZQ E M_X10_init (QG 78 79 0))
  refine E_dup dX10_init_110 rfl ?_
  show Ev E 3 M_X10_init 111 [vr 0, vu] [vr 33, vr 33, vr 0] (Gm 34 34, 33, 2631) (ML 0) Z0 (ZQ E M_X10_init (QG 78 79 0))
  refine E_callIN (as := []) (rest := [vr 33, vr 0]) (n := 0) (by decide) k_X1_init_33 dX10_init_111 rfl rfl rfl (host := "SaidByTimes") (cl := RX10) (by decide +kernel) wS_X1_init (by omega) wC_X1_init wI_X1 (by decide +kernel) rfl (by decide) (Nat.le_of_ble_eq_true rfl) (by decide) (by decide) rfl (fun r g' I' L' h => ?_)
  obtain ⟨rfl, rfl, rfl, rfl⟩ := h
  show Ev E 3 M_X10_init 114 [vr 0, vu] [vr 33, vr 0] (Gm 38 38, 37, 2695) (ML 0) Z0 (ZQ E M_X10_init (QG 78 79 0))
  refine N_put (ci := 10) (i := 9) dX10_init_114 wF_RX10_73 (by decide) rfl rfl rfl rfl rfl rfl (by decide) ?_
  show Ev E 3 M_X10_init 117 [vr 0, vu] [] (Gm 38 39, 37, 2695) (ML 0) Z0 (ZQ E M_X10_init (QG 78 79 0))
  refine E_aload_n dX10_init_117 rfl ?_
  show Ev E 3 M_X10_init 118 [vr 0, vu] [vr 0] (Gm 38 39, 37, 2695) (ML 0) Z0 (ZQ E M_X10_init (QG 78 79 0))
  refine N_new (ci := 0) dX10_init_118 (by decide) wN_RX10_77 wB_0 wI_X0 rfl (by decide) (by decide) (by decide) (by decide) (by decide) ?_
  show Ev E 3 M_X10_init 121 [vr 0, vu] [vr 38, vr 0] (Gm 39 39, 38, 2701) (ML 0) Z0 (ZQ E M_X10_init (QG 78 79 0))
  refine E_dup dX10_init_121 rfl ?_
  show Ev E 3 M_X10_init 122 [vr 0, vu] [vr 38, vr 38, vr 0] (Gm 39 39, 38, 2701) (ML 0) Z0 (ZQ E M_X10_init (QG 78 79 0))
  refine E_callIN (as := []) (rest := [vr 38, vr 0]) (n := 0) (by decide) k_X0_init_38 dX10_init_122 rfl rfl rfl (host := "SaidByTimes") (cl := RX10) (by decide +kernel) wS_X0_init (by omega) wC_X0_init wI_X0 (by decide +kernel) rfl (by decide) (Nat.le_of_ble_eq_true rfl) (by decide) (by decide) rfl (fun r g' I' L' h => ?_)
  obtain ⟨rfl, rfl, rfl, rfl⟩ := h
  show Ev E 3 M_X10_init 125 [vr 0, vu] [vr 38, vr 0] (Gm 40 40, 39, 2717) (ML 0) Z0 (ZQ E M_X10_init (QG 78 79 0))
  refine N_put (ci := 10) (i := 10) dX10_init_125 wF_RX10_80 (by decide) rfl rfl rfl rfl rfl rfl (by decide) ?_
  show Ev E 3 M_X10_init 128 [vr 0, vu] [] (Gm 40 41, 39, 2717) (ML 0) Z0 (ZQ E M_X10_init (QG 78 79 0))
  refine E_iconst (v := 0) dX10_init_128 rfl ?_
  show Ev E 3 M_X10_init 129 [vr 0, vu] [vi 0] (Gm 40 41, 39, 2717) (ML 0) Z0 (ZQ E M_X10_init (QG 78 79 0))
  refine E_istore_n dX10_init_129 rfl (Nat.le_of_ble_eq_true rfl) ?_
  show Ev E 3 M_X10_init 130 [vr 0, vi 0] [] (Gm 40 41, 39, 2717) (ML 0) Z0 (ZQ E M_X10_init (QG 78 79 0))
  refine E_iload_n dX10_init_130 rfl ?_
  show Ev E 3 M_X10_init 131 [vr 0, vi 0] [vi 0] (Gm 40 41, 39, 2717) (ML 0) Z0 (ZQ E M_X10_init (QG 78 79 0))
  refine E_aload_n dX10_init_131 rfl ?_
  show Ev E 3 M_X10_init 132 [vr 0, vi 0] [vr 0, vi 0] (Gm 40 41, 39, 2717) (ML 0) Z0 (ZQ E M_X10_init (QG 78 79 0))
  refine E_getR (ci := 10) (n := 0) (q := 1) dX10_init_132 wF_RX10_11 (by decide) rfl rfl rfl ?_
  show Ev E 3 M_X10_init 135 [vr 0, vi 0] [vr 1, vi 0] (Gm 40 41, 39, 2717) (ML 0) Z0 (ZQ E M_X10_init (QG 78 79 0))
  refine E_alen (n := 8) (kd := 4) (z := 8) dX10_init_135 rfl (by decide) rfl ?_
  show Ev E 3 M_X10_init 136 [vr 0, vi 0] [vi 8, vi 0] (Gm 40 41, 39, 2717) (ML 0) Z0 (ZQ E M_X10_init (QG 78 79 0))
  refine E_icmp_ge (tgt := 158) dX10_init_136 ⟨by decide, by decide⟩ ⟨by decide, by decide⟩ (fun h => absurd h (by decide)) (fun _ => ?_) (by decide)
  show Ev E 3 M_X10_init 139 [vr 0, vi 0] [] (Gm 40 41, 39, 2717) (ML 0) Z0 (ZQ E M_X10_init (QG 78 79 0))
  refine E_aload_n dX10_init_139 rfl ?_
  show Ev E 3 M_X10_init 140 [vr 0, vi 0] [vr 0] (Gm 40 41, 39, 2717) (ML 0) Z0 (ZQ E M_X10_init (QG 78 79 0))
  refine E_getR (ci := 10) (n := 0) (q := 1) dX10_init_140 wF_RX10_11 (by decide) rfl rfl rfl ?_
  show Ev E 3 M_X10_init 143 [vr 0, vi 0] [vr 1] (Gm 40 41, 39, 2717) (ML 0) Z0 (ZQ E M_X10_init (QG 78 79 0))
  refine E_iload_n dX10_init_143 rfl ?_
  show Ev E 3 M_X10_init 144 [vr 0, vi 0] [vi 0, vr 1] (Gm 40 41, 39, 2717) (ML 0) Z0 (ZQ E M_X10_init (QG 78 79 0))
  refine N_new (ci := 6) dX10_init_144 (by decide) wN_RX10_9 wB_6 wI_X6 rfl (by decide) (by decide) (by decide) (by decide) (by decide) ?_
  show Ev E 3 M_X10_init 147 [vr 0, vi 0] [vr 40, vi 0, vr 1] (Gm 41 41, 40, 2721) (ML 0) Z0 (ZQ E M_X10_init (QG 78 79 0))
  refine E_dup dX10_init_147 rfl ?_
  show Ev E 3 M_X10_init 148 [vr 0, vi 0] [vr 40, vr 40, vi 0, vr 1] (Gm 41 41, 40, 2721) (ML 0) Z0 (ZQ E M_X10_init (QG 78 79 0))
  refine E_callIN (as := []) (rest := [vr 40, vi 0, vr 1]) (n := 0) (by decide) k_X6_init_40 dX10_init_148 rfl rfl rfl (host := "SaidByTimes") (cl := RX10) (by decide +kernel) wS_X6_init (by omega) wC_X6_init wI_X6 (by decide +kernel) rfl (by decide) (Nat.le_of_ble_eq_true rfl) (by decide) (by decide) rfl (fun r g' I' L' h => ?_)
  obtain ⟨rfl, rfl, rfl, rfl⟩ := h
  show Ev E 3 M_X10_init 151 [vr 0, vi 0] [vr 40, vi 0, vr 1] (Gm 42 42, 41, 2761) (ML 0) Z0 (ZQ E M_X10_init (QG 78 79 0))
  refine N_aast (kd := 0) (ci := 6) (N := 8) dX10_init_151 rfl (by decide) rfl (by decide) rfl (by decide) (by decide) ⟨by decide, by decide⟩ rfl (by decide) ?_
  show Ev E 3 M_X10_init 152 [vr 0, vi 0] [] (Gm 42 43, 41, 2761) (ML 0) Z0 (ZQ E M_X10_init (QG 78 79 0))
  refine E_iinc dX10_init_152 rfl rfl (Nat.le_of_ble_eq_true rfl) ?_
  show Ev E 3 M_X10_init 155 [vr 0, vi 1] [] (Gm 42 43, 41, 2761) (ML 0) Z0 (ZQ E M_X10_init (QG 78 79 0))
  refine E_goto (tgt := 130) dX10_init_155 (by decide) ?_
  show Ev E 3 M_X10_init 130 [vr 0, vi 1] [] (Gm 42 43, 41, 2761) (ML 0) Z0 (ZQ E M_X10_init (QG 78 79 0))
  refine E_iload_n dX10_init_130 rfl ?_
  show Ev E 3 M_X10_init 131 [vr 0, vi 1] [vi 1] (Gm 42 43, 41, 2761) (ML 0) Z0 (ZQ E M_X10_init (QG 78 79 0))
  refine E_aload_n dX10_init_131 rfl ?_
  show Ev E 3 M_X10_init 132 [vr 0, vi 1] [vr 0, vi 1] (Gm 42 43, 41, 2761) (ML 0) Z0 (ZQ E M_X10_init (QG 78 79 0))
  refine E_getR (ci := 10) (n := 0) (q := 1) dX10_init_132 wF_RX10_11 (by decide) rfl rfl rfl ?_
  show Ev E 3 M_X10_init 135 [vr 0, vi 1] [vr 1, vi 1] (Gm 42 43, 41, 2761) (ML 0) Z0 (ZQ E M_X10_init (QG 78 79 0))
  refine E_alen (n := 8) (kd := 4) (z := 8) dX10_init_135 rfl (by decide) rfl ?_
  show Ev E 3 M_X10_init 136 [vr 0, vi 1] [vi 8, vi 1] (Gm 42 43, 41, 2761) (ML 0) Z0 (ZQ E M_X10_init (QG 78 79 0))
  refine E_icmp_ge (tgt := 158) dX10_init_136 ⟨by decide, by decide⟩ ⟨by decide, by decide⟩ (fun h => absurd h (by decide)) (fun _ => ?_) (by decide)
  show Ev E 3 M_X10_init 139 [vr 0, vi 1] [] (Gm 42 43, 41, 2761) (ML 0) Z0 (ZQ E M_X10_init (QG 78 79 0))
  refine E_aload_n dX10_init_139 rfl ?_
  show Ev E 3 M_X10_init 140 [vr 0, vi 1] [vr 0] (Gm 42 43, 41, 2761) (ML 0) Z0 (ZQ E M_X10_init (QG 78 79 0))
  refine E_getR (ci := 10) (n := 0) (q := 1) dX10_init_140 wF_RX10_11 (by decide) rfl rfl rfl ?_
  show Ev E 3 M_X10_init 143 [vr 0, vi 1] [vr 1] (Gm 42 43, 41, 2761) (ML 0) Z0 (ZQ E M_X10_init (QG 78 79 0))
  refine E_iload_n dX10_init_143 rfl ?_
  show Ev E 3 M_X10_init 144 [vr 0, vi 1] [vi 1, vr 1] (Gm 42 43, 41, 2761) (ML 0) Z0 (ZQ E M_X10_init (QG 78 79 0))
  refine N_new (ci := 6) dX10_init_144 (by decide) wN_RX10_9 wB_6 wI_X6 rfl (by decide) (by decide) (by decide) (by decide) (by decide) ?_
  show Ev E 3 M_X10_init 147 [vr 0, vi 1] [vr 42, vi 1, vr 1] (Gm 43 43, 42, 2765) (ML 0) Z0 (ZQ E M_X10_init (QG 78 79 0))
  refine E_dup dX10_init_147 rfl ?_
  show Ev E 3 M_X10_init 148 [vr 0, vi 1] [vr 42, vr 42, vi 1, vr 1] (Gm 43 43, 42, 2765) (ML 0) Z0 (ZQ E M_X10_init (QG 78 79 0))
  refine E_callIN (as := []) (rest := [vr 42, vi 1, vr 1]) (n := 0) (by decide) k_X6_init_42 dX10_init_148 rfl rfl rfl (host := "SaidByTimes") (cl := RX10) (by decide +kernel) wS_X6_init (by omega) wC_X6_init wI_X6 (by decide +kernel) rfl (by decide) (Nat.le_of_ble_eq_true rfl) (by decide) (by decide) rfl (fun r g' I' L' h => ?_)
  obtain ⟨rfl, rfl, rfl, rfl⟩ := h
  show Ev E 3 M_X10_init 151 [vr 0, vi 1] [vr 42, vi 1, vr 1] (Gm 44 44, 43, 2805) (ML 0) Z0 (ZQ E M_X10_init (QG 78 79 0))
  refine N_aast (kd := 0) (ci := 6) (N := 8) dX10_init_151 rfl (by decide) rfl (by decide) rfl (by decide) (by decide) ⟨by decide, by decide⟩ rfl (by decide) ?_
  show Ev E 3 M_X10_init 152 [vr 0, vi 1] [] (Gm 44 45, 43, 2805) (ML 0) Z0 (ZQ E M_X10_init (QG 78 79 0))
  refine E_iinc dX10_init_152 rfl rfl (Nat.le_of_ble_eq_true rfl) ?_
  show Ev E 3 M_X10_init 155 [vr 0, vi 2] [] (Gm 44 45, 43, 2805) (ML 0) Z0 (ZQ E M_X10_init (QG 78 79 0))
  refine E_goto (tgt := 130) dX10_init_155 (by decide) ?_
  show Ev E 3 M_X10_init 130 [vr 0, vi 2] [] (Gm 44 45, 43, 2805) (ML 0) Z0 (ZQ E M_X10_init (QG 78 79 0))
  refine E_iload_n dX10_init_130 rfl ?_
  show Ev E 3 M_X10_init 131 [vr 0, vi 2] [vi 2] (Gm 44 45, 43, 2805) (ML 0) Z0 (ZQ E M_X10_init (QG 78 79 0))
  refine E_aload_n dX10_init_131 rfl ?_
  show Ev E 3 M_X10_init 132 [vr 0, vi 2] [vr 0, vi 2] (Gm 44 45, 43, 2805) (ML 0) Z0 (ZQ E M_X10_init (QG 78 79 0))
  refine E_getR (ci := 10) (n := 0) (q := 1) dX10_init_132 wF_RX10_11 (by decide) rfl rfl rfl ?_
  show Ev E 3 M_X10_init 135 [vr 0, vi 2] [vr 1, vi 2] (Gm 44 45, 43, 2805) (ML 0) Z0 (ZQ E M_X10_init (QG 78 79 0))
  refine E_alen (n := 8) (kd := 4) (z := 8) dX10_init_135 rfl (by decide) rfl ?_
  show Ev E 3 M_X10_init 136 [vr 0, vi 2] [vi 8, vi 2] (Gm 44 45, 43, 2805) (ML 0) Z0 (ZQ E M_X10_init (QG 78 79 0))
  refine E_icmp_ge (tgt := 158) dX10_init_136 ⟨by decide, by decide⟩ ⟨by decide, by decide⟩ (fun h => absurd h (by decide)) (fun _ => ?_) (by decide)
  show Ev E 3 M_X10_init 139 [vr 0, vi 2] [] (Gm 44 45, 43, 2805) (ML 0) Z0 (ZQ E M_X10_init (QG 78 79 0))
  refine E_aload_n dX10_init_139 rfl ?_
  show Ev E 3 M_X10_init 140 [vr 0, vi 2] [vr 0] (Gm 44 45, 43, 2805) (ML 0) Z0 (ZQ E M_X10_init (QG 78 79 0))
  refine E_getR (ci := 10) (n := 0) (q := 1) dX10_init_140 wF_RX10_11 (by decide) rfl rfl rfl ?_
  show Ev E 3 M_X10_init 143 [vr 0, vi 2] [vr 1] (Gm 44 45, 43, 2805) (ML 0) Z0 (ZQ E M_X10_init (QG 78 79 0))
  refine E_iload_n dX10_init_143 rfl ?_
  show Ev E 3 M_X10_init 144 [vr 0, vi 2] [vi 2, vr 1] (Gm 44 45, 43, 2805) (ML 0) Z0 (ZQ E M_X10_init (QG 78 79 0))
  refine N_new (ci := 6) dX10_init_144 (by decide) wN_RX10_9 wB_6 wI_X6 rfl (by decide) (by decide) (by decide) (by decide) (by decide) ?_
  show Ev E 3 M_X10_init 147 [vr 0, vi 2] [vr 44, vi 2, vr 1] (Gm 45 45, 44, 2809) (ML 0) Z0 (ZQ E M_X10_init (QG 78 79 0))
  refine E_dup dX10_init_147 rfl ?_
  show Ev E 3 M_X10_init 148 [vr 0, vi 2] [vr 44, vr 44, vi 2, vr 1] (Gm 45 45, 44, 2809) (ML 0) Z0 (ZQ E M_X10_init (QG 78 79 0))
  refine E_callIN (as := []) (rest := [vr 44, vi 2, vr 1]) (n := 0) (by decide) k_X6_init_44 dX10_init_148 rfl rfl rfl (host := "SaidByTimes") (cl := RX10) (by decide +kernel) wS_X6_init (by omega) wC_X6_init wI_X6 (by decide +kernel) rfl (by decide) (Nat.le_of_ble_eq_true rfl) (by decide) (by decide) rfl (fun r g' I' L' h => ?_)
  obtain ⟨rfl, rfl, rfl, rfl⟩ := h
  show Ev E 3 M_X10_init 151 [vr 0, vi 2] [vr 44, vi 2, vr 1] (Gm 46 46, 45, 2849) (ML 0) Z0 (ZQ E M_X10_init (QG 78 79 0))
  refine N_aast (kd := 0) (ci := 6) (N := 8) dX10_init_151 rfl (by decide) rfl (by decide) rfl (by decide) (by decide) ⟨by decide, by decide⟩ rfl (by decide) ?_
  show Ev E 3 M_X10_init 152 [vr 0, vi 2] [] (Gm 46 47, 45, 2849) (ML 0) Z0 (ZQ E M_X10_init (QG 78 79 0))
  refine E_iinc dX10_init_152 rfl rfl (Nat.le_of_ble_eq_true rfl) ?_
  show Ev E 3 M_X10_init 155 [vr 0, vi 3] [] (Gm 46 47, 45, 2849) (ML 0) Z0 (ZQ E M_X10_init (QG 78 79 0))
  refine E_goto (tgt := 130) dX10_init_155 (by decide) ?_
  show Ev E 3 M_X10_init 130 [vr 0, vi 3] [] (Gm 46 47, 45, 2849) (ML 0) Z0 (ZQ E M_X10_init (QG 78 79 0))
  refine E_iload_n dX10_init_130 rfl ?_
  show Ev E 3 M_X10_init 131 [vr 0, vi 3] [vi 3] (Gm 46 47, 45, 2849) (ML 0) Z0 (ZQ E M_X10_init (QG 78 79 0))
  refine E_aload_n dX10_init_131 rfl ?_
  show Ev E 3 M_X10_init 132 [vr 0, vi 3] [vr 0, vi 3] (Gm 46 47, 45, 2849) (ML 0) Z0 (ZQ E M_X10_init (QG 78 79 0))
  refine E_getR (ci := 10) (n := 0) (q := 1) dX10_init_132 wF_RX10_11 (by decide) rfl rfl rfl ?_
  show Ev E 3 M_X10_init 135 [vr 0, vi 3] [vr 1, vi 3] (Gm 46 47, 45, 2849) (ML 0) Z0 (ZQ E M_X10_init (QG 78 79 0))
  refine E_alen (n := 8) (kd := 4) (z := 8) dX10_init_135 rfl (by decide) rfl ?_
  show Ev E 3 M_X10_init 136 [vr 0, vi 3] [vi 8, vi 3] (Gm 46 47, 45, 2849) (ML 0) Z0 (ZQ E M_X10_init (QG 78 79 0))
  refine E_icmp_ge (tgt := 158) dX10_init_136 ⟨by decide, by decide⟩ ⟨by decide, by decide⟩ (fun h => absurd h (by decide)) (fun _ => ?_) (by decide)
  show Ev E 3 M_X10_init 139 [vr 0, vi 3] [] (Gm 46 47, 45, 2849) (ML 0) Z0 (ZQ E M_X10_init (QG 78 79 0))
  refine E_aload_n dX10_init_139 rfl ?_
  show Ev E 3 M_X10_init 140 [vr 0, vi 3] [vr 0] (Gm 46 47, 45, 2849) (ML 0) Z0 (ZQ E M_X10_init (QG 78 79 0))
  refine E_getR (ci := 10) (n := 0) (q := 1) dX10_init_140 wF_RX10_11 (by decide) rfl rfl rfl ?_
  show Ev E 3 M_X10_init 143 [vr 0, vi 3] [vr 1] (Gm 46 47, 45, 2849) (ML 0) Z0 (ZQ E M_X10_init (QG 78 79 0))
  refine E_iload_n dX10_init_143 rfl ?_
  show Ev E 3 M_X10_init 144 [vr 0, vi 3] [vi 3, vr 1] (Gm 46 47, 45, 2849) (ML 0) Z0 (ZQ E M_X10_init (QG 78 79 0))
  refine N_new (ci := 6) dX10_init_144 (by decide) wN_RX10_9 wB_6 wI_X6 rfl (by decide) (by decide) (by decide) (by decide) (by decide) ?_
  show Ev E 3 M_X10_init 147 [vr 0, vi 3] [vr 46, vi 3, vr 1] (Gm 47 47, 46, 2853) (ML 0) Z0 (ZQ E M_X10_init (QG 78 79 0))
  refine E_dup dX10_init_147 rfl ?_
  show Ev E 3 M_X10_init 148 [vr 0, vi 3] [vr 46, vr 46, vi 3, vr 1] (Gm 47 47, 46, 2853) (ML 0) Z0 (ZQ E M_X10_init (QG 78 79 0))
  refine E_callIN (as := []) (rest := [vr 46, vi 3, vr 1]) (n := 0) (by decide) k_X6_init_46 dX10_init_148 rfl rfl rfl (host := "SaidByTimes") (cl := RX10) (by decide +kernel) wS_X6_init (by omega) wC_X6_init wI_X6 (by decide +kernel) rfl (by decide) (Nat.le_of_ble_eq_true rfl) (by decide) (by decide) rfl (fun r g' I' L' h => ?_)
  obtain ⟨rfl, rfl, rfl, rfl⟩ := h
  show Ev E 3 M_X10_init 151 [vr 0, vi 3] [vr 46, vi 3, vr 1] (Gm 48 48, 47, 2893) (ML 0) Z0 (ZQ E M_X10_init (QG 78 79 0))
  refine N_aast (kd := 0) (ci := 6) (N := 8) dX10_init_151 rfl (by decide) rfl (by decide) rfl (by decide) (by decide) ⟨by decide, by decide⟩ rfl (by decide) ?_
  show Ev E 3 M_X10_init 152 [vr 0, vi 3] [] (Gm 48 49, 47, 2893) (ML 0) Z0 (ZQ E M_X10_init (QG 78 79 0))
  refine E_iinc dX10_init_152 rfl rfl (Nat.le_of_ble_eq_true rfl) ?_
  show Ev E 3 M_X10_init 155 [vr 0, vi 4] [] (Gm 48 49, 47, 2893) (ML 0) Z0 (ZQ E M_X10_init (QG 78 79 0))
  refine E_goto (tgt := 130) dX10_init_155 (by decide) ?_
  show Ev E 3 M_X10_init 130 [vr 0, vi 4] [] (Gm 48 49, 47, 2893) (ML 0) Z0 (ZQ E M_X10_init (QG 78 79 0))
  refine E_iload_n dX10_init_130 rfl ?_
  show Ev E 3 M_X10_init 131 [vr 0, vi 4] [vi 4] (Gm 48 49, 47, 2893) (ML 0) Z0 (ZQ E M_X10_init (QG 78 79 0))
  refine E_aload_n dX10_init_131 rfl ?_
  show Ev E 3 M_X10_init 132 [vr 0, vi 4] [vr 0, vi 4] (Gm 48 49, 47, 2893) (ML 0) Z0 (ZQ E M_X10_init (QG 78 79 0))
  refine E_getR (ci := 10) (n := 0) (q := 1) dX10_init_132 wF_RX10_11 (by decide) rfl rfl rfl ?_
  show Ev E 3 M_X10_init 135 [vr 0, vi 4] [vr 1, vi 4] (Gm 48 49, 47, 2893) (ML 0) Z0 (ZQ E M_X10_init (QG 78 79 0))
  refine E_alen (n := 8) (kd := 4) (z := 8) dX10_init_135 rfl (by decide) rfl ?_
  show Ev E 3 M_X10_init 136 [vr 0, vi 4] [vi 8, vi 4] (Gm 48 49, 47, 2893) (ML 0) Z0 (ZQ E M_X10_init (QG 78 79 0))
  refine E_icmp_ge (tgt := 158) dX10_init_136 ⟨by decide, by decide⟩ ⟨by decide, by decide⟩ (fun h => absurd h (by decide)) (fun _ => ?_) (by decide)
  show Ev E 3 M_X10_init 139 [vr 0, vi 4] [] (Gm 48 49, 47, 2893) (ML 0) Z0 (ZQ E M_X10_init (QG 78 79 0))
  refine E_aload_n dX10_init_139 rfl ?_
  show Ev E 3 M_X10_init 140 [vr 0, vi 4] [vr 0] (Gm 48 49, 47, 2893) (ML 0) Z0 (ZQ E M_X10_init (QG 78 79 0))
  refine E_getR (ci := 10) (n := 0) (q := 1) dX10_init_140 wF_RX10_11 (by decide) rfl rfl rfl ?_
  show Ev E 3 M_X10_init 143 [vr 0, vi 4] [vr 1] (Gm 48 49, 47, 2893) (ML 0) Z0 (ZQ E M_X10_init (QG 78 79 0))
  refine E_iload_n dX10_init_143 rfl ?_
  show Ev E 3 M_X10_init 144 [vr 0, vi 4] [vi 4, vr 1] (Gm 48 49, 47, 2893) (ML 0) Z0 (ZQ E M_X10_init (QG 78 79 0))
  refine N_new (ci := 6) dX10_init_144 (by decide) wN_RX10_9 wB_6 wI_X6 rfl (by decide) (by decide) (by decide) (by decide) (by decide) ?_
  show Ev E 3 M_X10_init 147 [vr 0, vi 4] [vr 48, vi 4, vr 1] (Gm 49 49, 48, 2897) (ML 0) Z0 (ZQ E M_X10_init (QG 78 79 0))
  refine E_dup dX10_init_147 rfl ?_
  show Ev E 3 M_X10_init 148 [vr 0, vi 4] [vr 48, vr 48, vi 4, vr 1] (Gm 49 49, 48, 2897) (ML 0) Z0 (ZQ E M_X10_init (QG 78 79 0))
  refine E_callIN (as := []) (rest := [vr 48, vi 4, vr 1]) (n := 0) (by decide) k_X6_init_48 dX10_init_148 rfl rfl rfl (host := "SaidByTimes") (cl := RX10) (by decide +kernel) wS_X6_init (by omega) wC_X6_init wI_X6 (by decide +kernel) rfl (by decide) (Nat.le_of_ble_eq_true rfl) (by decide) (by decide) rfl (fun r g' I' L' h => ?_)
  obtain ⟨rfl, rfl, rfl, rfl⟩ := h
  show Ev E 3 M_X10_init 151 [vr 0, vi 4] [vr 48, vi 4, vr 1] (Gm 50 50, 49, 2937) (ML 0) Z0 (ZQ E M_X10_init (QG 78 79 0))
  refine N_aast (kd := 0) (ci := 6) (N := 8) dX10_init_151 rfl (by decide) rfl (by decide) rfl (by decide) (by decide) ⟨by decide, by decide⟩ rfl (by decide) ?_
  show Ev E 3 M_X10_init 152 [vr 0, vi 4] [] (Gm 50 51, 49, 2937) (ML 0) Z0 (ZQ E M_X10_init (QG 78 79 0))
  refine E_iinc dX10_init_152 rfl rfl (Nat.le_of_ble_eq_true rfl) ?_
  show Ev E 3 M_X10_init 155 [vr 0, vi 5] [] (Gm 50 51, 49, 2937) (ML 0) Z0 (ZQ E M_X10_init (QG 78 79 0))
  refine E_goto (tgt := 130) dX10_init_155 (by decide) ?_
  show Ev E 3 M_X10_init 130 [vr 0, vi 5] [] (Gm 50 51, 49, 2937) (ML 0) Z0 (ZQ E M_X10_init (QG 78 79 0))
  refine E_iload_n dX10_init_130 rfl ?_
  show Ev E 3 M_X10_init 131 [vr 0, vi 5] [vi 5] (Gm 50 51, 49, 2937) (ML 0) Z0 (ZQ E M_X10_init (QG 78 79 0))
  refine E_aload_n dX10_init_131 rfl ?_
  show Ev E 3 M_X10_init 132 [vr 0, vi 5] [vr 0, vi 5] (Gm 50 51, 49, 2937) (ML 0) Z0 (ZQ E M_X10_init (QG 78 79 0))
  refine E_getR (ci := 10) (n := 0) (q := 1) dX10_init_132 wF_RX10_11 (by decide) rfl rfl rfl ?_
  show Ev E 3 M_X10_init 135 [vr 0, vi 5] [vr 1, vi 5] (Gm 50 51, 49, 2937) (ML 0) Z0 (ZQ E M_X10_init (QG 78 79 0))
  refine E_alen (n := 8) (kd := 4) (z := 8) dX10_init_135 rfl (by decide) rfl ?_
  show Ev E 3 M_X10_init 136 [vr 0, vi 5] [vi 8, vi 5] (Gm 50 51, 49, 2937) (ML 0) Z0 (ZQ E M_X10_init (QG 78 79 0))
  refine E_icmp_ge (tgt := 158) dX10_init_136 ⟨by decide, by decide⟩ ⟨by decide, by decide⟩ (fun h => absurd h (by decide)) (fun _ => ?_) (by decide)
  show Ev E 3 M_X10_init 139 [vr 0, vi 5] [] (Gm 50 51, 49, 2937) (ML 0) Z0 (ZQ E M_X10_init (QG 78 79 0))
  refine E_aload_n dX10_init_139 rfl ?_
  show Ev E 3 M_X10_init 140 [vr 0, vi 5] [vr 0] (Gm 50 51, 49, 2937) (ML 0) Z0 (ZQ E M_X10_init (QG 78 79 0))
  refine E_getR (ci := 10) (n := 0) (q := 1) dX10_init_140 wF_RX10_11 (by decide) rfl rfl rfl ?_
  show Ev E 3 M_X10_init 143 [vr 0, vi 5] [vr 1] (Gm 50 51, 49, 2937) (ML 0) Z0 (ZQ E M_X10_init (QG 78 79 0))
  refine E_iload_n dX10_init_143 rfl ?_
  show Ev E 3 M_X10_init 144 [vr 0, vi 5] [vi 5, vr 1] (Gm 50 51, 49, 2937) (ML 0) Z0 (ZQ E M_X10_init (QG 78 79 0))
  refine N_new (ci := 6) dX10_init_144 (by decide) wN_RX10_9 wB_6 wI_X6 rfl (by decide) (by decide) (by decide) (by decide) (by decide) ?_
  show Ev E 3 M_X10_init 147 [vr 0, vi 5] [vr 50, vi 5, vr 1] (Gm 51 51, 50, 2941) (ML 0) Z0 (ZQ E M_X10_init (QG 78 79 0))
  refine E_dup dX10_init_147 rfl ?_
  show Ev E 3 M_X10_init 148 [vr 0, vi 5] [vr 50, vr 50, vi 5, vr 1] (Gm 51 51, 50, 2941) (ML 0) Z0 (ZQ E M_X10_init (QG 78 79 0))
  refine E_callIN (as := []) (rest := [vr 50, vi 5, vr 1]) (n := 0) (by decide) k_X6_init_50 dX10_init_148 rfl rfl rfl (host := "SaidByTimes") (cl := RX10) (by decide +kernel) wS_X6_init (by omega) wC_X6_init wI_X6 (by decide +kernel) rfl (by decide) (Nat.le_of_ble_eq_true rfl) (by decide) (by decide) rfl (fun r g' I' L' h => ?_)
  obtain ⟨rfl, rfl, rfl, rfl⟩ := h
  show Ev E 3 M_X10_init 151 [vr 0, vi 5] [vr 50, vi 5, vr 1] (Gm 52 52, 51, 2981) (ML 0) Z0 (ZQ E M_X10_init (QG 78 79 0))
  refine N_aast (kd := 0) (ci := 6) (N := 8) dX10_init_151 rfl (by decide) rfl (by decide) rfl (by decide) (by decide) ⟨by decide, by decide⟩ rfl (by decide) ?_
  show Ev E 3 M_X10_init 152 [vr 0, vi 5] [] (Gm 52 53, 51, 2981) (ML 0) Z0 (ZQ E M_X10_init (QG 78 79 0))
  refine E_iinc dX10_init_152 rfl rfl (Nat.le_of_ble_eq_true rfl) ?_
  show Ev E 3 M_X10_init 155 [vr 0, vi 6] [] (Gm 52 53, 51, 2981) (ML 0) Z0 (ZQ E M_X10_init (QG 78 79 0))
  refine E_goto (tgt := 130) dX10_init_155 (by decide) ?_
  show Ev E 3 M_X10_init 130 [vr 0, vi 6] [] (Gm 52 53, 51, 2981) (ML 0) Z0 (ZQ E M_X10_init (QG 78 79 0))
  refine E_iload_n dX10_init_130 rfl ?_
  show Ev E 3 M_X10_init 131 [vr 0, vi 6] [vi 6] (Gm 52 53, 51, 2981) (ML 0) Z0 (ZQ E M_X10_init (QG 78 79 0))
  refine E_aload_n dX10_init_131 rfl ?_
  show Ev E 3 M_X10_init 132 [vr 0, vi 6] [vr 0, vi 6] (Gm 52 53, 51, 2981) (ML 0) Z0 (ZQ E M_X10_init (QG 78 79 0))
  refine E_getR (ci := 10) (n := 0) (q := 1) dX10_init_132 wF_RX10_11 (by decide) rfl rfl rfl ?_
  show Ev E 3 M_X10_init 135 [vr 0, vi 6] [vr 1, vi 6] (Gm 52 53, 51, 2981) (ML 0) Z0 (ZQ E M_X10_init (QG 78 79 0))
  refine E_alen (n := 8) (kd := 4) (z := 8) dX10_init_135 rfl (by decide) rfl ?_
  show Ev E 3 M_X10_init 136 [vr 0, vi 6] [vi 8, vi 6] (Gm 52 53, 51, 2981) (ML 0) Z0 (ZQ E M_X10_init (QG 78 79 0))
  refine E_icmp_ge (tgt := 158) dX10_init_136 ⟨by decide, by decide⟩ ⟨by decide, by decide⟩ (fun h => absurd h (by decide)) (fun _ => ?_) (by decide)
  show Ev E 3 M_X10_init 139 [vr 0, vi 6] [] (Gm 52 53, 51, 2981) (ML 0) Z0 (ZQ E M_X10_init (QG 78 79 0))
  refine E_aload_n dX10_init_139 rfl ?_
  show Ev E 3 M_X10_init 140 [vr 0, vi 6] [vr 0] (Gm 52 53, 51, 2981) (ML 0) Z0 (ZQ E M_X10_init (QG 78 79 0))
  refine E_getR (ci := 10) (n := 0) (q := 1) dX10_init_140 wF_RX10_11 (by decide) rfl rfl rfl ?_
  show Ev E 3 M_X10_init 143 [vr 0, vi 6] [vr 1] (Gm 52 53, 51, 2981) (ML 0) Z0 (ZQ E M_X10_init (QG 78 79 0))
  refine E_iload_n dX10_init_143 rfl ?_
  show Ev E 3 M_X10_init 144 [vr 0, vi 6] [vi 6, vr 1] (Gm 52 53, 51, 2981) (ML 0) Z0 (ZQ E M_X10_init (QG 78 79 0))
  refine N_new (ci := 6) dX10_init_144 (by decide) wN_RX10_9 wB_6 wI_X6 rfl (by decide) (by decide) (by decide) (by decide) (by decide) ?_
  show Ev E 3 M_X10_init 147 [vr 0, vi 6] [vr 52, vi 6, vr 1] (Gm 53 53, 52, 2985) (ML 0) Z0 (ZQ E M_X10_init (QG 78 79 0))
  refine E_dup dX10_init_147 rfl ?_
  show Ev E 3 M_X10_init 148 [vr 0, vi 6] [vr 52, vr 52, vi 6, vr 1] (Gm 53 53, 52, 2985) (ML 0) Z0 (ZQ E M_X10_init (QG 78 79 0))
  refine E_callIN (as := []) (rest := [vr 52, vi 6, vr 1]) (n := 0) (by decide) k_X6_init_52 dX10_init_148 rfl rfl rfl (host := "SaidByTimes") (cl := RX10) (by decide +kernel) wS_X6_init (by omega) wC_X6_init wI_X6 (by decide +kernel) rfl (by decide) (Nat.le_of_ble_eq_true rfl) (by decide) (by decide) rfl (fun r g' I' L' h => ?_)
  obtain ⟨rfl, rfl, rfl, rfl⟩ := h
  show Ev E 3 M_X10_init 151 [vr 0, vi 6] [vr 52, vi 6, vr 1] (Gm 54 54, 53, 3025) (ML 0) Z0 (ZQ E M_X10_init (QG 78 79 0))
  refine N_aast (kd := 0) (ci := 6) (N := 8) dX10_init_151 rfl (by decide) rfl (by decide) rfl (by decide) (by decide) ⟨by decide, by decide⟩ rfl (by decide) ?_
  show Ev E 3 M_X10_init 152 [vr 0, vi 6] [] (Gm 54 55, 53, 3025) (ML 0) Z0 (ZQ E M_X10_init (QG 78 79 0))
  refine E_iinc dX10_init_152 rfl rfl (Nat.le_of_ble_eq_true rfl) ?_
  show Ev E 3 M_X10_init 155 [vr 0, vi 7] [] (Gm 54 55, 53, 3025) (ML 0) Z0 (ZQ E M_X10_init (QG 78 79 0))
  refine E_goto (tgt := 130) dX10_init_155 (by decide) ?_
  show Ev E 3 M_X10_init 130 [vr 0, vi 7] [] (Gm 54 55, 53, 3025) (ML 0) Z0 (ZQ E M_X10_init (QG 78 79 0))
  refine E_iload_n dX10_init_130 rfl ?_
  show Ev E 3 M_X10_init 131 [vr 0, vi 7] [vi 7] (Gm 54 55, 53, 3025) (ML 0) Z0 (ZQ E M_X10_init (QG 78 79 0))
  refine E_aload_n dX10_init_131 rfl ?_
  show Ev E 3 M_X10_init 132 [vr 0, vi 7] [vr 0, vi 7] (Gm 54 55, 53, 3025) (ML 0) Z0 (ZQ E M_X10_init (QG 78 79 0))
  refine E_getR (ci := 10) (n := 0) (q := 1) dX10_init_132 wF_RX10_11 (by decide) rfl rfl rfl ?_
  show Ev E 3 M_X10_init 135 [vr 0, vi 7] [vr 1, vi 7] (Gm 54 55, 53, 3025) (ML 0) Z0 (ZQ E M_X10_init (QG 78 79 0))
  refine E_alen (n := 8) (kd := 4) (z := 8) dX10_init_135 rfl (by decide) rfl ?_
  show Ev E 3 M_X10_init 136 [vr 0, vi 7] [vi 8, vi 7] (Gm 54 55, 53, 3025) (ML 0) Z0 (ZQ E M_X10_init (QG 78 79 0))
  refine E_icmp_ge (tgt := 158) dX10_init_136 ⟨by decide, by decide⟩ ⟨by decide, by decide⟩ (fun h => absurd h (by decide)) (fun _ => ?_) (by decide)
  show Ev E 3 M_X10_init 139 [vr 0, vi 7] [] (Gm 54 55, 53, 3025) (ML 0) Z0 (ZQ E M_X10_init (QG 78 79 0))
  refine E_aload_n dX10_init_139 rfl ?_
  show Ev E 3 M_X10_init 140 [vr 0, vi 7] [vr 0] (Gm 54 55, 53, 3025) (ML 0) Z0 (ZQ E M_X10_init (QG 78 79 0))
  refine E_getR (ci := 10) (n := 0) (q := 1) dX10_init_140 wF_RX10_11 (by decide) rfl rfl rfl ?_
  show Ev E 3 M_X10_init 143 [vr 0, vi 7] [vr 1] (Gm 54 55, 53, 3025) (ML 0) Z0 (ZQ E M_X10_init (QG 78 79 0))
  refine E_iload_n dX10_init_143 rfl ?_
  show Ev E 3 M_X10_init 144 [vr 0, vi 7] [vi 7, vr 1] (Gm 54 55, 53, 3025) (ML 0) Z0 (ZQ E M_X10_init (QG 78 79 0))
  refine N_new (ci := 6) dX10_init_144 (by decide) wN_RX10_9 wB_6 wI_X6 rfl (by decide) (by decide) (by decide) (by decide) (by decide) ?_
  show Ev E 3 M_X10_init 147 [vr 0, vi 7] [vr 54, vi 7, vr 1] (Gm 55 55, 54, 3029) (ML 0) Z0 (ZQ E M_X10_init (QG 78 79 0))
  refine E_dup dX10_init_147 rfl ?_
  show Ev E 3 M_X10_init 148 [vr 0, vi 7] [vr 54, vr 54, vi 7, vr 1] (Gm 55 55, 54, 3029) (ML 0) Z0 (ZQ E M_X10_init (QG 78 79 0))
  refine E_callIN (as := []) (rest := [vr 54, vi 7, vr 1]) (n := 0) (by decide) k_X6_init_54 dX10_init_148 rfl rfl rfl (host := "SaidByTimes") (cl := RX10) (by decide +kernel) wS_X6_init (by omega) wC_X6_init wI_X6 (by decide +kernel) rfl (by decide) (Nat.le_of_ble_eq_true rfl) (by decide) (by decide) rfl (fun r g' I' L' h => ?_)
  obtain ⟨rfl, rfl, rfl, rfl⟩ := h
  show Ev E 3 M_X10_init 151 [vr 0, vi 7] [vr 54, vi 7, vr 1] (Gm 56 56, 55, 3069) (ML 0) Z0 (ZQ E M_X10_init (QG 78 79 0))
  refine N_aast (kd := 0) (ci := 6) (N := 8) dX10_init_151 rfl (by decide) rfl (by decide) rfl (by decide) (by decide) ⟨by decide, by decide⟩ rfl (by decide) ?_
  show Ev E 3 M_X10_init 152 [vr 0, vi 7] [] (Gm 56 57, 55, 3069) (ML 0) Z0 (ZQ E M_X10_init (QG 78 79 0))
  refine E_iinc dX10_init_152 rfl rfl (Nat.le_of_ble_eq_true rfl) ?_
  show Ev E 3 M_X10_init 155 [vr 0, vi 8] [] (Gm 56 57, 55, 3069) (ML 0) Z0 (ZQ E M_X10_init (QG 78 79 0))
  refine E_goto (tgt := 130) dX10_init_155 (by decide) ?_
  show Ev E 3 M_X10_init 130 [vr 0, vi 8] [] (Gm 56 57, 55, 3069) (ML 0) Z0 (ZQ E M_X10_init (QG 78 79 0))
  refine E_iload_n dX10_init_130 rfl ?_
  show Ev E 3 M_X10_init 131 [vr 0, vi 8] [vi 8] (Gm 56 57, 55, 3069) (ML 0) Z0 (ZQ E M_X10_init (QG 78 79 0))
  refine E_aload_n dX10_init_131 rfl ?_
  show Ev E 3 M_X10_init 132 [vr 0, vi 8] [vr 0, vi 8] (Gm 56 57, 55, 3069) (ML 0) Z0 (ZQ E M_X10_init (QG 78 79 0))
  refine E_getR (ci := 10) (n := 0) (q := 1) dX10_init_132 wF_RX10_11 (by decide) rfl rfl rfl ?_
  show Ev E 3 M_X10_init 135 [vr 0, vi 8] [vr 1, vi 8] (Gm 56 57, 55, 3069) (ML 0) Z0 (ZQ E M_X10_init (QG 78 79 0))
  refine E_alen (n := 8) (kd := 4) (z := 8) dX10_init_135 rfl (by decide) rfl ?_
  show Ev E 3 M_X10_init 136 [vr 0, vi 8] [vi 8, vi 8] (Gm 56 57, 55, 3069) (ML 0) Z0 (ZQ E M_X10_init (QG 78 79 0))
  refine E_icmp_ge (tgt := 158) dX10_init_136 ⟨by decide, by decide⟩ ⟨by decide, by decide⟩ (fun _ => ?_) (fun h => absurd h (by decide)) (by decide)
  show Ev E 3 M_X10_init 158 [vr 0, vi 8] [] (Gm 56 57, 55, 3069) (ML 0) Z0 (ZQ E M_X10_init (QG 78 79 0))
  refine E_iconst (v := 0) dX10_init_158 rfl ?_
  show Ev E 3 M_X10_init 159 [vr 0, vi 8] [vi 0] (Gm 56 57, 55, 3069) (ML 0) Z0 (ZQ E M_X10_init (QG 78 79 0))
  refine E_istore_n dX10_init_159 rfl (Nat.le_of_ble_eq_true rfl) ?_
  show Ev E 3 M_X10_init 160 [vr 0, vi 0] [] (Gm 56 57, 55, 3069) (ML 0) Z0 (ZQ E M_X10_init (QG 78 79 0))
  refine E_iload_n dX10_init_160 rfl ?_
  show Ev E 3 M_X10_init 161 [vr 0, vi 0] [vi 0] (Gm 56 57, 55, 3069) (ML 0) Z0 (ZQ E M_X10_init (QG 78 79 0))
  refine E_aload_n dX10_init_161 rfl ?_
  show Ev E 3 M_X10_init 162 [vr 0, vi 0] [vr 0, vi 0] (Gm 56 57, 55, 3069) (ML 0) Z0 (ZQ E M_X10_init (QG 78 79 0))
  refine E_getR (ci := 10) (n := 5) (q := 25) dX10_init_162 wF_RX10_45 (by decide) rfl rfl rfl ?_
  show Ev E 3 M_X10_init 165 [vr 0, vi 0] [vr 25, vi 0] (Gm 56 57, 55, 3069) (ML 0) Z0 (ZQ E M_X10_init (QG 78 79 0))
  refine E_alen (n := 2) (kd := 5) (z := 2) dX10_init_165 rfl (by decide) rfl ?_
  show Ev E 3 M_X10_init 166 [vr 0, vi 0] [vi 2, vi 0] (Gm 56 57, 55, 3069) (ML 0) Z0 (ZQ E M_X10_init (QG 78 79 0))
  refine E_icmp_ge (tgt := 188) dX10_init_166 ⟨by decide, by decide⟩ ⟨by decide, by decide⟩ (fun h => absurd h (by decide)) (fun _ => ?_) (by decide)
  show Ev E 3 M_X10_init 169 [vr 0, vi 0] [] (Gm 56 57, 55, 3069) (ML 0) Z0 (ZQ E M_X10_init (QG 78 79 0))
  refine E_aload_n dX10_init_169 rfl ?_
  show Ev E 3 M_X10_init 170 [vr 0, vi 0] [vr 0] (Gm 56 57, 55, 3069) (ML 0) Z0 (ZQ E M_X10_init (QG 78 79 0))
  refine E_getR (ci := 10) (n := 5) (q := 25) dX10_init_170 wF_RX10_45 (by decide) rfl rfl rfl ?_
  show Ev E 3 M_X10_init 173 [vr 0, vi 0] [vr 25] (Gm 56 57, 55, 3069) (ML 0) Z0 (ZQ E M_X10_init (QG 78 79 0))
  refine E_iload_n dX10_init_173 rfl ?_
  show Ev E 3 M_X10_init 174 [vr 0, vi 0] [vi 0, vr 25] (Gm 56 57, 55, 3069) (ML 0) Z0 (ZQ E M_X10_init (QG 78 79 0))
  refine N_new (ci := 7) dX10_init_174 (by decide) wN_RX10_38 wB_7 wI_X7 rfl (by decide) (by decide) (by decide) (by decide) (by decide) ?_
  show Ev E 3 M_X10_init 177 [vr 0, vi 0] [vr 56, vi 0, vr 25] (Gm 57 57, 56, 3071) (ML 0) Z0 (ZQ E M_X10_init (QG 78 79 0))
  refine E_dup dX10_init_177 rfl ?_
  show Ev E 3 M_X10_init 178 [vr 0, vi 0] [vr 56, vr 56, vi 0, vr 25] (Gm 57 57, 56, 3071) (ML 0) Z0 (ZQ E M_X10_init (QG 78 79 0))
  refine E_callIN (as := []) (rest := [vr 56, vi 0, vr 25]) (n := 0) (by decide) k_X7_init_56 dX10_init_178 rfl rfl rfl (host := "SaidByTimes") (cl := RX10) (by decide +kernel) wS_X7_init (by omega) wC_X7_init wI_X7 (by decide +kernel) rfl (by decide) (Nat.le_of_ble_eq_true rfl) (by decide) (by decide) rfl (fun r g' I' L' h => ?_)
  obtain ⟨rfl, rfl, rfl, rfl⟩ := h
  show Ev E 3 M_X10_init 181 [vr 0, vi 0] [vr 56, vi 0, vr 25] (Gm 67 67, 66, 3157) (ML 0) Z0 (ZQ E M_X10_init (QG 78 79 0))
  refine N_aast (kd := 1) (ci := 7) (N := 2) dX10_init_181 rfl (by decide) rfl (by decide) rfl (by decide) (by decide) ⟨by decide, by decide⟩ rfl (by decide) ?_
  show Ev E 3 M_X10_init 182 [vr 0, vi 0] [] (Gm 67 68, 66, 3157) (ML 0) Z0 (ZQ E M_X10_init (QG 78 79 0))
  refine E_iinc dX10_init_182 rfl rfl (Nat.le_of_ble_eq_true rfl) ?_
  show Ev E 3 M_X10_init 185 [vr 0, vi 1] [] (Gm 67 68, 66, 3157) (ML 0) Z0 (ZQ E M_X10_init (QG 78 79 0))
  refine E_goto (tgt := 160) dX10_init_185 (by decide) ?_
  show Ev E 3 M_X10_init 160 [vr 0, vi 1] [] (Gm 67 68, 66, 3157) (ML 0) Z0 (ZQ E M_X10_init (QG 78 79 0))
  refine E_iload_n dX10_init_160 rfl ?_
  show Ev E 3 M_X10_init 161 [vr 0, vi 1] [vi 1] (Gm 67 68, 66, 3157) (ML 0) Z0 (ZQ E M_X10_init (QG 78 79 0))
  refine E_aload_n dX10_init_161 rfl ?_
  show Ev E 3 M_X10_init 162 [vr 0, vi 1] [vr 0, vi 1] (Gm 67 68, 66, 3157) (ML 0) Z0 (ZQ E M_X10_init (QG 78 79 0))
  refine E_getR (ci := 10) (n := 5) (q := 25) dX10_init_162 wF_RX10_45 (by decide) rfl rfl rfl ?_
  show Ev E 3 M_X10_init 165 [vr 0, vi 1] [vr 25, vi 1] (Gm 67 68, 66, 3157) (ML 0) Z0 (ZQ E M_X10_init (QG 78 79 0))
  refine E_alen (n := 2) (kd := 5) (z := 2) dX10_init_165 rfl (by decide) rfl ?_
  show Ev E 3 M_X10_init 166 [vr 0, vi 1] [vi 2, vi 1] (Gm 67 68, 66, 3157) (ML 0) Z0 (ZQ E M_X10_init (QG 78 79 0))
  refine E_icmp_ge (tgt := 188) dX10_init_166 ⟨by decide, by decide⟩ ⟨by decide, by decide⟩ (fun h => absurd h (by decide)) (fun _ => ?_) (by decide)
  show Ev E 3 M_X10_init 169 [vr 0, vi 1] [] (Gm 67 68, 66, 3157) (ML 0) Z0 (ZQ E M_X10_init (QG 78 79 0))
  refine E_aload_n dX10_init_169 rfl ?_
  show Ev E 3 M_X10_init 170 [vr 0, vi 1] [vr 0] (Gm 67 68, 66, 3157) (ML 0) Z0 (ZQ E M_X10_init (QG 78 79 0))
  refine E_getR (ci := 10) (n := 5) (q := 25) dX10_init_170 wF_RX10_45 (by decide) rfl rfl rfl ?_
  show Ev E 3 M_X10_init 173 [vr 0, vi 1] [vr 25] (Gm 67 68, 66, 3157) (ML 0) Z0 (ZQ E M_X10_init (QG 78 79 0))
  refine E_iload_n dX10_init_173 rfl ?_
  show Ev E 3 M_X10_init 174 [vr 0, vi 1] [vi 1, vr 25] (Gm 67 68, 66, 3157) (ML 0) Z0 (ZQ E M_X10_init (QG 78 79 0))
  refine N_new (ci := 7) dX10_init_174 (by decide) wN_RX10_38 wB_7 wI_X7 rfl (by decide) (by decide) (by decide) (by decide) (by decide) ?_
  show Ev E 3 M_X10_init 177 [vr 0, vi 1] [vr 67, vi 1, vr 25] (Gm 68 68, 67, 3159) (ML 0) Z0 (ZQ E M_X10_init (QG 78 79 0))
  refine E_dup dX10_init_177 rfl ?_
  show Ev E 3 M_X10_init 178 [vr 0, vi 1] [vr 67, vr 67, vi 1, vr 25] (Gm 68 68, 67, 3159) (ML 0) Z0 (ZQ E M_X10_init (QG 78 79 0))
  refine E_callIN (as := []) (rest := [vr 67, vi 1, vr 25]) (n := 0) (by decide) k_X7_init_67 dX10_init_178 rfl rfl rfl (host := "SaidByTimes") (cl := RX10) (by decide +kernel) wS_X7_init (by omega) wC_X7_init wI_X7 (by decide +kernel) rfl (by decide) (Nat.le_of_ble_eq_true rfl) (by decide) (by decide) rfl (fun r g' I' L' h => ?_)
  obtain ⟨rfl, rfl, rfl, rfl⟩ := h
  show Ev E 3 M_X10_init 181 [vr 0, vi 1] [vr 67, vi 1, vr 25] (Gm 78 78, 77, 3245) (ML 0) Z0 (ZQ E M_X10_init (QG 78 79 0))
  refine N_aast (kd := 1) (ci := 7) (N := 2) dX10_init_181 rfl (by decide) rfl (by decide) rfl (by decide) (by decide) ⟨by decide, by decide⟩ rfl (by decide) ?_
  show Ev E 3 M_X10_init 182 [vr 0, vi 1] [] (Gm 78 79, 77, 3245) (ML 0) Z0 (ZQ E M_X10_init (QG 78 79 0))
  refine E_iinc dX10_init_182 rfl rfl (Nat.le_of_ble_eq_true rfl) ?_
  show Ev E 3 M_X10_init 185 [vr 0, vi 2] [] (Gm 78 79, 77, 3245) (ML 0) Z0 (ZQ E M_X10_init (QG 78 79 0))
  refine E_goto (tgt := 160) dX10_init_185 (by decide) ?_
  show Ev E 3 M_X10_init 160 [vr 0, vi 2] [] (Gm 78 79, 77, 3245) (ML 0) Z0 (ZQ E M_X10_init (QG 78 79 0))
  refine E_iload_n dX10_init_160 rfl ?_
  show Ev E 3 M_X10_init 161 [vr 0, vi 2] [vi 2] (Gm 78 79, 77, 3245) (ML 0) Z0 (ZQ E M_X10_init (QG 78 79 0))
  refine E_aload_n dX10_init_161 rfl ?_
  show Ev E 3 M_X10_init 162 [vr 0, vi 2] [vr 0, vi 2] (Gm 78 79, 77, 3245) (ML 0) Z0 (ZQ E M_X10_init (QG 78 79 0))
  refine E_getR (ci := 10) (n := 5) (q := 25) dX10_init_162 wF_RX10_45 (by decide) rfl rfl rfl ?_
  show Ev E 3 M_X10_init 165 [vr 0, vi 2] [vr 25, vi 2] (Gm 78 79, 77, 3245) (ML 0) Z0 (ZQ E M_X10_init (QG 78 79 0))
  refine E_alen (n := 2) (kd := 5) (z := 2) dX10_init_165 rfl (by decide) rfl ?_
  show Ev E 3 M_X10_init 166 [vr 0, vi 2] [vi 2, vi 2] (Gm 78 79, 77, 3245) (ML 0) Z0 (ZQ E M_X10_init (QG 78 79 0))
  refine E_icmp_ge (tgt := 188) dX10_init_166 ⟨by decide, by decide⟩ ⟨by decide, by decide⟩ (fun _ => ?_) (fun h => absurd h (by decide)) (by decide)
  show Ev E 3 M_X10_init 188 [vr 0, vi 2] [] (Gm 78 79, 77, 3245) (ML 0) Z0 (ZQ E M_X10_init (QG 78 79 0))
  exact E_return rfl dX10_init_188 ⟨rfl, rfl, rfl, rfl⟩ (by decide) (by decide)
set_option maxHeartbeats 8000000 in
theorem k_X11_init_78 {E : En} : CM E 1 M_X11_init [vr 78] (Gm 79 79) (ML 0) Z0 (QG 94 94 8) := by
  refine CM_of (al := [vr 78]) rfl (Nat.le_of_ble_eq_true rfl) rfl ?_
  refine E_aload_n dX11_init_0 rfl ?_
  show Ev E 1 M_X11_init 1 [vr 78] [vr 78] (Gm 79 79, 0, 0) (ML 0) Z0 (ZQ E M_X11_init (QG 94 94 8))
  refine E_objInit dX11_init_1 wM_RX11_3 wO_1 wO_2 (by omega) (Nat.le_of_ble_eq_true rfl) ?_
  show Ev E 1 M_X11_init 4 [vr 78] [] (Gm 79 79, 0, 0) (ML 0) Z0 (ZQ E M_X11_init (QG 94 94 8))
  refine E_aload_n dX11_init_4 rfl ?_
  show Ev E 1 M_X11_init 5 [vr 78] [vr 78] (Gm 79 79, 0, 0) (ML 0) Z0 (ZQ E M_X11_init (QG 94 94 8))
  refine E_bipush (v := 8) dX11_init_5 rfl ?_
  show Ev E 1 M_X11_init 7 [vr 78] [vi 8, vr 78] (Gm 79 79, 0, 0) (ML 0) Z0 (ZQ E M_X11_init (QG 94 94 8))
  refine N_newaI (N := 8) dX11_init_7 wA_int rfl (by decide) rfl (by decide) (by decide) (by decide) (by decide) (by decide) ?_
  show Ev E 1 M_X11_init 9 [vr 78] [vr 79, vr 78] (Gm 80 79, 1, 8) (ML 0) Z0 (ZQ E M_X11_init (QG 94 94 8))
  refine E_dup dX11_init_9 rfl ?_
  show Ev E 1 M_X11_init 10 [vr 78] [vr 79, vr 79, vr 78] (Gm 80 79, 1, 8) (ML 0) Z0 (ZQ E M_X11_init (QG 94 94 8))
  refine E_iconst (v := 0) dX11_init_10 rfl ?_
  show Ev E 1 M_X11_init 11 [vr 78] [vi 0, vr 79, vr 79, vr 78] (Gm 80 79, 1, 8) (ML 0) Z0 (ZQ E M_X11_init (QG 94 94 8))
  refine E_iconst (v := (-1)) dX11_init_11 rfl ?_
  show Ev E 1 M_X11_init 12 [vr 78] [vi (-1), vi 0, vr 79, vr 79, vr 78] (Gm 80 79, 1, 8) (ML 0) Z0 (ZQ E M_X11_init (QG 94 94 8))
  refine N_iast (N := 8) (j := 0) dX11_init_12 rfl (by decide) ?_
  show Ev E 1 M_X11_init 13 [vr 78] [vr 79, vr 78] (Gm 80 79, 1, 8) (ML 1) Z0 (ZQ E M_X11_init (QG 94 94 8))
  refine E_dup dX11_init_13 rfl ?_
  show Ev E 1 M_X11_init 14 [vr 78] [vr 79, vr 79, vr 78] (Gm 80 79, 1, 8) (ML 1) Z0 (ZQ E M_X11_init (QG 94 94 8))
  refine E_iconst (v := 1) dX11_init_14 rfl ?_
  show Ev E 1 M_X11_init 15 [vr 78] [vi 1, vr 79, vr 79, vr 78] (Gm 80 79, 1, 8) (ML 1) Z0 (ZQ E M_X11_init (QG 94 94 8))
  refine E_iconst (v := (-1)) dX11_init_15 rfl ?_
  show Ev E 1 M_X11_init 16 [vr 78] [vi (-1), vi 1, vr 79, vr 79, vr 78] (Gm 80 79, 1, 8) (ML 1) Z0 (ZQ E M_X11_init (QG 94 94 8))
  refine N_iast (N := 8) (j := 1) dX11_init_16 rfl (by decide) ?_
  show Ev E 1 M_X11_init 17 [vr 78] [vr 79, vr 78] (Gm 80 79, 1, 8) (ML 2) Z0 (ZQ E M_X11_init (QG 94 94 8))
  refine E_dup dX11_init_17 rfl ?_
  show Ev E 1 M_X11_init 18 [vr 78] [vr 79, vr 79, vr 78] (Gm 80 79, 1, 8) (ML 2) Z0 (ZQ E M_X11_init (QG 94 94 8))
  refine E_iconst (v := 2) dX11_init_18 rfl ?_
  show Ev E 1 M_X11_init 19 [vr 78] [vi 2, vr 79, vr 79, vr 78] (Gm 80 79, 1, 8) (ML 2) Z0 (ZQ E M_X11_init (QG 94 94 8))
  refine E_iconst (v := (-1)) dX11_init_19 rfl ?_
  show Ev E 1 M_X11_init 20 [vr 78] [vi (-1), vi 2, vr 79, vr 79, vr 78] (Gm 80 79, 1, 8) (ML 2) Z0 (ZQ E M_X11_init (QG 94 94 8))
  refine N_iast (N := 8) (j := 2) dX11_init_20 rfl (by decide) ?_
  show Ev E 1 M_X11_init 21 [vr 78] [vr 79, vr 78] (Gm 80 79, 1, 8) (ML 3) Z0 (ZQ E M_X11_init (QG 94 94 8))
  refine E_dup dX11_init_21 rfl ?_
  show Ev E 1 M_X11_init 22 [vr 78] [vr 79, vr 79, vr 78] (Gm 80 79, 1, 8) (ML 3) Z0 (ZQ E M_X11_init (QG 94 94 8))
  refine E_iconst (v := 3) dX11_init_22 rfl ?_
  show Ev E 1 M_X11_init 23 [vr 78] [vi 3, vr 79, vr 79, vr 78] (Gm 80 79, 1, 8) (ML 3) Z0 (ZQ E M_X11_init (QG 94 94 8))
  refine E_iconst (v := (-1)) dX11_init_23 rfl ?_
  show Ev E 1 M_X11_init 24 [vr 78] [vi (-1), vi 3, vr 79, vr 79, vr 78] (Gm 80 79, 1, 8) (ML 3) Z0 (ZQ E M_X11_init (QG 94 94 8))
  refine N_iast (N := 8) (j := 3) dX11_init_24 rfl (by decide) ?_
  show Ev E 1 M_X11_init 25 [vr 78] [vr 79, vr 78] (Gm 80 79, 1, 8) (ML 4) Z0 (ZQ E M_X11_init (QG 94 94 8))
  refine E_dup dX11_init_25 rfl ?_
  show Ev E 1 M_X11_init 26 [vr 78] [vr 79, vr 79, vr 78] (Gm 80 79, 1, 8) (ML 4) Z0 (ZQ E M_X11_init (QG 94 94 8))
  refine E_iconst (v := 4) dX11_init_26 rfl ?_
  show Ev E 1 M_X11_init 27 [vr 78] [vi 4, vr 79, vr 79, vr 78] (Gm 80 79, 1, 8) (ML 4) Z0 (ZQ E M_X11_init (QG 94 94 8))
  refine E_iconst (v := (-1)) dX11_init_27 rfl ?_
  show Ev E 1 M_X11_init 28 [vr 78] [vi (-1), vi 4, vr 79, vr 79, vr 78] (Gm 80 79, 1, 8) (ML 4) Z0 (ZQ E M_X11_init (QG 94 94 8))
  refine N_iast (N := 8) (j := 4) dX11_init_28 rfl (by decide) ?_
  show Ev E 1 M_X11_init 29 [vr 78] [vr 79, vr 78] (Gm 80 79, 1, 8) (ML 5) Z0 (ZQ E M_X11_init (QG 94 94 8))
  refine E_dup dX11_init_29 rfl ?_
  show Ev E 1 M_X11_init 30 [vr 78] [vr 79, vr 79, vr 78] (Gm 80 79, 1, 8) (ML 5) Z0 (ZQ E M_X11_init (QG 94 94 8))
  refine E_iconst (v := 5) dX11_init_30 rfl ?_
  show Ev E 1 M_X11_init 31 [vr 78] [vi 5, vr 79, vr 79, vr 78] (Gm 80 79, 1, 8) (ML 5) Z0 (ZQ E M_X11_init (QG 94 94 8))
  refine E_iconst (v := (-1)) dX11_init_31 rfl ?_
  show Ev E 1 M_X11_init 32 [vr 78] [vi (-1), vi 5, vr 79, vr 79, vr 78] (Gm 80 79, 1, 8) (ML 5) Z0 (ZQ E M_X11_init (QG 94 94 8))
  refine N_iast (N := 8) (j := 5) dX11_init_32 rfl (by decide) ?_
  show Ev E 1 M_X11_init 33 [vr 78] [vr 79, vr 78] (Gm 80 79, 1, 8) (ML 6) Z0 (ZQ E M_X11_init (QG 94 94 8))
  refine E_dup dX11_init_33 rfl ?_
  show Ev E 1 M_X11_init 34 [vr 78] [vr 79, vr 79, vr 78] (Gm 80 79, 1, 8) (ML 6) Z0 (ZQ E M_X11_init (QG 94 94 8))
  refine E_bipush (v := 6) dX11_init_34 rfl ?_
  show Ev E 1 M_X11_init 36 [vr 78] [vi 6, vr 79, vr 79, vr 78] (Gm 80 79, 1, 8) (ML 6) Z0 (ZQ E M_X11_init (QG 94 94 8))
  refine E_iconst (v := (-1)) dX11_init_36 rfl ?_
  show Ev E 1 M_X11_init 37 [vr 78] [vi (-1), vi 6, vr 79, vr 79, vr 78] (Gm 80 79, 1, 8) (ML 6) Z0 (ZQ E M_X11_init (QG 94 94 8))
  refine N_iast (N := 8) (j := 6) dX11_init_37 rfl (by decide) ?_
  show Ev E 1 M_X11_init 38 [vr 78] [vr 79, vr 78] (Gm 80 79, 1, 8) (ML 7) Z0 (ZQ E M_X11_init (QG 94 94 8))
  refine E_dup dX11_init_38 rfl ?_
  show Ev E 1 M_X11_init 39 [vr 78] [vr 79, vr 79, vr 78] (Gm 80 79, 1, 8) (ML 7) Z0 (ZQ E M_X11_init (QG 94 94 8))
  refine E_bipush (v := 7) dX11_init_39 rfl ?_
  show Ev E 1 M_X11_init 41 [vr 78] [vi 7, vr 79, vr 79, vr 78] (Gm 80 79, 1, 8) (ML 7) Z0 (ZQ E M_X11_init (QG 94 94 8))
  refine E_iconst (v := (-1)) dX11_init_41 rfl ?_
  show Ev E 1 M_X11_init 42 [vr 78] [vi (-1), vi 7, vr 79, vr 79, vr 78] (Gm 80 79, 1, 8) (ML 7) Z0 (ZQ E M_X11_init (QG 94 94 8))
  refine N_iast (N := 8) (j := 7) dX11_init_42 rfl (by decide) ?_
  show Ev E 1 M_X11_init 43 [vr 78] [vr 79, vr 78] (Gm 80 79, 1, 8) (ML 8) Z0 (ZQ E M_X11_init (QG 94 94 8))
  refine N_put (ci := 11) (i := 2) dX11_init_43 wF_RX11_9 (by decide) rfl rfl rfl rfl rfl rfl (by decide) ?_
  show Ev E 1 M_X11_init 46 [vr 78] [] (Gm 80 80, 1, 8) (ML 8) Z0 (ZQ E M_X11_init (QG 94 94 8))
  refine E_aload_n dX11_init_46 rfl ?_
  show Ev E 1 M_X11_init 47 [vr 78] [vr 78] (Gm 80 80, 1, 8) (ML 8) Z0 (ZQ E M_X11_init (QG 94 94 8))
  refine E_bipush (v := 8) dX11_init_47 rfl ?_
  show Ev E 1 M_X11_init 49 [vr 78] [vi 8, vr 78] (Gm 80 80, 1, 8) (ML 8) Z0 (ZQ E M_X11_init (QG 94 94 8))
  refine N_newaI (N := 8) dX11_init_49 wA_int rfl (by decide) rfl (by decide) (by decide) (by decide) (by decide) (by decide) ?_
  show Ev E 1 M_X11_init 51 [vr 78] [vr 80, vr 78] (Gm 81 80, 2, 16) (ML 8) Z0 (ZQ E M_X11_init (QG 94 94 8))
  refine N_put (ci := 11) (i := 3) dX11_init_51 wF_RX11_13 (by decide) rfl rfl rfl rfl rfl rfl (by decide) ?_
  show Ev E 1 M_X11_init 54 [vr 78] [] (Gm 81 81, 2, 16) (ML 8) Z0 (ZQ E M_X11_init (QG 94 94 8))
  refine E_aload_n dX11_init_54 rfl ?_
  show Ev E 1 M_X11_init 55 [vr 78] [vr 78] (Gm 81 81, 2, 16) (ML 8) Z0 (ZQ E M_X11_init (QG 94 94 8))
  refine E_sipush (v := 320) dX11_init_55 rfl ?_
  show Ev E 1 M_X11_init 58 [vr 78] [vi 320, vr 78] (Gm 81 81, 2, 16) (ML 8) Z0 (ZQ E M_X11_init (QG 94 94 8))
  refine N_newaI (N := 320) dX11_init_58 wA_int rfl (by decide) rfl (by decide) (by decide) (by decide) (by decide) (by decide) ?_
  show Ev E 1 M_X11_init 60 [vr 78] [vr 81, vr 78] (Gm 82 81, 3, 336) (ML 8) Z0 (ZQ E M_X11_init (QG 94 94 8))
  refine N_put (ci := 11) (i := 4) dX11_init_60 wF_RX11_16 (by decide) rfl rfl rfl rfl rfl rfl (by decide) ?_
  show Ev E 1 M_X11_init 63 [vr 78] [] (Gm 82 82, 3, 336) (ML 8) Z0 (ZQ E M_X11_init (QG 94 94 8))
  refine E_aload_n dX11_init_63 rfl ?_
  show Ev E 1 M_X11_init 64 [vr 78] [vr 78] (Gm 82 82, 3, 336) (ML 8) Z0 (ZQ E M_X11_init (QG 94 94 8))
  refine E_bipush (v := 65) dX11_init_64 rfl ?_
  show Ev E 1 M_X11_init 66 [vr 78] [vi 65, vr 78] (Gm 82 82, 3, 336) (ML 8) Z0 (ZQ E M_X11_init (QG 94 94 8))
  refine N_newaI (N := 65) dX11_init_66 wA_int rfl (by decide) rfl (by decide) (by decide) (by decide) (by decide) (by decide) ?_
  show Ev E 1 M_X11_init 68 [vr 78] [vr 82, vr 78] (Gm 83 82, 4, 401) (ML 8) Z0 (ZQ E M_X11_init (QG 94 94 8))
  refine N_put (ci := 11) (i := 5) dX11_init_68 wF_RX11_19 (by decide) rfl rfl rfl rfl rfl rfl (by decide) ?_
  show Ev E 1 M_X11_init 71 [vr 78] [] (Gm 83 83, 4, 401) (ML 8) Z0 (ZQ E M_X11_init (QG 94 94 8))
  refine E_aload_n dX11_init_71 rfl ?_
  show Ev E 1 M_X11_init 72 [vr 78] [vr 78] (Gm 83 83, 4, 401) (ML 8) Z0 (ZQ E M_X11_init (QG 94 94 8))
  refine E_bipush (v := 65) dX11_init_72 rfl ?_
  show Ev E 1 M_X11_init 74 [vr 78] [vi 65, vr 78] (Gm 83 83, 4, 401) (ML 8) Z0 (ZQ E M_X11_init (QG 94 94 8))
  refine N_newaI (N := 65) dX11_init_74 wA_int rfl (by decide) rfl (by decide) (by decide) (by decide) (by decide) (by decide) ?_
  show Ev E 1 M_X11_init 76 [vr 78] [vr 83, vr 78] (Gm 84 83, 5, 466) (ML 8) Z0 (ZQ E M_X11_init (QG 94 94 8))
  refine N_put (ci := 11) (i := 6) dX11_init_76 wF_RX11_22 (by decide) rfl rfl rfl rfl rfl rfl (by decide) ?_
  show Ev E 1 M_X11_init 79 [vr 78] [] (Gm 84 84, 5, 466) (ML 8) Z0 (ZQ E M_X11_init (QG 94 94 8))
  refine E_aload_n dX11_init_79 rfl ?_
  show Ev E 1 M_X11_init 80 [vr 78] [vr 78] (Gm 84 84, 5, 466) (ML 8) Z0 (ZQ E M_X11_init (QG 94 94 8))
  refine E_bipush (v := 8) dX11_init_80 rfl ?_
  show Ev E 1 M_X11_init 82 [vr 78] [vi 8, vr 78] (Gm 84 84, 5, 466) (ML 8) Z0 (ZQ E M_X11_init (QG 94 94 8))
  refine N_newaL (N := 8) dX11_init_82 wA_long rfl (by decide) rfl (by decide) (by decide) (by decide) (by decide) (by decide) ?_
  show Ev E 1 M_X11_init 84 [vr 78] [vr 84, vr 78] (Gm 85 84, 6, 474) (ML 8) Z0 (ZQ E M_X11_init (QG 94 94 8))
  refine N_put (ci := 11) (i := 8) dX11_init_84 wF_RX11_25 (by decide) rfl rfl rfl rfl rfl rfl (by decide) ?_
  show Ev E 1 M_X11_init 87 [vr 78] [] (Gm 85 85, 6, 474) (ML 8) Z0 (ZQ E M_X11_init (QG 94 94 8))
  refine E_aload_n dX11_init_87 rfl ?_
  show Ev E 1 M_X11_init 88 [vr 78] [vr 78] (Gm 85 85, 6, 474) (ML 8) Z0 (ZQ E M_X11_init (QG 94 94 8))
  refine E_sipush (v := 400) dX11_init_88 rfl ?_
  show Ev E 1 M_X11_init 91 [vr 78] [vi 400, vr 78] (Gm 85 85, 6, 474) (ML 8) Z0 (ZQ E M_X11_init (QG 94 94 8))
  refine N_newaI (N := 400) dX11_init_91 wA_int rfl (by decide) rfl (by decide) (by decide) (by decide) (by decide) (by decide) ?_
  show Ev E 1 M_X11_init 93 [vr 78] [vr 85, vr 78] (Gm 86 85, 7, 874) (ML 8) Z0 (ZQ E M_X11_init (QG 94 94 8))
  refine N_put (ci := 11) (i := 9) dX11_init_93 wF_RX11_29 (by decide) rfl rfl rfl rfl rfl rfl (by decide) ?_
  show Ev E 1 M_X11_init 96 [vr 78] [] (Gm 86 86, 7, 874) (ML 8) Z0 (ZQ E M_X11_init (QG 94 94 8))
  refine E_aload_n dX11_init_96 rfl ?_
  show Ev E 1 M_X11_init 97 [vr 78] [vr 78] (Gm 86 86, 7, 874) (ML 8) Z0 (ZQ E M_X11_init (QG 94 94 8))
  refine E_bipush (v := 12) dX11_init_97 rfl ?_
  show Ev E 1 M_X11_init 99 [vr 78] [vi 12, vr 78] (Gm 86 86, 7, 874) (ML 8) Z0 (ZQ E M_X11_init (QG 94 94 8))
  refine N_newaI (N := 12) dX11_init_99 wA_int rfl (by decide) rfl (by decide) (by decide) (by decide) (by decide) (by decide) ?_
  show Ev E 1 M_X11_init 101 [vr 78] [vr 86, vr 78] (Gm 87 86, 8, 886) (ML 8) Z0 (ZQ E M_X11_init (QG 94 94 8))
  refine N_put (ci := 11) (i := 19) dX11_init_101 wF_RX11_32 (by decide) rfl rfl rfl rfl rfl rfl (by decide) ?_
  show Ev E 1 M_X11_init 104 [vr 78] [] (Gm 87 87, 8, 886) (ML 8) Z0 (ZQ E M_X11_init (QG 94 94 8))
  refine E_aload_n dX11_init_104 rfl ?_
  show Ev E 1 M_X11_init 105 [vr 78] [vr 78] (Gm 87 87, 8, 886) (ML 8) Z0 (ZQ E M_X11_init (QG 94 94 8))
  refine E_bipush (v := 6) dX11_init_105 rfl ?_
  show Ev E 1 M_X11_init 107 [vr 78] [vi 6, vr 78] (Gm 87 87, 8, 886) (ML 8) Z0 (ZQ E M_X11_init (QG 94 94 8))
  refine N_newaI (N := 6) dX11_init_107 wA_int rfl (by decide) rfl (by decide) (by decide) (by decide) (by decide) (by decide) ?_
  show Ev E 1 M_X11_init 109 [vr 78] [vr 87, vr 78] (Gm 88 87, 9, 892) (ML 8) Z0 (ZQ E M_X11_init (QG 94 94 8))
  refine N_put (ci := 11) (i := 21) dX11_init_109 wF_RX11_35 (by decide) rfl rfl rfl rfl rfl rfl (by decide) ?_
  show Ev E 1 M_X11_init 112 [vr 78] [] (Gm 88 88, 9, 892) (ML 8) Z0 (ZQ E M_X11_init (QG 94 94 8))
  refine E_aload_n dX11_init_112 rfl ?_
  show Ev E 1 M_X11_init 113 [vr 78] [vr 78] (Gm 88 88, 9, 892) (ML 8) Z0 (ZQ E M_X11_init (QG 94 94 8))
  refine E_bipush (v := 6) dX11_init_113 rfl ?_
  show Ev E 1 M_X11_init 115 [vr 78] [vi 6, vr 78] (Gm 88 88, 9, 892) (ML 8) Z0 (ZQ E M_X11_init (QG 94 94 8))
  refine N_newaI (N := 6) dX11_init_115 wA_int rfl (by decide) rfl (by decide) (by decide) (by decide) (by decide) (by decide) ?_
  show Ev E 1 M_X11_init 117 [vr 78] [vr 88, vr 78] (Gm 89 88, 10, 898) (ML 8) Z0 (ZQ E M_X11_init (QG 94 94 8))
  refine N_put (ci := 11) (i := 22) dX11_init_117 wF_RX11_38 (by decide) rfl rfl rfl rfl rfl rfl (by decide) ?_
  show Ev E 1 M_X11_init 120 [vr 78] [] (Gm 89 89, 10, 898) (ML 8) Z0 (ZQ E M_X11_init (QG 94 94 8))
  refine E_aload_n dX11_init_120 rfl ?_
  show Ev E 1 M_X11_init 121 [vr 78] [vr 78] (Gm 89 89, 10, 898) (ML 8) Z0 (ZQ E M_X11_init (QG 94 94 8))
  refine E_bipush (v := 12) dX11_init_121 rfl ?_
  show Ev E 1 M_X11_init 123 [vr 78] [vi 12, vr 78] (Gm 89 89, 10, 898) (ML 8) Z0 (ZQ E M_X11_init (QG 94 94 8))
  refine N_newaI (N := 12) dX11_init_123 wA_int rfl (by decide) rfl (by decide) (by decide) (by decide) (by decide) (by decide) ?_
  show Ev E 1 M_X11_init 125 [vr 78] [vr 89, vr 78] (Gm 90 89, 11, 910) (ML 8) Z0 (ZQ E M_X11_init (QG 94 94 8))
  refine N_put (ci := 11) (i := 24) dX11_init_125 wF_RX11_41 (by decide) rfl rfl rfl rfl rfl rfl (by decide) ?_
  show Ev E 1 M_X11_init 128 [vr 78] [] (Gm 90 90, 11, 910) (ML 8) Z0 (ZQ E M_X11_init (QG 94 94 8))
  refine E_aload_n dX11_init_128 rfl ?_
  show Ev E 1 M_X11_init 129 [vr 78] [vr 78] (Gm 90 90, 11, 910) (ML 8) Z0 (ZQ E M_X11_init (QG 94 94 8))
  refine E_iconst (v := 2) dX11_init_129 rfl ?_
  show Ev E 1 M_X11_init 130 [vr 78] [vi 2, vr 78] (Gm 90 90, 11, 910) (ML 8) Z0 (ZQ E M_X11_init (QG 94 94 8))
  refine N_newaZ (N := 2) dX11_init_130 wA_boolean rfl (by decide) rfl (by decide) (by decide) (by decide) (by decide) (by decide) ?_
  show Ev E 1 M_X11_init 132 [vr 78] [vr 90, vr 78] (Gm 91 90, 12, 912) (ML 8) Z0 (ZQ E M_X11_init (QG 94 94 8))
  refine N_put (ci := 11) (i := 25) dX11_init_132 wF_RX11_44 (by decide) rfl rfl rfl rfl rfl rfl (by decide) ?_
  show Ev E 1 M_X11_init 135 [vr 78] [] (Gm 91 91, 12, 912) (ML 8) Z0 (ZQ E M_X11_init (QG 94 94 8))
  refine E_aload_n dX11_init_135 rfl ?_
  show Ev E 1 M_X11_init 136 [vr 78] [vr 78] (Gm 91 91, 12, 912) (ML 8) Z0 (ZQ E M_X11_init (QG 94 94 8))
  refine E_sipush (v := 130) dX11_init_136 rfl ?_
  show Ev E 1 M_X11_init 139 [vr 78] [vi 130, vr 78] (Gm 91 91, 12, 912) (ML 8) Z0 (ZQ E M_X11_init (QG 94 94 8))
  refine N_newaI (N := 130) dX11_init_139 wA_int rfl (by decide) rfl (by decide) (by decide) (by decide) (by decide) (by decide) ?_
  show Ev E 1 M_X11_init 141 [vr 78] [vr 91, vr 78] (Gm 92 91, 13, 1042) (ML 8) Z0 (ZQ E M_X11_init (QG 94 94 8))
  refine N_put (ci := 11) (i := 26) dX11_init_141 wF_RX11_48 (by decide) rfl rfl rfl rfl rfl rfl (by decide) ?_
  show Ev E 1 M_X11_init 144 [vr 78] [] (Gm 92 92, 13, 1042) (ML 8) Z0 (ZQ E M_X11_init (QG 94 94 8))
  refine E_aload_n dX11_init_144 rfl ?_
  show Ev E 1 M_X11_init 145 [vr 78] [vr 78] (Gm 92 92, 13, 1042) (ML 8) Z0 (ZQ E M_X11_init (QG 94 94 8))
  refine E_bipush (v := 16) dX11_init_145 rfl ?_
  show Ev E 1 M_X11_init 147 [vr 78] [vi 16, vr 78] (Gm 92 92, 13, 1042) (ML 8) Z0 (ZQ E M_X11_init (QG 94 94 8))
  refine N_newaL (N := 16) dX11_init_147 wA_long rfl (by decide) rfl (by decide) (by decide) (by decide) (by decide) (by decide) ?_
  show Ev E 1 M_X11_init 149 [vr 78] [vr 92, vr 78] (Gm 93 92, 14, 1058) (ML 8) Z0 (ZQ E M_X11_init (QG 94 94 8))
  refine N_put (ci := 11) (i := 27) dX11_init_149 wF_RX11_51 (by decide) rfl rfl rfl rfl rfl rfl (by decide) ?_
  show Ev E 1 M_X11_init 152 [vr 78] [] (Gm 93 93, 14, 1058) (ML 8) Z0 (ZQ E M_X11_init (QG 94 94 8))
  refine E_aload_n dX11_init_152 rfl ?_
  show Ev E 1 M_X11_init 153 [vr 78] [vr 78] (Gm 93 93, 14, 1058) (ML 8) Z0 (ZQ E M_X11_init (QG 94 94 8))
  refine E_bipush (v := 16) dX11_init_153 rfl ?_
  show Ev E 1 M_X11_init 155 [vr 78] [vi 16, vr 78] (Gm 93 93, 14, 1058) (ML 8) Z0 (ZQ E M_X11_init (QG 94 94 8))
  refine N_newaI (N := 16) dX11_init_155 wA_int rfl (by decide) rfl (by decide) (by decide) (by decide) (by decide) (by decide) ?_
  show Ev E 1 M_X11_init 157 [vr 78] [vr 93, vr 78] (Gm 94 93, 15, 1074) (ML 8) Z0 (ZQ E M_X11_init (QG 94 94 8))
  refine N_put (ci := 11) (i := 28) dX11_init_157 wF_RX11_54 (by decide) rfl rfl rfl rfl rfl rfl (by decide) ?_
  show Ev E 1 M_X11_init 160 [vr 78] [] (Gm 94 94, 15, 1074) (ML 8) Z0 (ZQ E M_X11_init (QG 94 94 8))
  exact E_return rfl dX11_init_160 ⟨rfl, rfl, rfl, rfl⟩ (by decide) (by decide)
set_option maxHeartbeats 8000000 in
theorem law_made {E : En} {d : Nat} {Z : Zt} (hd : 4 ≤ d) (k : Ev E d M_L_law 16 [vr 1000, vr 0, vr 78, vu] [] (Gm 94 94, 94, 4362) (ML 8) Z0 Z) : Ev E d M_L_law 0 [vr 1000, vu, vu, vu] [] (Gm 0 0, 0, 0) (ML 0) Z0 Z := by
  refine N_new (ci := 10) dL_law_0 (by decide) wN_RL_7 wB_10 wI_X10 rfl (by decide) (by decide) (by decide) (by decide) (by decide) ?_
  show Ev E d M_L_law 3 [vr 1000, vu, vu, vu] [vr 0] (Gm 1 0, 1, 13) (ML 0) Z0 Z
  refine E_dup dL_law_3 rfl ?_
  show Ev E d M_L_law 4 [vr 1000, vu, vu, vu] [vr 0, vr 0] (Gm 1 0, 1, 13) (ML 0) Z0 Z
  refine E_callI (as := []) (rest := [vr 0]) (n := 0) (by decide) k_X10_init_0 dL_law_4 rfl rfl wM_RL_9 wS_X10_init (by omega) wC_X10_init wI_X10 (by decide +kernel) rfl (by decide) (Nat.le_of_ble_eq_true rfl) (by decide) (by decide) rfl (fun r g' I' L' h => ?_)
  obtain ⟨rfl, rfl, rfl, rfl⟩ := h
  show Ev E d M_L_law 7 [vr 1000, vu, vu, vu] [vr 0] (Gm 78 79, 78, 3258) (ML 0) Z0 Z
  refine E_astore_n dL_law_7 rfl (Nat.le_of_ble_eq_true rfl) ?_
  show Ev E d M_L_law 8 [vr 1000, vr 0, vu, vu] [] (Gm 78 79, 78, 3258) (ML 0) Z0 Z
  refine N_new (ci := 11) dL_law_8 (by decide) wN_RL_10 wB_11 wI_X11 rfl (by decide) (by decide) (by decide) (by decide) (by decide) ?_
  show Ev E d M_L_law 11 [vr 1000, vr 0, vu, vu] [vr 78] (Gm 79 79, 79, 3288) (ML 0) Z0 Z
  refine E_dup dL_law_11 rfl ?_
  show Ev E d M_L_law 12 [vr 1000, vr 0, vu, vu] [vr 78, vr 78] (Gm 79 79, 79, 3288) (ML 0) Z0 Z
  refine E_callI (as := []) (rest := [vr 78]) (n := 0) (by decide) k_X11_init_78 dL_law_12 rfl rfl wM_RL_12 wS_X11_init (by omega) wC_X11_init wI_X11 (by decide +kernel) rfl (by decide) (Nat.le_of_ble_eq_true rfl) (by decide) (by decide) rfl (fun r g' I' L' h => ?_)
  obtain ⟨rfl, rfl, rfl, rfl⟩ := h
  show Ev E d M_L_law 15 [vr 1000, vr 0, vu, vu] [vr 78] (Gm 94 94, 94, 4362) (ML 8) Z0 Z
  refine E_astore_n dL_law_15 rfl (Nat.le_of_ble_eq_true rfl) ?_
  show Ev E d M_L_law 16 [vr 1000, vr 0, vr 78, vu] [] (Gm 94 94, 94, 4362) (ML 8) Z0 Z
  exact k
