def P_X5_init (G : gb_G) : Nat → va_W → Prop := fun q u => ∃ q1 q2 q3 : Nat, u = [(q, (.inr (5, [.ref q1, .ref q2, .ref q3, .int (nI 0), .int (nI 6), .int (nI 0), .int (nI 0)]))), (q1, (IN G 24 (fun _ => 0))), (q2, (IN G 3 (fun _ => 0))), (q3, (IN G 3 (fun _ => 0)))]
set_option maxRecDepth 100000 in
set_option maxHeartbeats 4000000 in
theorem i_X5_init {G : gb_G} (hty : gb_ty G) : Ci G 1 yX5_init cX5_init 1 3 30 (.inr (5, [.null, .null, .null, .int 0, .int 0, .int 0, .int 0])) (P_X5_init G) := by
  refine Ci.of hty (by decide) rfl (by decide) ?_
  intro X q Qf O hin2 hcw hXc hXs hret
  have O : gC G X (va_A [(q, (.inr (5, [.null, .null, .null, .int 0, .int 0, .int 0, .int 0])))] X.2.2.2.1.heap.size) cX5_init 1 RX5 1 := O
  refine l_aload_n (n := 1) O dX5_init_0 rfl rfl rfl ?_
  refine l_oinit (n := 4) O dX5_init_1 ul_X5_3 (by decide) (by decide) rfl ?_
  refine l_aload_n (n := 5) O dX5_init_4 rfl rfl rfl ?_
  refine l_bipush (n := 7) O dX5_init_5 (v := (nI 24)) (by decide) rfl ?_
  refine l_newi (n := 9) (z := 24) O dX5_init_7 (by decide) (by rw [hXc]; decide) (by rw [hXs]; decide) rfl (fun q1 => ?_)
  refine l_ws (ws' := [(q, (.inr (5, [.null, .null, .null, .int 0, .int 0, .int 0, .int 0]))), (q1, (IN G 24 (fun _ => 0)))]) rfl ?_
  refine l_putF (n := 12) (ws' := [(q, (.inr (5, [.ref q1, .null, .null, .int 0, .int 0, .int 0, .int 0]))), (q1, (IN G 24 (fun _ => 0)))]) O hin2 0 0 dX5_init_9 tyX5 uX5 tyX5_ok nmX5 rfl rfl (by decide) uf_X5_9 rfl (tyX5_ok 0 (by decide)) rfl rfl (Nat.le_of_ble_eq_true rfl) rfl rfl rfl ?_
  refine l_aload_n (n := 13) O dX5_init_12 rfl rfl rfl ?_
  refine l_iconst (n := 14) O dX5_init_13 (v := (nI 3)) (by decide) rfl ?_
  refine l_newi (n := 16) (z := 3) O dX5_init_14 (by decide) (by rw [hXc]; decide) (by rw [hXs]; decide) rfl (fun q2 => ?_)
  refine l_ws (ws' := [(q, (.inr (5, [.ref q1, .null, .null, .int 0, .int 0, .int 0, .int 0]))), (q1, (IN G 24 (fun _ => 0))), (q2, (IN G 3 (fun _ => 0)))]) rfl ?_
  refine l_putF (n := 19) (ws' := [(q, (.inr (5, [.ref q1, .ref q2, .null, .int 0, .int 0, .int 0, .int 0]))), (q1, (IN G 24 (fun _ => 0))), (q2, (IN G 3 (fun _ => 0)))]) O hin2 0 1 dX5_init_16 tyX5 uX5 tyX5_ok nmX5 rfl rfl (by decide) uf_X5_15 rfl (tyX5_ok 1 (by decide)) rfl rfl (Nat.le_of_ble_eq_true rfl) rfl rfl rfl ?_
  refine l_aload_n (n := 20) O dX5_init_19 rfl rfl rfl ?_
  refine l_iconst (n := 21) O dX5_init_20 (v := (nI 3)) (by decide) rfl ?_
  refine l_newi (n := 23) (z := 3) O dX5_init_21 (by decide) (by rw [hXc]; decide) (by rw [hXs]; decide) rfl (fun q3 => ?_)
  refine l_ws (ws' := [(q, (.inr (5, [.ref q1, .ref q2, .null, .int 0, .int 0, .int 0, .int 0]))), (q1, (IN G 24 (fun _ => 0))), (q2, (IN G 3 (fun _ => 0))), (q3, (IN G 3 (fun _ => 0)))]) rfl ?_
  refine l_putF (n := 26) (ws' := [(q, (.inr (5, [.ref q1, .ref q2, .ref q3, .int 0, .int 0, .int 0, .int 0]))), (q1, (IN G 24 (fun _ => 0))), (q2, (IN G 3 (fun _ => 0))), (q3, (IN G 3 (fun _ => 0)))]) O hin2 0 2 dX5_init_23 tyX5 uX5 tyX5_ok nmX5 rfl rfl (by decide) uf_X5_18 rfl (tyX5_ok 2 (by decide)) rfl rfl (Nat.le_of_ble_eq_true rfl) rfl rfl rfl ?_
  refine l_aload_n (n := 27) O dX5_init_26 rfl rfl rfl ?_
  refine l_iconst (n := 28) O dX5_init_27 (v := (nI 0)) (by decide) rfl ?_
  refine l_put (n := 31) (ws' := [(q, (.inr (5, [.ref q1, .ref q2, .ref q3, .int (nI 0), .int 0, .int 0, .int 0]))), (q1, (IN G 24 (fun _ => 0))), (q2, (IN G 3 (fun _ => 0))), (q3, (IN G 3 (fun _ => 0)))]) O 0 3 dX5_init_28 tyX5 uX5 tyX5_ok nmX5 rfl rfl (by decide) uf_X5_21 (tyX5_ok 3 (by decide)) rfl rfl (Nat.le_of_ble_eq_true rfl) rfl rfl rfl ?_
  refine l_aload_n (n := 32) O dX5_init_31 rfl rfl rfl ?_
  refine l_bipush (n := 34) O dX5_init_32 (v := (nI 6)) (by decide) rfl ?_
  refine l_put (n := 37) (ws' := [(q, (.inr (5, [.ref q1, .ref q2, .ref q3, .int (nI 0), .int (nI 6), .int 0, .int 0]))), (q1, (IN G 24 (fun _ => 0))), (q2, (IN G 3 (fun _ => 0))), (q3, (IN G 3 (fun _ => 0)))]) O 0 4 dX5_init_34 tyX5 uX5 tyX5_ok nmX5 rfl rfl (by decide) uf_X5_25 (tyX5_ok 4 (by decide)) rfl rfl (Nat.le_of_ble_eq_true rfl) rfl rfl rfl ?_
  refine l_aload_n (n := 38) O dX5_init_37 rfl rfl rfl ?_
  refine l_iconst (n := 39) O dX5_init_38 (v := (nI 0)) (by decide) rfl ?_
  refine l_put (n := 42) (ws' := [(q, (.inr (5, [.ref q1, .ref q2, .ref q3, .int (nI 0), .int (nI 6), .int (nI 0), .int 0]))), (q1, (IN G 24 (fun _ => 0))), (q2, (IN G 3 (fun _ => 0))), (q3, (IN G 3 (fun _ => 0)))]) O 0 5 dX5_init_39 tyX5 uX5 tyX5_ok nmX5 rfl rfl (by decide) uf_X5_28 (tyX5_ok 5 (by decide)) rfl rfl (Nat.le_of_ble_eq_true rfl) rfl rfl rfl ?_
  refine l_aload_n (n := 43) O dX5_init_42 rfl rfl rfl ?_
  refine l_iconst (n := 44) O dX5_init_43 (v := (nI 0)) (by decide) rfl ?_
  refine l_put (n := 47) (ws' := [(q, (.inr (5, [.ref q1, .ref q2, .ref q3, .int (nI 0), .int (nI 6), .int (nI 0), .int (nI 0)]))), (q1, (IN G 24 (fun _ => 0))), (q2, (IN G 3 (fun _ => 0))), (q3, (IN G 3 (fun _ => 0)))]) O 0 6 dX5_init_44 tyX5 uX5 tyX5_ok nmX5 rfl rfl (by decide) uf_X5_31 (tyX5_ok 6 (by decide)) rfl rfl (Nat.le_of_ble_eq_true rfl) rfl rfl rfl ?_
  refine l_wide (k2 := 3) (n2 := 30) (by decide) (by decide) ?_
  exact hret _ 47 _ dX5_init_47 ⟨q1, q2, q3, rfl⟩
def P_X1_init (G : gb_G) : Nat → va_W → Prop := fun q u => ∃ q1 q2 : Nat, u = [(q, (.inr (1, [.ref q1, .ref q2, .int (nI 0)]))), (q1, (IN G 4 (fun _ => 0))), (q2, (IN G 4 (fun _ => 0)))]
set_option maxRecDepth 100000 in
set_option maxHeartbeats 4000000 in
theorem i_X1_init {G : gb_G} (hty : gb_ty G) : Ci G 1 yX1_init cX1_init 1 2 8 (.inr (1, [.null, .null, .int 0])) (P_X1_init G) := by
  refine Ci.of hty (by decide) rfl (by decide) ?_
  intro X q Qf O hin2 hcw hXc hXs hret
  have O : gC G X (va_A [(q, (.inr (1, [.null, .null, .int 0])))] X.2.2.2.1.heap.size) cX1_init 1 RX1 1 := O
  refine l_aload_n (n := 1) O dX1_init_0 rfl rfl rfl ?_
  refine l_oinit (n := 4) O dX1_init_1 ul_X1_3 (by decide) (by decide) rfl ?_
  refine l_aload_n (n := 5) O dX1_init_4 rfl rfl rfl ?_
  refine l_iconst (n := 6) O dX1_init_5 (v := (nI 4)) (by decide) rfl ?_
  refine l_newi (n := 8) (z := 4) O dX1_init_6 (by decide) (by rw [hXc]; decide) (by rw [hXs]; decide) rfl (fun q1 => ?_)
  refine l_ws (ws' := [(q, (.inr (1, [.null, .null, .int 0]))), (q1, (IN G 4 (fun _ => 0)))]) rfl ?_
  refine l_putF (n := 11) (ws' := [(q, (.inr (1, [.ref q1, .null, .int 0]))), (q1, (IN G 4 (fun _ => 0)))]) O hin2 0 0 dX1_init_8 tyX1 uX1 tyX1_ok nmX1 rfl rfl (by decide) uf_X1_9 rfl (tyX1_ok 0 (by decide)) rfl rfl (Nat.le_of_ble_eq_true rfl) rfl rfl rfl ?_
  refine l_aload_n (n := 12) O dX1_init_11 rfl rfl rfl ?_
  refine l_iconst (n := 13) O dX1_init_12 (v := (nI 4)) (by decide) rfl ?_
  refine l_newi (n := 15) (z := 4) O dX1_init_13 (by decide) (by rw [hXc]; decide) (by rw [hXs]; decide) rfl (fun q2 => ?_)
  refine l_ws (ws' := [(q, (.inr (1, [.ref q1, .null, .int 0]))), (q1, (IN G 4 (fun _ => 0))), (q2, (IN G 4 (fun _ => 0)))]) rfl ?_
  refine l_putF (n := 18) (ws' := [(q, (.inr (1, [.ref q1, .ref q2, .int 0]))), (q1, (IN G 4 (fun _ => 0))), (q2, (IN G 4 (fun _ => 0)))]) O hin2 0 1 dX1_init_15 tyX1 uX1 tyX1_ok nmX1 rfl rfl (by decide) uf_X1_15 rfl (tyX1_ok 1 (by decide)) rfl rfl (Nat.le_of_ble_eq_true rfl) rfl rfl rfl ?_
  refine l_aload_n (n := 19) O dX1_init_18 rfl rfl rfl ?_
  refine l_iconst (n := 20) O dX1_init_19 (v := (nI 0)) (by decide) rfl ?_
  refine l_put (n := 23) (ws' := [(q, (.inr (1, [.ref q1, .ref q2, .int (nI 0)]))), (q1, (IN G 4 (fun _ => 0))), (q2, (IN G 4 (fun _ => 0)))]) O 0 2 dX1_init_20 tyX1 uX1 tyX1_ok nmX1 rfl rfl (by decide) uf_X1_18 (tyX1_ok 2 (by decide)) rfl rfl (Nat.le_of_ble_eq_true rfl) rfl rfl rfl ?_
  refine l_wide (k2 := 2) (n2 := 8) (by decide) (by decide) ?_
  exact hret _ 23 _ dX1_init_23 ⟨q1, q2, rfl⟩
def P_X4_init (G : gb_G) : Nat → va_W → Prop := fun q u => ∃ q1 : Nat, u = [(q, (.inr (4, [.ref q1, .int (nI 0), .int (nI 0), .int (nI 1), .int (nI 0), .int (nI 0)]))), (q1, (IN G 160 (fun _ => 0)))]
set_option maxRecDepth 100000 in
set_option maxHeartbeats 4000000 in
theorem i_X4_init {G : gb_G} (hty : gb_ty G) : Ci G 1 yX4_init cX4_init 1 1 160 (.inr (4, [.null, .int 0, .int 0, .int 0, .int 0, .int 0])) (P_X4_init G) := by
  refine Ci.of hty (by decide) rfl (by decide) ?_
  intro X q Qf O hin2 hcw hXc hXs hret
  have O : gC G X (va_A [(q, (.inr (4, [.null, .int 0, .int 0, .int 0, .int 0, .int 0])))] X.2.2.2.1.heap.size) cX4_init 1 RX4 1 := O
  refine l_aload_n (n := 1) O dX4_init_0 rfl rfl rfl ?_
  refine l_oinit (n := 4) O dX4_init_1 ul_X4_3 (by decide) (by decide) rfl ?_
  refine l_aload_n (n := 5) O dX4_init_4 rfl rfl rfl ?_
  refine l_sipush (n := 8) O dX4_init_5 (v := (nI 160)) (by decide) rfl ?_
  refine l_newi (n := 10) (z := 160) O dX4_init_8 (by decide) (by rw [hXc]; decide) (by rw [hXs]; decide) rfl (fun q1 => ?_)
  refine l_ws (ws' := [(q, (.inr (4, [.null, .int 0, .int 0, .int 0, .int 0, .int 0]))), (q1, (IN G 160 (fun _ => 0)))]) rfl ?_
  refine l_putF (n := 13) (ws' := [(q, (.inr (4, [.ref q1, .int 0, .int 0, .int 0, .int 0, .int 0]))), (q1, (IN G 160 (fun _ => 0)))]) O hin2 0 0 dX4_init_10 tyX4 uX4 tyX4_ok nmX4 rfl rfl (by decide) uf_X4_9 rfl (tyX4_ok 0 (by decide)) rfl rfl (Nat.le_of_ble_eq_true rfl) rfl rfl rfl ?_
  refine l_aload_n (n := 14) O dX4_init_13 rfl rfl rfl ?_
  refine l_iconst (n := 15) O dX4_init_14 (v := (nI 0)) (by decide) rfl ?_
  refine l_put (n := 18) (ws' := [(q, (.inr (4, [.ref q1, .int (nI 0), .int 0, .int 0, .int 0, .int 0]))), (q1, (IN G 160 (fun _ => 0)))]) O 0 1 dX4_init_15 tyX4 uX4 tyX4_ok nmX4 rfl rfl (by decide) uf_X4_15 (tyX4_ok 1 (by decide)) rfl rfl (Nat.le_of_ble_eq_true rfl) rfl rfl rfl ?_
  refine l_aload_n (n := 19) O dX4_init_18 rfl rfl rfl ?_
  refine l_iconst (n := 20) O dX4_init_19 (v := (nI 0)) (by decide) rfl ?_
  refine l_put (n := 23) (ws' := [(q, (.inr (4, [.ref q1, .int (nI 0), .int (nI 0), .int 0, .int 0, .int 0]))), (q1, (IN G 160 (fun _ => 0)))]) O 0 2 dX4_init_20 tyX4 uX4 tyX4_ok nmX4 rfl rfl (by decide) uf_X4_19 (tyX4_ok 2 (by decide)) rfl rfl (Nat.le_of_ble_eq_true rfl) rfl rfl rfl ?_
  refine l_aload_n (n := 24) O dX4_init_23 rfl rfl rfl ?_
  refine l_iconst (n := 25) O dX4_init_24 (v := (nI 1)) (by decide) rfl ?_
  refine l_put (n := 28) (ws' := [(q, (.inr (4, [.ref q1, .int (nI 0), .int (nI 0), .int (nI 1), .int 0, .int 0]))), (q1, (IN G 160 (fun _ => 0)))]) O 0 3 dX4_init_25 tyX4 uX4 tyX4_ok nmX4 rfl rfl (by decide) uf_X4_22 (tyX4_ok 3 (by decide)) rfl rfl (Nat.le_of_ble_eq_true rfl) rfl rfl rfl ?_
  refine l_aload_n (n := 29) O dX4_init_28 rfl rfl rfl ?_
  refine l_iconst (n := 30) O dX4_init_29 (v := (nI 0)) (by decide) rfl ?_
  refine l_put (n := 33) (ws' := [(q, (.inr (4, [.ref q1, .int (nI 0), .int (nI 0), .int (nI 1), .int (nI 0), .int 0]))), (q1, (IN G 160 (fun _ => 0)))]) O 0 4 dX4_init_30 tyX4 uX4 tyX4_ok nmX4 rfl rfl (by decide) uf_X4_25 (tyX4_ok 4 (by decide)) rfl rfl (Nat.le_of_ble_eq_true rfl) rfl rfl rfl ?_
  refine l_aload_n (n := 34) O dX4_init_33 rfl rfl rfl ?_
  refine l_iconst (n := 35) O dX4_init_34 (v := (nI 0)) (by decide) rfl ?_
  refine l_put (n := 38) (ws' := [(q, (.inr (4, [.ref q1, .int (nI 0), .int (nI 0), .int (nI 1), .int (nI 0), .int (nI 0)]))), (q1, (IN G 160 (fun _ => 0)))]) O 0 5 dX4_init_35 tyX4 uX4 tyX4_ok nmX4 rfl rfl (by decide) uf_X4_28 (tyX4_ok 5 (by decide)) rfl rfl (Nat.le_of_ble_eq_true rfl) rfl rfl rfl ?_
  refine l_wide (k2 := 1) (n2 := 160) (by decide) (by decide) ?_
  exact hret _ 38 _ dX4_init_38 ⟨q1, rfl⟩
def P_X3_init (G : gb_G) : Nat → va_W → Prop := fun q u => ∃ q1 : Nat, u = [(q, (.inr (3, [.ref q1, .int (-1), .int (nI 0), .int (nI 0)]))), (q1, (IN G 40 (fun _ => 0)))]
set_option maxRecDepth 100000 in
set_option maxHeartbeats 4000000 in
theorem i_X3_init {G : gb_G} (hty : gb_ty G) : Ci G 1 yX3_init cX3_init 1 1 40 (.inr (3, [.null, .int 0, .int 0, .int 0])) (P_X3_init G) := by
  refine Ci.of hty (by decide) rfl (by decide) ?_
  intro X q Qf O hin2 hcw hXc hXs hret
  have O : gC G X (va_A [(q, (.inr (3, [.null, .int 0, .int 0, .int 0])))] X.2.2.2.1.heap.size) cX3_init 1 RX3 1 := O
  refine l_aload_n (n := 1) O dX3_init_0 rfl rfl rfl ?_
  refine l_oinit (n := 4) O dX3_init_1 ul_X3_3 (by decide) (by decide) rfl ?_
  refine l_aload_n (n := 5) O dX3_init_4 rfl rfl rfl ?_
  refine l_bipush (n := 7) O dX3_init_5 (v := (nI 40)) (by decide) rfl ?_
  refine l_newi (n := 9) (z := 40) O dX3_init_7 (by decide) (by rw [hXc]; decide) (by rw [hXs]; decide) rfl (fun q1 => ?_)
  refine l_ws (ws' := [(q, (.inr (3, [.null, .int 0, .int 0, .int 0]))), (q1, (IN G 40 (fun _ => 0)))]) rfl ?_
  refine l_putF (n := 12) (ws' := [(q, (.inr (3, [.ref q1, .int 0, .int 0, .int 0]))), (q1, (IN G 40 (fun _ => 0)))]) O hin2 0 0 dX3_init_9 tyX3 uX3 tyX3_ok nmX3 rfl rfl (by decide) uf_X3_9 rfl (tyX3_ok 0 (by decide)) rfl rfl (Nat.le_of_ble_eq_true rfl) rfl rfl rfl ?_
  refine l_aload_n (n := 13) O dX3_init_12 rfl rfl rfl ?_
  refine l_iconst (n := 14) O dX3_init_13 (v := (-1)) (by decide) rfl ?_
  refine l_put (n := 17) (ws' := [(q, (.inr (3, [.ref q1, .int (-1), .int 0, .int 0]))), (q1, (IN G 40 (fun _ => 0)))]) O 0 1 dX3_init_14 tyX3 uX3 tyX3_ok nmX3 rfl rfl (by decide) uf_X3_15 (tyX3_ok 1 (by decide)) rfl rfl (Nat.le_of_ble_eq_true rfl) rfl rfl rfl ?_
  refine l_aload_n (n := 18) O dX3_init_17 rfl rfl rfl ?_
  refine l_iconst (n := 19) O dX3_init_18 (v := (nI 0)) (by decide) rfl ?_
  refine l_put (n := 22) (ws' := [(q, (.inr (3, [.ref q1, .int (-1), .int (nI 0), .int 0]))), (q1, (IN G 40 (fun _ => 0)))]) O 0 2 dX3_init_19 tyX3 uX3 tyX3_ok nmX3 rfl rfl (by decide) uf_X3_19 (tyX3_ok 2 (by decide)) rfl rfl (Nat.le_of_ble_eq_true rfl) rfl rfl rfl ?_
  refine l_aload_n (n := 23) O dX3_init_22 rfl rfl rfl ?_
  refine l_iconst (n := 24) O dX3_init_23 (v := (nI 0)) (by decide) rfl ?_
  refine l_put (n := 27) (ws' := [(q, (.inr (3, [.ref q1, .int (-1), .int (nI 0), .int (nI 0)]))), (q1, (IN G 40 (fun _ => 0)))]) O 0 3 dX3_init_24 tyX3 uX3 tyX3_ok nmX3 rfl rfl (by decide) uf_X3_22 (tyX3_ok 3 (by decide)) rfl rfl (Nat.le_of_ble_eq_true rfl) rfl rfl rfl ?_
  refine l_wide (k2 := 1) (n2 := 40) (by decide) (by decide) ?_
  exact hret _ 27 _ dX3_init_27 ⟨q1, rfl⟩
def P_X0_init (G : gb_G) : Nat → va_W → Prop := fun q u => ∃ q1 q2 q3 q4 q5 q6 q7 q8 q9 q10 : Nat, u = [(q, (.inr (0, [.ref q1, .ref q2, .int (nI 0), .int (nI 0), .int (-4), .ref q3, .ref q4, .ref q5, .ref q6, .ref q7, .ref q8, .ref q9, .ref q10, .int (nI 0), .int (nI 0)]))), (q1, (IN G 6 (fun _ => 0))), (q2, (IN G 6 (fun _ => 0))), (q3, (IN G 4 (fun _ => 0))), (q4, (IN G 4 (fun _ => 0))), (q5, (IN G 90 (fun _ => 0))), (q6, (IN G 40 (fun _ => 0))), (q7, (IN G 4 (fun _ => 0))), (q8, (IN G 4 (fun _ => 0))), (q9, (IN G 3 (fun _ => 0))), (q10, (IN G 4 (fun _ => 0)))]
set_option maxRecDepth 100000 in
set_option maxHeartbeats 4000000 in
theorem i_X0_init {G : gb_G} (hty : gb_ty G) : Ci G 1 yX0_init cX0_init 1 10 165 (.inr (0, [.null, .null, .int 0, .int 0, .int 0, .null, .null, .null, .null, .null, .null, .null, .null, .int 0, .int 0])) (P_X0_init G) := by
  refine Ci.of hty (by decide) rfl (by decide) ?_
  intro X q Qf O hin2 hcw hXc hXs hret
  have O : gC G X (va_A [(q, (.inr (0, [.null, .null, .int 0, .int 0, .int 0, .null, .null, .null, .null, .null, .null, .null, .null, .int 0, .int 0])))] X.2.2.2.1.heap.size) cX0_init 1 RX0 1 := O
  refine l_aload_n (n := 1) O dX0_init_0 rfl rfl rfl ?_
  refine l_oinit (n := 4) O dX0_init_1 ul_X0_3 (by decide) (by decide) rfl ?_
  refine l_aload_n (n := 5) O dX0_init_4 rfl rfl rfl ?_
  refine l_bipush (n := 7) O dX0_init_5 (v := (nI 6)) (by decide) rfl ?_
  refine l_newi (n := 9) (z := 6) O dX0_init_7 (by decide) (by rw [hXc]; decide) (by rw [hXs]; decide) rfl (fun q1 => ?_)
  refine l_ws (ws' := [(q, (.inr (0, [.null, .null, .int 0, .int 0, .int 0, .null, .null, .null, .null, .null, .null, .null, .null, .int 0, .int 0]))), (q1, (IN G 6 (fun _ => 0)))]) rfl ?_
  refine l_putF (n := 12) (ws' := [(q, (.inr (0, [.ref q1, .null, .int 0, .int 0, .int 0, .null, .null, .null, .null, .null, .null, .null, .null, .int 0, .int 0]))), (q1, (IN G 6 (fun _ => 0)))]) O hin2 0 0 dX0_init_9 tyX0 uX0 tyX0_ok nmX0 rfl rfl (by decide) uf_X0_9 rfl (tyX0_ok 0 (by decide)) rfl rfl (Nat.le_of_ble_eq_true rfl) rfl rfl rfl ?_
  refine l_aload_n (n := 13) O dX0_init_12 rfl rfl rfl ?_
  refine l_bipush (n := 15) O dX0_init_13 (v := (nI 6)) (by decide) rfl ?_
  refine l_newi (n := 17) (z := 6) O dX0_init_15 (by decide) (by rw [hXc]; decide) (by rw [hXs]; decide) rfl (fun q2 => ?_)
  refine l_ws (ws' := [(q, (.inr (0, [.ref q1, .null, .int 0, .int 0, .int 0, .null, .null, .null, .null, .null, .null, .null, .null, .int 0, .int 0]))), (q1, (IN G 6 (fun _ => 0))), (q2, (IN G 6 (fun _ => 0)))]) rfl ?_
  refine l_putF (n := 20) (ws' := [(q, (.inr (0, [.ref q1, .ref q2, .int 0, .int 0, .int 0, .null, .null, .null, .null, .null, .null, .null, .null, .int 0, .int 0]))), (q1, (IN G 6 (fun _ => 0))), (q2, (IN G 6 (fun _ => 0)))]) O hin2 0 1 dX0_init_17 tyX0 uX0 tyX0_ok nmX0 rfl rfl (by decide) uf_X0_15 rfl (tyX0_ok 1 (by decide)) rfl rfl (Nat.le_of_ble_eq_true rfl) rfl rfl rfl ?_
  refine l_aload_n (n := 21) O dX0_init_20 rfl rfl rfl ?_
  refine l_iconst (n := 22) O dX0_init_21 (v := (nI 0)) (by decide) rfl ?_
  refine l_put (n := 25) (ws' := [(q, (.inr (0, [.ref q1, .ref q2, .int (nI 0), .int 0, .int 0, .null, .null, .null, .null, .null, .null, .null, .null, .int 0, .int 0]))), (q1, (IN G 6 (fun _ => 0))), (q2, (IN G 6 (fun _ => 0)))]) O 0 2 dX0_init_22 tyX0 uX0 tyX0_ok nmX0 rfl rfl (by decide) uf_X0_18 (tyX0_ok 2 (by decide)) rfl rfl (Nat.le_of_ble_eq_true rfl) rfl rfl rfl ?_
  refine l_aload_n (n := 26) O dX0_init_25 rfl rfl rfl ?_
  refine l_iconst (n := 27) O dX0_init_26 (v := (nI 0)) (by decide) rfl ?_
  refine l_put (n := 30) (ws' := [(q, (.inr (0, [.ref q1, .ref q2, .int (nI 0), .int (nI 0), .int 0, .null, .null, .null, .null, .null, .null, .null, .null, .int 0, .int 0]))), (q1, (IN G 6 (fun _ => 0))), (q2, (IN G 6 (fun _ => 0)))]) O 0 3 dX0_init_27 tyX0 uX0 tyX0_ok nmX0 rfl rfl (by decide) uf_X0_22 (tyX0_ok 3 (by decide)) rfl rfl (Nat.le_of_ble_eq_true rfl) rfl rfl rfl ?_
  refine l_aload_n (n := 31) O dX0_init_30 rfl rfl rfl ?_
  refine l_bipush (n := 33) O dX0_init_31 (v := (-4)) (by decide) rfl ?_
  refine l_put (n := 36) (ws' := [(q, (.inr (0, [.ref q1, .ref q2, .int (nI 0), .int (nI 0), .int (-4), .null, .null, .null, .null, .null, .null, .null, .null, .int 0, .int 0]))), (q1, (IN G 6 (fun _ => 0))), (q2, (IN G 6 (fun _ => 0)))]) O 0 4 dX0_init_33 tyX0 uX0 tyX0_ok nmX0 rfl rfl (by decide) uf_X0_25 (tyX0_ok 4 (by decide)) rfl rfl (Nat.le_of_ble_eq_true rfl) rfl rfl rfl ?_
  refine l_aload_n (n := 37) O dX0_init_36 rfl rfl rfl ?_
  refine l_iconst (n := 38) O dX0_init_37 (v := (nI 4)) (by decide) rfl ?_
  refine l_newi (n := 40) (z := 4) O dX0_init_38 (by decide) (by rw [hXc]; decide) (by rw [hXs]; decide) rfl (fun q3 => ?_)
  refine l_ws (ws' := [(q, (.inr (0, [.ref q1, .ref q2, .int (nI 0), .int (nI 0), .int (-4), .null, .null, .null, .null, .null, .null, .null, .null, .int 0, .int 0]))), (q1, (IN G 6 (fun _ => 0))), (q2, (IN G 6 (fun _ => 0))), (q3, (IN G 4 (fun _ => 0)))]) rfl ?_
  refine l_putF (n := 43) (ws' := [(q, (.inr (0, [.ref q1, .ref q2, .int (nI 0), .int (nI 0), .int (-4), .ref q3, .null, .null, .null, .null, .null, .null, .null, .int 0, .int 0]))), (q1, (IN G 6 (fun _ => 0))), (q2, (IN G 6 (fun _ => 0))), (q3, (IN G 4 (fun _ => 0)))]) O hin2 0 5 dX0_init_40 tyX0 uX0 tyX0_ok nmX0 rfl rfl (by decide) uf_X0_28 rfl (tyX0_ok 5 (by decide)) rfl rfl (Nat.le_of_ble_eq_true rfl) rfl rfl rfl ?_
  refine l_aload_n (n := 44) O dX0_init_43 rfl rfl rfl ?_
  refine l_iconst (n := 45) O dX0_init_44 (v := (nI 4)) (by decide) rfl ?_
  refine l_newi (n := 47) (z := 4) O dX0_init_45 (by decide) (by rw [hXc]; decide) (by rw [hXs]; decide) rfl (fun q4 => ?_)
  refine l_ws (ws' := [(q, (.inr (0, [.ref q1, .ref q2, .int (nI 0), .int (nI 0), .int (-4), .ref q3, .null, .null, .null, .null, .null, .null, .null, .int 0, .int 0]))), (q1, (IN G 6 (fun _ => 0))), (q2, (IN G 6 (fun _ => 0))), (q3, (IN G 4 (fun _ => 0))), (q4, (IN G 4 (fun _ => 0)))]) rfl ?_
  refine l_putF (n := 50) (ws' := [(q, (.inr (0, [.ref q1, .ref q2, .int (nI 0), .int (nI 0), .int (-4), .ref q3, .ref q4, .null, .null, .null, .null, .null, .null, .int 0, .int 0]))), (q1, (IN G 6 (fun _ => 0))), (q2, (IN G 6 (fun _ => 0))), (q3, (IN G 4 (fun _ => 0))), (q4, (IN G 4 (fun _ => 0)))]) O hin2 0 6 dX0_init_47 tyX0 uX0 tyX0_ok nmX0 rfl rfl (by decide) uf_X0_31 rfl (tyX0_ok 6 (by decide)) rfl rfl (Nat.le_of_ble_eq_true rfl) rfl rfl rfl ?_
  refine l_aload_n (n := 51) O dX0_init_50 rfl rfl rfl ?_
  refine l_bipush (n := 53) O dX0_init_51 (v := (nI 90)) (by decide) rfl ?_
  refine l_newi (n := 55) (z := 90) O dX0_init_53 (by decide) (by rw [hXc]; decide) (by rw [hXs]; decide) rfl (fun q5 => ?_)
  refine l_ws (ws' := [(q, (.inr (0, [.ref q1, .ref q2, .int (nI 0), .int (nI 0), .int (-4), .ref q3, .ref q4, .null, .null, .null, .null, .null, .null, .int 0, .int 0]))), (q1, (IN G 6 (fun _ => 0))), (q2, (IN G 6 (fun _ => 0))), (q3, (IN G 4 (fun _ => 0))), (q4, (IN G 4 (fun _ => 0))), (q5, (IN G 90 (fun _ => 0)))]) rfl ?_
  refine l_putF (n := 58) (ws' := [(q, (.inr (0, [.ref q1, .ref q2, .int (nI 0), .int (nI 0), .int (-4), .ref q3, .ref q4, .ref q5, .null, .null, .null, .null, .null, .int 0, .int 0]))), (q1, (IN G 6 (fun _ => 0))), (q2, (IN G 6 (fun _ => 0))), (q3, (IN G 4 (fun _ => 0))), (q4, (IN G 4 (fun _ => 0))), (q5, (IN G 90 (fun _ => 0)))]) O hin2 0 7 dX0_init_55 tyX0 uX0 tyX0_ok nmX0 rfl rfl (by decide) uf_X0_34 rfl (tyX0_ok 7 (by decide)) rfl rfl (Nat.le_of_ble_eq_true rfl) rfl rfl rfl ?_
  refine l_aload_n (n := 59) O dX0_init_58 rfl rfl rfl ?_
  refine l_bipush (n := 61) O dX0_init_59 (v := (nI 40)) (by decide) rfl ?_
  refine l_newi (n := 63) (z := 40) O dX0_init_61 (by decide) (by rw [hXc]; decide) (by rw [hXs]; decide) rfl (fun q6 => ?_)
  refine l_ws (ws' := [(q, (.inr (0, [.ref q1, .ref q2, .int (nI 0), .int (nI 0), .int (-4), .ref q3, .ref q4, .ref q5, .null, .null, .null, .null, .null, .int 0, .int 0]))), (q1, (IN G 6 (fun _ => 0))), (q2, (IN G 6 (fun _ => 0))), (q3, (IN G 4 (fun _ => 0))), (q4, (IN G 4 (fun _ => 0))), (q5, (IN G 90 (fun _ => 0))), (q6, (IN G 40 (fun _ => 0)))]) rfl ?_
  refine l_putF (n := 66) (ws' := [(q, (.inr (0, [.ref q1, .ref q2, .int (nI 0), .int (nI 0), .int (-4), .ref q3, .ref q4, .ref q5, .ref q6, .null, .null, .null, .null, .int 0, .int 0]))), (q1, (IN G 6 (fun _ => 0))), (q2, (IN G 6 (fun _ => 0))), (q3, (IN G 4 (fun _ => 0))), (q4, (IN G 4 (fun _ => 0))), (q5, (IN G 90 (fun _ => 0))), (q6, (IN G 40 (fun _ => 0)))]) O hin2 0 8 dX0_init_63 tyX0 uX0 tyX0_ok nmX0 rfl rfl (by decide) uf_X0_37 rfl (tyX0_ok 8 (by decide)) rfl rfl (Nat.le_of_ble_eq_true rfl) rfl rfl rfl ?_
  refine l_aload_n (n := 67) O dX0_init_66 rfl rfl rfl ?_
  refine l_iconst (n := 68) O dX0_init_67 (v := (nI 4)) (by decide) rfl ?_
  refine l_newi (n := 70) (z := 4) O dX0_init_68 (by decide) (by rw [hXc]; decide) (by rw [hXs]; decide) rfl (fun q7 => ?_)
  refine l_ws (ws' := [(q, (.inr (0, [.ref q1, .ref q2, .int (nI 0), .int (nI 0), .int (-4), .ref q3, .ref q4, .ref q5, .ref q6, .null, .null, .null, .null, .int 0, .int 0]))), (q1, (IN G 6 (fun _ => 0))), (q2, (IN G 6 (fun _ => 0))), (q3, (IN G 4 (fun _ => 0))), (q4, (IN G 4 (fun _ => 0))), (q5, (IN G 90 (fun _ => 0))), (q6, (IN G 40 (fun _ => 0))), (q7, (IN G 4 (fun _ => 0)))]) rfl ?_
  refine l_putF (n := 73) (ws' := [(q, (.inr (0, [.ref q1, .ref q2, .int (nI 0), .int (nI 0), .int (-4), .ref q3, .ref q4, .ref q5, .ref q6, .ref q7, .null, .null, .null, .int 0, .int 0]))), (q1, (IN G 6 (fun _ => 0))), (q2, (IN G 6 (fun _ => 0))), (q3, (IN G 4 (fun _ => 0))), (q4, (IN G 4 (fun _ => 0))), (q5, (IN G 90 (fun _ => 0))), (q6, (IN G 40 (fun _ => 0))), (q7, (IN G 4 (fun _ => 0)))]) O hin2 0 9 dX0_init_70 tyX0 uX0 tyX0_ok nmX0 rfl rfl (by decide) uf_X0_40 rfl (tyX0_ok 9 (by decide)) rfl rfl (Nat.le_of_ble_eq_true rfl) rfl rfl rfl ?_
  refine l_aload_n (n := 74) O dX0_init_73 rfl rfl rfl ?_
  refine l_iconst (n := 75) O dX0_init_74 (v := (nI 4)) (by decide) rfl ?_
  refine l_newi (n := 77) (z := 4) O dX0_init_75 (by decide) (by rw [hXc]; decide) (by rw [hXs]; decide) rfl (fun q8 => ?_)
  refine l_ws (ws' := [(q, (.inr (0, [.ref q1, .ref q2, .int (nI 0), .int (nI 0), .int (-4), .ref q3, .ref q4, .ref q5, .ref q6, .ref q7, .null, .null, .null, .int 0, .int 0]))), (q1, (IN G 6 (fun _ => 0))), (q2, (IN G 6 (fun _ => 0))), (q3, (IN G 4 (fun _ => 0))), (q4, (IN G 4 (fun _ => 0))), (q5, (IN G 90 (fun _ => 0))), (q6, (IN G 40 (fun _ => 0))), (q7, (IN G 4 (fun _ => 0))), (q8, (IN G 4 (fun _ => 0)))]) rfl ?_
  refine l_putF (n := 80) (ws' := [(q, (.inr (0, [.ref q1, .ref q2, .int (nI 0), .int (nI 0), .int (-4), .ref q3, .ref q4, .ref q5, .ref q6, .ref q7, .ref q8, .null, .null, .int 0, .int 0]))), (q1, (IN G 6 (fun _ => 0))), (q2, (IN G 6 (fun _ => 0))), (q3, (IN G 4 (fun _ => 0))), (q4, (IN G 4 (fun _ => 0))), (q5, (IN G 90 (fun _ => 0))), (q6, (IN G 40 (fun _ => 0))), (q7, (IN G 4 (fun _ => 0))), (q8, (IN G 4 (fun _ => 0)))]) O hin2 0 10 dX0_init_77 tyX0 uX0 tyX0_ok nmX0 rfl rfl (by decide) uf_X0_43 rfl (tyX0_ok 10 (by decide)) rfl rfl (Nat.le_of_ble_eq_true rfl) rfl rfl rfl ?_
  refine l_aload_n (n := 81) O dX0_init_80 rfl rfl rfl ?_
  refine l_iconst (n := 82) O dX0_init_81 (v := (nI 3)) (by decide) rfl ?_
  refine l_newi (n := 84) (z := 3) O dX0_init_82 (by decide) (by rw [hXc]; decide) (by rw [hXs]; decide) rfl (fun q9 => ?_)
  refine l_ws (ws' := [(q, (.inr (0, [.ref q1, .ref q2, .int (nI 0), .int (nI 0), .int (-4), .ref q3, .ref q4, .ref q5, .ref q6, .ref q7, .ref q8, .null, .null, .int 0, .int 0]))), (q1, (IN G 6 (fun _ => 0))), (q2, (IN G 6 (fun _ => 0))), (q3, (IN G 4 (fun _ => 0))), (q4, (IN G 4 (fun _ => 0))), (q5, (IN G 90 (fun _ => 0))), (q6, (IN G 40 (fun _ => 0))), (q7, (IN G 4 (fun _ => 0))), (q8, (IN G 4 (fun _ => 0))), (q9, (IN G 3 (fun _ => 0)))]) rfl ?_
  refine l_putF (n := 87) (ws' := [(q, (.inr (0, [.ref q1, .ref q2, .int (nI 0), .int (nI 0), .int (-4), .ref q3, .ref q4, .ref q5, .ref q6, .ref q7, .ref q8, .ref q9, .null, .int 0, .int 0]))), (q1, (IN G 6 (fun _ => 0))), (q2, (IN G 6 (fun _ => 0))), (q3, (IN G 4 (fun _ => 0))), (q4, (IN G 4 (fun _ => 0))), (q5, (IN G 90 (fun _ => 0))), (q6, (IN G 40 (fun _ => 0))), (q7, (IN G 4 (fun _ => 0))), (q8, (IN G 4 (fun _ => 0))), (q9, (IN G 3 (fun _ => 0)))]) O hin2 0 11 dX0_init_84 tyX0 uX0 tyX0_ok nmX0 rfl rfl (by decide) uf_X0_46 rfl (tyX0_ok 11 (by decide)) rfl rfl (Nat.le_of_ble_eq_true rfl) rfl rfl rfl ?_
  refine l_aload_n (n := 88) O dX0_init_87 rfl rfl rfl ?_
  refine l_iconst (n := 89) O dX0_init_88 (v := (nI 4)) (by decide) rfl ?_
  refine l_newi (n := 91) (z := 4) O dX0_init_89 (by decide) (by rw [hXc]; decide) (by rw [hXs]; decide) rfl (fun q10 => ?_)
  refine l_ws (ws' := [(q, (.inr (0, [.ref q1, .ref q2, .int (nI 0), .int (nI 0), .int (-4), .ref q3, .ref q4, .ref q5, .ref q6, .ref q7, .ref q8, .ref q9, .null, .int 0, .int 0]))), (q1, (IN G 6 (fun _ => 0))), (q2, (IN G 6 (fun _ => 0))), (q3, (IN G 4 (fun _ => 0))), (q4, (IN G 4 (fun _ => 0))), (q5, (IN G 90 (fun _ => 0))), (q6, (IN G 40 (fun _ => 0))), (q7, (IN G 4 (fun _ => 0))), (q8, (IN G 4 (fun _ => 0))), (q9, (IN G 3 (fun _ => 0))), (q10, (IN G 4 (fun _ => 0)))]) rfl ?_
  refine l_putF (n := 94) (ws' := [(q, (.inr (0, [.ref q1, .ref q2, .int (nI 0), .int (nI 0), .int (-4), .ref q3, .ref q4, .ref q5, .ref q6, .ref q7, .ref q8, .ref q9, .ref q10, .int 0, .int 0]))), (q1, (IN G 6 (fun _ => 0))), (q2, (IN G 6 (fun _ => 0))), (q3, (IN G 4 (fun _ => 0))), (q4, (IN G 4 (fun _ => 0))), (q5, (IN G 90 (fun _ => 0))), (q6, (IN G 40 (fun _ => 0))), (q7, (IN G 4 (fun _ => 0))), (q8, (IN G 4 (fun _ => 0))), (q9, (IN G 3 (fun _ => 0))), (q10, (IN G 4 (fun _ => 0)))]) O hin2 0 12 dX0_init_91 tyX0 uX0 tyX0_ok nmX0 rfl rfl (by decide) uf_X0_49 rfl (tyX0_ok 12 (by decide)) rfl rfl (Nat.le_of_ble_eq_true rfl) rfl rfl rfl ?_
  refine l_aload_n (n := 95) O dX0_init_94 rfl rfl rfl ?_
  refine l_iconst (n := 96) O dX0_init_95 (v := (nI 0)) (by decide) rfl ?_
  refine l_put (n := 99) (ws' := [(q, (.inr (0, [.ref q1, .ref q2, .int (nI 0), .int (nI 0), .int (-4), .ref q3, .ref q4, .ref q5, .ref q6, .ref q7, .ref q8, .ref q9, .ref q10, .int (nI 0), .int 0]))), (q1, (IN G 6 (fun _ => 0))), (q2, (IN G 6 (fun _ => 0))), (q3, (IN G 4 (fun _ => 0))), (q4, (IN G 4 (fun _ => 0))), (q5, (IN G 90 (fun _ => 0))), (q6, (IN G 40 (fun _ => 0))), (q7, (IN G 4 (fun _ => 0))), (q8, (IN G 4 (fun _ => 0))), (q9, (IN G 3 (fun _ => 0))), (q10, (IN G 4 (fun _ => 0)))]) O 0 13 dX0_init_96 tyX0 uX0 tyX0_ok nmX0 rfl rfl (by decide) uf_X0_52 (tyX0_ok 13 (by decide)) rfl rfl (Nat.le_of_ble_eq_true rfl) rfl rfl rfl ?_
  refine l_aload_n (n := 100) O dX0_init_99 rfl rfl rfl ?_
  refine l_iconst (n := 101) O dX0_init_100 (v := (nI 0)) (by decide) rfl ?_
  refine l_put (n := 104) (ws' := [(q, (.inr (0, [.ref q1, .ref q2, .int (nI 0), .int (nI 0), .int (-4), .ref q3, .ref q4, .ref q5, .ref q6, .ref q7, .ref q8, .ref q9, .ref q10, .int (nI 0), .int (nI 0)]))), (q1, (IN G 6 (fun _ => 0))), (q2, (IN G 6 (fun _ => 0))), (q3, (IN G 4 (fun _ => 0))), (q4, (IN G 4 (fun _ => 0))), (q5, (IN G 90 (fun _ => 0))), (q6, (IN G 40 (fun _ => 0))), (q7, (IN G 4 (fun _ => 0))), (q8, (IN G 4 (fun _ => 0))), (q9, (IN G 3 (fun _ => 0))), (q10, (IN G 4 (fun _ => 0)))]) O 0 14 dX0_init_101 tyX0 uX0 tyX0_ok nmX0 rfl rfl (by decide) uf_X0_55 (tyX0_ok 14 (by decide)) (by decide) (by decide) (Nat.le_of_ble_eq_true rfl) rfl rfl rfl ?_
  refine l_wide (k2 := 10) (n2 := 165) (by decide) (by decide) ?_
  exact hret _ 104 _ dX0_init_104 ⟨q1, q2, q3, q4, q5, q6, q7, q8, q9, q10, rfl⟩
def P_X2_init (G : gb_G) : Nat → va_W → Prop := fun q u => ∃ q1 q2 q3 q4 : Nat, u = [(q, (.inr (2, [.ref q1, .int (nI 0), .int (nI 0), .int (nI 0), .int (nI 0), .int (nI 0), .int (nI 0)]))), (q1, (.inr (5, [.ref q2, .ref q3, .ref q4, .int (nI 0), .int (nI 6), .int (nI 0), .int (nI 0)]))), (q2, (IN G 24 (fun _ => 0))), (q3, (IN G 3 (fun _ => 0))), (q4, (IN G 3 (fun _ => 0)))]
set_option maxRecDepth 100000 in
set_option maxHeartbeats 4000000 in
theorem i_X2_init {G : gb_G} (hty : gb_ty G) : Ci G 3 yX2_init cX2_init 1 4 37 (.inr (2, [.null, .int 0, .int 0, .int 0, .int 0, .int 0, .int 0])) (P_X2_init G) := by
  refine Ci.of hty (by decide) rfl (by decide) ?_
  intro X q Qf O hin2 hcw hXc hXs hret
  have O : gC G X (va_A [(q, (.inr (2, [.null, .int 0, .int 0, .int 0, .int 0, .int 0, .int 0])))] X.2.2.2.1.heap.size) cX2_init 1 RX2 3 := O
  refine l_aload_n (n := 1) O dX2_init_0 rfl rfl rfl ?_
  refine l_oinit (n := 4) O dX2_init_1 ul_X2_3 (by decide) (by decide) rfl ?_
  refine l_aload_n (n := 5) O dX2_init_4 rfl rfl rfl ?_
  refine l_new (n := 8) (ci := 5) (fs := [.null, .null, .null, .int 0, .int 0, .int 0, .int 0]) O tyX5 dX2_init_5 uX5 tyX5_ok uk_X2_9 un_X5 ui_GuiltBell_Town rfl (by decide +kernel) (by rw [hXc]; decide) (by rw [hXs]; decide) rfl (fun q1 => ?_)
  refine l_dup (n := 9) O dX2_init_8 rfl rfl ?_
  refine l_initN (n := 12) O hcw dX2_init_9 hcw.2.2.2.2.2.2.1 uo_X5_init (i_X5_init hty) (by decide) (Nat.le_of_ble_eq_true rfl) (by rw [hXc]; decide) (by rw [hXs]; decide) rfl (fun u1 hu1 => ?_)
  obtain ⟨q2, q3, q4, rfl⟩ := hu1
  refine l_ws (ws' := [(q, (.inr (2, [.null, .int 0, .int 0, .int 0, .int 0, .int 0, .int 0]))), (q1, (.inr (5, [.ref q2, .ref q3, .ref q4, .int (nI 0), .int (nI 6), .int (nI 0), .int (nI 0)]))), (q2, (IN G 24 (fun _ => 0))), (q3, (IN G 3 (fun _ => 0))), (q4, (IN G 3 (fun _ => 0)))]) rfl ?_
  refine l_putF (n := 15) (ws' := [(q, (.inr (2, [.ref q1, .int 0, .int 0, .int 0, .int 0, .int 0, .int 0]))), (q1, (.inr (5, [.ref q2, .ref q3, .ref q4, .int (nI 0), .int (nI 6), .int (nI 0), .int (nI 0)]))), (q2, (IN G 24 (fun _ => 0))), (q3, (IN G 3 (fun _ => 0))), (q4, (IN G 3 (fun _ => 0)))]) O hin2 0 0 dX2_init_12 tyX2 uX2 tyX2_ok nmX2 rfl rfl (by decide) uf_X2_12 rfl (tyX2_ok 0 (by decide)) rfl rfl (Nat.le_of_ble_eq_true rfl) rfl rfl rfl ?_
  refine l_aload_n (n := 16) O dX2_init_15 rfl rfl rfl ?_
  refine l_iconst (n := 17) O dX2_init_16 (v := (nI 0)) (by decide) rfl ?_
  refine l_put (n := 20) (ws' := [(q, (.inr (2, [.ref q1, .int (nI 0), .int 0, .int 0, .int 0, .int 0, .int 0]))), (q1, (.inr (5, [.ref q2, .ref q3, .ref q4, .int (nI 0), .int (nI 6), .int (nI 0), .int (nI 0)]))), (q2, (IN G 24 (fun _ => 0))), (q3, (IN G 3 (fun _ => 0))), (q4, (IN G 3 (fun _ => 0)))]) O 0 1 dX2_init_17 tyX2 uX2 tyX2_ok nmX2 rfl rfl (by decide) uf_X2_18 (tyX2_ok 1 (by decide)) rfl rfl (Nat.le_of_ble_eq_true rfl) rfl rfl rfl ?_
  refine l_aload_n (n := 21) O dX2_init_20 rfl rfl rfl ?_
  refine l_iconst (n := 22) O dX2_init_21 (v := (nI 0)) (by decide) rfl ?_
  refine l_put (n := 25) (ws' := [(q, (.inr (2, [.ref q1, .int (nI 0), .int (nI 0), .int 0, .int 0, .int 0, .int 0]))), (q1, (.inr (5, [.ref q2, .ref q3, .ref q4, .int (nI 0), .int (nI 6), .int (nI 0), .int (nI 0)]))), (q2, (IN G 24 (fun _ => 0))), (q3, (IN G 3 (fun _ => 0))), (q4, (IN G 3 (fun _ => 0)))]) O 0 2 dX2_init_22 tyX2 uX2 tyX2_ok nmX2 rfl rfl (by decide) uf_X2_22 (tyX2_ok 2 (by decide)) rfl rfl (Nat.le_of_ble_eq_true rfl) rfl rfl rfl ?_
  refine l_aload_n (n := 26) O dX2_init_25 rfl rfl rfl ?_
  refine l_iconst (n := 27) O dX2_init_26 (v := (nI 0)) (by decide) rfl ?_
  refine l_put (n := 30) (ws' := [(q, (.inr (2, [.ref q1, .int (nI 0), .int (nI 0), .int (nI 0), .int 0, .int 0, .int 0]))), (q1, (.inr (5, [.ref q2, .ref q3, .ref q4, .int (nI 0), .int (nI 6), .int (nI 0), .int (nI 0)]))), (q2, (IN G 24 (fun _ => 0))), (q3, (IN G 3 (fun _ => 0))), (q4, (IN G 3 (fun _ => 0)))]) O 0 3 dX2_init_27 tyX2 uX2 tyX2_ok nmX2 rfl rfl (by decide) uf_X2_25 (tyX2_ok 3 (by decide)) rfl rfl (Nat.le_of_ble_eq_true rfl) rfl rfl rfl ?_
  refine l_aload_n (n := 31) O dX2_init_30 rfl rfl rfl ?_
  refine l_iconst (n := 32) O dX2_init_31 (v := (nI 0)) (by decide) rfl ?_
  refine l_put (n := 35) (ws' := [(q, (.inr (2, [.ref q1, .int (nI 0), .int (nI 0), .int (nI 0), .int (nI 0), .int 0, .int 0]))), (q1, (.inr (5, [.ref q2, .ref q3, .ref q4, .int (nI 0), .int (nI 6), .int (nI 0), .int (nI 0)]))), (q2, (IN G 24 (fun _ => 0))), (q3, (IN G 3 (fun _ => 0))), (q4, (IN G 3 (fun _ => 0)))]) O 0 4 dX2_init_32 tyX2 uX2 tyX2_ok nmX2 rfl rfl (by decide) uf_X2_28 (tyX2_ok 4 (by decide)) rfl rfl (Nat.le_of_ble_eq_true rfl) rfl rfl rfl ?_
  refine l_aload_n (n := 36) O dX2_init_35 rfl rfl rfl ?_
  refine l_iconst (n := 37) O dX2_init_36 (v := (nI 0)) (by decide) rfl ?_
  refine l_put (n := 40) (ws' := [(q, (.inr (2, [.ref q1, .int (nI 0), .int (nI 0), .int (nI 0), .int (nI 0), .int (nI 0), .int 0]))), (q1, (.inr (5, [.ref q2, .ref q3, .ref q4, .int (nI 0), .int (nI 6), .int (nI 0), .int (nI 0)]))), (q2, (IN G 24 (fun _ => 0))), (q3, (IN G 3 (fun _ => 0))), (q4, (IN G 3 (fun _ => 0)))]) O 0 5 dX2_init_37 tyX2 uX2 tyX2_ok nmX2 rfl rfl (by decide) uf_X2_31 (tyX2_ok 5 (by decide)) rfl rfl (Nat.le_of_ble_eq_true rfl) rfl rfl rfl ?_
  refine l_aload_n (n := 41) O dX2_init_40 rfl rfl rfl ?_
  refine l_iconst (n := 42) O dX2_init_41 (v := (nI 0)) (by decide) rfl ?_
  refine l_put (n := 45) (ws' := [(q, (.inr (2, [.ref q1, .int (nI 0), .int (nI 0), .int (nI 0), .int (nI 0), .int (nI 0), .int (nI 0)]))), (q1, (.inr (5, [.ref q2, .ref q3, .ref q4, .int (nI 0), .int (nI 6), .int (nI 0), .int (nI 0)]))), (q2, (IN G 24 (fun _ => 0))), (q3, (IN G 3 (fun _ => 0))), (q4, (IN G 3 (fun _ => 0)))]) O 0 6 dX2_init_42 tyX2 uX2 tyX2_ok nmX2 rfl rfl (by decide) uf_X2_34 (tyX2_ok 6 (by decide)) (by decide) (by decide) (Nat.le_of_ble_eq_true rfl) rfl rfl rfl ?_
  refine l_wide (k2 := 4) (n2 := 37) (by decide) (by decide) ?_
  exact hret _ 45 _ dX2_init_45 ⟨q1, q2, q3, q4, rfl⟩
