abbrev Cs : Type := ClassId × ClassId × ClassId
abbrev tysT (cs : Cs) : List (ClassId × FieldType) := [(cs.1, .int), (cs.2.1, .boolean), (cs.2.2, .object RX1)]
def z0 : Nat → Int32 := fun _ => 0
theorem qX0_fin0 : Fq RX0 0 TX0 7 tyX0 := ⟨tyX0_ok, nmX0, rfl, rfl⟩
theorem qX0_fin1 : Fq RX0 1 TX0 7 tyX0 := ⟨tyX0_ok, nmX0, rfl, rfl⟩
theorem qX0_fin2 : Fq RX0 2 TX0 7 tyX0 := ⟨tyX0_ok, nmX0, rfl, rfl⟩
theorem qX1_fin2 : Fq RX1 2 TX1 10 tyX1 := ⟨tyX1_ok, nmX1, rfl, rfl⟩
theorem qX1_fin3 : Fq RX1 3 TX1 10 tyX1 := ⟨tyX1_ok, nmX1, rfl, rfl⟩
theorem qX1_fin4 : Fq RX1 4 TX1 10 tyX1 := ⟨tyX1_ok, nmX1, rfl, rfl⟩
theorem qX1_fin5 : Fq RX1 5 TX1 10 tyX1 := ⟨tyX1_ok, nmX1, rfl, rfl⟩
theorem qX1_fin6 : Fq RX1 6 TX1 10 tyX1 := ⟨tyX1_ok, nmX1, rfl, rfl⟩
theorem qX1_fin7 : Fq RX1 7 TX1 10 tyX1 := ⟨tyX1_ok, nmX1, rfl, rfl⟩
theorem qX1_fin8 : Fq RX1 8 TX1 10 tyX1 := ⟨tyX1_ok, nmX1, rfl, rfl⟩
theorem qX1_fin9 : Fq RX1 9 TX1 10 tyX1 := ⟨tyX1_ok, nmX1, rfl, rfl⟩
theorem qX2_fin0 : Fq RX2 0 TX2 8 tyX2 := ⟨tyX2_ok, nmX2, rfl, rfl⟩
theorem qX2_fin1 : Fq RX2 1 TX2 8 tyX2 := ⟨tyX2_ok, nmX2, rfl, rfl⟩
theorem qX2_fin2 : Fq RX2 2 TX2 8 tyX2 := ⟨tyX2_ok, nmX2, rfl, rfl⟩
theorem qX2_fin3 : Fq RX2 3 TX2 8 tyX2 := ⟨tyX2_ok, nmX2, rfl, rfl⟩
theorem qX3_fin0 : Fq RX3 0 TX3 3 tyX3 := ⟨tyX3_ok, nmX3, rfl, rfl⟩
theorem qX4_fin0 : Fq RX4 0 TX4 4 tyX4 := ⟨tyX4_ok, nmX4, rfl, rfl⟩
theorem qX4_fin1 : Fq RX4 1 TX4 4 tyX4 := ⟨tyX4_ok, nmX4, rfl, rfl⟩
theorem qX4_fin2 : Fq RX4 2 TX4 4 tyX4 := ⟨tyX4_ok, nmX4, rfl, rfl⟩
theorem qX5_fin0 : Fq RX5 0 TX5 10 tyX5 := ⟨tyX5_ok, nmX5, rfl, rfl⟩
theorem qX5_fin3 : Fq RX5 3 TX5 10 tyX5 := ⟨tyX5_ok, nmX5, rfl, rfl⟩
theorem qX5_fin4 : Fq RX5 4 TX5 10 tyX5 := ⟨tyX5_ok, nmX5, rfl, rfl⟩
theorem qX5_fin5 : Fq RX5 5 TX5 10 tyX5 := ⟨tyX5_ok, nmX5, rfl, rfl⟩
theorem qX6_fin5 : Fq RX6 5 TX6 10 tyX6 := ⟨tyX6_ok, nmX6, rfl, rfl⟩
theorem qX6_fin6 : Fq RX6 6 TX6 10 tyX6 := ⟨tyX6_ok, nmX6, rfl, rfl⟩
theorem qX6_fin7 : Fq RX6 7 TX6 10 tyX6 := ⟨tyX6_ok, nmX6, rfl, rfl⟩
theorem qX6_fin8 : Fq RX6 8 TX6 10 tyX6 := ⟨tyX6_ok, nmX6, rfl, rfl⟩
theorem qX6_fin9 : Fq RX6 9 TX6 10 tyX6 := ⟨tyX6_ok, nmX6, rfl, rfl⟩
theorem qX7_fin0 : Fq RX7 0 TX7 9 tyX7 := ⟨tyX7_ok, nmX7, rfl, rfl⟩
theorem qX7_fin1 : Fq RX7 1 TX7 9 tyX7 := ⟨tyX7_ok, nmX7, rfl, rfl⟩
theorem qX7_fin2 : Fq RX7 2 TX7 9 tyX7 := ⟨tyX7_ok, nmX7, rfl, rfl⟩
theorem qX7_fin3 : Fq RX7 3 TX7 9 tyX7 := ⟨tyX7_ok, nmX7, rfl, rfl⟩
theorem qX7_fin4 : Fq RX7 4 TX7 9 tyX7 := ⟨tyX7_ok, nmX7, rfl, rfl⟩
theorem qX7_fin5 : Fq RX7 5 TX7 9 tyX7 := ⟨tyX7_ok, nmX7, rfl, rfl⟩
theorem qX7_fin6 : Fq RX7 6 TX7 9 tyX7 := ⟨tyX7_ok, nmX7, rfl, rfl⟩
theorem qX7_fin7 : Fq RX7 7 TX7 9 tyX7 := ⟨tyX7_ok, nmX7, rfl, rfl⟩
theorem qX7_fin8 : Fq RX7 8 TX7 9 tyX7 := ⟨tyX7_ok, nmX7, rfl, rfl⟩
theorem qX8_fin0 : Fq RX8 0 TX8 18 tyX8 := ⟨tyX8_ok, nmX8, rfl, rfl⟩
theorem qX8_fin1 : Fq RX8 1 TX8 18 tyX8 := ⟨tyX8_ok, nmX8, rfl, rfl⟩
theorem qX8_fin2 : Fq RX8 2 TX8 18 tyX8 := ⟨tyX8_ok, nmX8, rfl, rfl⟩
theorem qX8_fin4 : Fq RX8 4 TX8 18 tyX8 := ⟨tyX8_ok, nmX8, rfl, rfl⟩
theorem qX8_fin5 : Fq RX8 5 TX8 18 tyX8 := ⟨tyX8_ok, nmX8, rfl, rfl⟩
theorem qX8_fin6 : Fq RX8 6 TX8 18 tyX8 := ⟨tyX8_ok, nmX8, rfl, rfl⟩
theorem qX8_fin8 : Fq RX8 8 TX8 18 tyX8 := ⟨tyX8_ok, nmX8, rfl, rfl⟩
theorem qX8_fin10 : Fq RX8 10 TX8 18 tyX8 := ⟨tyX8_ok, nmX8, rfl, rfl⟩
def wX5 (cs : Cs) (h : Nat) (a : Nat → Nat) : va_W := [(h, .inr (5, [.ref (a 0), .int 0, .int 0, .ref (a 1), .ref (a 2), .ref (a 3), .int 0, .int 0, .int 0, .int 0])), (a 0, .inl (cs.1, 160, .inl z0)), (a 1, .inl (cs.1, 14, .inl z0)), (a 2, .inl (cs.1, 14, .inl z0)), (a 3, .inl (cs.1, 14, .inl z0))]
set_option maxRecDepth 100000 in
set_option maxHeartbeats 4000000 in
theorem k_X5_init {l : Launch} {D : va_G} {x : Xs} (cs : Cs) : CtK l D (tysT cs) x 1 mX5_init (.inr (5, [.null, .int 0, .int 0, .null, .null, .null, .int 0, .int 0, .int 0, .int 0])) [] 4 202 (fun _ (_ : Nat → Nat) => True) (wX5 cs) := by
  refine ctk_of 0 (by decide +kernel) rfl rfl (fun _ => Nat.le_of_ble_eq_true rfl) rfl ?_
  intro h0 sz κ0 hl hnL hi hR kc
  have kc : KC κ0 (PQ D (tysT cs) x (va_A [(h0, .inr (5, [.null, .int 0, .int 0, .null, .null, .null, .int 0, .int 0, .int 0, .int 0]))] sz)) RX5 cX5_init 1 4 202 κ0 [(h0, .inr (5, [.null, .int 0, .int 0, .null, .null, .null, .int 0, .int 0, .int 0, .int 0]))] := kc
  refine z_aload_n kc.cx 0 dX5_init_0 rfl rfl ?_
  refine z_oini kc.cx kX5_3 (by decide) (Nat.le_of_ble_eq_true rfl) dX5_init_1 ?_
  refine z_aload_n kc.cx 0 dX5_init_4 rfl rfl ?_
  refine z_sipush kc.cx dX5_init_5 si_160 ?_
  refine k_newi (N := 160) (c := 3) (s := 42) kc 0 rfl (by decide) (by decide +kernel) (by decide) dX5_init_8 (fun q0 κ kc => ?_)
  refine k_putF (ws' := [(h0, .inr (5, [.ref q0, .int 0, .int 0, .null, .null, .null, .int 0, .int 0, .int 0, .int 0])), (q0, .inl (cs.1, 160, .inl z0))]) kc hi kX5f9 qX5_fin0 0 rfl rfl rfl (Nat.le_of_ble_eq_true rfl) rfl dX5_init_10 (fun κ kc => ?_)
  refine z_aload_n kc.cx 0 dX5_init_13 rfl rfl ?_
  refine z_bipush kc.cx dX5_init_14 bi_14 ?_
  refine k_newi (N := 14) (c := 2) (s := 28) kc 0 rfl (by decide) (by decide +kernel) (by decide) dX5_init_16 (fun q1 κ kc => ?_)
  refine k_putF (ws' := [(h0, .inr (5, [.ref q0, .int 0, .int 0, .ref q1, .null, .null, .int 0, .int 0, .int 0, .int 0])), (q0, .inl (cs.1, 160, .inl z0)), (q1, .inl (cs.1, 14, .inl z0))]) kc hi kX5f15 qX5_fin3 0 rfl rfl rfl (Nat.le_of_ble_eq_true rfl) rfl dX5_init_18 (fun κ kc => ?_)
  refine z_aload_n kc.cx 0 dX5_init_21 rfl rfl ?_
  refine z_bipush kc.cx dX5_init_22 bi_14 ?_
  refine k_newi (N := 14) (c := 1) (s := 14) kc 0 rfl (by decide) (by decide +kernel) (by decide) dX5_init_24 (fun q2 κ kc => ?_)
  refine k_putF (ws' := [(h0, .inr (5, [.ref q0, .int 0, .int 0, .ref q1, .ref q2, .null, .int 0, .int 0, .int 0, .int 0])), (q0, .inl (cs.1, 160, .inl z0)), (q1, .inl (cs.1, 14, .inl z0)), (q2, .inl (cs.1, 14, .inl z0))]) kc hi kX5f18 qX5_fin4 0 rfl rfl rfl (Nat.le_of_ble_eq_true rfl) rfl dX5_init_26 (fun κ kc => ?_)
  refine z_aload_n kc.cx 0 dX5_init_29 rfl rfl ?_
  refine z_bipush kc.cx dX5_init_30 bi_14 ?_
  refine k_newi (N := 14) (c := 0) (s := 0) kc 0 rfl (by decide) (by decide +kernel) (by decide) dX5_init_32 (fun q3 κ kc => ?_)
  refine k_putF (ws' := [(h0, .inr (5, [.ref q0, .int 0, .int 0, .ref q1, .ref q2, .ref q3, .int 0, .int 0, .int 0, .int 0])), (q0, .inl (cs.1, 160, .inl z0)), (q1, .inl (cs.1, 14, .inl z0)), (q2, .inl (cs.1, 14, .inl z0)), (q3, .inl (cs.1, 14, .inl z0))]) kc hi kX5f21 qX5_fin5 0 rfl rfl rfl (Nat.le_of_ble_eq_true rfl) rfl dX5_init_34 (fun κ kc => ?_)
  exact k_vret kc hR (fun i => [q0, q1, q2, q3].getD i 0) trivial (fun _ h => h) (fun h => h) dX5_init_37
def wX6 (cs : Cs) (h : Nat) (a : Nat → Nat) : va_W := [(h, .inr (6, [.int 0, .int 0, .int 0, .int 0, .int 0, .ref (a 0), .ref (a 1), .ref (a 2), .ref (a 3), .ref (a 4)])), (a 0, .inl (cs.1, 7, .inl z0)), (a 1, .inl (cs.1, 7, .inl z0)), (a 2, .inl (cs.1, 5, .inl z0)), (a 3, .inl (cs.1, 5, .inl z0)), (a 4, .inl (cs.1, 5, .inl z0))]
set_option maxRecDepth 100000 in
set_option maxHeartbeats 4000000 in
theorem k_X6_init {l : Launch} {D : va_G} {x : Xs} (cs : Cs) : CtK l D (tysT cs) x 1 mX6_init (.inr (6, [.int 0, .int 0, .int 0, .int 0, .int 0, .null, .null, .null, .null, .null])) [] 5 29 (fun _ (_ : Nat → Nat) => True) (wX6 cs) := by
  refine ctk_of 0 (by decide +kernel) rfl rfl (fun _ => Nat.le_of_ble_eq_true rfl) rfl ?_
  intro h0 sz κ0 hl hnL hi hR kc
  have kc : KC κ0 (PQ D (tysT cs) x (va_A [(h0, .inr (6, [.int 0, .int 0, .int 0, .int 0, .int 0, .null, .null, .null, .null, .null]))] sz)) RX6 cX6_init 1 5 29 κ0 [(h0, .inr (6, [.int 0, .int 0, .int 0, .int 0, .int 0, .null, .null, .null, .null, .null]))] := kc
  refine z_aload_n kc.cx 0 dX6_init_0 rfl rfl ?_
  refine z_oini kc.cx kX6_3 (by decide) (Nat.le_of_ble_eq_true rfl) dX6_init_1 ?_
  refine z_aload_n kc.cx 0 dX6_init_4 rfl rfl ?_
  refine z_bipush kc.cx dX6_init_5 bi_7 ?_
  refine k_newi (N := 7) (c := 4) (s := 22) kc 0 rfl (by decide) (by decide +kernel) (by decide) dX6_init_7 (fun q0 κ kc => ?_)
  refine k_putF (ws' := [(h0, .inr (6, [.int 0, .int 0, .int 0, .int 0, .int 0, .ref q0, .null, .null, .null, .null])), (q0, .inl (cs.1, 7, .inl z0))]) kc hi kX6f9 qX6_fin5 0 rfl rfl rfl (Nat.le_of_ble_eq_true rfl) rfl dX6_init_9 (fun κ kc => ?_)
  refine z_aload_n kc.cx 0 dX6_init_12 rfl rfl ?_
  refine z_bipush kc.cx dX6_init_13 bi_7 ?_
  refine k_newi (N := 7) (c := 3) (s := 15) kc 0 rfl (by decide) (by decide +kernel) (by decide) dX6_init_15 (fun q1 κ kc => ?_)
  refine k_putF (ws' := [(h0, .inr (6, [.int 0, .int 0, .int 0, .int 0, .int 0, .ref q0, .ref q1, .null, .null, .null])), (q0, .inl (cs.1, 7, .inl z0)), (q1, .inl (cs.1, 7, .inl z0))]) kc hi kX6f15 qX6_fin6 0 rfl rfl rfl (Nat.le_of_ble_eq_true rfl) rfl dX6_init_17 (fun κ kc => ?_)
  refine z_aload_n kc.cx 0 dX6_init_20 rfl rfl ?_
  refine z_iconst kc.cx dX6_init_21 ic_5 ?_
  refine k_newi (N := 5) (c := 2) (s := 10) kc 0 rfl (by decide) (by decide +kernel) (by decide) dX6_init_22 (fun q2 κ kc => ?_)
  refine k_putF (ws' := [(h0, .inr (6, [.int 0, .int 0, .int 0, .int 0, .int 0, .ref q0, .ref q1, .ref q2, .null, .null])), (q0, .inl (cs.1, 7, .inl z0)), (q1, .inl (cs.1, 7, .inl z0)), (q2, .inl (cs.1, 5, .inl z0))]) kc hi kX6f18 qX6_fin7 0 rfl rfl rfl (Nat.le_of_ble_eq_true rfl) rfl dX6_init_24 (fun κ kc => ?_)
  refine z_aload_n kc.cx 0 dX6_init_27 rfl rfl ?_
  refine z_iconst kc.cx dX6_init_28 ic_5 ?_
  refine k_newi (N := 5) (c := 1) (s := 5) kc 0 rfl (by decide) (by decide +kernel) (by decide) dX6_init_29 (fun q3 κ kc => ?_)
  refine k_putF (ws' := [(h0, .inr (6, [.int 0, .int 0, .int 0, .int 0, .int 0, .ref q0, .ref q1, .ref q2, .ref q3, .null])), (q0, .inl (cs.1, 7, .inl z0)), (q1, .inl (cs.1, 7, .inl z0)), (q2, .inl (cs.1, 5, .inl z0)), (q3, .inl (cs.1, 5, .inl z0))]) kc hi kX6f21 qX6_fin8 0 rfl rfl rfl (Nat.le_of_ble_eq_true rfl) rfl dX6_init_31 (fun κ kc => ?_)
  refine z_aload_n kc.cx 0 dX6_init_34 rfl rfl ?_
  refine z_iconst kc.cx dX6_init_35 ic_5 ?_
  refine k_newi (N := 5) (c := 0) (s := 0) kc 0 rfl (by decide) (by decide +kernel) (by decide) dX6_init_36 (fun q4 κ kc => ?_)
  refine k_putF (ws' := [(h0, .inr (6, [.int 0, .int 0, .int 0, .int 0, .int 0, .ref q0, .ref q1, .ref q2, .ref q3, .ref q4])), (q0, .inl (cs.1, 7, .inl z0)), (q1, .inl (cs.1, 7, .inl z0)), (q2, .inl (cs.1, 5, .inl z0)), (q3, .inl (cs.1, 5, .inl z0)), (q4, .inl (cs.1, 5, .inl z0))]) kc hi kX6f24 qX6_fin9 0 rfl rfl rfl (Nat.le_of_ble_eq_true rfl) rfl dX6_init_38 (fun κ kc => ?_)
  exact k_vret kc hR (fun i => [q0, q1, q2, q3, q4].getD i 0) trivial (fun _ h => h) (fun h => h) dX6_init_41
def wX1 (cs : Cs) (h : Nat) (a : Nat → Nat) : va_W := [(h, .inr (1, [.int 0, .int 0, .ref (a 0), .ref (a 1), .ref (a 2), .ref (a 3), .ref (a 4), .ref (a 5), .ref (a 6), .ref (a 7)])), (a 0, .inl (cs.1, 5, .inl z0)), (a 1, .inl (cs.1, 5, .inl z0)), (a 2, .inl (cs.1, 5, .inl z0)), (a 3, .inl (cs.1, 7, .inl z0)), (a 4, .inl (cs.1, 7, .inl z0)), (a 5, .inl (cs.1, 7, .inl z0)), (a 6, .inl (cs.1, 7, .inl z0)), (a 7, .inl (cs.1, 21, .inl z0))]
set_option maxRecDepth 100000 in
set_option maxHeartbeats 4000000 in
theorem k_X1_init {l : Launch} {D : va_G} {x : Xs} (cs : Cs) : CtK l D (tysT cs) x 1 mX1_init (.inr (1, [.int 0, .int 0, .null, .null, .null, .null, .null, .null, .null, .null])) [] 8 64 (fun _ (_ : Nat → Nat) => True) (wX1 cs) := by
  refine ctk_of 0 (by decide +kernel) rfl rfl (fun _ => Nat.le_of_ble_eq_true rfl) rfl ?_
  intro h0 sz κ0 hl hnL hi hR kc
  have kc : KC κ0 (PQ D (tysT cs) x (va_A [(h0, .inr (1, [.int 0, .int 0, .null, .null, .null, .null, .null, .null, .null, .null]))] sz)) RX1 cX1_init 1 8 64 κ0 [(h0, .inr (1, [.int 0, .int 0, .null, .null, .null, .null, .null, .null, .null, .null]))] := kc
  refine z_aload_n kc.cx 0 dX1_init_0 rfl rfl ?_
  refine z_oini kc.cx kX1_3 (by decide) (Nat.le_of_ble_eq_true rfl) dX1_init_1 ?_
  refine z_aload_n kc.cx 0 dX1_init_4 rfl rfl ?_
  refine z_iconst kc.cx dX1_init_5 ic_5 ?_
  refine k_newi (N := 5) (c := 7) (s := 59) kc 0 rfl (by decide) (by decide +kernel) (by decide) dX1_init_6 (fun q0 κ kc => ?_)
  refine k_putF (ws' := [(h0, .inr (1, [.int 0, .int 0, .ref q0, .null, .null, .null, .null, .null, .null, .null])), (q0, .inl (cs.1, 5, .inl z0))]) kc hi kX1f9 qX1_fin2 0 rfl rfl rfl (Nat.le_of_ble_eq_true rfl) rfl dX1_init_8 (fun κ kc => ?_)
  refine z_aload_n kc.cx 0 dX1_init_11 rfl rfl ?_
  refine z_iconst kc.cx dX1_init_12 ic_5 ?_
  refine k_newi (N := 5) (c := 6) (s := 54) kc 0 rfl (by decide) (by decide +kernel) (by decide) dX1_init_13 (fun q1 κ kc => ?_)
  refine k_putF (ws' := [(h0, .inr (1, [.int 0, .int 0, .ref q0, .ref q1, .null, .null, .null, .null, .null, .null])), (q0, .inl (cs.1, 5, .inl z0)), (q1, .inl (cs.1, 5, .inl z0))]) kc hi kX1f15 qX1_fin3 0 rfl rfl rfl (Nat.le_of_ble_eq_true rfl) rfl dX1_init_15 (fun κ kc => ?_)
  refine z_aload_n kc.cx 0 dX1_init_18 rfl rfl ?_
  refine z_iconst kc.cx dX1_init_19 ic_5 ?_
  refine k_newi (N := 5) (c := 5) (s := 49) kc 0 rfl (by decide) (by decide +kernel) (by decide) dX1_init_20 (fun q2 κ kc => ?_)
  refine k_putF (ws' := [(h0, .inr (1, [.int 0, .int 0, .ref q0, .ref q1, .ref q2, .null, .null, .null, .null, .null])), (q0, .inl (cs.1, 5, .inl z0)), (q1, .inl (cs.1, 5, .inl z0)), (q2, .inl (cs.1, 5, .inl z0))]) kc hi kX1f18 qX1_fin4 0 rfl rfl rfl (Nat.le_of_ble_eq_true rfl) rfl dX1_init_22 (fun κ kc => ?_)
  refine z_aload_n kc.cx 0 dX1_init_25 rfl rfl ?_
  refine z_bipush kc.cx dX1_init_26 bi_7 ?_
  refine k_newi (N := 7) (c := 4) (s := 42) kc 0 rfl (by decide) (by decide +kernel) (by decide) dX1_init_28 (fun q3 κ kc => ?_)
  refine k_putF (ws' := [(h0, .inr (1, [.int 0, .int 0, .ref q0, .ref q1, .ref q2, .ref q3, .null, .null, .null, .null])), (q0, .inl (cs.1, 5, .inl z0)), (q1, .inl (cs.1, 5, .inl z0)), (q2, .inl (cs.1, 5, .inl z0)), (q3, .inl (cs.1, 7, .inl z0))]) kc hi kX1f21 qX1_fin5 0 rfl rfl rfl (Nat.le_of_ble_eq_true rfl) rfl dX1_init_30 (fun κ kc => ?_)
  refine z_aload_n kc.cx 0 dX1_init_33 rfl rfl ?_
  refine z_bipush kc.cx dX1_init_34 bi_7 ?_
  refine k_newi (N := 7) (c := 3) (s := 35) kc 0 rfl (by decide) (by decide +kernel) (by decide) dX1_init_36 (fun q4 κ kc => ?_)
  refine k_putF (ws' := [(h0, .inr (1, [.int 0, .int 0, .ref q0, .ref q1, .ref q2, .ref q3, .ref q4, .null, .null, .null])), (q0, .inl (cs.1, 5, .inl z0)), (q1, .inl (cs.1, 5, .inl z0)), (q2, .inl (cs.1, 5, .inl z0)), (q3, .inl (cs.1, 7, .inl z0)), (q4, .inl (cs.1, 7, .inl z0))]) kc hi kX1f24 qX1_fin6 0 rfl rfl rfl (Nat.le_of_ble_eq_true rfl) rfl dX1_init_38 (fun κ kc => ?_)
  refine z_aload_n kc.cx 0 dX1_init_41 rfl rfl ?_
  refine z_bipush kc.cx dX1_init_42 bi_7 ?_
  refine k_newi (N := 7) (c := 2) (s := 28) kc 0 rfl (by decide) (by decide +kernel) (by decide) dX1_init_44 (fun q5 κ kc => ?_)
  refine k_putF (ws' := [(h0, .inr (1, [.int 0, .int 0, .ref q0, .ref q1, .ref q2, .ref q3, .ref q4, .ref q5, .null, .null])), (q0, .inl (cs.1, 5, .inl z0)), (q1, .inl (cs.1, 5, .inl z0)), (q2, .inl (cs.1, 5, .inl z0)), (q3, .inl (cs.1, 7, .inl z0)), (q4, .inl (cs.1, 7, .inl z0)), (q5, .inl (cs.1, 7, .inl z0))]) kc hi kX1f27 qX1_fin7 0 rfl rfl rfl (Nat.le_of_ble_eq_true rfl) rfl dX1_init_46 (fun κ kc => ?_)
  refine z_aload_n kc.cx 0 dX1_init_49 rfl rfl ?_
  refine z_bipush kc.cx dX1_init_50 bi_7 ?_
  refine k_newi (N := 7) (c := 1) (s := 21) kc 0 rfl (by decide) (by decide +kernel) (by decide) dX1_init_52 (fun q6 κ kc => ?_)
  refine k_putF (ws' := [(h0, .inr (1, [.int 0, .int 0, .ref q0, .ref q1, .ref q2, .ref q3, .ref q4, .ref q5, .ref q6, .null])), (q0, .inl (cs.1, 5, .inl z0)), (q1, .inl (cs.1, 5, .inl z0)), (q2, .inl (cs.1, 5, .inl z0)), (q3, .inl (cs.1, 7, .inl z0)), (q4, .inl (cs.1, 7, .inl z0)), (q5, .inl (cs.1, 7, .inl z0)), (q6, .inl (cs.1, 7, .inl z0))]) kc hi kX1f30 qX1_fin8 0 rfl rfl rfl (Nat.le_of_ble_eq_true rfl) rfl dX1_init_54 (fun κ kc => ?_)
  refine z_aload_n kc.cx 0 dX1_init_57 rfl rfl ?_
  refine z_bipush kc.cx dX1_init_58 bi_21 ?_
  refine k_newi (N := 21) (c := 0) (s := 0) kc 0 rfl (by decide) (by decide +kernel) (by decide) dX1_init_60 (fun q7 κ kc => ?_)
  refine k_putF (ws' := [(h0, .inr (1, [.int 0, .int 0, .ref q0, .ref q1, .ref q2, .ref q3, .ref q4, .ref q5, .ref q6, .ref q7])), (q0, .inl (cs.1, 5, .inl z0)), (q1, .inl (cs.1, 5, .inl z0)), (q2, .inl (cs.1, 5, .inl z0)), (q3, .inl (cs.1, 7, .inl z0)), (q4, .inl (cs.1, 7, .inl z0)), (q5, .inl (cs.1, 7, .inl z0)), (q6, .inl (cs.1, 7, .inl z0)), (q7, .inl (cs.1, 21, .inl z0))]) kc hi kX1f33 qX1_fin9 0 rfl rfl rfl (Nat.le_of_ble_eq_true rfl) rfl dX1_init_62 (fun κ kc => ?_)
  exact k_vret kc hR (fun i => [q0, q1, q2, q3, q4, q5, q6, q7].getD i 0) trivial (fun _ h => h) (fun h => h) dX1_init_65
def wX0 (cs : Cs) (t : Nat) (n : Nat) (h : Nat) (a : Nat → Nat) : va_W := [(h, .inr (0, [.ref t, .ref n, .ref (a 0), .int 0, .int 0, .int 0, .int 0])), (a 0, .inl (cs.1, 5, .inl z0))]
set_option maxRecDepth 100000 in
set_option maxHeartbeats 4000000 in
theorem k_X0_init {l : Launch} {D : va_G} {x : Xs} (cs : Cs) (t : Nat) (n : Nat) : CtK l D (tysT cs) x 1 mX0_init (.inr (0, [.null, .null, .null, .int 0, .int 0, .int 0, .int 0])) [.ref t, .ref n] 1 5 (fun _ (_ : Nat → Nat) => True) (wX0 cs t n) := by
  refine ctk_of 0 (by decide +kernel) rfl rfl (fun _ => Nat.le_of_ble_eq_true rfl) rfl ?_
  intro h0 sz κ0 hl hnL hi hR kc
  have kc : KC κ0 (PQ D (tysT cs) x (va_A [(h0, .inr (0, [.null, .null, .null, .int 0, .int 0, .int 0, .int 0]))] sz)) RX0 cX0_init 1 1 5 κ0 [(h0, .inr (0, [.null, .null, .null, .int 0, .int 0, .int 0, .int 0]))] := kc
  refine z_aload_n kc.cx 0 dX0_init_0 rfl rfl ?_
  refine z_oini kc.cx kX0_3 (by decide) (Nat.le_of_ble_eq_true rfl) dX0_init_1 ?_
  refine z_aload_n kc.cx 0 dX0_init_4 rfl rfl ?_
  refine z_iconst kc.cx dX0_init_5 ic_5 ?_
  refine k_newi (N := 5) (c := 0) (s := 0) kc 0 rfl (by decide) (by decide +kernel) (by decide) dX0_init_6 (fun q0 κ kc => ?_)
  refine k_putF (ws' := [(h0, .inr (0, [.null, .null, .ref q0, .int 0, .int 0, .int 0, .int 0])), (q0, .inl (cs.1, 5, .inl z0))]) kc hi kX0f9 qX0_fin2 0 rfl rfl rfl (Nat.le_of_ble_eq_true rfl) rfl dX0_init_8 (fun κ kc => ?_)
  refine z_aload_n kc.cx 0 dX0_init_11 rfl rfl ?_
  refine z_aload_n kc.cx 1 dX0_init_12 rfl rfl ?_
  refine k_putF (ws' := [(h0, .inr (0, [.ref t, .null, .ref q0, .int 0, .int 0, .int 0, .int 0])), (q0, .inl (cs.1, 5, .inl z0))]) kc hi kX0f15 qX0_fin0 0 rfl rfl rfl (Nat.le_of_ble_eq_true rfl) rfl dX0_init_13 (fun κ kc => ?_)
  refine z_aload_n kc.cx 0 dX0_init_16 rfl rfl ?_
  refine z_aload_n kc.cx 2 dX0_init_17 rfl rfl ?_
  refine k_putF (ws' := [(h0, .inr (0, [.ref t, .ref n, .ref q0, .int 0, .int 0, .int 0, .int 0])), (q0, .inl (cs.1, 5, .inl z0))]) kc hi kX0f19 qX0_fin1 0 rfl rfl rfl (Nat.le_of_ble_eq_true rfl) rfl dX0_init_18 (fun κ kc => ?_)
  exact k_vret kc hR (fun i => [q0].getD i 0) trivial (fun _ h => h) (fun h => h) dX0_init_21
def wX2 (cs : Cs) (t : Nat) (n : Nat) (h : Nat) (a : Nat → Nat) : va_W := [(h, .inr (2, [.ref t, .ref n, .ref (a 0), .ref (a 1), .int 0, .int 0, .int 0, .int 0])), (a 0, .inl (cs.1, 8, .inl z0)), (a 1, .inl (cs.1, 7, .inl z0))]
set_option maxRecDepth 100000 in
set_option maxHeartbeats 4000000 in
theorem k_X2_init {l : Launch} {D : va_G} {x : Xs} (cs : Cs) (t : Nat) (n : Nat) : CtK l D (tysT cs) x 1 mX2_init (.inr (2, [.null, .null, .null, .null, .int 0, .int 0, .int 0, .int 0])) [.ref t, .ref n] 2 15 (fun _ (_ : Nat → Nat) => True) (wX2 cs t n) := by
  refine ctk_of 0 (by decide +kernel) rfl rfl (fun _ => Nat.le_of_ble_eq_true rfl) rfl ?_
  intro h0 sz κ0 hl hnL hi hR kc
  have kc : KC κ0 (PQ D (tysT cs) x (va_A [(h0, .inr (2, [.null, .null, .null, .null, .int 0, .int 0, .int 0, .int 0]))] sz)) RX2 cX2_init 1 2 15 κ0 [(h0, .inr (2, [.null, .null, .null, .null, .int 0, .int 0, .int 0, .int 0]))] := kc
  refine z_aload_n kc.cx 0 dX2_init_0 rfl rfl ?_
  refine z_oini kc.cx kX2_3 (by decide) (Nat.le_of_ble_eq_true rfl) dX2_init_1 ?_
  refine z_aload_n kc.cx 0 dX2_init_4 rfl rfl ?_
  refine z_bipush kc.cx dX2_init_5 bi_8 ?_
  refine k_newi (N := 8) (c := 1) (s := 7) kc 0 rfl (by decide) (by decide +kernel) (by decide) dX2_init_7 (fun q0 κ kc => ?_)
  refine k_putF (ws' := [(h0, .inr (2, [.null, .null, .ref q0, .null, .int 0, .int 0, .int 0, .int 0])), (q0, .inl (cs.1, 8, .inl z0))]) kc hi kX2f9 qX2_fin2 0 rfl rfl rfl (Nat.le_of_ble_eq_true rfl) rfl dX2_init_9 (fun κ kc => ?_)
  refine z_aload_n kc.cx 0 dX2_init_12 rfl rfl ?_
  refine z_bipush kc.cx dX2_init_13 bi_7 ?_
  refine k_newi (N := 7) (c := 0) (s := 0) kc 0 rfl (by decide) (by decide +kernel) (by decide) dX2_init_15 (fun q1 κ kc => ?_)
  refine k_putF (ws' := [(h0, .inr (2, [.null, .null, .ref q0, .ref q1, .int 0, .int 0, .int 0, .int 0])), (q0, .inl (cs.1, 8, .inl z0)), (q1, .inl (cs.1, 7, .inl z0))]) kc hi kX2f15 qX2_fin3 0 rfl rfl rfl (Nat.le_of_ble_eq_true rfl) rfl dX2_init_17 (fun κ kc => ?_)
  refine z_aload_n kc.cx 0 dX2_init_20 rfl rfl ?_
  refine z_aload_n kc.cx 1 dX2_init_21 rfl rfl ?_
  refine k_putF (ws' := [(h0, .inr (2, [.ref t, .null, .ref q0, .ref q1, .int 0, .int 0, .int 0, .int 0])), (q0, .inl (cs.1, 8, .inl z0)), (q1, .inl (cs.1, 7, .inl z0))]) kc hi kX2f18 qX2_fin0 0 rfl rfl rfl (Nat.le_of_ble_eq_true rfl) rfl dX2_init_22 (fun κ kc => ?_)
  refine z_aload_n kc.cx 0 dX2_init_25 rfl rfl ?_
  refine z_aload_n kc.cx 2 dX2_init_26 rfl rfl ?_
  refine k_putF (ws' := [(h0, .inr (2, [.ref t, .ref n, .ref q0, .ref q1, .int 0, .int 0, .int 0, .int 0])), (q0, .inl (cs.1, 8, .inl z0)), (q1, .inl (cs.1, 7, .inl z0))]) kc hi kX2f22 qX2_fin1 0 rfl rfl rfl (Nat.le_of_ble_eq_true rfl) rfl dX2_init_27 (fun κ kc => ?_)
  exact k_vret kc hR (fun i => [q0, q1].getD i 0) trivial (fun _ h => h) (fun h => h) dX2_init_30
def wX4 (cs : Cs) (t : Nat) (h : Nat) (a : Nat → Nat) : va_W := [(h, .inr (4, [.ref t, .ref (a 0), .ref (a 1), .int 0])), (a 0, .inl (cs.1, 6, .inl z0)), (a 1, .inl (cs.1, 6, .inl z0))]
set_option maxRecDepth 100000 in
set_option maxHeartbeats 4000000 in
theorem k_X4_init {l : Launch} {D : va_G} {x : Xs} (cs : Cs) (t : Nat) : CtK l D (tysT cs) x 1 mX4_init (.inr (4, [.null, .null, .null, .int 0])) [.ref t] 2 12 (fun _ (_ : Nat → Nat) => True) (wX4 cs t) := by
  refine ctk_of 0 (by decide +kernel) rfl rfl (fun _ => Nat.le_of_ble_eq_true rfl) rfl ?_
  intro h0 sz κ0 hl hnL hi hR kc
  have kc : KC κ0 (PQ D (tysT cs) x (va_A [(h0, .inr (4, [.null, .null, .null, .int 0]))] sz)) RX4 cX4_init 1 2 12 κ0 [(h0, .inr (4, [.null, .null, .null, .int 0]))] := kc
  refine z_aload_n kc.cx 0 dX4_init_0 rfl rfl ?_
  refine z_oini kc.cx kX4_3 (by decide) (Nat.le_of_ble_eq_true rfl) dX4_init_1 ?_
  refine z_aload_n kc.cx 0 dX4_init_4 rfl rfl ?_
  refine z_bipush kc.cx dX4_init_5 bi_6 ?_
  refine k_newi (N := 6) (c := 1) (s := 6) kc 0 rfl (by decide) (by decide +kernel) (by decide) dX4_init_7 (fun q0 κ kc => ?_)
  refine k_putF (ws' := [(h0, .inr (4, [.null, .ref q0, .null, .int 0])), (q0, .inl (cs.1, 6, .inl z0))]) kc hi kX4f9 qX4_fin1 0 rfl rfl rfl (Nat.le_of_ble_eq_true rfl) rfl dX4_init_9 (fun κ kc => ?_)
  refine z_aload_n kc.cx 0 dX4_init_12 rfl rfl ?_
  refine z_bipush kc.cx dX4_init_13 bi_6 ?_
  refine k_newi (N := 6) (c := 0) (s := 0) kc 0 rfl (by decide) (by decide +kernel) (by decide) dX4_init_15 (fun q1 κ kc => ?_)
  refine k_putF (ws' := [(h0, .inr (4, [.null, .ref q0, .ref q1, .int 0])), (q0, .inl (cs.1, 6, .inl z0)), (q1, .inl (cs.1, 6, .inl z0))]) kc hi kX4f15 qX4_fin2 0 rfl rfl rfl (Nat.le_of_ble_eq_true rfl) rfl dX4_init_17 (fun κ kc => ?_)
  refine z_aload_n kc.cx 0 dX4_init_20 rfl rfl ?_
  refine z_aload_n kc.cx 1 dX4_init_21 rfl rfl ?_
  refine k_putF (ws' := [(h0, .inr (4, [.ref t, .ref q0, .ref q1, .int 0])), (q0, .inl (cs.1, 6, .inl z0)), (q1, .inl (cs.1, 6, .inl z0))]) kc hi kX4f18 qX4_fin0 0 rfl rfl rfl (Nat.le_of_ble_eq_true rfl) rfl dX4_init_22 (fun κ kc => ?_)
  exact k_vret kc hR (fun i => [q0, q1].getD i 0) trivial (fun _ h => h) (fun h => h) dX4_init_25
def wX8 (cs : Cs) (h : Nat) (a : Nat → Nat) : va_W := [(h, .inr (8, [.ref (a 0), .ref (a 1), .ref (a 2), .int 0, .ref (a 3), .ref (a 4), .ref (a 5), .int 0, .ref (a 6), .int 0, .ref (a 7), .int 0, .int 0, .int 0, .int 0, .int 0, .int 0, .int 0])), (a 0, .inl (cs.1, 100, .inl z0)), (a 1, .inl (cs.1, 100, .inl z0)), (a 2, .inl (cs.1, 800, .inl z0)), (a 3, .inl (cs.1, 200, .inl z0)), (a 4, .inl (cs.2.1, 2, .inl z0)), (a 5, .inl (cs.1, 160, .inl z0)), (a 6, .inl (cs.1, 12, .inl z0)), (a 7, .inl (cs.1, 5, .inl z0))]
set_option maxRecDepth 100000 in
set_option maxHeartbeats 4000000 in
theorem k_X8_init {l : Launch} {D : va_G} {x : Xs} (cs : Cs) : CtK l D (tysT cs) x 1 mX8_init (.inr (8, [.null, .null, .null, .int 0, .null, .null, .null, .int 0, .null, .int 0, .null, .int 0, .int 0, .int 0, .int 0, .int 0, .int 0, .int 0])) [] 8 1379 (fun _ (_ : Nat → Nat) => True) (wX8 cs) := by
  refine ctk_of 0 (by decide +kernel) rfl rfl (fun _ => Nat.le_of_ble_eq_true rfl) rfl ?_
  intro h0 sz κ0 hl hnL hi hR kc
  have kc : KC κ0 (PQ D (tysT cs) x (va_A [(h0, .inr (8, [.null, .null, .null, .int 0, .null, .null, .null, .int 0, .null, .int 0, .null, .int 0, .int 0, .int 0, .int 0, .int 0, .int 0, .int 0]))] sz)) RX8 cX8_init 1 8 1379 κ0 [(h0, .inr (8, [.null, .null, .null, .int 0, .null, .null, .null, .int 0, .null, .int 0, .null, .int 0, .int 0, .int 0, .int 0, .int 0, .int 0, .int 0]))] := kc
  refine z_aload_n kc.cx 0 dX8_init_0 rfl rfl ?_
  refine z_oini kc.cx kX8_1 (by decide) (Nat.le_of_ble_eq_true rfl) dX8_init_1 ?_
  refine z_aload_n kc.cx 0 dX8_init_4 rfl rfl ?_
  refine z_bipush kc.cx dX8_init_5 bi_100 ?_
  refine k_newi (N := 100) (c := 7) (s := 1279) kc 0 rfl (by decide) (by decide +kernel) (by decide) dX8_init_7 (fun q0 κ kc => ?_)
  refine k_putF (ws' := [(h0, .inr (8, [.ref q0, .null, .null, .int 0, .null, .null, .null, .int 0, .null, .int 0, .null, .int 0, .int 0, .int 0, .int 0, .int 0, .int 0, .int 0])), (q0, .inl (cs.1, 100, .inl z0))]) kc hi kX8f7 qX8_fin0 0 rfl rfl rfl (Nat.le_of_ble_eq_true rfl) rfl dX8_init_9 (fun κ kc => ?_)
  refine z_aload_n kc.cx 0 dX8_init_12 rfl rfl ?_
  refine z_bipush kc.cx dX8_init_13 bi_100 ?_
  refine k_newi (N := 100) (c := 6) (s := 1179) kc 0 rfl (by decide) (by decide +kernel) (by decide) dX8_init_15 (fun q1 κ kc => ?_)
  refine k_putF (ws' := [(h0, .inr (8, [.ref q0, .ref q1, .null, .int 0, .null, .null, .null, .int 0, .null, .int 0, .null, .int 0, .int 0, .int 0, .int 0, .int 0, .int 0, .int 0])), (q0, .inl (cs.1, 100, .inl z0)), (q1, .inl (cs.1, 100, .inl z0))]) kc hi kX8f13 qX8_fin1 0 rfl rfl rfl (Nat.le_of_ble_eq_true rfl) rfl dX8_init_17 (fun κ kc => ?_)
  refine z_aload_n kc.cx 0 dX8_init_20 rfl rfl ?_
  refine z_sipush kc.cx dX8_init_21 si_800 ?_
  refine k_newi (N := 800) (c := 5) (s := 379) kc 0 rfl (by decide) (by decide +kernel) (by decide) dX8_init_24 (fun q2 κ kc => ?_)
  refine k_putF (ws' := [(h0, .inr (8, [.ref q0, .ref q1, .ref q2, .int 0, .null, .null, .null, .int 0, .null, .int 0, .null, .int 0, .int 0, .int 0, .int 0, .int 0, .int 0, .int 0])), (q0, .inl (cs.1, 100, .inl z0)), (q1, .inl (cs.1, 100, .inl z0)), (q2, .inl (cs.1, 800, .inl z0))]) kc hi kX8f16 qX8_fin2 0 rfl rfl rfl (Nat.le_of_ble_eq_true rfl) rfl dX8_init_26 (fun κ kc => ?_)
  refine z_aload_n kc.cx 0 dX8_init_29 rfl rfl ?_
  refine z_sipush kc.cx dX8_init_30 si_200 ?_
  refine k_newi (N := 200) (c := 4) (s := 179) kc 0 rfl (by decide) (by decide +kernel) (by decide) dX8_init_33 (fun q3 κ kc => ?_)
  refine k_putF (ws' := [(h0, .inr (8, [.ref q0, .ref q1, .ref q2, .int 0, .ref q3, .null, .null, .int 0, .null, .int 0, .null, .int 0, .int 0, .int 0, .int 0, .int 0, .int 0, .int 0])), (q0, .inl (cs.1, 100, .inl z0)), (q1, .inl (cs.1, 100, .inl z0)), (q2, .inl (cs.1, 800, .inl z0)), (q3, .inl (cs.1, 200, .inl z0))]) kc hi kX8f19 qX8_fin4 0 rfl rfl rfl (Nat.le_of_ble_eq_true rfl) rfl dX8_init_35 (fun κ kc => ?_)
  refine z_aload_n kc.cx 0 dX8_init_38 rfl rfl ?_
  refine z_iconst kc.cx dX8_init_39 ic_2 ?_
  refine k_newz (N := 2) (c := 3) (s := 177) kc 1 rfl (by decide) (by decide +kernel) (by decide) dX8_init_40 (fun q4 κ kc => ?_)
  refine k_putF (ws' := [(h0, .inr (8, [.ref q0, .ref q1, .ref q2, .int 0, .ref q3, .ref q4, .null, .int 0, .null, .int 0, .null, .int 0, .int 0, .int 0, .int 0, .int 0, .int 0, .int 0])), (q0, .inl (cs.1, 100, .inl z0)), (q1, .inl (cs.1, 100, .inl z0)), (q2, .inl (cs.1, 800, .inl z0)), (q3, .inl (cs.1, 200, .inl z0)), (q4, .inl (cs.2.1, 2, .inl z0))]) kc hi kX8f22 qX8_fin5 0 rfl rfl rfl (Nat.le_of_ble_eq_true rfl) rfl dX8_init_42 (fun κ kc => ?_)
  refine z_aload_n kc.cx 0 dX8_init_45 rfl rfl ?_
  refine z_sipush kc.cx dX8_init_46 si_160 ?_
  refine k_newi (N := 160) (c := 2) (s := 17) kc 0 rfl (by decide) (by decide +kernel) (by decide) dX8_init_49 (fun q5 κ kc => ?_)
  refine k_putF (ws' := [(h0, .inr (8, [.ref q0, .ref q1, .ref q2, .int 0, .ref q3, .ref q4, .ref q5, .int 0, .null, .int 0, .null, .int 0, .int 0, .int 0, .int 0, .int 0, .int 0, .int 0])), (q0, .inl (cs.1, 100, .inl z0)), (q1, .inl (cs.1, 100, .inl z0)), (q2, .inl (cs.1, 800, .inl z0)), (q3, .inl (cs.1, 200, .inl z0)), (q4, .inl (cs.2.1, 2, .inl z0)), (q5, .inl (cs.1, 160, .inl z0))]) kc hi kX8f26 qX8_fin6 0 rfl rfl rfl (Nat.le_of_ble_eq_true rfl) rfl dX8_init_51 (fun κ kc => ?_)
  refine z_aload_n kc.cx 0 dX8_init_54 rfl rfl ?_
  refine z_bipush kc.cx dX8_init_55 bi_12 ?_
  refine k_newi (N := 12) (c := 1) (s := 5) kc 0 rfl (by decide) (by decide +kernel) (by decide) dX8_init_57 (fun q6 κ kc => ?_)
  refine k_putF (ws' := [(h0, .inr (8, [.ref q0, .ref q1, .ref q2, .int 0, .ref q3, .ref q4, .ref q5, .int 0, .ref q6, .int 0, .null, .int 0, .int 0, .int 0, .int 0, .int 0, .int 0, .int 0])), (q0, .inl (cs.1, 100, .inl z0)), (q1, .inl (cs.1, 100, .inl z0)), (q2, .inl (cs.1, 800, .inl z0)), (q3, .inl (cs.1, 200, .inl z0)), (q4, .inl (cs.2.1, 2, .inl z0)), (q5, .inl (cs.1, 160, .inl z0)), (q6, .inl (cs.1, 12, .inl z0))]) kc hi kX8f29 qX8_fin8 0 rfl rfl rfl (Nat.le_of_ble_eq_true rfl) rfl dX8_init_59 (fun κ kc => ?_)
  refine z_aload_n kc.cx 0 dX8_init_62 rfl rfl ?_
  refine z_iconst kc.cx dX8_init_63 ic_5 ?_
  refine k_newi (N := 5) (c := 0) (s := 0) kc 0 rfl (by decide) (by decide +kernel) (by decide) dX8_init_64 (fun q7 κ kc => ?_)
  refine k_putF (ws' := [(h0, .inr (8, [.ref q0, .ref q1, .ref q2, .int 0, .ref q3, .ref q4, .ref q5, .int 0, .ref q6, .int 0, .ref q7, .int 0, .int 0, .int 0, .int 0, .int 0, .int 0, .int 0])), (q0, .inl (cs.1, 100, .inl z0)), (q1, .inl (cs.1, 100, .inl z0)), (q2, .inl (cs.1, 800, .inl z0)), (q3, .inl (cs.1, 200, .inl z0)), (q4, .inl (cs.2.1, 2, .inl z0)), (q5, .inl (cs.1, 160, .inl z0)), (q6, .inl (cs.1, 12, .inl z0)), (q7, .inl (cs.1, 5, .inl z0))]) kc hi kX8f32 qX8_fin10 0 rfl rfl rfl (Nat.le_of_ble_eq_true rfl) rfl dX8_init_66 (fun κ kc => ?_)
  exact k_vret kc hR (fun i => [q0, q1, q2, q3, q4, q5, q6, q7].getD i 0) trivial (fun _ h => h) (fun h => h) dX8_init_69
def wX3 (cs : Cs) (h : Nat) (a : Nat → Nat) : va_W := (((((((([(h, .inr (3, [.ref (a 0), .int 0, .int 0])), (a 0, .inl (cs.2.2, 8, .inr (.inr (.inr (.inr (fun k => some (a (1 + 9 * k))))))))] ++ wX1 cs (a 1) (fun i => a (2 + i))) ++ wX1 cs (a 10) (fun i => a (11 + i))) ++ wX1 cs (a 19) (fun i => a (20 + i))) ++ wX1 cs (a 28) (fun i => a (29 + i))) ++ wX1 cs (a 37) (fun i => a (38 + i))) ++ wX1 cs (a 46) (fun i => a (47 + i))) ++ wX1 cs (a 55) (fun i => a (56 + i))) ++ wX1 cs (a 64) (fun i => a (65 + i)))
set_option maxRecDepth 100000 in
set_option maxHeartbeats 8000000 in
theorem k_X3_init {l : Launch} {D : va_G} {x : Xs} (cs : Cs) : CtK l D (tysT cs) x 2 mX3_init (.inr (3, [.null, .int 0, .int 0])) [] 73 600 (fun _ (_ : Nat → Nat) => True) (wX3 cs) := by
  refine ctk_of 1 (by decide +kernel) rfl rfl (fun _ => Nat.le_of_ble_eq_true rfl) rfl ?_
  intro h0 sz κ0 hl hnL hi hR kc
  have kc : KC κ0 (PQ D (tysT cs) x (va_A [(h0, .inr (3, [.null, .int 0, .int 0]))] sz)) RX3 cX3_init 2 73 600 κ0 [(h0, .inr (3, [.null, .int 0, .int 0]))] := kc
  have hnL : κ0.nL = 2 := hnL
  refine z_aload_n kc.cx 0 dX3_init_0 rfl rfl ?_
  refine z_oini kc.cx kX3_3 (by decide) (Nat.le_of_ble_eq_true rfl) dX3_init_1 ?_
  refine z_aload_n kc.cx 0 dX3_init_4 rfl rfl ?_
  refine z_bipush kc.cx dX3_init_5 bi_8 ?_
  refine k_newq (N := 8) (c := 72) (s := 592) kc 2 rfl (fun _ h => h.2) hX3_9 (by decide) (by decide +kernel) (by decide) dX3_init_7 (fun rr κ kc => ?_)
  refine k_putF (ws' := [(h0, .inr (3, [.ref rr, .int 0, .int 0])), (rr, .inl (cs.2.2, 8, .inr (.inr (.inr (.inr (fun _ => none))))))]) kc hi kX3f11 qX3_fin0 0 rfl rfl rfl (Nat.le_of_ble_eq_true rfl) rfl dX3_init_10 (fun κ kc => ?_)
  refine z_iconst kc.cx dX3_init_13 ic_0 ?_
  refine z_istore_n kc.cx 1 dX3_init_14 rfl (kc.nL.trans hnL) (by decide) rfl ?_
  refine z_eq (lv2 := [some (.ref h0), some (.int 0)]) rfl rfl rfl ?_
  refine z_iload_n kc.cx 1 dX3_init_15 rfl rfl ?_
  refine z_bipush kc.cx dX3_init_16 bi_8 ?_
  refine z_icmp_ge (tgt := 40) kc.cx dX3_init_18 (by decide) (fun c_18 => absurd c_18 (by decide)) (fun _ => ?_)
  refine z_aload_n kc.cx 0 dX3_init_21 rfl rfl ?_
  refine z_get (q := 0) kc.cx kX3f11 rfl rfl dX3_init_22 ?_
  refine z_iload_n kc.cx 1 dX3_init_25 rfl rfl ?_
  refine k_new (N := 10) (c := 71) (s := 582) (ci := 1) (fs := [.int 0, .int 0, .null, .null, .null, .null, .null, .null, .null, .null]) kc inX1 tyX1_ok hX3_9 aX1 iX1 rfl (fun j hj => by rcases (show j = 0 ∨ j = 1 ∨ j = 2 ∨ j = 3 ∨ j = 4 ∨ j = 5 ∨ j = 6 ∨ j = 7 ∨ j = 8 ∨ j = 9 by omega) with rfl | rfl | rfl | rfl | rfl | rfl | rfl | rfl | rfl | rfl <;> rfl) dX3_init_26 (fun v0 κ kc => ?_)
  refine z_dup kc.cx dX3_init_29 rfl ?_
  refine k_ctorN (As := []) (c := 63) (s := 518) (mc := 8) (ms := 64) kc nX1_init rfl rfl jX1_init (kc.cx.2.2.2.2.2.2.2.1.1.2.2.2.2.2.2.2.1) (k_X1_init cs) (by decide) rfl rfl (Nat.le_of_ble_eq_true rfl) dX3_init_30 (fun u0 κ _ kc => ?_)
  refine k_astq (r := (RX1, TX1, 10)) (ws' := ([(h0, .inr (3, [.ref rr, .int 0, .int 0])), (rr, .inl (cs.2.2, 8, .inr (.inr (.inr (.inr (va_up (fun _ => none) 0 (some v0)))))))] ++ wX1 cs v0 u0)) kc 1 2 2 1 rfl rfl rfl rfl 0 (by decide +kernel) (by unfold vp_in; decide +kernel) rfl dX3_init_33 (fun κ kc => ?_)
  refine z_iinc (v := 1) kc.cx dX3_init_34 rfl ic_1 (by decide) (kc.nL.trans hnL) (by decide) rfl ?_
  refine z_goto (tgt := 15) kc.cx dX3_init_37 (by decide) ?_
  refine z_eq (lv2 := [some (.ref h0), some (.int 1)]) rfl rfl rfl ?_
  refine z_iload_n kc.cx 1 dX3_init_15 rfl rfl ?_
  refine z_bipush kc.cx dX3_init_16 bi_8 ?_
  refine z_icmp_ge (tgt := 40) kc.cx dX3_init_18 (by decide) (fun c_18 => absurd c_18 (by decide)) (fun _ => ?_)
  refine z_aload_n kc.cx 0 dX3_init_21 rfl rfl ?_
  refine z_get (q := 0) kc.cx kX3f11 rfl rfl dX3_init_22 ?_
  refine z_iload_n kc.cx 1 dX3_init_25 rfl rfl ?_
  refine k_new (N := 10) (c := 62) (s := 508) (ci := 1) (fs := [.int 0, .int 0, .null, .null, .null, .null, .null, .null, .null, .null]) kc inX1 tyX1_ok hX3_9 aX1 iX1 rfl (fun j hj => by rcases (show j = 0 ∨ j = 1 ∨ j = 2 ∨ j = 3 ∨ j = 4 ∨ j = 5 ∨ j = 6 ∨ j = 7 ∨ j = 8 ∨ j = 9 by omega) with rfl | rfl | rfl | rfl | rfl | rfl | rfl | rfl | rfl | rfl <;> rfl) dX3_init_26 (fun v1 κ kc => ?_)
  refine z_dup kc.cx dX3_init_29 rfl ?_
  refine k_ctorN (As := []) (c := 54) (s := 444) (mc := 8) (ms := 64) kc nX1_init rfl rfl jX1_init (kc.cx.2.2.2.2.2.2.2.1.1.2.2.2.2.2.2.2.1) (k_X1_init cs) (by decide) rfl rfl (Nat.le_of_ble_eq_true rfl) dX3_init_30 (fun u1 κ _ kc => ?_)
  refine k_astq (r := (RX1, TX1, 10)) (ws' := (([(h0, .inr (3, [.ref rr, .int 0, .int 0])), (rr, .inl (cs.2.2, 8, .inr (.inr (.inr (.inr (va_up (va_up (fun _ => none) 0 (some v0)) 1 (some v1)))))))] ++ wX1 cs v0 u0) ++ wX1 cs v1 u1)) kc 1 2 11 1 rfl rfl rfl rfl 1 (by decide +kernel) (by unfold vp_in; decide +kernel) rfl dX3_init_33 (fun κ kc => ?_)
  refine z_iinc (v := 2) kc.cx dX3_init_34 rfl ic_1 (by decide) (kc.nL.trans hnL) (by decide) rfl ?_
  refine z_goto (tgt := 15) kc.cx dX3_init_37 (by decide) ?_
  refine z_eq (lv2 := [some (.ref h0), some (.int 2)]) rfl rfl rfl ?_
  refine z_iload_n kc.cx 1 dX3_init_15 rfl rfl ?_
  refine z_bipush kc.cx dX3_init_16 bi_8 ?_
  refine z_icmp_ge (tgt := 40) kc.cx dX3_init_18 (by decide) (fun c_18 => absurd c_18 (by decide)) (fun _ => ?_)
  refine z_aload_n kc.cx 0 dX3_init_21 rfl rfl ?_
  refine z_get (q := 0) kc.cx kX3f11 rfl rfl dX3_init_22 ?_
  refine z_iload_n kc.cx 1 dX3_init_25 rfl rfl ?_
  refine k_new (N := 10) (c := 53) (s := 434) (ci := 1) (fs := [.int 0, .int 0, .null, .null, .null, .null, .null, .null, .null, .null]) kc inX1 tyX1_ok hX3_9 aX1 iX1 rfl (fun j hj => by rcases (show j = 0 ∨ j = 1 ∨ j = 2 ∨ j = 3 ∨ j = 4 ∨ j = 5 ∨ j = 6 ∨ j = 7 ∨ j = 8 ∨ j = 9 by omega) with rfl | rfl | rfl | rfl | rfl | rfl | rfl | rfl | rfl | rfl <;> rfl) dX3_init_26 (fun v2 κ kc => ?_)
  refine z_dup kc.cx dX3_init_29 rfl ?_
  refine k_ctorN (As := []) (c := 45) (s := 370) (mc := 8) (ms := 64) kc nX1_init rfl rfl jX1_init (kc.cx.2.2.2.2.2.2.2.1.1.2.2.2.2.2.2.2.1) (k_X1_init cs) (by decide) rfl rfl (Nat.le_of_ble_eq_true rfl) dX3_init_30 (fun u2 κ _ kc => ?_)
  refine k_astq (r := (RX1, TX1, 10)) (ws' := ((([(h0, .inr (3, [.ref rr, .int 0, .int 0])), (rr, .inl (cs.2.2, 8, .inr (.inr (.inr (.inr (va_up (va_up (va_up (fun _ => none) 0 (some v0)) 1 (some v1)) 2 (some v2)))))))] ++ wX1 cs v0 u0) ++ wX1 cs v1 u1) ++ wX1 cs v2 u2)) kc 1 2 20 1 rfl rfl rfl rfl 2 (by decide +kernel) (by unfold vp_in; decide +kernel) rfl dX3_init_33 (fun κ kc => ?_)
  refine z_iinc (v := 3) kc.cx dX3_init_34 rfl ic_1 (by decide) (kc.nL.trans hnL) (by decide) rfl ?_
  refine z_goto (tgt := 15) kc.cx dX3_init_37 (by decide) ?_
  refine z_eq (lv2 := [some (.ref h0), some (.int 3)]) rfl rfl rfl ?_
  refine z_iload_n kc.cx 1 dX3_init_15 rfl rfl ?_
  refine z_bipush kc.cx dX3_init_16 bi_8 ?_
  refine z_icmp_ge (tgt := 40) kc.cx dX3_init_18 (by decide) (fun c_18 => absurd c_18 (by decide)) (fun _ => ?_)
  refine z_aload_n kc.cx 0 dX3_init_21 rfl rfl ?_
  refine z_get (q := 0) kc.cx kX3f11 rfl rfl dX3_init_22 ?_
  refine z_iload_n kc.cx 1 dX3_init_25 rfl rfl ?_
  refine k_new (N := 10) (c := 44) (s := 360) (ci := 1) (fs := [.int 0, .int 0, .null, .null, .null, .null, .null, .null, .null, .null]) kc inX1 tyX1_ok hX3_9 aX1 iX1 rfl (fun j hj => by rcases (show j = 0 ∨ j = 1 ∨ j = 2 ∨ j = 3 ∨ j = 4 ∨ j = 5 ∨ j = 6 ∨ j = 7 ∨ j = 8 ∨ j = 9 by omega) with rfl | rfl | rfl | rfl | rfl | rfl | rfl | rfl | rfl | rfl <;> rfl) dX3_init_26 (fun v3 κ kc => ?_)
  refine z_dup kc.cx dX3_init_29 rfl ?_
  refine k_ctorN (As := []) (c := 36) (s := 296) (mc := 8) (ms := 64) kc nX1_init rfl rfl jX1_init (kc.cx.2.2.2.2.2.2.2.1.1.2.2.2.2.2.2.2.1) (k_X1_init cs) (by decide) rfl rfl (Nat.le_of_ble_eq_true rfl) dX3_init_30 (fun u3 κ _ kc => ?_)
  refine k_astq (r := (RX1, TX1, 10)) (ws' := (((([(h0, .inr (3, [.ref rr, .int 0, .int 0])), (rr, .inl (cs.2.2, 8, .inr (.inr (.inr (.inr (va_up (va_up (va_up (va_up (fun _ => none) 0 (some v0)) 1 (some v1)) 2 (some v2)) 3 (some v3)))))))] ++ wX1 cs v0 u0) ++ wX1 cs v1 u1) ++ wX1 cs v2 u2) ++ wX1 cs v3 u3)) kc 1 2 29 1 rfl rfl rfl rfl 3 (by decide +kernel) (by unfold vp_in; decide +kernel) rfl dX3_init_33 (fun κ kc => ?_)
  refine z_iinc (v := 4) kc.cx dX3_init_34 rfl ic_1 (by decide) (kc.nL.trans hnL) (by decide) rfl ?_
  refine z_goto (tgt := 15) kc.cx dX3_init_37 (by decide) ?_
  refine z_eq (lv2 := [some (.ref h0), some (.int 4)]) rfl rfl rfl ?_
  refine z_iload_n kc.cx 1 dX3_init_15 rfl rfl ?_
  refine z_bipush kc.cx dX3_init_16 bi_8 ?_
  refine z_icmp_ge (tgt := 40) kc.cx dX3_init_18 (by decide) (fun c_18 => absurd c_18 (by decide)) (fun _ => ?_)
  refine z_aload_n kc.cx 0 dX3_init_21 rfl rfl ?_
  refine z_get (q := 0) kc.cx kX3f11 rfl rfl dX3_init_22 ?_
  refine z_iload_n kc.cx 1 dX3_init_25 rfl rfl ?_
  refine k_new (N := 10) (c := 35) (s := 286) (ci := 1) (fs := [.int 0, .int 0, .null, .null, .null, .null, .null, .null, .null, .null]) kc inX1 tyX1_ok hX3_9 aX1 iX1 rfl (fun j hj => by rcases (show j = 0 ∨ j = 1 ∨ j = 2 ∨ j = 3 ∨ j = 4 ∨ j = 5 ∨ j = 6 ∨ j = 7 ∨ j = 8 ∨ j = 9 by omega) with rfl | rfl | rfl | rfl | rfl | rfl | rfl | rfl | rfl | rfl <;> rfl) dX3_init_26 (fun v4 κ kc => ?_)
  refine z_dup kc.cx dX3_init_29 rfl ?_
  refine k_ctorN (As := []) (c := 27) (s := 222) (mc := 8) (ms := 64) kc nX1_init rfl rfl jX1_init (kc.cx.2.2.2.2.2.2.2.1.1.2.2.2.2.2.2.2.1) (k_X1_init cs) (by decide) rfl rfl (Nat.le_of_ble_eq_true rfl) dX3_init_30 (fun u4 κ _ kc => ?_)
  refine k_astq (r := (RX1, TX1, 10)) (ws' := ((((([(h0, .inr (3, [.ref rr, .int 0, .int 0])), (rr, .inl (cs.2.2, 8, .inr (.inr (.inr (.inr (va_up (va_up (va_up (va_up (va_up (fun _ => none) 0 (some v0)) 1 (some v1)) 2 (some v2)) 3 (some v3)) 4 (some v4)))))))] ++ wX1 cs v0 u0) ++ wX1 cs v1 u1) ++ wX1 cs v2 u2) ++ wX1 cs v3 u3) ++ wX1 cs v4 u4)) kc 1 2 38 1 rfl rfl rfl rfl 4 (by decide +kernel) (by unfold vp_in; decide +kernel) rfl dX3_init_33 (fun κ kc => ?_)
  refine z_iinc (v := 5) kc.cx dX3_init_34 rfl ic_1 (by decide) (kc.nL.trans hnL) (by decide) rfl ?_
  refine z_goto (tgt := 15) kc.cx dX3_init_37 (by decide) ?_
  refine z_eq (lv2 := [some (.ref h0), some (.int 5)]) rfl rfl rfl ?_
  refine z_iload_n kc.cx 1 dX3_init_15 rfl rfl ?_
  refine z_bipush kc.cx dX3_init_16 bi_8 ?_
  refine z_icmp_ge (tgt := 40) kc.cx dX3_init_18 (by decide) (fun c_18 => absurd c_18 (by decide)) (fun _ => ?_)
  refine z_aload_n kc.cx 0 dX3_init_21 rfl rfl ?_
  refine z_get (q := 0) kc.cx kX3f11 rfl rfl dX3_init_22 ?_
  refine z_iload_n kc.cx 1 dX3_init_25 rfl rfl ?_
  refine k_new (N := 10) (c := 26) (s := 212) (ci := 1) (fs := [.int 0, .int 0, .null, .null, .null, .null, .null, .null, .null, .null]) kc inX1 tyX1_ok hX3_9 aX1 iX1 rfl (fun j hj => by rcases (show j = 0 ∨ j = 1 ∨ j = 2 ∨ j = 3 ∨ j = 4 ∨ j = 5 ∨ j = 6 ∨ j = 7 ∨ j = 8 ∨ j = 9 by omega) with rfl | rfl | rfl | rfl | rfl | rfl | rfl | rfl | rfl | rfl <;> rfl) dX3_init_26 (fun v5 κ kc => ?_)
  refine z_dup kc.cx dX3_init_29 rfl ?_
  refine k_ctorN (As := []) (c := 18) (s := 148) (mc := 8) (ms := 64) kc nX1_init rfl rfl jX1_init (kc.cx.2.2.2.2.2.2.2.1.1.2.2.2.2.2.2.2.1) (k_X1_init cs) (by decide) rfl rfl (Nat.le_of_ble_eq_true rfl) dX3_init_30 (fun u5 κ _ kc => ?_)
  refine k_astq (r := (RX1, TX1, 10)) (ws' := (((((([(h0, .inr (3, [.ref rr, .int 0, .int 0])), (rr, .inl (cs.2.2, 8, .inr (.inr (.inr (.inr (va_up (va_up (va_up (va_up (va_up (va_up (fun _ => none) 0 (some v0)) 1 (some v1)) 2 (some v2)) 3 (some v3)) 4 (some v4)) 5 (some v5)))))))] ++ wX1 cs v0 u0) ++ wX1 cs v1 u1) ++ wX1 cs v2 u2) ++ wX1 cs v3 u3) ++ wX1 cs v4 u4) ++ wX1 cs v5 u5)) kc 1 2 47 1 rfl rfl rfl rfl 5 (by decide +kernel) (by unfold vp_in; decide +kernel) rfl dX3_init_33 (fun κ kc => ?_)
  refine z_iinc (v := 6) kc.cx dX3_init_34 rfl ic_1 (by decide) (kc.nL.trans hnL) (by decide) rfl ?_
  refine z_goto (tgt := 15) kc.cx dX3_init_37 (by decide) ?_
  refine z_eq (lv2 := [some (.ref h0), some (.int 6)]) rfl rfl rfl ?_
  refine z_iload_n kc.cx 1 dX3_init_15 rfl rfl ?_
  refine z_bipush kc.cx dX3_init_16 bi_8 ?_
  refine z_icmp_ge (tgt := 40) kc.cx dX3_init_18 (by decide) (fun c_18 => absurd c_18 (by decide)) (fun _ => ?_)
  refine z_aload_n kc.cx 0 dX3_init_21 rfl rfl ?_
  refine z_get (q := 0) kc.cx kX3f11 rfl rfl dX3_init_22 ?_
  refine z_iload_n kc.cx 1 dX3_init_25 rfl rfl ?_
  refine k_new (N := 10) (c := 17) (s := 138) (ci := 1) (fs := [.int 0, .int 0, .null, .null, .null, .null, .null, .null, .null, .null]) kc inX1 tyX1_ok hX3_9 aX1 iX1 rfl (fun j hj => by rcases (show j = 0 ∨ j = 1 ∨ j = 2 ∨ j = 3 ∨ j = 4 ∨ j = 5 ∨ j = 6 ∨ j = 7 ∨ j = 8 ∨ j = 9 by omega) with rfl | rfl | rfl | rfl | rfl | rfl | rfl | rfl | rfl | rfl <;> rfl) dX3_init_26 (fun v6 κ kc => ?_)
  refine z_dup kc.cx dX3_init_29 rfl ?_
  refine k_ctorN (As := []) (c := 9) (s := 74) (mc := 8) (ms := 64) kc nX1_init rfl rfl jX1_init (kc.cx.2.2.2.2.2.2.2.1.1.2.2.2.2.2.2.2.1) (k_X1_init cs) (by decide) rfl rfl (Nat.le_of_ble_eq_true rfl) dX3_init_30 (fun u6 κ _ kc => ?_)
  refine k_astq (r := (RX1, TX1, 10)) (ws' := ((((((([(h0, .inr (3, [.ref rr, .int 0, .int 0])), (rr, .inl (cs.2.2, 8, .inr (.inr (.inr (.inr (va_up (va_up (va_up (va_up (va_up (va_up (va_up (fun _ => none) 0 (some v0)) 1 (some v1)) 2 (some v2)) 3 (some v3)) 4 (some v4)) 5 (some v5)) 6 (some v6)))))))] ++ wX1 cs v0 u0) ++ wX1 cs v1 u1) ++ wX1 cs v2 u2) ++ wX1 cs v3 u3) ++ wX1 cs v4 u4) ++ wX1 cs v5 u5) ++ wX1 cs v6 u6)) kc 1 2 56 1 rfl rfl rfl rfl 6 (by decide +kernel) (by unfold vp_in; decide +kernel) rfl dX3_init_33 (fun κ kc => ?_)
  refine z_iinc (v := 7) kc.cx dX3_init_34 rfl ic_1 (by decide) (kc.nL.trans hnL) (by decide) rfl ?_
  refine z_goto (tgt := 15) kc.cx dX3_init_37 (by decide) ?_
  refine z_eq (lv2 := [some (.ref h0), some (.int 7)]) rfl rfl rfl ?_
  refine z_iload_n kc.cx 1 dX3_init_15 rfl rfl ?_
  refine z_bipush kc.cx dX3_init_16 bi_8 ?_
  refine z_icmp_ge (tgt := 40) kc.cx dX3_init_18 (by decide) (fun c_18 => absurd c_18 (by decide)) (fun _ => ?_)
  refine z_aload_n kc.cx 0 dX3_init_21 rfl rfl ?_
  refine z_get (q := 0) kc.cx kX3f11 rfl rfl dX3_init_22 ?_
  refine z_iload_n kc.cx 1 dX3_init_25 rfl rfl ?_
  refine k_new (N := 10) (c := 8) (s := 64) (ci := 1) (fs := [.int 0, .int 0, .null, .null, .null, .null, .null, .null, .null, .null]) kc inX1 tyX1_ok hX3_9 aX1 iX1 rfl (fun j hj => by rcases (show j = 0 ∨ j = 1 ∨ j = 2 ∨ j = 3 ∨ j = 4 ∨ j = 5 ∨ j = 6 ∨ j = 7 ∨ j = 8 ∨ j = 9 by omega) with rfl | rfl | rfl | rfl | rfl | rfl | rfl | rfl | rfl | rfl <;> rfl) dX3_init_26 (fun v7 κ kc => ?_)
  refine z_dup kc.cx dX3_init_29 rfl ?_
  refine k_ctorN (As := []) (c := 0) (s := 0) (mc := 8) (ms := 64) kc nX1_init rfl rfl jX1_init (kc.cx.2.2.2.2.2.2.2.1.1.2.2.2.2.2.2.2.1) (k_X1_init cs) (by decide) rfl rfl (Nat.le_of_ble_eq_true rfl) dX3_init_30 (fun u7 κ _ kc => ?_)
  refine k_astq (r := (RX1, TX1, 10)) (ws' := (((((((([(h0, .inr (3, [.ref rr, .int 0, .int 0])), (rr, .inl (cs.2.2, 8, .inr (.inr (.inr (.inr (va_up (va_up (va_up (va_up (va_up (va_up (va_up (va_up (fun _ => none) 0 (some v0)) 1 (some v1)) 2 (some v2)) 3 (some v3)) 4 (some v4)) 5 (some v5)) 6 (some v6)) 7 (some v7)))))))] ++ wX1 cs v0 u0) ++ wX1 cs v1 u1) ++ wX1 cs v2 u2) ++ wX1 cs v3 u3) ++ wX1 cs v4 u4) ++ wX1 cs v5 u5) ++ wX1 cs v6 u6) ++ wX1 cs v7 u7)) kc 1 2 65 1 rfl rfl rfl rfl 7 (by decide +kernel) (by unfold vp_in; decide +kernel) rfl dX3_init_33 (fun κ kc => ?_)
  refine z_iinc (v := 8) kc.cx dX3_init_34 rfl ic_1 (by decide) (kc.nL.trans hnL) (by decide) rfl ?_
  refine z_goto (tgt := 15) kc.cx dX3_init_37 (by decide) ?_
  refine z_eq (lv2 := [some (.ref h0), some (.int 8)]) rfl rfl rfl ?_
  refine z_iload_n kc.cx 1 dX3_init_15 rfl rfl ?_
  refine z_bipush kc.cx dX3_init_16 bi_8 ?_
  refine z_icmp_ge (tgt := 40) kc.cx dX3_init_18 (by decide) (fun _ => ?_) (fun c_18 => absurd c_18 (by decide))
  have eW : ∀ j, j < 8 → (va_up (va_up (va_up (va_up (va_up (va_up (va_up (va_up (fun _ => none) 0 (some v0)) 1 (some v1)) 2 (some v2)) 3 (some v3)) 4 (some v4)) 5 (some v5)) 6 (some v6)) 7 (some v7)) j = some (([rr, v0, u0 0, u0 1, u0 2, u0 3, u0 4, u0 5, u0 6, u0 7, v1, u1 0, u1 1, u1 2, u1 3, u1 4, u1 5, u1 6, u1 7, v2, u2 0, u2 1, u2 2, u2 3, u2 4, u2 5, u2 6, u2 7, v3, u3 0, u3 1, u3 2, u3 3, u3 4, u3 5, u3 6, u3 7, v4, u4 0, u4 1, u4 2, u4 3, u4 4, u4 5, u4 6, u4 7, v5, u5 0, u5 1, u5 2, u5 3, u5 4, u5 5, u5 6, u5 7, v6, u6 0, u6 1, u6 2, u6 3, u6 4, u6 5, u6 6, u6 7, v7, u7 0, u7 1, u7 2, u7 3, u7 4, u7 5, u7 6, u7 7] : List Nat).getD (1 + 9 * j) 0) := fun j hj => by
    rcases (show j = 0 ∨ j = 1 ∨ j = 2 ∨ j = 3 ∨ j = 4 ∨ j = 5 ∨ j = 6 ∨ j = 7 by omega) with rfl | rfl | rfl | rfl | rfl | rfl | rfl | rfl <;> rfl
  refine k_vret kc hR (fun i => ([rr, v0, u0 0, u0 1, u0 2, u0 3, u0 4, u0 5, u0 6, u0 7, v1, u1 0, u1 1, u1 2, u1 3, u1 4, u1 5, u1 6, u1 7, v2, u2 0, u2 1, u2 2, u2 3, u2 4, u2 5, u2 6, u2 7, v3, u3 0, u3 1, u3 2, u3 3, u3 4, u3 5, u3 6, u3 7, v4, u4 0, u4 1, u4 2, u4 3, u4 4, u4 5, u4 6, u4 7, v5, u5 0, u5 1, u5 2, u5 3, u5 4, u5 5, u5 6, u5 7, v6, u6 0, u6 1, u6 2, u6 3, u6 4, u6 5, u6 6, u6 7, v7, u7 0, u7 1, u7 2, u7 3, u7 4, u7 5, u7 6, u7 7] : List Nat).getD i 0) trivial (fun H h => ?_) (fun h => vaD_fst h rfl) dX3_init_40
  have h1 : H[rr]? = some (vp_cell cs.2.2 (8, .inr (.inr (.inr (.inr (va_up (va_up (va_up (va_up (va_up (va_up (va_up (va_up (fun _ => none) 0 (some v0)) 1 (some v1)) 2 (some v2)) 3 (some v3)) 4 (some v4)) 5 (some v5)) 6 (some v6)) 7 (some v7))))))) := h 1 _ rfl
  rw [cell_q eW] at h1
  exact vaP_set (k := 1) (a := rr) (e := .inl (cs.2.2, 8, .inr (.inr (.inr (.inr (fun k => some (([rr, v0, u0 0, u0 1, u0 2, u0 3, u0 4, u0 5, u0 6, u0 7, v1, u1 0, u1 1, u1 2, u1 3, u1 4, u1 5, u1 6, u1 7, v2, u2 0, u2 1, u2 2, u2 3, u2 4, u2 5, u2 6, u2 7, v3, u3 0, u3 1, u3 2, u3 3, u3 4, u3 5, u3 6, u3 7, v4, u4 0, u4 1, u4 2, u4 3, u4 4, u4 5, u4 6, u4 7, v5, u5 0, u5 1, u5 2, u5 3, u5 4, u5 5, u5 6, u5 7, v6, u6 0, u6 1, u6 2, u6 3, u6 4, u6 5, u6 6, u6 7, v7, u7 0, u7 1, u7 2, u7 3, u7 4, u7 5, u7 6, u7 7] : List Nat).getD (1 + 9 * k) 0))))))) h h1
