theorem st_D {s : State} {args : Array Value} (hts : ∀ w ∈ tb, w.before args s = true) : ∃ D : va_G, ∀ (c : Nat) (q : vw_C), vwCl[c]? = some q → u_Kn s q.1 q.2.1 q.2.2 (D.1 c) (D.2 c) := by
  have h0 : ∀ k : Nat, ∃ p : ClassId × (Nat → Nat), ∀ q : vw_C, vwCl[k]? = some q → u_Kn s q.1 q.2.1 q.2.2 p.1 p.2 := by
    intro k
    obtain ⟨c0, i0, h0⟩ := u_known (C := RX0) (T := TX0) (N := 7) (n := 7) hts inX0 (hts _ aX0)
    obtain ⟨c1, i1, h1⟩ := u_known (C := RX1) (T := TX1) (N := 10) (n := 10) hts inX1 (hts _ aX1)
    obtain ⟨c2, i2, h2⟩ := u_known (C := RX2) (T := TX2) (N := 8) (n := 8) hts inX2 (hts _ aX2)
    obtain ⟨c3, i3, h3⟩ := u_known (C := RX3) (T := TX3) (N := 3) (n := 3) hts inX3 (hts _ aX3)
    obtain ⟨c4, i4, h4⟩ := u_known (C := RX4) (T := TX4) (N := 4) (n := 4) hts inX4 (hts _ aX4)
    obtain ⟨c5, i5, h5⟩ := u_known (C := RX5) (T := TX5) (N := 10) (n := 10) hts inX5 (hts _ aX5)
    obtain ⟨c6, i6, h6⟩ := u_known (C := RX6) (T := TX6) (N := 10) (n := 10) hts inX6 (hts _ aX6)
    obtain ⟨c7, i7, h7⟩ := u_known (C := RX7) (T := TX7) (N := 9) (n := 9) hts inX7 (hts _ aX7)
    obtain ⟨c8, i8, h8⟩ := u_known (C := RX8) (T := TX8) (N := 18) (n := 18) hts inX8 (hts _ aX8)
    match k with
    | 0 => exact ⟨(c0, i0), fun q hq => by cases hq; exact h0⟩
    | 1 => exact ⟨(c1, i1), fun q hq => by cases hq; exact h1⟩
    | 2 => exact ⟨(c2, i2), fun q hq => by cases hq; exact h2⟩
    | 3 => exact ⟨(c3, i3), fun q hq => by cases hq; exact h3⟩
    | 4 => exact ⟨(c4, i4), fun q hq => by cases hq; exact h4⟩
    | 5 => exact ⟨(c5, i5), fun q hq => by cases hq; exact h5⟩
    | 6 => exact ⟨(c6, i6), fun q hq => by cases hq; exact h6⟩
    | 7 => exact ⟨(c7, i7), fun q hq => by cases hq; exact h7⟩
    | 8 => exact ⟨(c8, i8), fun q hq => by cases hq; exact h8⟩
    | k + 9 => exact ⟨(c0, i0), fun q hq => by simp at hq⟩
  obtain ⟨f, hf⟩ := Classical.axiomOfChoice h0
  exact ⟨(fun k => (f k).1, fun k => (f k).2), fun c q hq => hf c q hq⟩
theorem st_tys {s : State} {args : Array Value} (hts : ∀ w ∈ tb, w.before args s = true) (hov : (Cond.arrayOver (.object RX1)).before args s = true) : ∃ cs : Cs, ∀ (k : Nat) (q : ClassId × FieldType), (tysT cs)[k]? = some q → ArrOfT s q.1 q.2 ∧ va_RA s q.1 q.2 := by
  obtain ⟨c1, k1, m1, a1, a2, a3⟩ := Cond.arrayClass_spec (hts _ tA_int)
  obtain ⟨c2, k2, m2, b1, b2, b3⟩ := Cond.arrayClass_spec (hts _ tA_bool)
  obtain ⟨comp, c3, k3, f1, -, f3, f4, f5⟩ := Cond.arrayOver_spec hov
  refine ⟨(c1, c2, c3), fun k q hk => ?_⟩
  match k with
  | 0 => cases hk; exact ⟨fun N z => ⟨(fun k h => by cases h), k1, a2, m1, a3⟩, a1⟩
  | 1 => cases hk; exact ⟨fun N z => ⟨(fun k h => by cases h), k2, b2, m2, b3⟩, b1⟩
  | 2 => cases hk; exact ⟨fun N z => ⟨(fun k h => by cases h), k3, f3, comp, f4⟩, k3, comp, f3, f4, f1, f5⟩
  | k + 3 => simp at hk
theorem st_SF {s : State} {b : Nat} (hts : ∀ w ∈ lw_tbl, w.before #[Value.ref b] s = true) (hgv : (Jvm.Cond.and given_1 narrow_1).before #[Value.ref b] s = true) : ∃ x : Xs, SFQ x (fun q => s.heap.size ≤ q) s := by
  have hs := flat_of_before _ hgv
  have hA : ∀ a : Nat, a < s.heap.size → ¬ (fun q => s.heap.size ≤ q) a := fun a h => Nat.not_le.mpr h
  obtain ⟨t1, e1, T1⟩ := va_Tof (tm := (.static "SunsetSale" "OVER_BIDDERS" "[I")) (ty := .int) (N := 5) (f := fun j => .int (ovB j)) (A := fun q => s.heap.size ≤ q) (by decide) (hs _ fm_1) (va_eqt (hs _ fm_2)) (fun j hj => va_eqt (hs _ (fm_3 j hj))) hA
  obtain ⟨t2, e2, T2⟩ := va_Tof (tm := (.static "SunsetSale" "OVER_EVENINGS" "[I")) (ty := .int) (N := 4) (f := fun j => .int (ovE j)) (A := fun q => s.heap.size ≤ q) (by decide) (hs _ fm_4) (va_eqt (hs _ fm_5)) (fun j hj => va_eqt (hs _ (fm_6 j hj))) hA
  obtain ⟨aK, aV, hS, hE⟩ := vk_Sof (N := 13) (tm := tmS) (len := sLen) (byt := sByt) (A := fun q => s.heap.size ≤ q) fs_7 (fun i hi => hs _ (fs_1 i hi)) (fun i hi => hs _ (fs_2 i hi)) (fun i hi => hs _ (fs_3 i hi)) (fun i hi => hs _ (fs_4 i hi)) (fun i hi j hj => hs _ (fs_5 i hi j hj)) (fun i j hi hj hne => by
    rcases Nat.lt_or_gt_of_ne hne with h | h
    · exact Or.inl (hs _ (fs_6 i hi j hj h))
    · exact Or.inr (hs _ (fs_6 j hj i hi h))) hA
  refine ⟨(t1, t2, aK, aV), ⟨⟨va_Zref (hts _ (List.mem_of_getElem? (i := 550) (by decide +kernel))) (hts _ (List.mem_of_getElem? (i := 45) (by decide +kernel))) e1 hA, T1⟩, ⟨va_Zref (hts _ (List.mem_of_getElem? (i := 567) (by decide +kernel))) (hts _ (List.mem_of_getElem? (i := 45) (by decide +kernel))) e2 hA, T2⟩, ⟨va_Zof (hts _ (List.mem_of_getElem? (i := 436) (by decide +kernel))) (hts _ (List.mem_of_getElem? (i := 55) (by decide +kernel))) (va_eqt (hs _ fm_7)) hA, va_Zqof (hts _ (List.mem_of_getElem? (i := 452) (by decide +kernel))) (hts _ (List.mem_of_getElem? (i := 57) (by decide +kernel))) (hs _ fm_8) hA, hS⟩, ?_, ?_⟩, va_AO.of (hts _ (List.mem_of_getElem? (i := 233) (by decide +kernel)))⟩
  · exact ⟨vk_R.of (hts _ (List.mem_of_getElem? (i := 410) (by decide +kernel))) (hE 0 (by decide)), vk_R.of (hts _ (List.mem_of_getElem? (i := 411) (by decide +kernel))) (hE 1 (by decide)), vk_R.of (hts _ (List.mem_of_getElem? (i := 412) (by decide +kernel))) (hE 2 (by decide)), vk_R.of (hts _ (List.mem_of_getElem? (i := 413) (by decide +kernel))) (hE 3 (by decide)), vk_R.of (hts _ (List.mem_of_getElem? (i := 414) (by decide +kernel))) (hE 4 (by decide)), vk_R.of (hts _ (List.mem_of_getElem? (i := 415) (by decide +kernel))) (hE 5 (by decide)), vk_R.of (hts _ (List.mem_of_getElem? (i := 416) (by decide +kernel))) (hE 6 (by decide)), vk_R.of (hts _ (List.mem_of_getElem? (i := 417) (by decide +kernel))) (hE 7 (by decide)), vk_R.of (hts _ (List.mem_of_getElem? (i := 418) (by decide +kernel))) (hE 8 (by decide)), vk_R.of (hts _ (List.mem_of_getElem? (i := 419) (by decide +kernel))) (hE 9 (by decide)), vk_R.of (hts _ (List.mem_of_getElem? (i := 420) (by decide +kernel))) (hE 10 (by decide)), vk_R.of (hts _ (List.mem_of_getElem? (i := 421) (by decide +kernel))) (hE 11 (by decide)), vk_R.of (hts _ (List.mem_of_getElem? (i := 422) (by decide +kernel))) (hE 12 (by decide))⟩
  · exact ⟨va_Nw.of rfl (hts _ (List.mem_of_getElem? (i := 72) (by decide +kernel))), va_Nw.of rfl (hts _ (List.mem_of_getElem? (i := 115) (by decide +kernel))), va_Nw.of rfl (hts _ (List.mem_of_getElem? (i := 170) (by decide +kernel))), va_Nw.of rfl (hts _ (List.mem_of_getElem? (i := 234) (by decide +kernel))), va_Nw.of rfl (hts _ (List.mem_of_getElem? (i := 479) (by decide +kernel))), va_Nw.of rfl (hts _ (List.mem_of_getElem? (i := 482) (by decide +kernel))), va_Nw.of rfl (hts _ (List.mem_of_getElem? (i := 508) (by decide +kernel))), va_Nw.of rfl (hts _ (List.mem_of_getElem? (i := 516) (by decide +kernel))), va_Nw.of rfl (hts _ (List.mem_of_getElem? (i := 777) (by decide +kernel)))⟩
theorem st_ov {s : State} {b : Nat} (hts : ∀ w ∈ lw_tbl, w.before #[Value.ref b] s = true) : (Cond.arrayOver (.object RX1)).before #[Value.ref b] s = true := hts _ (List.mem_of_getElem? (i := 233) (by decide +kernel))
theorem vaD_app {A : Nat → Prop} {X Y : va_W} (h : va_D A (X ++ Y)) : va_D A X ∧ va_D A Y ∧ ∀ (i j : Nat) (p q : Nat × va_E), X[i]? = some p → Y[j]? = some q → p.1 ≠ q.1 := by
  have hx : ∀ (k : Nat) (q : Nat × va_E), X[k]? = some q → (X ++ Y)[k]? = some q := fun k q hk => by
    rw [List.getElem?_append_left (List.getElem?_eq_some_iff.mp hk).1]; exact hk
  have hy : ∀ (k : Nat) (q : Nat × va_E), Y[k]? = some q → (X ++ Y)[X.length + k]? = some q := fun k q hk => by
    rw [List.getElem?_append_right (Nat.le_add_right _ _), Nat.add_sub_cancel_left]; exact hk
  refine ⟨⟨fun i j p q hi hj e => h.1 i j p q (hx i p hi) (hx j q hj) e, fun k q hk => h.2 k q (hx k q hk)⟩, ⟨fun i j p q hi hj e => ?_, fun k q hk => h.2 _ q (hy k q hk)⟩, fun i j p q hi hj e => ?_⟩
  · have := h.1 _ _ p q (hy i p hi) (hy j q hj) e
    omega
  · have h1 := h.1 _ _ p q (hx i p hi) (hy j q hj) e
    have h2 := (List.getElem?_eq_some_iff.mp hi).1
    omega
set_option maxRecDepth 100000 in
set_option maxHeartbeats 4000000 in
theorem law_all {κ0 : Kx} {D : va_G} {cs : Cs} {x : Xs} {b L : Nat} {xs : Nat → Int32} {τ : Mem} (hnL : κ0.nL = 4) (hX : va_X b L xs κ0.s κ0.s.heap) (hbl : b < κ0.s.heap.size) (hL : L ≤ 2048) (kc : KC κ0 (PL D cs x κ0.s.heap.size) RL code 12 600000 7302250 κ0 []) (hend : ∀ (c s : Nat) (ws : va_W) (κ : Kx) (lv : List (Option Value)), KC κ0 (PL D cs x κ0.s.heap.size) RL code 12 c s κ ws → Z κ (OW (PL D cs x κ0.s.heap.size) ws) τ 914 lv []) : Z κ0 (OW (PL D cs x κ0.s.heap.size) []) τ 0 [some (.ref b), none, none, none] [] := by
  refine k_new (N := 9) (c := 599999) (s := 7302241) (ci := 7) (fs := [.null, .null, .null, .null, .null, .null, .null, .null, .null]) kc inX7 tyX7_ok hL_7 aX7 iX7 rfl (fun j hj => by rcases (show j = 0 ∨ j = 1 ∨ j = 2 ∨ j = 3 ∨ j = 4 ∨ j = 5 ∨ j = 6 ∨ j = 7 ∨ j = 8 by omega) with rfl | rfl | rfl | rfl | rfl | rfl | rfl | rfl | rfl <;> rfl) dL_law_0 (fun h0 κ kc => ?_)
  refine z_dup kc.cx dL_law_3 rfl ?_
  refine k_ctorI (As := []) (c := 599877) (s := 7301110) (mc := 122) (ms := 1131) kc nX7_init rfl rfl jX7_init kL_9 (k_X7_init cs) (by decide) rfl rfl (Nat.le_of_ble_eq_true rfl) dL_law_4 (fun u κ hu kc => ?_)
  obtain ⟨ad, σ⟩ := u
  obtain ⟨e0, hA⟩ := hu
  have e0 : ad 0 = h0 := e0
  have hA : Anew σ (fun _ => z0) := hA
  refine z_astore_n kc.cx 1 dL_law_7 rfl (kc.nL.trans hnL) (by decide) rfl ?_
  refine k_new (N := 18) (c := 599876) (s := 7301092) (ci := 8) (fs := [.null, .null, .null, .int 0, .null, .null, .null, .int 0, .null, .int 0, .null, .int 0, .int 0, .int 0, .int 0, .int 0, .int 0, .int 0]) kc inX8 tyX8_ok hL_10 aX8 iX8 rfl (fun j hj => by rcases (show j = 0 ∨ j = 1 ∨ j = 2 ∨ j = 3 ∨ j = 4 ∨ j = 5 ∨ j = 6 ∨ j = 7 ∨ j = 8 ∨ j = 9 ∨ j = 10 ∨ j = 11 ∨ j = 12 ∨ j = 13 ∨ j = 14 ∨ j = 15 ∨ j = 16 ∨ j = 17 by omega) with rfl | rfl | rfl | rfl | rfl | rfl | rfl | rfl | rfl | rfl | rfl | rfl | rfl | rfl | rfl | rfl | rfl | rfl <;> rfl) dL_law_8 (fun h2 κ kc => ?_)
  refine z_dup kc.cx dL_law_11 rfl ?_
  refine k_ctorI (As := []) (c := 599868) (s := 7299713) (mc := 8) (ms := 1379) kc nX8_init rfl rfl jX8_init kL_12 (k_X8_init cs) (by decide) rfl rfl (Nat.le_of_ble_eq_true rfl) dL_law_12 (fun u2 κ _ kc => ?_)
  refine z_astore_n kc.cx 2 dL_law_15 rfl (kc.nL.trans hnL) (by decide) rfl ?_
  refine z_iconst kc.cx dL_law_16 ic_0 ?_
  refine z_istore_n kc.cx 3 dL_law_17 rfl (kc.nL.trans hnL) (by decide) rfl ?_
  obtain ⟨ad2, e2, e8⟩ : ∃ ad2 : Nat → Nat, ad2 0 = h2 ∧ wX8 cs h2 u2 = wdG 9 ad2 (mE (gK D cs x ad2)) (fun _ => z0) := ⟨fun i => ([h2, u2 0, u2 1, u2 2, u2 3, u2 4, u2 5, u2 6, u2 7] : List Nat).getD i 0, rfl, rfl⟩
  rw [e8, List.nil_append] at kc ⊢
  have kc : KC κ0 (PL D cs x κ0.s.heap.size) RL code 12 599868 7299713 κ (LW D cs x ad ad2 σ (fun _ => z0)) := kc
  have hD : va_D (fun q => κ0.s.heap.size ≤ q) (LW D cs x ad ad2 σ (fun _ => z0)) := kc.1.2.2.2.2.2.2.1.1 (fun _ _ => 0)
  obtain ⟨hD1, hD2, hD3⟩ := vaD_app hD
  obtain ⟨g1, a1⟩ := apG_of hD1
  obtain ⟨g2, a2⟩ := apG_of hD2
  have lc : LC κ0 ad ad2 b L xs := ⟨hnL, ⟨g1, g2⟩, ⟨a1, a2⟩, fun i j hi hj => hD3 i j _ _ (wdG_at hi) (wdG_at hj), hX, hbl, hL⟩
  refine z_eq (lv2 := lvL b ad ad2 0) rfl ?_ rfl ?_
  · show [some (.ref b), some (.ref h0), some (.ref h2), some (.int 0)] = lvL b ad ad2 0
    rw [← e0, ← e2]; rfl
  exact law_loop lc (fun σ μ κ i kc => hend _ _ _ κ _ kc) 512 0 σ _ κ (by omega) (by omega) (inv_0 hA) kc
