set_option maxRecDepth 100000 in
set_option maxHeartbeats 4000000 in
theorem c_X0_topBid {l : Launch} {g : Gx} (hg : ApG 123 g.ad) (σ : Mem) {j pu : Nat} (hj : j < 5) (hp : pu < 2 ^ 31) (eP : σ 13 j = nI pu) : Ct l (OC g) 1 mX0_topBid [.ref (g.ad 115), .int (nI j)] σ (some (.int (nI (tpN pu)))) σ := by
  refine ct_of (lv := [some (.ref (g.ad 115)), some (.int (nI j))]) (okC hg) (by decide +kernel) (Nat.le_of_ble_eq_true rfl) (fun ls h => lvh_entry h rfl 0) ?_
  intro κ hl hnL cx hR
  subst hl
  have cx : Cx κ (OC g) RX0 cX0_topBid 1 := cx
  have hnL : κ.nL = 2 := hnL
  refine z_bipush cx dX0_topBid_0 bi_99 ?_
  refine z_aload_n cx 0 dX0_topBid_2 rfl rfl ?_
  refine gX0_19 cx dX0_topBid_3 ?_
  refine gX0_98 cx dX0_topBid_6 ?_
  refine z_iload_n cx 1 dX0_topBid_9 rfl rfl ?_
  refine g_ialdN cx j (by decide) (fun _ => rfl) rfl (by omega) (by decide) dX0_topBid_10 ?_
  rw [eP]
  refine z_mmin cx kX0_117 sM_min iM_math cM_min (by decide) (Nat.le_of_ble_eq_true rfl) dX0_topBid_11 ?_
  refine z_iret cx hR ⟨?_, rfl⟩ dX0_topBid_14
  have e9 : (nI pu < 99) ↔ pu < 99 := nI_ltI (b := 99) hp (by decide)
  unfold tpN
  by_cases c : pu < 99
  · rw [if_pos (e9.mpr c), if_pos c]
  · rw [if_neg (fun z => c (e9.mp z)), if_neg c]; rfl
set_option maxRecDepth 100000 in
set_option maxHeartbeats 4000000 in
theorem c_X0_dearestPrice {l : Launch} {g : Gx} (hg : ApG 123 g.ad) (σ : Mem) {n t j pu : Nat} (hA : AuH σ n t) (hj : j < 5) (hp : pu < 2 ^ 31) (eP : σ 13 j = nI pu) : Ct l (OC g) 3 mX0_dearestPrice [.ref (g.ad 115), .int (nI j)] σ (some (.int (dP (fun pr => gn (σ 9 j) (σ 10 j) (σ 8 t) (σ 7 t) (σ 6 2) pr) (tpN pu)))) σ := by
  refine ct_of (lv := [some (.ref (g.ad 115)), some (.int (nI j)), none]) (okC hg) (by decide +kernel) (Nat.le_of_ble_eq_true rfl) (fun ls h => lvh_entry h rfl 1) ?_
  intro κ hl hnL cx hR
  subst hl
  have cx : Cx κ (OC g) RX0 cX0_dearestPrice 3 := cx
  have hnL : κ.nL = 3 := hnL
  obtain ⟨hn, hb, ht, eT⟩ := hA
  have loop : ∀ p : Nat, p ≤ 99 → dP (fun pr => gn (σ 9 j) (σ 10 j) (σ 8 t) (σ 7 t) (σ 6 2) pr) p = dP (fun pr => gn (σ 9 j) (σ 10 j) (σ 8 t) (σ 7 t) (σ 6 2) pr) (tpN pu) → Z κ (OC g) σ 6 [some (.ref (g.ad 115)), some (.int (nI j)), some (.int (nI p))] [] := by
    intro p
    induction p with
    | zero =>
      intro _ he
      refine z_iload_n cx 2 dX0_dearestPrice_6 rfl rfl ?_
      refine z_if_le (tgt := 37) cx dX0_dearestPrice_7 (by decide) (fun c_7 => ?_) (fun c_7 => ?_)
      · refine z_iconst cx dX0_dearestPrice_37 ic_0 ?_
        exact z_iret cx hR ⟨by rw [← he]; rfl, rfl⟩ dX0_dearestPrice_38
      · exact absurd (show nI 0 ≤ 0 by decide) c_7
    | succ p ih =>
      intro hp9 he
      refine z_iload_n cx 2 dX0_dearestPrice_6 rfl rfl ?_
      refine z_if_le (tgt := 37) cx dX0_dearestPrice_7 (by decide) (fun c_7 => ?_) (fun c_7 => ?_)
      · exact absurd c_7 (nI_nle (by omega) (by omega))
      · refine z_aload_n cx 0 dX0_dearestPrice_10 rfl rfl ?_
        refine gX0_15 cx dX0_dearestPrice_11 ?_
        refine z_iload_n cx 1 dX0_dearestPrice_14 rfl rfl ?_
        refine z_aload_n cx 0 dX0_dearestPrice_15 rfl rfl ?_
        refine gX0_19 cx dX0_dearestPrice_16 ?_
        refine gX0_42 cx dX0_dearestPrice_19 ?_
        refine z_iload_n cx 2 dX0_dearestPrice_22 rfl rfl ?_
        rw [eT]
        refine z_V3i cx vX6_gainOf kX0_54 (c_X6_gainOf hg σ hj ht _) (by decide) hC6 rfl rfl (Nat.le_of_ble_eq_true rfl) dX0_dearestPrice_23 ?_
        refine z_if_lt (tgt := 31) cx dX0_dearestPrice_26 (by decide) (fun c_26 => ?_) (fun c_26 => ?_)
        · refine z_iinc cx dX0_dearestPrice_31 rfl ic_m1 (pk_m1 p) hnL (by decide) rfl ?_
          refine z_goto (tgt := 6) cx dX0_dearestPrice_34 (by decide) ?_
          exact ih (by omega) (by rw [← he, dP, if_pos c_26])
        · refine z_iload_n cx 2 dX0_dearestPrice_29 rfl rfl ?_
          exact z_iret cx hR ⟨by rw [← he, dP, if_neg c_26], rfl⟩ dX0_dearestPrice_30
  refine z_aload_n cx 0 dX0_dearestPrice_0 rfl rfl ?_
  refine z_iload_n cx 1 dX0_dearestPrice_1 rfl rfl ?_
  refine z_V1i cx vX0_topBid kX0_114 (c_X0_topBid hg σ hj hp eP) (by decide) hC115 rfl rfl (Nat.le_of_ble_eq_true rfl) dX0_dearestPrice_2 ?_
  refine z_istore_n cx 2 dX0_dearestPrice_5 rfl hnL (by decide) rfl ?_
  exact loop (tpN pu) (tpN_le pu) rfl
/-- what one has by the bid k, all others as they are -/
def rpF (σ : Mem) (n t j : Nat) : Nat → Int32 := fun k => hsG (σ 6 0) (σ 6 1) (σ 6 2) (σ 9) (σ 10) (σ 8 t) (σ 7 t) (upd (σ 15) j (nI k)) n j
theorem cpy5 (f h : Nat → Int32) {k : Nat} (hk : k < 5) : va_cpy f h (0 : Int32).toNatClampNeg (0 : Int32).toNatClampNeg (5 : Int32).toNatClampNeg k = f k := cpy05 f h hk
set_option maxRecDepth 100000 in
set_option maxHeartbeats 4000000 in
theorem c_X0_findReply {l : Launch} {g : Gx} (hg : ApG 123 g.ad) (σ : Mem) {n t j pu : Nat} (hA : AuH σ n t) (hj : j < n) (hp : pu < 2 ^ 31) (eP : σ 13 j = nI pu) : CtV l (OC g) 4 mX0_findReply [.ref (g.ad 115), .int (nI j)] σ (fun σ' => (σ' 115 3 = (rpG (rpF σ n t j) (tpN pu + 1)).1 ∧ σ' 115 4 = (rpG (rpF σ n t j) (tpN pu + 1)).2) ∧ OffA σ' σ) := by
  refine ct_of (lv := [some (.ref (g.ad 115)), some (.int (nI j)), none, none, none]) (okC hg) (by decide +kernel) (Nat.le_of_ble_eq_true rfl) (fun ls h => lvh_entry h rfl 3) ?_
  intro κ hl hnL cx hR
  subst hl
  have cx : Cx κ (OC g) RX0 cX0_findReply 4 := cx
  have hnL : κ.nL = 5 := hnL
  obtain ⟨hn, hb, ht, eT⟩ := hA
  have ht9 := tpN_le pu
  have loop : ∀ (c k : Nat), tpN pu + 2 ≤ k + c → k ≤ tpN pu + 1 → ∀ (τ : Mem) (x : Option Value), OffA τ σ → (∀ b, b < 5 → b ≠ j → τ 116 b = σ 15 b) → τ 115 3 = (rpG (rpF σ n t j) k).1 → τ 115 4 = (rpG (rpF σ n t j) k).2 → Z κ (OC g) τ 35 [some (.ref (g.ad 115)), some (.int (nI j)), some (.int (nI (tpN pu))), some (.int (nI k)), x] [] := by
    intro c
    induction c with
    | zero => intro k h1 h2; exact absurd h1 (by omega)
    | succ c ih =>
      intro k h1 h2 τ x hO hb9 e3 e4
      refine z_iload_n cx 3 dX0_findReply_35 rfl rfl ?_
      refine z_iload_n cx 2 dX0_findReply_36 rfl rfl ?_
      refine z_icmp_gt (tgt := 84) cx dX0_findReply_37 (by decide) (fun c_37 => ?_) (fun c_37 => ?_)
      · rw [nI_ltI (by omega) (by omega)] at c_37
        have e9 : k = tpN pu + 1 := by omega
        subst e9
        exact z_vret cx hR ⟨rfl, ⟨e3, e4⟩, hO⟩ dX0_findReply_84
      · rw [nI_ltI (by omega) (by omega)] at c_37
        refine z_aload_n cx 0 dX0_findReply_40 rfl rfl ?_
        refine gX0_9 cx dX0_findReply_41 ?_
        refine z_iload_n cx 1 dX0_findReply_44 rfl rfl ?_
        refine z_iload_n cx 3 dX0_findReply_45 rfl rfl ?_
        refine g_iastN cx j (by decide) (fun _ => rfl) rfl (by omega) (by decide) dX0_findReply_46 ?_
        refine z_aload_n cx 0 dX0_findReply_47 rfl rfl ?_
        refine z_aload_n cx 0 dX0_findReply_48 rfl rfl ?_
        refine gX0_9 cx dX0_findReply_49 ?_
        refine z_iload_n cx 1 dX0_findReply_52 rfl rfl ?_
        refine z_V2i cx vX0_gainBy kX0_132 (c_X0_gainBy (n := n) (t := t) hg (up2 τ 116 j (nI k)) (by decide) (fun _ => rfl) ⟨hn, (congrFun (hO 6 (by decide) (by decide)) 4).trans hb, ht, (congrFun (hO 12 (by decide) (by decide)) 0).trans eT⟩ (by omega)) (by decide) hC115 rfl rfl (Nat.le_of_ble_eq_true rfl) dX0_findReply_53 ?_
        have eG : hsG ((up2 τ 116 j (nI k)) 6 0) ((up2 τ 116 j (nI k)) 6 1) ((up2 τ 116 j (nI k)) 6 2) ((up2 τ 116 j (nI k)) 9) ((up2 τ 116 j (nI k)) 10) ((up2 τ 116 j (nI k)) 8 t) ((up2 τ 116 j (nI k)) 7 t) ((up2 τ 116 j (nI k)) 116) n j = rpF σ n t j k := by
          have f6 : (up2 τ 116 j (nI k)) 6 = σ 6 := hO 6 (by decide) (by decide)
          have f9 : (up2 τ 116 j (nI k)) 9 = σ 9 := hO 9 (by decide) (by decide)
          have f10 : (up2 τ 116 j (nI k)) 10 = σ 10 := hO 10 (by decide) (by decide)
          have f8 : (up2 τ 116 j (nI k)) 8 = σ 8 := hO 8 (by decide) (by decide)
          have f7 : (up2 τ 116 j (nI k)) 7 = σ 7 := hO 7 (by decide) (by decide)
          rw [f6, f9, f10, f8, f7]
          refine hsG_congr _ _ _ _ _ _ _ (by omega) hj (fun b hb8 => ?_)
          rw [up2_at]
          by_cases q : b = j
          · subst q; rw [upd_at, upd_at]
          · rw [upd_ne _ _ q, upd_ne _ _ q]; exact hb9 b (by omega) q
        rw [eG]
        refine z_istore cx dX0_findReply_56 hnL (by decide) rfl ?_
        refine z_iload cx dX0_findReply_58 rfl ?_
        refine z_aload_n cx 0 dX0_findReply_60 rfl rfl ?_
        refine gX0_129 cx dX0_findReply_61 ?_
        rw [show (up2 τ 116 j (nI k)) 115 4 = (rpG (rpF σ n t j) k).2 from e4]
        refine z_icmp_le (tgt := 78) cx dX0_findReply_64 (by decide) (fun c_64 => ?_) (fun c_64 => ?_)
        · refine z_iinc cx dX0_findReply_78 rfl ic_1 (nI_1 k) hnL (by decide) rfl ?_
          refine z_goto (tgt := 35) cx dX0_findReply_81 (by decide) ?_
          refine ih (k + 1) (by omega) (by omega) _ _ (fun q h3 h4 => by rw [up2_ne _ _ _ h4]; exact hO q h3 h4) (fun b h3 h4 => by rw [up2_at, upd_ne _ _ h4]; exact hb9 b h3 h4) ?_ ?_
          · rw [rpG, if_pos c_64]; exact e3
          · rw [rpG, if_pos c_64]; exact e4
        · refine z_aload_n cx 0 dX0_findReply_67 rfl rfl ?_
          refine z_iload_n cx 3 dX0_findReply_68 rfl rfl ?_
          refine pX0_126 cx dX0_findReply_69 ?_
          refine z_aload_n cx 0 dX0_findReply_72 rfl rfl ?_
          refine z_iload cx dX0_findReply_73 rfl ?_
          refine pX0_129 cx dX0_findReply_75 ?_
          refine z_iinc cx dX0_findReply_78 rfl ic_1 (nI_1 k) hnL (by decide) rfl ?_
          refine z_goto (tgt := 35) cx dX0_findReply_81 (by decide) ?_
          refine ih (k + 1) (by omega) (by omega) _ _ (fun q h3 h4 => by rw [up2_ne _ _ _ h3, up2_ne _ _ _ h3, up2_ne _ _ _ h4]; exact hO q h3 h4) (fun b h3 h4 => by rw [up2_ne _ _ _ (by decide), up2_ne _ _ _ (by decide), up2_at, upd_ne _ _ h4]; exact hb9 b h3 h4) ?_ ?_
          · rw [rpG, if_neg c_64]; rfl
          · rw [rpG, if_neg c_64]; rfl
  refine z_aload_n cx 0 dX0_findReply_0 rfl rfl ?_
  refine gX0_19 cx dX0_findReply_1 ?_
  refine gX0_58 cx dX0_findReply_4 ?_
  refine z_iconst cx dX0_findReply_7 ic_0 ?_
  refine z_aload_n cx 0 dX0_findReply_8 rfl rfl ?_
  refine gX0_9 cx dX0_findReply_9 ?_
  refine z_iconst cx dX0_findReply_12 ic_0 ?_
  refine z_iconst cx dX0_findReply_13 ic_5 ?_
  refine g_copy cx kX0_120 (by decide) (by decide) (by decide) (fun _ => rfl) (fun _ => rfl) (by decide) (by decide) (by decide) (by decide) (by decide) (Nat.le_of_ble_eq_true rfl) dX0_findReply_14 ?_
  refine z_aload_n cx 0 dX0_findReply_17 rfl rfl ?_
  refine z_iconst cx dX0_findReply_18 ic_m1 ?_
  refine pX0_126 cx dX0_findReply_19 ?_
  refine z_aload_n cx 0 dX0_findReply_22 rfl rfl ?_
  refine z_iconst cx dX0_findReply_23 ic_0 ?_
  refine pX0_129 cx dX0_findReply_24 ?_
  refine z_aload_n cx 0 dX0_findReply_27 rfl rfl ?_
  refine z_iload_n cx 1 dX0_findReply_28 rfl rfl ?_
  refine z_V1i cx vX0_topBid kX0_114 (c_X0_topBid hg _ (by omega) hp eP) (by decide) hC115 rfl rfl (Nat.le_of_ble_eq_true rfl) dX0_findReply_29 ?_
  refine z_istore_n cx 2 dX0_findReply_32 rfl hnL (by decide) rfl ?_
  refine z_iconst cx dX0_findReply_33 ic_0 ?_
  refine z_istore_n cx 3 dX0_findReply_34 rfl hnL (by decide) rfl ?_
  refine loop (tpN pu + 2) 0 (by omega) (by omega) _ _ (fun q h3 h4 => ?_) (fun b h3 h4 => ?_) rfl rfl
  · rw [up2_ne _ _ _ h3, up2_ne _ _ _ h3, upA_ne _ _ h4]
  · rw [up2_ne _ _ _ (by decide), up2_ne _ _ _ (by decide), upA_at]; exact cpy5 _ _ h3
def tmT (σ : Mem) (n t : Nat) : Nat → Bool := fun b => !decide ((rpG (rpF σ n t b) (tpN (σ 13 b).toNatClampNeg + 1)).2 ≤ hsG (σ 6 0) (σ 6 1) (σ 6 2) (σ 9) (σ 10) (σ 8 t) (σ 7 t) (σ 15) n b)
theorem rpF_off {τ σ : Mem} (h : OffA τ σ) (n t j : Nat) : rpF τ n t j = rpF σ n t j := by
  funext k
  simp only [rpF, h 6 (by decide) (by decide), h 9 (by decide) (by decide), h 10 (by decide) (by decide), h 8 (by decide) (by decide), h 7 (by decide) (by decide), h 15 (by decide) (by decide)]
theorem AuH_off {τ σ : Mem} (h : OffA τ σ) {n t : Nat} (hA : AuH σ n t) : AuH τ n t := ⟨hA.1, (congrFun (h 6 (by decide) (by decide)) 4).trans hA.2.1, hA.2.2.1, (congrFun (h 12 (by decide) (by decide)) 0).trans hA.2.2.2⟩
theorem OffA.trans {τ σ ρ : Mem} (h : OffA τ σ) (h2 : OffA σ ρ) : OffA τ ρ := fun q h3 h4 => (h q h3 h4).trans (h2 q h3 h4)
set_option maxRecDepth 100000 in
set_option maxHeartbeats 4000000 in
theorem c_X0_findTempted {l : Launch} {g : Gx} (hg : ApG 123 g.ad) (σ : Mem) {n t : Nat} (hA : AuH σ n t) (hP : ∀ b, b < n → ∃ pu, pu < 2 ^ 31 ∧ σ 13 b = nI pu) : CtI l (OC g) 5 mX0_findTempted [.ref (g.ad 115)] σ (fun v σ' => v = tpS (tmT σ n t) n ∧ OffA σ' σ) := by
  refine ct_of (lv := [some (.ref (g.ad 115)), none, none]) (okC hg) (by decide +kernel) (Nat.le_of_ble_eq_true rfl) (fun ls h => lvh_entry h rfl 2) ?_
  intro κ hl hnL cx hR
  subst hl
  have cx : Cx κ (OC g) RX0 cX0_findTempted 5 := cx
  have hnL : κ.nL = 3 := hnL
  have hn := hA.1
  have loop : ∀ (c b : Nat), n + 1 ≤ b + c → b ≤ n → ∀ τ : Mem, OffA τ σ → Z κ (OC g) τ 4 [some (.ref (g.ad 115)), some (.int (tpS (tmT σ n t) b)), some (.int (nI b))] [] := by
    intro c
    induction c with
    | zero => intro b h1 h2; exact absurd h1 (by omega)
    | succ c ih =>
      intro b h1 h2 τ hO
      refine z_iload_n cx 2 dX0_findTempted_4 rfl rfl ?_
      refine z_aload_n cx 0 dX0_findTempted_5 rfl rfl ?_
      refine gX0_15 cx dX0_findTempted_6 ?_
      refine gX0_23 cx dX0_findTempted_9 ?_
      rw [show τ 6 4 = nI n from (AuH_off hO hA).2.1]
      refine z_icmp_ge (tgt := 51) cx dX0_findTempted_12 (by decide) (fun c_12 => ?_) (fun c_12 => ?_)
      · rw [nI_leI (by omega) (by omega)] at c_12
        have e9 : b = n := by omega
        subst e9
        refine z_iload_n cx 1 dX0_findTempted_51 rfl rfl ?_
        exact z_iret cx hR ⟨_, rfl, rfl, hO⟩ dX0_findTempted_52
      · rw [nI_leI (by omega) (by omega)] at c_12
        obtain ⟨pu, hpu, ePu⟩ := hP b (by omega)
        refine z_aload_n cx 0 dX0_findTempted_15 rfl rfl ?_
        refine z_iload_n cx 2 dX0_findTempted_16 rfl rfl ?_
        refine z_V1V cx vX0_findReply kX0_136 (c_X0_findReply hg τ (AuH_off hO hA) (by omega) hpu ((congrFun (hO 13 (by decide) (by decide)) b).trans ePu)) (by decide) hC115 rfl rfl (Nat.le_of_ble_eq_true rfl) dX0_findTempted_17 (fun σ_17 h_17 => ?_)
        obtain ⟨⟨e3, e4⟩, hO2⟩ := h_17
        rw [rpF_off hO] at e3 e4
        have hO3 := hO2.trans hO
        refine z_aload_n cx 0 dX0_findTempted_20 rfl rfl ?_
        refine gX0_129 cx dX0_findTempted_21 ?_
        refine z_aload_n cx 0 dX0_findTempted_24 rfl rfl ?_
        refine z_aload_n cx 0 dX0_findTempted_25 rfl rfl ?_
        refine gX0_19 cx dX0_findTempted_26 ?_
        refine gX0_58 cx dX0_findTempted_29 ?_
        refine z_iload_n cx 2 dX0_findTempted_32 rfl rfl ?_
        refine z_V2i cx vX0_gainBy kX0_132 (c_X0_gainBy (n := n) (t := t) hg σ_17 (by decide) (fun _ => rfl) (AuH_off hO3 hA) (by omega)) (by decide) hC115 rfl rfl (Nat.le_of_ble_eq_true rfl) dX0_findTempted_33 ?_
        have eT9 : tmT σ n t b = !decide (σ_17 115 4 ≤ hsG (σ_17 6 0) (σ_17 6 1) (σ_17 6 2) (σ_17 9) (σ_17 10) (σ_17 8 t) (σ_17 7 t) (σ_17 15) n b) := by
          simp only [tmT, e4, hO3 6 (by decide) (by decide), hO3 9 (by decide) (by decide), hO3 10 (by decide) (by decide), hO3 8 (by decide) (by decide), hO3 7 (by decide) (by decide), hO3 15 (by decide) (by decide), ePu, nI_clamp hpu]
        refine z_icmp_le (tgt := 45) cx dX0_findTempted_36 (by decide) (fun c_36 => ?_) (fun c_36 => ?_)
        · refine z_iinc cx dX0_findTempted_45 rfl ic_1 (nI_1 b) hnL (by decide) rfl ?_
          refine z_goto (tgt := 4) cx dX0_findTempted_48 (by decide) ?_
          have e8 : tmT σ n t b = false := by rw [eT9]; simp [c_36]
          exact z_eq rfl (by simp [tpS, e8]) rfl (ih (b + 1) (by omega) (by omega) σ_17 hO3)
        · refine z_iload_n cx 1 dX0_findTempted_39 rfl rfl ?_
          refine z_iconst cx dX0_findTempted_40 ic_1 ?_
          refine z_iload_n cx 2 dX0_findTempted_41 rfl rfl ?_
          refine z_ishl cx dX0_findTempted_42 ?_
          refine z_ior cx dX0_findTempted_43 ?_
          refine z_istore_n cx 1 dX0_findTempted_44 rfl hnL (by decide) rfl ?_
          refine z_iinc cx dX0_findTempted_45 rfl ic_1 (nI_1 b) hnL (by decide) rfl ?_
          refine z_goto (tgt := 4) cx dX0_findTempted_48 (by decide) ?_
          have e8 : tmT σ n t b = true := by rw [eT9]; simp [c_36]
          exact z_eq rfl (by simp [tpS, e8]) rfl (ih (b + 1) (by omega) (by omega) σ_17 hO3)
  refine z_iconst cx dX0_findTempted_0 ic_0 ?_
  refine z_istore_n cx 1 dX0_findTempted_1 rfl hnL (by decide) rfl ?_
  refine z_iconst cx dX0_findTempted_2 ic_0 ?_
  refine z_istore_n cx 2 dX0_findTempted_3 rfl hnL (by decide) rfl ?_
  exact loop (n + 1) 0 (by omega) (by omega) σ (fun _ _ _ => rfl)
def bcX (i : Int32) : Int32 :=
  let a := i - ((i.toUInt32 >>> ((1 : Int32).toUInt32 &&& Int32.toUInt32 31)).toInt32 &&& 1431655765)
  let b := (a &&& 858993459) + ((a.toUInt32 >>> ((2 : Int32).toUInt32 &&& Int32.toUInt32 31)).toInt32 &&& 858993459)
  let c := (b + (b.toUInt32 >>> ((4 : Int32).toUInt32 &&& Int32.toUInt32 31)).toInt32) &&& 252645135
  let e := c + (c.toUInt32 >>> ((8 : Int32).toUInt32 &&& Int32.toUInt32 31)).toInt32
  let f := e + (e.toUInt32 >>> ((16 : Int32).toUInt32 &&& Int32.toUInt32 31)).toInt32
  f &&& 63
theorem bcX_N : ∀ k, k < 32 → bcX (nI k) = nI (bcN k) := by decide +kernel
set_option maxRecDepth 100000 in
set_option maxHeartbeats 4000000 in
theorem c_J6_bitCount_0f7a4 {l : Launch} {g : Gx} (hg : ApG 123 g.ad) (σ : Mem) {k : Nat} (hk : k < 32) : Ct l (OC g) 0 mJ6_bitCount_0f7a4 [.int (nI k)] σ (some (.int (nI (bcN k)))) σ := by
  refine ct_of (lv := [some (.int (nI k))]) (okC hg) (by decide +kernel) (Nat.le_of_ble_eq_true rfl) (fun ls h => lvh_entry h rfl 0) ?_
  intro κ hl hnL cx hR
  subst hl
  have cx : Cx κ (OC g) RJ6 cJ6_bitCount_0f7a4 0 := cx
  have hnL : κ.nL = 1 := hnL
  refine z_iload_n cx 0 dJ6_bitCount_0f7a4_0 rfl rfl ?_
  refine z_iload_n cx 0 dJ6_bitCount_0f7a4_1 rfl rfl ?_
  refine z_iconst cx dJ6_bitCount_0f7a4_2 ic_1 ?_
  refine z_iushr cx dJ6_bitCount_0f7a4_3 rfl ?_
  refine z_ldcw cx qJ6_265 dJ6_bitCount_0f7a4_4 ?_
  refine z_iand cx dJ6_bitCount_0f7a4_7 ?_
  refine z_isub cx dJ6_bitCount_0f7a4_8 ?_
  refine z_istore_n cx 0 dJ6_bitCount_0f7a4_9 rfl hnL (by decide) rfl ?_
  refine z_iload_n cx 0 dJ6_bitCount_0f7a4_10 rfl rfl ?_
  refine z_ldcw cx qJ6_266 dJ6_bitCount_0f7a4_11 ?_
  refine z_iand cx dJ6_bitCount_0f7a4_14 ?_
  refine z_iload_n cx 0 dJ6_bitCount_0f7a4_15 rfl rfl ?_
  refine z_iconst cx dJ6_bitCount_0f7a4_16 ic_2 ?_
  refine z_iushr cx dJ6_bitCount_0f7a4_17 rfl ?_
  refine z_ldcw cx qJ6_266 dJ6_bitCount_0f7a4_18 ?_
  refine z_iand cx dJ6_bitCount_0f7a4_21 ?_
  refine z_iadd cx dJ6_bitCount_0f7a4_22 ?_
  refine z_istore_n cx 0 dJ6_bitCount_0f7a4_23 rfl hnL (by decide) rfl ?_
  refine z_iload_n cx 0 dJ6_bitCount_0f7a4_24 rfl rfl ?_
  refine z_iload_n cx 0 dJ6_bitCount_0f7a4_25 rfl rfl ?_
  refine z_iconst cx dJ6_bitCount_0f7a4_26 ic_4 ?_
  refine z_iushr cx dJ6_bitCount_0f7a4_27 rfl ?_
  refine z_iadd cx dJ6_bitCount_0f7a4_28 ?_
  refine z_ldcw cx qJ6_267 dJ6_bitCount_0f7a4_29 ?_
  refine z_iand cx dJ6_bitCount_0f7a4_32 ?_
  refine z_istore_n cx 0 dJ6_bitCount_0f7a4_33 rfl hnL (by decide) rfl ?_
  refine z_iload_n cx 0 dJ6_bitCount_0f7a4_34 rfl rfl ?_
  refine z_iload_n cx 0 dJ6_bitCount_0f7a4_35 rfl rfl ?_
  refine z_bipush cx dJ6_bitCount_0f7a4_36 bi_8 ?_
  refine z_iushr cx dJ6_bitCount_0f7a4_38 rfl ?_
  refine z_iadd cx dJ6_bitCount_0f7a4_39 ?_
  refine z_istore_n cx 0 dJ6_bitCount_0f7a4_40 rfl hnL (by decide) rfl ?_
  refine z_iload_n cx 0 dJ6_bitCount_0f7a4_41 rfl rfl ?_
  refine z_iload_n cx 0 dJ6_bitCount_0f7a4_42 rfl rfl ?_
  refine z_bipush cx dJ6_bitCount_0f7a4_43 bi_16 ?_
  refine z_iushr cx dJ6_bitCount_0f7a4_45 rfl ?_
  refine z_iadd cx dJ6_bitCount_0f7a4_46 ?_
  refine z_istore_n cx 0 dJ6_bitCount_0f7a4_47 rfl hnL (by decide) rfl ?_
  refine z_iload_n cx 0 dJ6_bitCount_0f7a4_48 rfl rfl ?_
  refine z_bipush cx dJ6_bitCount_0f7a4_49 bi_63 ?_
  refine z_iand cx dJ6_bitCount_0f7a4_51 ?_
  exact z_iret cx hR ⟨by rw [← bcX_N k hk]; rfl, rfl⟩ dJ6_bitCount_0f7a4_52
set_option maxRecDepth 100000 in
set_option maxHeartbeats 4000000 in
theorem c_X0_paymentWithin {l : Launch} {g : Gx} (hg : ApG 123 g.ad) (σ : Mem) {n t k w : Nat} (hA : AuH σ n t) (hw : w < n) : CtI l (OC g) 2 mX0_paymentWithin [.ref (g.ad 115), .int (nI k), .int (nI w)] σ (fun v σ' => v = pay (σ 6 0) (σ 6 1) (siB (σ 15) k w) w n ∧ ∀ q, q ≠ 116 → σ' q = σ q) := by
  refine ct_of (lv := [some (.ref (g.ad 115)), some (.int (nI k)), some (.int (nI w)), none, none]) (okC hg) (by decide +kernel) (Nat.le_of_ble_eq_true rfl) (fun ls h => lvh_entry h rfl 2) ?_
  intro κ hl hnL cx hR
  subst hl
  have cx : Cx κ (OC g) RX0 cX0_paymentWithin 2 := cx
  have hnL : κ.nL = 5 := hnL
  obtain ⟨hn, hb, ht, eT⟩ := hA
  have loop : ∀ (c b : Nat), n + 1 ≤ b + c → b ≤ n → ∀ (τ : Mem) (x : Option Value), (∀ q, q ≠ 116 → τ q = σ q) → (∀ i, i < b → τ 116 i = siB (σ 15) k w i) → Z κ (OC g) τ 2 [some (.ref (g.ad 115)), some (.int (nI k)), some (.int (nI w)), some (.int (nI b)), x] [] := by
    intro c
    induction c with
    | zero => intro b h1 h2; exact absurd h1 (by omega)
    | succ c ih =>
      intro b h1 h2 τ x hO hs
      refine z_iload_n cx 3 dX0_paymentWithin_2 rfl rfl ?_
      refine z_aload_n cx 0 dX0_paymentWithin_3 rfl rfl ?_
      refine gX0_15 cx dX0_paymentWithin_4 ?_
      refine gX0_23 cx dX0_paymentWithin_7 ?_
      rw [show τ 6 4 = nI n from (congrFun (hO 6 (by decide)) 4).trans hb]
      refine z_icmp_ge (tgt := 64) cx dX0_paymentWithin_10 (by decide) (fun c_10 => ?_) (fun c_10 => ?_)
      · rw [nI_leI (by omega) (by omega)] at c_10
        have e9 : b = n := by omega
        subst e9
        refine z_aload_n cx 0 dX0_paymentWithin_64 rfl rfl ?_
        refine z_aload_n cx 0 dX0_paymentWithin_65 rfl rfl ?_
        refine gX0_9 cx dX0_paymentWithin_66 ?_
        refine z_iload_n cx 2 dX0_paymentWithin_69 rfl rfl ?_
        refine z_aload_n cx 0 dX0_paymentWithin_70 rfl rfl ?_
        refine gX0_15 cx dX0_paymentWithin_71 ?_
        refine gX0_47 cx dX0_paymentWithin_74 ?_
        refine z_V3i cx vX0_paymentBy kX0_50 (c_X0_paymentBy hg τ (by decide) (fun _ => rfl) hn ((congrFun (hO 6 (by decide)) 4).trans hb) (by omega) _) (by decide) hC115 rfl rfl (Nat.le_of_ble_eq_true rfl) dX0_paymentWithin_77 ?_
        refine z_iret cx hR ⟨_, rfl, ?_, hO⟩ dX0_paymentWithin_80
        rw [hO 6 (by decide)]
        exact pay_congr _ _ (hs w hw) hs
      · rw [nI_leI (by omega) (by omega)] at c_10
        refine z_iload_n cx 3 dX0_paymentWithin_13 rfl rfl ?_
        refine z_iload_n cx 2 dX0_paymentWithin_14 rfl rfl ?_
        refine z_icmp_eq (tgt := 31) cx dX0_paymentWithin_15 (by decide) (fun c_15 => ?_) (fun c_15 => ?_)
        · have c15 : b = w := (nI_eq (by omega) (by omega)).mp c_15
          refine z_iconst cx dX0_paymentWithin_31 ic_0 ?_
          refine z_istore cx dX0_paymentWithin_32 hnL (by decide) rfl ?_
          refine z_aload_n cx 0 dX0_paymentWithin_34 rfl rfl ?_
          refine gX0_9 cx dX0_paymentWithin_35 ?_
          refine z_iload_n cx 3 dX0_paymentWithin_38 rfl rfl ?_
          refine z_iload cx dX0_paymentWithin_39 rfl ?_
          refine z_if_eq (tgt := 48) cx dX0_paymentWithin_41 (by decide) (fun c_41 => ?_) (fun c_41 => ?_)
          · refine z_aload_n cx 0 dX0_paymentWithin_48 rfl rfl ?_
            refine gX0_19 cx dX0_paymentWithin_49 ?_
            refine gX0_58 cx dX0_paymentWithin_52 ?_
            refine z_iload_n cx 3 dX0_paymentWithin_55 rfl rfl ?_
            refine g_ialdN cx b (by decide) (fun _ => rfl) rfl (by omega) (by decide) dX0_paymentWithin_56 ?_
            refine g_iastN cx b (by decide) (fun _ => rfl) rfl (by omega) (by decide) dX0_paymentWithin_57 ?_
            refine z_iinc cx dX0_paymentWithin_58 rfl ic_1 (nI_1 b) hnL (by decide) rfl ?_
            refine z_goto (tgt := 2) cx dX0_paymentWithin_61 (by decide) ?_
            refine ih (b + 1) (by omega) (by omega) _ _ (fun q h3 => by rw [up2_ne _ _ _ h3]; exact hO q h3) (fun i h3 => ?_)
            rw [up2_at]
            by_cases e : i = b
            · subst e
              rw [upd_at]
              rw [siB, if_neg (fun z => z.1 c15)]
              exact congrFun (hO 15 (by decide)) i
            · rw [upd_ne _ _ e]; exact hs i (by omega)
          · exact absurd rfl c_41
        · have c15 : b ≠ w := fun z => c_15 (by rw [z])
          refine z_iload_n cx 1 dX0_paymentWithin_18 rfl rfl ?_
          refine z_iload_n cx 3 dX0_paymentWithin_19 rfl rfl ?_
          refine z_ishr cx dX0_paymentWithin_20 ?_
          refine z_iconst cx dX0_paymentWithin_21 ic_1 ?_
          refine z_iand cx dX0_paymentWithin_22 ?_
          refine z_iconst cx dX0_paymentWithin_23 ic_1 ?_
          refine z_icmp_ne (tgt := 31) cx dX0_paymentWithin_24 (by decide) (fun c_24 => ?_) (fun c_24 => ?_)
          · refine z_iconst cx dX0_paymentWithin_31 ic_0 ?_
            refine z_istore cx dX0_paymentWithin_32 hnL (by decide) rfl ?_
            refine z_aload_n cx 0 dX0_paymentWithin_34 rfl rfl ?_
            refine gX0_9 cx dX0_paymentWithin_35 ?_
            refine z_iload_n cx 3 dX0_paymentWithin_38 rfl rfl ?_
            refine z_iload cx dX0_paymentWithin_39 rfl ?_
            refine z_if_eq (tgt := 48) cx dX0_paymentWithin_41 (by decide) (fun c_41 => ?_) (fun c_41 => ?_)
            · refine z_aload_n cx 0 dX0_paymentWithin_48 rfl rfl ?_
              refine gX0_19 cx dX0_paymentWithin_49 ?_
              refine gX0_58 cx dX0_paymentWithin_52 ?_
              refine z_iload_n cx 3 dX0_paymentWithin_55 rfl rfl ?_
              refine g_ialdN cx b (by decide) (fun _ => rfl) rfl (by omega) (by decide) dX0_paymentWithin_56 ?_
              refine g_iastN cx b (by decide) (fun _ => rfl) rfl (by omega) (by decide) dX0_paymentWithin_57 ?_
              refine z_iinc cx dX0_paymentWithin_58 rfl ic_1 (nI_1 b) hnL (by decide) rfl ?_
              refine z_goto (tgt := 2) cx dX0_paymentWithin_61 (by decide) ?_
              refine ih (b + 1) (by omega) (by omega) _ _ (fun q h3 => by rw [up2_ne _ _ _ h3]; exact hO q h3) (fun i h3 => ?_)
              rw [up2_at]
              by_cases e : i = b
              · subst e
                rw [upd_at]
                rw [siB, if_neg (fun z => c_24 (by have := z.2; simp only [bt5, decide_eq_true_eq] at this; exact this))]
                exact congrFun (hO 15 (by decide)) i
              · rw [upd_ne _ _ e]; exact hs i (by omega)
            · exact absurd rfl c_41
          · refine z_iconst cx dX0_paymentWithin_27 ic_1 ?_
            refine z_goto (tgt := 32) cx dX0_paymentWithin_28 (by decide) ?_
            refine z_istore cx dX0_paymentWithin_32 hnL (by decide) rfl ?_
            refine z_aload_n cx 0 dX0_paymentWithin_34 rfl rfl ?_
            refine gX0_9 cx dX0_paymentWithin_35 ?_
            refine z_iload_n cx 3 dX0_paymentWithin_38 rfl rfl ?_
            refine z_iload cx dX0_paymentWithin_39 rfl ?_
            refine z_if_eq (tgt := 48) cx dX0_paymentWithin_41 (by decide) (fun c_41 => ?_) (fun c_41 => ?_)
            · exact absurd c_41 (by decide)
            · refine z_iconst cx dX0_paymentWithin_44 ic_m1 ?_
              refine z_goto (tgt := 57) cx dX0_paymentWithin_45 (by decide) ?_
              refine g_iastN cx b (by decide) (fun _ => rfl) rfl (by omega) (by decide) dX0_paymentWithin_57 ?_
              refine z_iinc cx dX0_paymentWithin_58 rfl ic_1 (nI_1 b) hnL (by decide) rfl ?_
              refine z_goto (tgt := 2) cx dX0_paymentWithin_61 (by decide) ?_
              refine ih (b + 1) (by omega) (by omega) _ _ (fun q h3 => by rw [up2_ne _ _ _ h3]; exact hO q h3) (fun i h3 => ?_)
              rw [up2_at]
              by_cases e : i = b
              · subst e
                rw [upd_at]
                show (-1 : Int32) = siB (σ 15) k w i
                rw [siB, if_pos ⟨c15, by rw [bt5, c_24]; rfl⟩]
              · rw [upd_ne _ _ e]; exact hs i (by omega)
  refine z_iconst cx dX0_paymentWithin_0 ic_0 ?_
  refine z_istore_n cx 3 dX0_paymentWithin_1 rfl hnL (by decide) rfl ?_
  exact loop (n + 1) 0 (by omega) (by omega) σ _ (fun _ _ => rfl) (fun i h => absurd h (by omega))
def caS (σ : Mem) (n w : Nat) : Nat → Int32 := fun k => pay (σ 6 0) (σ 6 1) (σ 15) w n - pay (σ 6 0) (σ 6 1) (siB (σ 15) k w) w n
theorem shl5 : ∀ n, n ≤ 5 → (1 : Int32) <<< (nI n &&& 31) = nI (2 ^ n) := by decide +kernel
theorem two5 {n : Nat} (h : n ≤ 5) : 2 ^ n ≤ 32 := by rcases (show n = 0 ∨ n = 1 ∨ n = 2 ∨ n = 3 ∨ n = 4 ∨ n = 5 by omega) with rfl | rfl | rfl | rfl | rfl | rfl <;> decide
set_option maxRecDepth 100000 in
set_option maxHeartbeats 4000000 in
theorem c_X0_findCartel {l : Launch} {g : Gx} (hg : ApG 123 g.ad) (σ : Mem) {n t : Nat} (hA : AuH σ n t) : CtV l (OC g) 3 mX0_findCartel [.ref (g.ad 115)] σ (fun σ' => (σ' 115 5 = (if slW σ n = -1 then (-1, -1) else caG (caS σ n (slW σ n).toNatClampNeg) (slW σ n).toNatClampNeg (2 ^ n)).1 ∧ σ' 115 6 = (if slW σ n = -1 then (-1, -1) else caG (caS σ n (slW σ n).toNatClampNeg) (slW σ n).toNatClampNeg (2 ^ n)).2) ∧ OffA σ' σ) := by
  refine ct_of (lv := [some (.ref (g.ad 115)), none, none, none, none]) (okC hg) (by decide +kernel) (Nat.le_of_ble_eq_true rfl) (fun ls h => lvh_entry h rfl 4) ?_
  intro κ hl hnL cx hR
  subst hl
  have cx : Cx κ (OC g) RX0 cX0_findCartel 3 := cx
  have hnL : κ.nL = 5 := hnL
  have hn := hA.1
  have h32 := two5 hn
  have loop : ∀ (w : Nat), w < n → slW σ n = nI w → ∀ (c k : Nat), 2 ^ n + 1 ≤ k + c → k ≤ 2 ^ n → ∀ (τ : Mem) (x : Option Value), OffA τ σ → τ 115 5 = (caG (caS σ n w) w k).1 → τ 115 6 = (caG (caS σ n w) w k).2 → Z κ (OC g) τ 50 [some (.ref (g.ad 115)), some (.int (nI w)), some (.int (pay (σ 6 0) (σ 6 1) (σ 15) w n)), some (.int (nI k)), x] [] := by
    intro w hw ew c
    have ew1 : ¬ slW σ n = -1 := by rw [ew]; intro z; have := nI_pos (n := w) (by omega); rw [z] at this; exact this (by decide)
    induction c with
    | zero => intro k h1 h2; exact absurd h1 (by omega)
    | succ c ih =>
      intro k h1 h2 τ x hO e5 e6
      refine z_iload_n cx 3 dX0_findCartel_50 rfl rfl ?_
      refine z_iconst cx dX0_findCartel_51 ic_1 ?_
      refine z_aload_n cx 0 dX0_findCartel_52 rfl rfl ?_
      refine gX0_15 cx dX0_findCartel_53 ?_
      refine gX0_23 cx dX0_findCartel_56 ?_
      rw [show τ 6 4 = nI n from (AuH_off hO hA).2.1]
      refine z_ishl cx dX0_findCartel_59 ?_
      rw [shl5 n hn]
      refine z_icmp_ge (tgt := 116) cx dX0_findCartel_60 (by decide) (fun c_60 => ?_) (fun c_60 => ?_)
      · rw [nI_leI (by omega) (by omega)] at c_60
        have e9 : k = 2 ^ n := by omega
        subst e9
        exact z_vret cx hR ⟨rfl, ⟨by rw [if_neg ew1, ew, nI_clamp (by omega)]; exact e5, by rw [if_neg ew1, ew, nI_clamp (by omega)]; exact e6⟩, hO⟩ dX0_findCartel_116
      · rw [nI_leI (by omega) (by omega)] at c_60
        refine z_iload_n cx 3 dX0_findCartel_63 rfl rfl ?_
        refine z_iload_n cx 1 dX0_findCartel_64 rfl rfl ?_
        refine z_ishr cx dX0_findCartel_65 ?_
        refine z_iconst cx dX0_findCartel_66 ic_1 ?_
        refine z_iand cx dX0_findCartel_67 ?_
        refine z_iconst cx dX0_findCartel_68 ic_1 ?_
        refine z_icmp_ne (tgt := 110) cx dX0_findCartel_69 (by decide) (fun c_69 => ?_) (fun c_69 => ?_)
        · refine z_iinc cx dX0_findCartel_110 rfl ic_1 (nI_1 k) hnL (by decide) rfl ?_
          refine z_goto (tgt := 50) cx dX0_findCartel_113 (by decide) ?_
          refine ih (k + 1) (by omega) (by omega) τ _ hO ?_ ?_
          · rw [caG, if_neg (fun z => c_69 (by have := z.1; simp only [bt5, decide_eq_true_eq] at this; exact this))]; exact e5
          · rw [caG, if_neg (fun z => c_69 (by have := z.1; simp only [bt5, decide_eq_true_eq] at this; exact this))]; exact e6
        · have c69 : bt5 k w = true := by rw [bt5]; exact decide_eq_true c_69
          refine z_iload_n cx 3 dX0_findCartel_72 rfl rfl ?_
          refine z_S1i cx sJ6_bitCount_0f7a4 kX0_146 (c_J6_bitCount_0f7a4 hg τ (by omega)) (by decide) (Nat.le_of_ble_eq_true rfl) dX0_findCartel_73 ?_
          refine z_iconst cx dX0_findCartel_76 ic_2 ?_
          refine z_icmp_lt (tgt := 110) cx dX0_findCartel_77 (by decide) (fun c_77 => ?_) (fun c_77 => ?_)
          · have hc9 : bcN k < 2 ^ 31 := by unfold bcN; omega
            have c77 : bcN k < 2 := (nI_ltI (b := 2) hc9 (by decide)).mp c_77
            refine z_iinc cx dX0_findCartel_110 rfl ic_1 (nI_1 k) hnL (by decide) rfl ?_
            refine z_goto (tgt := 50) cx dX0_findCartel_113 (by decide) ?_
            refine ih (k + 1) (by omega) (by omega) τ _ hO ?_ ?_
            · rw [caG, if_neg (fun z => absurd z.2 (by omega))]; exact e5
            · rw [caG, if_neg (fun z => absurd z.2 (by omega))]; exact e6
          · have hc9 : bcN k < 2 ^ 31 := by unfold bcN; omega
            have c77 : 2 ≤ bcN k := Nat.not_lt.mp (fun z => c_77 ((nI_ltI (b := 2) hc9 (by decide)).mpr z))
            refine z_iload_n cx 2 dX0_findCartel_80 rfl rfl ?_
            refine z_aload_n cx 0 dX0_findCartel_81 rfl rfl ?_
            refine z_iload_n cx 3 dX0_findCartel_82 rfl rfl ?_
            refine z_iload_n cx 1 dX0_findCartel_83 rfl rfl ?_
            refine z_V2I cx vX0_paymentWithin kX0_151 (c_X0_paymentWithin hg τ (AuH_off hO hA) hw) (by decide) hC115 rfl rfl (Nat.le_of_ble_eq_true rfl) dX0_findCartel_84 (fun v_84 σ_84 h_84 => ?_)
            obtain ⟨e2, hO2⟩ := h_84
            have hO3 : OffA σ_84 σ := fun q h3 h4 => (hO2 q h4).trans (hO q h3 h4)
            have e3 : σ_84 115 = τ 115 := hO2 115 (by decide)
            rw [hO 6 (by decide) (by decide), hO 15 (by decide) (by decide)] at e2
            refine z_isub cx dX0_findCartel_87 ?_
            rw [show pay (σ 6 0) (σ 6 1) (σ 15) w n - v_84 = caS σ n w k by rw [caS, e2]]
            refine z_istore cx dX0_findCartel_88 hnL (by decide) rfl ?_
            refine z_iload cx dX0_findCartel_90 rfl ?_
            refine z_aload_n cx 0 dX0_findCartel_92 rfl rfl ?_
            refine gX0_140 cx dX0_findCartel_93 ?_
            rw [show σ_84 115 5 = (caG (caS σ n w) w k).1 by rw [e3, e5]]
            refine z_icmp_le (tgt := 110) cx dX0_findCartel_96 (by decide) (fun c_96 => ?_) (fun c_96 => ?_)
            · refine z_iinc cx dX0_findCartel_110 rfl ic_1 (nI_1 k) hnL (by decide) rfl ?_
              refine z_goto (tgt := 50) cx dX0_findCartel_113 (by decide) ?_
              refine ih (k + 1) (by omega) (by omega) σ_84 _ hO3 ?_ ?_
              · rw [caG, if_pos ⟨c69, c77⟩, if_pos c_96, e3, e5]
              · rw [caG, if_pos ⟨c69, c77⟩, if_pos c_96, e3, e6]
            · refine z_aload_n cx 0 dX0_findCartel_99 rfl rfl ?_
              refine z_iload cx dX0_findCartel_100 rfl ?_
              refine pX0_140 cx dX0_findCartel_102 ?_
              refine z_aload_n cx 0 dX0_findCartel_105 rfl rfl ?_
              refine z_iload_n cx 3 dX0_findCartel_106 rfl rfl ?_
              refine pX0_143 cx dX0_findCartel_107 ?_
              refine z_iinc cx dX0_findCartel_110 rfl ic_1 (nI_1 k) hnL (by decide) rfl ?_
              refine z_goto (tgt := 50) cx dX0_findCartel_113 (by decide) ?_
              refine ih (k + 1) (by omega) (by omega) _ _ (fun q h3 h4 => by rw [up2_ne _ _ _ h3, up2_ne _ _ _ h3]; exact hO3 q h3 h4) ?_ ?_
              · rw [caG, if_pos ⟨c69, c77⟩, if_neg c_96]; rfl
              · rw [caG, if_pos ⟨c69, c77⟩, if_neg c_96]; rfl
  have hO0 : OffA (up2 (up2 σ 115 5 (-1)) 115 6 (-1)) σ := fun q h3 _ => by rw [up2_ne _ _ _ h3, up2_ne _ _ _ h3]
  refine z_aload_n cx 0 dX0_findCartel_0 rfl rfl ?_
  refine z_iconst cx dX0_findCartel_1 ic_m1 ?_
  refine pX0_140 cx dX0_findCartel_2 ?_
  refine z_aload_n cx 0 dX0_findCartel_5 rfl rfl ?_
  refine z_iconst cx dX0_findCartel_6 ic_m1 ?_
  refine pX0_143 cx dX0_findCartel_7 ?_
  refine z_aload_n cx 0 dX0_findCartel_10 rfl rfl ?_
  refine z_aload_n cx 0 dX0_findCartel_11 rfl rfl ?_
  refine gX0_19 cx dX0_findCartel_12 ?_
  refine gX0_58 cx dX0_findCartel_15 ?_
  refine z_V1i cx vX0_ownerBy kX0_38 (c_X0_ownerBy hg (up2 (up2 σ 115 5 (-1)) 115 6 (-1)) (by decide) (fun _ => rfl) hn (AuH_off hO0 hA).2.1) (by decide) hC115 rfl rfl (Nat.le_of_ble_eq_true rfl) dX0_findCartel_18 ?_
  rw [show ow ((up2 (up2 σ 115 5 (-1)) 115 6 (-1)) 6 1) ((up2 (up2 σ 115 5 (-1)) 115 6 (-1)) 15) n = slW σ n from rfl]
  refine z_istore_n cx 1 dX0_findCartel_21 rfl hnL (by decide) rfl ?_
  refine z_iload_n cx 1 dX0_findCartel_22 rfl rfl ?_
  refine z_iconst cx dX0_findCartel_23 ic_m1 ?_
  refine z_icmp_ne (tgt := 28) cx dX0_findCartel_24 (by decide) (fun c_24 => ?_) (fun c_24 => ?_)
  · obtain ⟨w, hw, ew⟩ := (ow_rng (σ 6 1) (σ 15) n).resolve_left c_24
    have ew : slW σ n = nI w := ew
    rw [ew]
    refine z_aload_n cx 0 dX0_findCartel_28 rfl rfl ?_
    refine z_aload_n cx 0 dX0_findCartel_29 rfl rfl ?_
    refine gX0_19 cx dX0_findCartel_30 ?_
    refine gX0_58 cx dX0_findCartel_33 ?_
    refine z_iload_n cx 1 dX0_findCartel_36 rfl rfl ?_
    refine z_aload_n cx 0 dX0_findCartel_37 rfl rfl ?_
    refine gX0_15 cx dX0_findCartel_38 ?_
    refine gX0_47 cx dX0_findCartel_41 ?_
    refine z_V3i cx vX0_paymentBy kX0_50 (c_X0_paymentBy hg (up2 (up2 σ 115 5 (-1)) 115 6 (-1)) (by decide) (fun _ => rfl) hn (AuH_off hO0 hA).2.1 (by omega) _) (by decide) hC115 rfl rfl (Nat.le_of_ble_eq_true rfl) dX0_findCartel_44 ?_
    refine z_istore_n cx 2 dX0_findCartel_47 rfl hnL (by decide) rfl ?_
    refine z_iconst cx dX0_findCartel_48 ic_0 ?_
    refine z_istore_n cx 3 dX0_findCartel_49 rfl hnL (by decide) rfl ?_
    exact loop w hw ew (2 ^ n + 1) 0 (by omega) (Nat.zero_le _) _ _ hO0 rfl rfl
  · have c24 : slW σ n = -1 := c_24
    exact z_vret cx hR ⟨rfl, ⟨by rw [if_pos c24]; rfl, by rw [if_pos c24]; rfl⟩, hO0⟩ dX0_findCartel_27
