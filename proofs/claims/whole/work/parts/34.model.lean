theorem mso_3 {c : Int32} (h : ¬ c < 0) : mso c = 3 ↔ c = 59 := by
  constructor
  · intro e
    unfold mso at e
    rw [if_neg h] at e
    split at e
    · exact absurd e (by decide)
    · split at e
      · exact absurd e (by decide)
      · split at e
        · assumption
        · exact absurd e (by decide)
  · rintro rfl; decide
def dOutL (f : Nat → Int32) : List (Nat × Int32 × Int32) → Nat → Nat → (Nat → Int32)
  | [], _, _ => f
  | x :: l, E, B => dOutL (dOut f x.1 E B x.2.1 x.2.2) l (alE x.1 E) (alB x.1 B)
theorem dOut_EB (f : Nat → Int32) {w E B : Nat} (hw : w < 13) (eE : f 0 = nI E) (eB : f 1 = nI B) (a b : Int32) : dOut f w E B a b 0 = nI (alE w E) ∧ dOut f w E B a b 1 = nI (alB w B) := by
  rcases (show w = 0 ∨ (1 ≤ w ∧ w ≤ 3) ∨ (4 ≤ w ∧ w ≤ 7) ∨ (8 ≤ w ∧ w ≤ 9) ∨ w = 10 ∨ w = 11 ∨ w = 12 by omega) with rfl | h | h | h | rfl | rfl | rfl
  · exact ⟨rfl, rfl⟩
  · rw [dOut, if_neg (by omega), if_pos h.2, alE, if_pos h, alB, if_neg (by omega), if_neg (by omega)]
    refine ⟨by rw [upd_at], ?_⟩
    rw [upd_ne _ _ (by decide), upd_ne _ _ (by omega), upd_ne _ _ (by omega)]; exact eB
  · rw [dOut, if_neg (by omega), if_neg (by omega), if_pos h.2, alE, if_neg (by omega), if_neg (by omega), alB, if_pos h]
    refine ⟨?_, by rw [upd_at]⟩
    rw [upd_ne _ _ (by decide), upd_ne _ _ (by omega), upd_ne _ _ (by omega), upd_ne _ _ (by omega)]; exact eE
  · rw [dOut, if_neg (by omega), if_neg (by omega), if_neg (by omega), if_pos h.2, alE, if_neg (by omega), if_neg (by omega), alB, if_neg (by omega), if_neg (by omega)]
    exact ⟨(upd_ne _ _ (by decide)).trans eE, (upd_ne _ _ (by decide)).trans eB⟩
  · have h1 : upd f 4 a 0 = nI E ∧ upd f 4 a 1 = nI B := ⟨(upd_ne _ _ (by decide)).trans eE, (upd_ne _ _ (by decide)).trans eB⟩
    exact h1
  · have h1 : upd f 5 a 0 = nI E ∧ upd f 5 a 1 = nI B := ⟨(upd_ne _ _ (by decide)).trans eE, (upd_ne _ _ (by decide)).trans eB⟩
    exact h1
  · have h1 : upd f 0 0 0 = nI 0 ∧ upd f 0 0 1 = nI B := ⟨upd_at _ _ _, (upd_ne _ _ (by decide)).trans eB⟩
    exact h1
theorem al_le {w E B : Nat} (hr : rmF w E B = true) (hE : E ≤ 7) (hB : B ≤ 5) : alE w E ≤ 7 ∧ alB w B ≤ 5 := by
  unfold rmF at hr
  unfold alE alB
  by_cases q1 : 1 ≤ w ∧ w ≤ 3
  · rw [if_pos q1] at hr
    have := of_decide_eq_true hr
    rw [if_pos q1, if_neg (by omega), if_neg (by omega)]; omega
  · rw [if_neg q1] at hr
    rw [if_neg q1]
    by_cases q2 : 4 ≤ w ∧ w ≤ 7
    · rw [if_pos q2] at hr
      have := of_decide_eq_true hr
      rw [if_pos q2, if_neg (by omega)]; omega
    · rw [if_neg q2]
      constructor <;> split <;> omega
def FaQ (σ' σ : Mem) (r : Int32 × List (Nat × Int32 × Int32)) (f0 : Nat → Int32) (E0 B0 i : Nat) (v : Int32) : Prop :=
  v = r.1 ∧ (r.1 = -1 → σ' 0 16 = nI (i + r.2.length) ∧ σ' 2 = dOutL f0 r.2 E0 B0) ∧ (∀ k, k < 11 ∨ 16 < k → σ' 0 k = σ 0 k) ∧ ∀ q, q ≠ 0 → q ≠ 2 → σ' q = σ q
set_option maxRecDepth 100000 in
set_option maxHeartbeats 4000000 in
theorem c_X8_faultAt {l : Launch} {g : Gx} (hg : ApG 9 g.ad) (σ : Mem) {L E B : Nat} (hT : TxH σ L) (hE : E ≤ 7) (hB : B ≤ 5) (eE : σ 1 0 = nI E) (eB : σ 1 1 = nI B) : CtI l (OM g) 4 mX8_faultAt [.ref (g.ad 0)] σ (fun v σ' => FaQ σ' σ (ffT (σ 6) L 14 0 E B) (va_cpy (σ 1) (σ 2) 0 0 100) E B 0 v) := by
  refine ct_of (lv := [some (.ref (g.ad 0)), none]) (okM hg) (by decide +kernel) (Nat.le_of_ble_eq_true rfl) (fun ls h => lvh_entry h rfl 1) ?_
  intro κ hl hnL cx hR
  subst hl
  have cx : Cx κ (OM g) RX8 cX8_faultAt 4 := cx
  have hnL : κ.nL = 2 := hnL
  have loop : ∀ (c i p E9 B9 : Nat) (τ : Mem), i + (c + 1) = 14 → p ≤ L → E9 ≤ 7 → B9 ≤ 5 → τ 0 11 = nI p → τ 2 0 = nI E9 → τ 2 1 = nI B9 → τ 0 16 = nI i → (∀ k, k < 11 ∨ 16 < k → τ 0 k = σ 0 k) → (∀ q, q ≠ 0 → q ≠ 2 → τ q = σ q) →
      (∀ (v : Int32) (τ2 : Mem), FaQ τ2 σ (ffT (σ 6) L (c + 1) p E9 B9) (τ 2) E9 B9 i v → FaQ τ2 σ (ffT (σ 6) L 14 0 E B) (va_cpy (σ 1) (σ 2) 0 0 100) E B 0 v) →
      Z κ (OM g) τ 25 [some (.ref (g.ad 0)), some (.int 1)] [] := by
    intro c
    induction c with
    | zero =>
      intro i p E9 B9 τ h1 h2 h3 h4 t11 t20 t21 t16 t0 tq hk
      refine z_iload_n cx 1 dX8_faultAt_25 rfl rfl ?_
      refine z_if_eq (tgt := 81) cx dX8_faultAt_26 (by decide) (fun c_26 => ?_) (fun c_26 => ?_)
      · exact absurd c_26 (by decide)
      · refine z_aload_n cx 0 dX8_faultAt_29 rfl rfl ?_
        refine z_V0V cx vX8_token kX8_87 (c_X8_token hg τ ⟨hT.1, (t0 7 (by omega)).trans hT.2.1, by rw [tq 6 (by decide) (by decide)]; exact hT.2.2⟩ h2 t11) (by decide) hM0 rfl rfl (Nat.le_of_ble_eq_true rfl) dX8_faultAt_30 (fun σ_30 h_30 => ?_)
        obtain ⟨tK, tO⟩ := h_30
        have e6 : τ 6 = σ 6 := tq 6 (by decide) (by decide)
        rw [e6] at tK
        have a6 : σ_30 6 = σ 6 := (tO.2 6 (by decide)).trans e6
        have a0 : ∀ k, k < 11 ∨ 16 < k → σ_30 0 k = σ 0 k := fun k hk => (tO.1 k (by omega) (by omega) (by omega) (by omega)).trans (t0 k hk)
        have aq : ∀ q, q ≠ 0 → q ≠ 2 → σ_30 q = σ q := fun q q1 q2 => (tO.2 q q1).trans (tq q q1 q2)
        have a2 : σ_30 2 = τ 2 := tO.2 2 (by decide)
        have a16 : σ_30 0 16 = nI i := (tO.1 16 (by decide) (by decide) (by decide) (by decide)).trans t16
        have aT : TxH σ_30 L := ⟨hT.1, (a0 7 (by omega)).trans hT.2.1, by rw [a6]; exact hT.2.2⟩
        refine z_aload_n cx 0 dX8_faultAt_33 rfl rfl ?_
        refine z_V0I cx vX8_reads kX8_115 (c_X8_reads hg σ_30 aT h2 (by rw [a6]; exact tK) h3 h4 (by rw [a2]; exact t20) (by rw [a2]; exact t21)) (by decide) hM0 rfl rfl (Nat.le_of_ble_eq_true rfl) dX8_faultAt_34 (fun v_34 σ_34 h_34 => ?_)
        unfold ReQ at h_34
        rw [a6, a2] at h_34
        obtain ⟨hm, rk, rq⟩ := h_34
        generalize hC : clP (σ 6) L p E9 B9 = C at hm
        have b0 : ∀ k, k < 11 ∨ 16 < k → σ_34 0 k = σ 0 k := fun k hk => (rk k (by omega)).trans (a0 k hk)
        have bq : ∀ q, q ≠ 0 → q ≠ 2 → σ_34 q = σ q := fun q q1 q2 => (rq q q1 q2).trans (aq q q1 q2)
        rcases C with f | ⟨p2, w, a, b⟩
        · obtain ⟨rfl, m12⟩ := hm
          have hf9 : f ≤ L := clP_inl h2 hC
          refine z_if_ne (tgt := 45) cx dX8_faultAt_37 (by decide) (fun z => absurd rfl z) (fun _ => ?_)
          refine z_aload_n cx 0 dX8_faultAt_40 rfl rfl ?_
          refine gX8_50 cx dX8_faultAt_41 ?_
          rw [m12]
          refine z_iret cx hR ⟨_, rfl, hk _ _ ?_⟩ dX8_faultAt_44
          have e9 : ffT (σ 6) L (0 + 1) p E9 B9 = (nI f, []) := by rw [ffT, hC]
          rw [e9]
          exact ⟨rfl, fun z => absurd z (nI_nm1_big (by have := hT.1; omega)), b0, bq⟩
        obtain ⟨rfl, l2, mK, m2⟩ := hm
        have hok := clP_ok hC
        have hEB := dOut_EB (τ 2) hok.1 t20 t21 a b
        have hal := al_le hok.2 h3 h4
        have hb9 := tkB_in (tx := σ 6) l2
        have he9 := tkE_in (tx := σ 6) hb9.2
        refine z_if_ne (tgt := 45) cx dX8_faultAt_37 (by decide) (fun _ => ?_) (fun z => absurd z (by decide))
        refine z_aload_n cx 0 dX8_faultAt_45 rfl rfl ?_
        refine z_dup cx dX8_faultAt_46 rfl ?_
        refine gX8_112 cx dX8_faultAt_47 ?_
        refine z_iconst cx dX8_faultAt_50 ic_1 ?_
        refine z_iadd cx dX8_faultAt_51 ?_
        rw [show σ_34 0 16 + 1 = nI (i + 1) by rw [rk 16 (by omega), a16, nI_1]]
        refine pX8_112 cx dX8_faultAt_52 ?_
        have d16 : (up2 σ_34 0 16 (nI (i + 1))) 0 16 = nI (i + 1) := rfl
        have d0 : ∀ k, k < 11 ∨ 16 < k → (up2 σ_34 0 16 (nI (i + 1))) 0 k = σ 0 k := fun k hk => by rw [up2_at, upd_ne _ _ (by omega)]; exact b0 k hk
        have dq : ∀ q, q ≠ 0 → q ≠ 2 → (up2 σ_34 0 16 (nI (i + 1))) q = σ q := fun q q1 q2 => by rw [up2_ne _ _ _ q1]; exact bq q q1 q2
        have d2 : (up2 σ_34 0 16 (nI (i + 1))) 2 = dOut (τ 2) w E9 B9 a b := m2
        have d12 : (up2 σ_34 0 16 (nI (i + 1))) 0 12 = nI (tkB (σ 6) L p2) := mK.1
        have d11 : (up2 σ_34 0 16 (nI (i + 1))) 0 11 = nI (tkE (σ 6) L (tkB (σ 6) L p2)) := mK.2.1
        have d14 : (up2 σ_34 0 16 (nI (i + 1))) 0 14 = mso (lat (σ 6) L (tkB (σ 6) L p2)) := mK.2.2.2
        generalize hρ : up2 σ_34 0 16 (nI (i + 1)) = ρ at *
        have fin : ∀ v : Int32, ffT (σ 6) L (0 + 1) p E9 B9 = (v, [(w, a, b)]) → FaQ ρ σ (ffT (σ 6) L (0 + 1) p E9 B9) (τ 2) E9 B9 i v := by
          intro v e9
          rw [e9]
          exact ⟨rfl, fun _ => ⟨d16, d2⟩, d0, dq⟩
        refine z_aload_n cx 0 dX8_faultAt_55 rfl rfl ?_
        refine gX8_59 cx dX8_faultAt_56 ?_
        refine z_iconst cx dX8_faultAt_59 ic_3 ?_
        rw [d14]
        refine z_icmp_ne (tgt := 76) cx dX8_faultAt_60 (by decide) (fun c_60 => ?_) (fun c_60 => ?_)
        · refine z_iconst cx dX8_faultAt_76 ic_0 ?_
          refine z_istore_n cx 1 dX8_faultAt_77 rfl hnL (by decide) rfl ?_
          refine z_goto (tgt := 25) cx dX8_faultAt_78 (by decide) ?_
          refine z_iload_n cx 1 dX8_faultAt_25 rfl rfl ?_
          refine z_if_eq (tgt := 81) cx dX8_faultAt_26 (by decide) (fun _ => ?_) (fun z => absurd rfl z)
          refine z_aload_n cx 0 dX8_faultAt_81 rfl rfl ?_
          refine gX8_59 cx dX8_faultAt_82 ?_
          rw [d14]
          refine z_if_ne (tgt := 92) cx dX8_faultAt_85 (by decide) (fun c_85 => ?_) (fun c_85 => ?_)
          · refine z_aload_n cx 0 dX8_faultAt_92 rfl rfl ?_
            refine gX8_50 cx dX8_faultAt_93 ?_
            rw [d12]
            have q9 : tkB (σ 6) L p2 < L := by
              by_cases q : tkB (σ 6) L p2 < L
              · exact q
              · exact absurd (by rw [lat, if_neg q]; exact mso_m1) c_85
            have q8 : ¬ σ 6 (tkB (σ 6) L p2) = 59 := fun z => c_60 (by rw [lat, if_pos q9]; exact (mso_3 (hT.2.2 _ q9)).mpr z)
            exact z_iret cx hR ⟨_, rfl, hk _ _ (fin _ (by rw [ffT, hC]; simp only [if_neg (show ¬ L ≤ tkB (σ 6) L p2 by omega), q8, not_false_eq_true, if_true]))⟩ dX8_faultAt_96
          · refine z_iconst cx dX8_faultAt_88 ic_m1 ?_
            refine z_goto (tgt := 96) cx dX8_faultAt_89 (by decide) ?_
            have q9 : L ≤ tkB (σ 6) L p2 := by
              by_cases q : tkB (σ 6) L p2 < L
              · rw [lat, if_pos q] at c_85; exact absurd (mso_0.mp c_85) (hT.2.2 _ q)
              · omega
            exact z_iret cx hR ⟨_, rfl, hk _ _ (fin _ (by rw [ffT, hC]; simp only [if_pos q9]))⟩ dX8_faultAt_96
        · have q9 : tkB (σ 6) L p2 < L := by
            by_cases q : tkB (σ 6) L p2 < L
            · exact q
            · rw [lat, if_neg q, mso_m1] at c_60; exact absurd c_60 (by decide)
          have s59 : σ 6 (tkB (σ 6) L p2) = 59 := by rw [lat, if_pos q9] at c_60; exact (mso_3 (hT.2.2 _ q9)).mp c_60
          refine z_aload_n cx 0 dX8_faultAt_63 rfl rfl ?_
          refine gX8_112 cx dX8_faultAt_64 ?_
          refine z_bipush cx dX8_faultAt_67 bi_14 ?_
          rw [d16]
          refine z_icmp_ge (tgt := 76) cx dX8_faultAt_69 (by decide) (fun c_69 => ?_) (fun c_69 => ?_)
          · refine z_iconst cx dX8_faultAt_76 ic_0 ?_
            refine z_istore_n cx 1 dX8_faultAt_77 rfl hnL (by decide) rfl ?_
            refine z_goto (tgt := 25) cx dX8_faultAt_78 (by decide) ?_
            refine z_iload_n cx 1 dX8_faultAt_25 rfl rfl ?_
            refine z_if_eq (tgt := 81) cx dX8_faultAt_26 (by decide) (fun _ => ?_) (fun z => absurd rfl z)
            refine z_aload_n cx 0 dX8_faultAt_81 rfl rfl ?_
            refine gX8_59 cx dX8_faultAt_82 ?_
            rw [d14]
            refine z_if_ne (tgt := 92) cx dX8_faultAt_85 (by decide) (fun c_85 => ?_) (fun c_85 => ?_)
            · refine z_aload_n cx 0 dX8_faultAt_92 rfl rfl ?_
              refine gX8_50 cx dX8_faultAt_93 ?_
              rw [d12]
              exact z_iret cx hR ⟨_, rfl, hk _ _ (fin _ (by rw [ffT, hC]; simp only [if_neg (show ¬ L ≤ tkB (σ 6) L p2 by omega), s59, not_true, if_false, if_true]))⟩ dX8_faultAt_96
            · exact absurd (c_60.symm.trans c_85) (by decide)
          · exact absurd (show (14 : Int32) ≤ nI (i + 1) by rw [show i + 1 = 14 by omega]; decide) c_69
    | succ c ih =>
      intro i p E9 B9 τ h1 h2 h3 h4 t11 t20 t21 t16 t0 tq hk
      refine z_iload_n cx 1 dX8_faultAt_25 rfl rfl ?_
      refine z_if_eq (tgt := 81) cx dX8_faultAt_26 (by decide) (fun c_26 => ?_) (fun c_26 => ?_)
      · exact absurd c_26 (by decide)
      · refine z_aload_n cx 0 dX8_faultAt_29 rfl rfl ?_
        refine z_V0V cx vX8_token kX8_87 (c_X8_token hg τ ⟨hT.1, (t0 7 (by omega)).trans hT.2.1, by rw [tq 6 (by decide) (by decide)]; exact hT.2.2⟩ h2 t11) (by decide) hM0 rfl rfl (Nat.le_of_ble_eq_true rfl) dX8_faultAt_30 (fun σ_30 h_30 => ?_)
        obtain ⟨tK, tO⟩ := h_30
        have e6 : τ 6 = σ 6 := tq 6 (by decide) (by decide)
        rw [e6] at tK
        have a6 : σ_30 6 = σ 6 := (tO.2 6 (by decide)).trans e6
        have a0 : ∀ k, k < 11 ∨ 16 < k → σ_30 0 k = σ 0 k := fun k hk => (tO.1 k (by omega) (by omega) (by omega) (by omega)).trans (t0 k hk)
        have aq : ∀ q, q ≠ 0 → q ≠ 2 → σ_30 q = σ q := fun q q1 q2 => (tO.2 q q1).trans (tq q q1 q2)
        have a2 : σ_30 2 = τ 2 := tO.2 2 (by decide)
        have a16 : σ_30 0 16 = nI i := (tO.1 16 (by decide) (by decide) (by decide) (by decide)).trans t16
        have aT : TxH σ_30 L := ⟨hT.1, (a0 7 (by omega)).trans hT.2.1, by rw [a6]; exact hT.2.2⟩
        refine z_aload_n cx 0 dX8_faultAt_33 rfl rfl ?_
        refine z_V0I cx vX8_reads kX8_115 (c_X8_reads hg σ_30 aT h2 (by rw [a6]; exact tK) h3 h4 (by rw [a2]; exact t20) (by rw [a2]; exact t21)) (by decide) hM0 rfl rfl (Nat.le_of_ble_eq_true rfl) dX8_faultAt_34 (fun v_34 σ_34 h_34 => ?_)
        unfold ReQ at h_34
        rw [a6, a2] at h_34
        obtain ⟨hm, rk, rq⟩ := h_34
        generalize hC : clP (σ 6) L p E9 B9 = C at hm
        have b0 : ∀ k, k < 11 ∨ 16 < k → σ_34 0 k = σ 0 k := fun k hk => (rk k (by omega)).trans (a0 k hk)
        have bq : ∀ q, q ≠ 0 → q ≠ 2 → σ_34 q = σ q := fun q q1 q2 => (rq q q1 q2).trans (aq q q1 q2)
        rcases C with f | ⟨p2, w, a, b⟩
        · obtain ⟨rfl, m12⟩ := hm
          have hf9 : f ≤ L := clP_inl h2 hC
          refine z_if_ne (tgt := 45) cx dX8_faultAt_37 (by decide) (fun z => absurd rfl z) (fun _ => ?_)
          refine z_aload_n cx 0 dX8_faultAt_40 rfl rfl ?_
          refine gX8_50 cx dX8_faultAt_41 ?_
          rw [m12]
          refine z_iret cx hR ⟨_, rfl, hk _ _ ?_⟩ dX8_faultAt_44
          have e9 : ffT (σ 6) L ((c + 1) + 1) p E9 B9 = (nI f, []) := by rw [ffT, hC]
          rw [e9]
          exact ⟨rfl, fun z => absurd z (nI_nm1_big (by have := hT.1; omega)), b0, bq⟩
        obtain ⟨rfl, l2, mK, m2⟩ := hm
        have hok := clP_ok hC
        have hEB := dOut_EB (τ 2) hok.1 t20 t21 a b
        have hal := al_le hok.2 h3 h4
        have hb9 := tkB_in (tx := σ 6) l2
        have he9 := tkE_in (tx := σ 6) hb9.2
        refine z_if_ne (tgt := 45) cx dX8_faultAt_37 (by decide) (fun _ => ?_) (fun z => absurd z (by decide))
        refine z_aload_n cx 0 dX8_faultAt_45 rfl rfl ?_
        refine z_dup cx dX8_faultAt_46 rfl ?_
        refine gX8_112 cx dX8_faultAt_47 ?_
        refine z_iconst cx dX8_faultAt_50 ic_1 ?_
        refine z_iadd cx dX8_faultAt_51 ?_
        rw [show σ_34 0 16 + 1 = nI (i + 1) by rw [rk 16 (by omega), a16, nI_1]]
        refine pX8_112 cx dX8_faultAt_52 ?_
        have d16 : (up2 σ_34 0 16 (nI (i + 1))) 0 16 = nI (i + 1) := rfl
        have d0 : ∀ k, k < 11 ∨ 16 < k → (up2 σ_34 0 16 (nI (i + 1))) 0 k = σ 0 k := fun k hk => by rw [up2_at, upd_ne _ _ (by omega)]; exact b0 k hk
        have dq : ∀ q, q ≠ 0 → q ≠ 2 → (up2 σ_34 0 16 (nI (i + 1))) q = σ q := fun q q1 q2 => by rw [up2_ne _ _ _ q1]; exact bq q q1 q2
        have d2 : (up2 σ_34 0 16 (nI (i + 1))) 2 = dOut (τ 2) w E9 B9 a b := m2
        have d12 : (up2 σ_34 0 16 (nI (i + 1))) 0 12 = nI (tkB (σ 6) L p2) := mK.1
        have d11 : (up2 σ_34 0 16 (nI (i + 1))) 0 11 = nI (tkE (σ 6) L (tkB (σ 6) L p2)) := mK.2.1
        have d14 : (up2 σ_34 0 16 (nI (i + 1))) 0 14 = mso (lat (σ 6) L (tkB (σ 6) L p2)) := mK.2.2.2
        generalize hρ : up2 σ_34 0 16 (nI (i + 1)) = ρ at *
        have fin : ∀ v : Int32, ffT (σ 6) L ((c + 1) + 1) p E9 B9 = (v, [(w, a, b)]) → FaQ ρ σ (ffT (σ 6) L ((c + 1) + 1) p E9 B9) (τ 2) E9 B9 i v := by
          intro v e9
          rw [e9]
          exact ⟨rfl, fun _ => ⟨d16, d2⟩, d0, dq⟩
        refine z_aload_n cx 0 dX8_faultAt_55 rfl rfl ?_
        refine gX8_59 cx dX8_faultAt_56 ?_
        refine z_iconst cx dX8_faultAt_59 ic_3 ?_
        rw [d14]
        refine z_icmp_ne (tgt := 76) cx dX8_faultAt_60 (by decide) (fun c_60 => ?_) (fun c_60 => ?_)
        · refine z_iconst cx dX8_faultAt_76 ic_0 ?_
          refine z_istore_n cx 1 dX8_faultAt_77 rfl hnL (by decide) rfl ?_
          refine z_goto (tgt := 25) cx dX8_faultAt_78 (by decide) ?_
          refine z_iload_n cx 1 dX8_faultAt_25 rfl rfl ?_
          refine z_if_eq (tgt := 81) cx dX8_faultAt_26 (by decide) (fun _ => ?_) (fun z => absurd rfl z)
          refine z_aload_n cx 0 dX8_faultAt_81 rfl rfl ?_
          refine gX8_59 cx dX8_faultAt_82 ?_
          rw [d14]
          refine z_if_ne (tgt := 92) cx dX8_faultAt_85 (by decide) (fun c_85 => ?_) (fun c_85 => ?_)
          · refine z_aload_n cx 0 dX8_faultAt_92 rfl rfl ?_
            refine gX8_50 cx dX8_faultAt_93 ?_
            rw [d12]
            have q9 : tkB (σ 6) L p2 < L := by
              by_cases q : tkB (σ 6) L p2 < L
              · exact q
              · exact absurd (by rw [lat, if_neg q]; exact mso_m1) c_85
            have q8 : ¬ σ 6 (tkB (σ 6) L p2) = 59 := fun z => c_60 (by rw [lat, if_pos q9]; exact (mso_3 (hT.2.2 _ q9)).mpr z)
            exact z_iret cx hR ⟨_, rfl, hk _ _ (fin _ (by rw [ffT, hC]; simp only [if_neg (show ¬ L ≤ tkB (σ 6) L p2 by omega), q8, not_false_eq_true, if_true]))⟩ dX8_faultAt_96
          · refine z_iconst cx dX8_faultAt_88 ic_m1 ?_
            refine z_goto (tgt := 96) cx dX8_faultAt_89 (by decide) ?_
            have q9 : L ≤ tkB (σ 6) L p2 := by
              by_cases q : tkB (σ 6) L p2 < L
              · rw [lat, if_pos q] at c_85; exact absurd (mso_0.mp c_85) (hT.2.2 _ q)
              · omega
            exact z_iret cx hR ⟨_, rfl, hk _ _ (fin _ (by rw [ffT, hC]; simp only [if_pos q9]))⟩ dX8_faultAt_96
        · have q9 : tkB (σ 6) L p2 < L := by
            by_cases q : tkB (σ 6) L p2 < L
            · exact q
            · rw [lat, if_neg q, mso_m1] at c_60; exact absurd c_60 (by decide)
          have s59 : σ 6 (tkB (σ 6) L p2) = 59 := by rw [lat, if_pos q9] at c_60; exact (mso_3 (hT.2.2 _ q9)).mp c_60
          refine z_aload_n cx 0 dX8_faultAt_63 rfl rfl ?_
          refine gX8_112 cx dX8_faultAt_64 ?_
          refine z_bipush cx dX8_faultAt_67 bi_14 ?_
          rw [d16]
          refine z_icmp_ge (tgt := 76) cx dX8_faultAt_69 (by decide) (fun c_69 => ?_) (fun c_69 => ?_)
          · exact absurd ((nI_leI (a := 14) (by decide) (by omega)).mp c_69) (by omega)
          · refine z_iconst cx dX8_faultAt_72 ic_1 ?_
            refine z_goto (tgt := 77) cx dX8_faultAt_73 (by decide) ?_
            refine z_istore_n cx 1 dX8_faultAt_77 rfl hnL (by decide) rfl ?_
            refine z_goto (tgt := 25) cx dX8_faultAt_78 (by decide) ?_
            refine ih (i + 1) (tkE (σ 6) L (tkB (σ 6) L p2)) (alE w E9) (alB w B9) ρ (by omega) he9.2.1 hal.1 hal.2 d11 (by rw [d2]; exact hEB.1) (by rw [d2]; exact hEB.2) d16 d0 dq (fun v τ2 hF => hk v τ2 ?_)
            have e9 : ffT (σ 6) L (c + 1 + 1) p E9 B9 = ((ffT (σ 6) L (c + 1) (tkE (σ 6) L (tkB (σ 6) L p2)) (alE w E9) (alB w B9)).1, (w, a, b) :: (ffT (σ 6) L (c + 1) (tkE (σ 6) L (tkB (σ 6) L p2)) (alE w E9) (alB w B9)).2) := by
              rw [ffT, hC]
              simp only [if_neg (show ¬ L ≤ tkB (σ 6) L p2 by omega), s59, not_true, if_false, if_neg (show ¬ c + 1 = 0 by omega)]
            rw [e9]
            obtain ⟨f1, f2, f3, f4⟩ := hF
            refine ⟨f1, fun z => ⟨?_, ?_⟩, f3, f4⟩
            · rw [(f2 z).1]; simp only [List.length_cons]; congr 1; omega
            · rw [(f2 z).2, d2]; rfl
  refine z_aload_n cx 0 dX8_faultAt_0 rfl rfl ?_
  refine gX8_7 cx dX8_faultAt_1 ?_
  refine z_iconst cx dX8_faultAt_4 ic_0 ?_
  refine z_aload_n cx 0 dX8_faultAt_5 rfl rfl ?_
  refine gX8_13 cx dX8_faultAt_6 ?_
  refine z_iconst cx dX8_faultAt_9 ic_0 ?_
  refine z_S4v cx sX8_copies kX8_108 (c_X8_copies (a := 0) (b := 0) hg σ (by decide) (by decide) (fun _ => rfl) (fun _ => rfl) (by decide) (by decide) (by decide) (by decide) (by decide)) (by decide) (Nat.le_of_ble_eq_true rfl) dX8_faultAt_10 ?_
  refine z_aload_n cx 0 dX8_faultAt_13 rfl rfl ?_
  refine z_iconst cx dX8_faultAt_14 ic_0 ?_
  refine pX8_43 cx dX8_faultAt_15 ?_
  refine z_aload_n cx 0 dX8_faultAt_18 rfl rfl ?_
  refine z_iconst cx dX8_faultAt_19 ic_0 ?_
  refine pX8_112 cx dX8_faultAt_20 ?_
  refine z_iconst cx dX8_faultAt_23 ic_1 ?_
  refine z_istore_n cx 1 dX8_faultAt_24 rfl hnL (by decide) rfl ?_
  have c0 : ∀ k, k < 100 → va_cpy (σ 1) (σ 2) 0 0 100 k = σ 1 k := fun k hk => by simp [va_cpy, hk]
  refine loop 13 0 0 E B (up2 (up2 (upA σ 2 (va_cpy (σ 1) (σ 2) 0 0 100)) 0 11 0) 0 16 0) (by omega) (Nat.zero_le _) hE hB rfl ((c0 0 (by decide)).trans eE) ((c0 1 (by decide)).trans eB) rfl (fun k hk => ?_) (fun q q1 q2 => ?_) (fun v τ2 hF => hF)
  · rw [up2_at, upd_ne _ _ (by omega), up2_at, upd_ne _ _ (by omega), upA_ne _ _ (by decide)]
  · rw [up2_ne _ _ _ q1, up2_ne _ _ _ q1, upA_ne _ _ q2]
set_option maxRecDepth 100000 in
set_option maxHeartbeats 4000000 in
theorem c_X8_fault {l : Launch} {g : Gx} (hg : ApG 9 g.ad) (σ : Mem) {L E B : Nat} (hT : TxH σ L) (hE : E ≤ 7) (hB : B ≤ 5) (eE : σ 1 0 = nI E) (eB : σ 1 1 = nI B) : CtI l (OM g) 5 mX8_fault [.ref (g.ad 0)] σ (fun v σ' => FaQ σ' σ (ffT (σ 6) L 14 0 E B) (va_cpy (σ 1) (σ 2) 0 0 100) E B 0 v) := by
  refine ct_of (lv := [some (.ref (g.ad 0))]) (okM hg) (by decide +kernel) (Nat.le_of_ble_eq_true rfl) (fun ls h => lvh_entry h rfl 0) ?_
  intro κ hl hnL cx hR
  subst hl
  have cx : Cx κ (OM g) RX8 cX8_fault 5 := cx
  have hnL : κ.nL = 1 := hnL
  refine z_aload_n cx 0 dX8_fault_0 rfl rfl ?_
  refine z_V0I cx vX8_faultAt kX8_119 (c_X8_faultAt hg σ hT hE hB eE eB) (by decide) hM0 rfl rfl (Nat.le_of_ble_eq_true rfl) dX8_fault_1 (fun v_1 σ_1 h_1 => ?_)
  exact z_iret cx hR ⟨_, rfl, h_1⟩ dX8_fault_4
/-- what the reference's west leaves, its clauses being l -/
def WmQ (σ' σ : Mem) (l : List (Nat × Int32 × Int32)) (E B : Nat) : Prop :=
  (∀ k, k < 100 → (k = 2 ∨ k = 6 ∨ (∃ e j, e < 7 ∧ 2 ≤ j ∧ j < 9 ∧ k = 7 + 9 * e + j) ∨ ∃ b j, b < 5 ∧ 3 ≤ j ∧ j < 6 ∧ k = 70 + 6 * b + j) ∨ σ' 1 k = dOutL (va_cpy (σ 1) (σ 2) 0 0 100) l E B k) ∧
  (σ' 1 2 = 0 ∧ σ' 1 6 = 0) ∧ (∀ e, e < 7 → σ' 1 (7 + 9 * e + 2) = 0 ∧ σ' 1 (7 + 9 * e + 3) = -1 ∧ σ' 1 (7 + 9 * e + 4) = 0 ∧ σ' 1 (7 + 9 * e + 5) = -1 ∧ ∀ t, t < 3 → σ' 1 (7 + 9 * e + 6 + t) = 5) ∧
  (∀ b, b < 5 → σ' 1 (70 + 6 * b + 3) = 10 * σ' 1 (70 + 6 * b + 2) ∧ σ' 1 (70 + 6 * b + 4) = 0 ∧ σ' 1 (70 + 6 * b + 5) = -1) ∧
  (σ' 0 7 = 0 ∧ σ' 0 9 = 0 ∧ σ' 0 3 = 0) ∧ (σ' 5 0 = 0 ∧ σ' 5 1 = 0) ∧ σ' 6 = σ 6
