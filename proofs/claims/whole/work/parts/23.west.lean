/-- clauses done in their order -/
def cOutL (σ : Mem) : List (Nat × Int32 × Int32) → Nat → Nat → Mem
  | [], _, _ => σ
  | x :: l, E, B => cOutL (cOut σ x.1 E B x.2.1 x.2.2) l (alE x.1 E) (alB x.1 B)
def VaL : List (Nat × Int32 × Int32) → Nat → Nat → Prop
  | [], _, _ => True
  | x :: l, E, B => x.1 < 13 ∧ rmF x.1 E B = true ∧ VaL l (alE x.1 E) (alB x.1 B)
theorem cOut_off (σ : Mem) (w E B : Nat) (a b : Int32) : ∀ q, q < 6 ∨ 11 < q → cOut σ w E B a b q = σ q := by
  intro q hq
  unfold cOut stl fgA adE adB
  split
  · split
    · simp (disch := omega) only [up2_ne]
    · split
      · simp (disch := omega) only [up2_ne]
      · split
        · simp (disch := omega) only [up2_ne]
        · split
          · simp (disch := omega) only [up2_ne]
          · split <;> simp (disch := omega) only [up2_ne]
  · split <;> simp (disch := omega) only [up2_ne]
theorem cOutL_off : ∀ (l : List (Nat × Int32 × Int32)) (σ : Mem) (E B : Nat), ∀ q, q < 6 ∨ 11 < q → cOutL σ l E B q = σ q
  | [], _, _, _, _, _ => rfl
  | x :: l, σ, E, B, q, hq => by rw [cOutL, cOutL_off l _ _ _ q hq, cOut_off _ _ _ _ _ _ q hq]
theorem cOut_EB (σ : Mem) {w E B : Nat} (hw : w < 13) (eE : σ 6 3 = nI E) (eB : σ 6 4 = nI B) (a b : Int32) : cOut σ w E B a b 6 3 = nI (alE w E) ∧ cOut σ w E B a b 6 4 = nI (alB w B) := by
  rcases (show w = 0 ∨ (1 ≤ w ∧ w ≤ 3) ∨ (4 ≤ w ∧ w ≤ 7) ∨ w = 8 ∨ w = 9 ∨ w = 10 ∨ w = 11 ∨ w = 12 by omega) with rfl | h | h | rfl | rfl | rfl | rfl | rfl
  · exact ⟨rfl, rfl⟩
  · rw [cOut, if_neg (by omega), if_pos h.2, alE, if_pos h, alB, if_neg (by omega), if_neg (by omega)]
    exact ⟨rfl, eB⟩
  · rw [cOut, if_neg (by omega), if_neg (by omega), alE, if_neg (by omega), if_neg (by omega), alB, if_pos h]
    exact ⟨eE, rfl⟩
  · exact ⟨eE, eB⟩
  · exact ⟨eE, eB⟩
  · exact ⟨eE, eB⟩
  · exact ⟨eE, eB⟩
  · exact ⟨rfl, eB⟩
theorem cOutL_EB : ∀ (l : List (Nat × Int32 × Int32)) (σ : Mem) (E B : Nat), VaL l E B → σ 6 3 = nI E → σ 6 4 = nI B → ∃ E2 B2, cOutL σ l E B 6 3 = nI E2 ∧ cOutL σ l E B 6 4 = nI B2
  | [], σ, E, B, _, h1, h2 => ⟨E, B, h1, h2⟩
  | x :: l, σ, E, B, hv, h1, h2 => cOutL_EB l _ _ _ hv.2.2 (cOut_EB σ hv.1 h1 h2 _ _).1 (cOut_EB σ hv.1 h1 h2 _ _).2
theorem clP_ok {tx : Nat → Int32} {L p E B : Nat} {x : Nat × Nat × Int32 × Int32} (h : clP tx L p E B = .inr x) : x.2.1 < 13 ∧ rmF x.2.1 E B = true := by
  rw [clP_at rfl rfl rfl rfl rfl rfl rfl] at h
  split at h
  · cases h
  · rename_i h13
    split at h
    · cases h
    · rename_i hrm
      have e2 : ∀ y : Nat × Nat × Int32 × Int32, y = x → y.2.1 = wdN tx (tkB tx L p) (tkE tx L (tkB tx L p)) → x.2.1 < 13 ∧ rmF x.2.1 E B = true := fun y e1 e3 => by
        rw [← e1, e3]; exact ⟨by omega, by simpa using hrm⟩
      split at h
      · exact e2 _ (Sum.inr.inj h) rfl
      · split at h
        · cases h
        · split at h
          · exact e2 _ (Sum.inr.inj h) rfl
          · split at h
            · cases h
            · exact e2 _ (Sum.inr.inj h) rfl
theorem ffT_ok (tx : Nat → Int32) (L : Nat) : ∀ (c p E B : Nat), VaL (ffT tx L c p E B).2 E B
  | 0, _, _, _ => trivial
  | c + 1, p, E, B => by
    have ih := ffT_ok tx L c
    rw [ffT]
    split
    · trivial
    · rename_i p2 w a b hc
      have hk := clP_ok hc
      split
      · exact ⟨hk.1, hk.2, trivial⟩
      · split
        · exact ⟨hk.1, hk.2, trivial⟩
        · split
          · exact ⟨hk.1, hk.2, trivial⟩
          · exact ⟨hk.1, hk.2, ih _ _ _⟩
/-- what west leaves, its clauses being l -/
def WeQ (σ' σ : Mem) (l : List (Nat × Int32 × Int32)) (E B : Nat) : Prop :=
  (∃ σ1 : Mem, (∀ q, q ≠ 1 → q ≠ 3 → q ≠ 4 → q ≠ 5 → σ1 q = σ q) ∧ ∀ q, 6 ≤ q → q ≤ 11 → σ' q = cOutL σ1 l E B q) ∧
  (σ' 12 0 = 0 ∧ σ' 12 1 = 0) ∧ (∀ b, b < 5 → σ' 13 b = 10 * σ' 11 b ∧ σ' 14 b = 0 ∧ σ' 15 b = -1) ∧ (∀ e, e < 7 → σ' 16 e = 0 ∧ σ' 17 e = -1 ∧ σ' 18 e = 0 ∧ σ' 19 e = -1) ∧ (∀ k, k < 21 → σ' 20 k = 5) ∧
  (σ' 1 1 = 0 ∧ σ' 120 3 = 0 ∧ σ' 21 1 = 0 ∧ σ' 21 2 = σ 21 2) ∧ (σ' 114 0 = 0 ∧ σ' 114 1 = 0) ∧ σ' 2 = σ 2
set_option maxRecDepth 100000 in
set_option maxHeartbeats 4000000 in
theorem c_X7_west {l : Launch} {g : Gx} (hg : ApG 123 g.ad) (σ : Mem) {L E B : Nat} (hL : L ≤ 160) (eL : σ 1 1 = nI L) (hE : E ≤ 7) (hB : B ≤ 5) (eE : σ 6 3 = nI E) (eB : σ 6 4 = nI B) : CtI l (OC g) 8 mX7_west [.ref (g.ad 0)] σ (fun v σ' => (¬ (ffT (σ 2) L 14 0 E B).1 = -1 → v = -4 ∧ σ' 1 1 = σ 1 1 ∧ ∀ q, q ≠ 1 → q ≠ 3 → q ≠ 4 → q ≠ 5 → σ' q = σ q) ∧ ((ffT (σ 2) L 14 0 E B).1 = -1 → v = nI (ffT (σ 2) L 14 0 E B).2.length ∧ WeQ σ' σ (ffT (σ 2) L 14 0 E B).2 E B)) := by
  refine ct_of (lv := [some (.ref (g.ad 0)), none]) (okC hg) (by decide +kernel) (Nat.le_of_ble_eq_true rfl) (fun ls h => lvh_entry h rfl 1) ?_
  intro κ hl hnL cx hR
  subst hl
  have cx : Cx κ (OC g) RX7 cX7_west 8 := cx
  have hnL : κ.nL = 2 := hnL
  have hlen := ffT_len (σ 2) L 14 0 E B
  have hok := ffT_ok (σ 2) L 14 0 E B
  generalize hR9 : ffT (σ 2) L 14 0 E B = R9 at *
  -- the end, over the clauses done
  have tail : ∀ (τ τ0 : Mem) (x : Option Value), R9.1 = -1 → (∀ q, q ≠ 1 → q ≠ 3 → q ≠ 4 → q ≠ 5 → τ0 q = σ q) → τ = cOutL τ0 R9.2 E B → τ0 1 2 = nI R9.2.length → Z κ (OC g) τ 87 [some (.ref (g.ad 0)), x] [] := by
    intro τ τ0 x h1 h2 h3 h4
    refine z_aload_n cx 0 dX7_west_87 rfl rfl ?_
    refine gX7_10 cx dX7_west_88 ?_
    refine z_iconst cx dX7_west_91 ic_0 ?_
    refine pX7_77 cx dX7_west_92 ?_
    refine z_aload_n cx 0 dX7_west_95 rfl rfl ?_
    refine gX7_26 cx dX7_west_96 ?_
    refine z_aload_n cx 0 dX7_west_99 rfl rfl ?_
    refine gX7_19 cx dX7_west_100 ?_
    refine z_V1V cx vX1_startAnew kX7_70 (c_X1_startAnew hg (up2 τ 1 1 0)) (by decide) hC12 rfl rfl (Nat.le_of_ble_eq_true rfl) dX7_west_103 (fun σ_103 h_103 => ?_)
    obtain ⟨⟨a1, a2⟩, a3, a4, a5, a6⟩ := h_103
    refine z_aload_n cx 0 dX7_west_106 rfl rfl ?_
    refine gX7_66 cx dX7_west_107 ?_
    refine z_iconst cx dX7_west_110 ic_0 ?_
    refine pX7_112 cx dX7_west_111 ?_
    refine z_aload_n cx 0 dX7_west_114 rfl rfl ?_
    refine gX7_33 cx dX7_west_115 ?_
    refine z_iconst cx dX7_west_118 ic_0 ?_
    refine pX7_115 cx dX7_west_119 ?_
    refine z_iconst cx dX7_west_122 ic_0 ?_
    refine z_istore_n cx 1 dX7_west_123 rfl hnL (by decide) rfl ?_
    refine z_iload_n cx 1 dX7_west_124 rfl rfl ?_
    refine z_iconst cx dX7_west_125 ic_2 ?_
    refine z_icmp_ge (tgt := 142) cx dX7_west_126 (by decide) (fun z => absurd z (by decide)) (fun _ => ?_)
    refine z_aload_n cx 0 dX7_west_129 rfl rfl ?_
    refine gX7_41 cx dX7_west_130 ?_
    refine z_iload_n cx 1 dX7_west_133 rfl rfl ?_
    refine z_iconst cx dX7_west_134 ic_0 ?_
    refine g_zast cx (by decide) (fun _ => rfl) (vp_in_nI (n := 0) (by decide) (by decide)) dX7_west_135 ?_
    refine z_iinc cx dX7_west_136 rfl ic_1 (show (0 : Int32) + 1 = 1 by decide) hnL (by decide) rfl ?_
    refine z_goto (tgt := 124) cx dX7_west_139 (by decide) ?_
    refine z_iload_n cx 1 dX7_west_124 rfl rfl ?_
    refine z_iconst cx dX7_west_125 ic_2 ?_
    refine z_icmp_ge (tgt := 142) cx dX7_west_126 (by decide) (fun z => absurd z (by decide)) (fun _ => ?_)
    refine z_aload_n cx 0 dX7_west_129 rfl rfl ?_
    refine gX7_41 cx dX7_west_130 ?_
    refine z_iload_n cx 1 dX7_west_133 rfl rfl ?_
    refine z_iconst cx dX7_west_134 ic_0 ?_
    refine g_zast cx (by decide) (fun _ => rfl) (vp_in_nI (n := 1) (by decide) (by decide)) dX7_west_135 ?_
    refine z_iinc cx dX7_west_136 rfl ic_1 (show (1 : Int32) + 1 = 2 by decide) hnL (by decide) rfl ?_
    refine z_goto (tgt := 124) cx dX7_west_139 (by decide) ?_
    refine z_iload_n cx 1 dX7_west_124 rfl rfl ?_
    refine z_iconst cx dX7_west_125 ic_2 ?_
    refine z_icmp_ge (tgt := 142) cx dX7_west_126 (by decide) (fun _ => ?_) (fun z => absurd (show (2 : Int32) ≤ 2 by decide) z)
    refine z_aload_n cx 0 dX7_west_142 rfl rfl ?_
    refine gX7_10 cx dX7_west_143 ?_
    refine gX7_95 cx dX7_west_146 ?_
    refine z_iret cx hR ⟨_, rfl, fun z => absurd h1 z, fun _ => ⟨?_, ⟨τ0, h2, fun q g1 g2 => ?_⟩, ⟨a1, a2⟩, fun b hb => ⟨?_, (a3 b hb).2.1, (a3 b hb).2.2⟩, a4, a5, ⟨?_, rfl, rfl, ?_⟩, ⟨rfl, rfl⟩, ?_⟩⟩ dX7_west_149
    · show σ_103 1 2 = _
      rw [a6 1 (by omega), up2_at, upd_ne _ _ (by decide), h3, cOutL_off _ _ _ _ 1 (by omega)]; exact h4
    · simp (disch := omega) only [up2_ne]
      rw [a6 q (by omega), up2_ne _ _ _ (by omega), h3]
    · have e11 : σ_103 11 = τ 11 := (a6 11 (by omega)).trans (up2_ne _ _ _ (by decide))
      show σ_103 13 b = 10 * σ_103 11 b
      rw [(a3 b hb).1, e11, up2_ne _ _ _ (by decide)]
    · show σ_103 1 1 = 0
      rw [a6 1 (by omega), up2_at, upd_at]
    · show σ_103 21 2 = σ 21 2
      rw [a6 21 (by omega), up2_ne _ _ _ (by decide), h3, cOutL_off _ _ _ _ 21 (by omega), h2 21 (by decide) (by decide) (by decide) (by decide)]
    · show σ_103 2 = σ 2
      rw [a6 2 (by omega), up2_ne _ _ _ (by decide), h3, cOutL_off _ _ _ _ 2 (by omega), h2 2 (by decide) (by decide) (by decide) (by decide)]
  have loop : ∀ (l : List (Nat × Int32 × Int32)) (i E9 B9 : Nat) (τ τ0 : Mem), R9.1 = -1 → i + l.length = R9.2.length → VaL l E9 B9 → (∀ q, q ≠ 1 → q ≠ 3 → q ≠ 4 → q ≠ 5 → τ0 q = σ q) → cOutL τ l E9 B9 = cOutL τ0 R9.2 E B → τ0 1 2 = nI R9.2.length → τ 1 2 = nI R9.2.length → τ 6 3 = nI E9 → τ 6 4 = nI B9 → (∀ k x, l[k]? = some x → τ 3 (i + k) = nI x.1 ∧ τ 4 (i + k) = x.2.1 ∧ τ 5 (i + k) = x.2.2) → Z κ (OC g) τ 30 [some (.ref (g.ad 0)), some (.int (nI i))] [] := by
    intro l
    induction l with
    | nil =>
      intro i E9 B9 τ τ0 h1 h2 h3 h4 h5 h6 h7 h8 h9 h10
      have e9 : i = R9.2.length := by simpa using h2
      refine z_iload_n cx 1 dX7_west_30 rfl rfl ?_
      refine z_aload_n cx 0 dX7_west_31 rfl rfl ?_
      refine gX7_10 cx dX7_west_32 ?_
      refine gX7_95 cx dX7_west_35 ?_
      rw [h7]
      refine z_icmp_ge (tgt := 87) cx dX7_west_38 (by decide) (fun c_38 => ?_) (fun c_38 => ?_)
      · exact tail τ τ0 _ h1 h4 h5 h6
      · exact absurd (by rw [e9]; exact Int32.le_refl _) c_38
    | cons y l ih =>
      intro i E9 B9 τ τ0 h1 h2 h3 h4 h5 h6 h7 h8 h9 h10
      obtain ⟨v1, v2, v3⟩ := h3
      have h2 : i + (l.length + 1) = R9.2.length := by simpa using h2
      obtain ⟨p3, p4, p5⟩ := h10 0 y rfl
      have cEB := cOut_EB τ v1 h8 h9 y.2.1 y.2.2
      have cOf := cOut_off τ y.1 E9 B9 y.2.1 y.2.2
      refine z_iload_n cx 1 dX7_west_30 rfl rfl ?_
      refine z_aload_n cx 0 dX7_west_31 rfl rfl ?_
      refine gX7_10 cx dX7_west_32 ?_
      refine gX7_95 cx dX7_west_35 ?_
      rw [h7]
      refine z_icmp_ge (tgt := 87) cx dX7_west_38 (by decide) (fun c_38 => ?_) (fun c_38 => ?_)
      · exact absurd c_38 (nI_ge (by omega) (by omega))
      · refine z_iload_n cx 1 dX7_west_41 rfl rfl ?_
        refine z_bipush cx dX7_west_42 bi_14 ?_
        refine z_icmp_ge (tgt := 87) cx dX7_west_44 (by decide) (fun c_44 => ?_) (fun c_44 => ?_)
        · exact absurd ((nI_leI (a := 14) (by decide) (by omega)).mp c_44) (by omega)
        · refine z_aload_n cx 0 dX7_west_47 rfl rfl ?_
          refine gX7_19 cx dX7_west_48 ?_
          refine z_aload_n cx 0 dX7_west_51 rfl rfl ?_
          refine gX7_10 cx dX7_west_52 ?_
          refine gX7_98 cx dX7_west_55 ?_
          refine z_iload_n cx 1 dX7_west_58 rfl rfl ?_
          refine g_ialdN cx i (by decide) (fun _ => rfl) rfl (by omega) (by decide) dX7_west_59 ?_
          rw [show τ 3 i = nI y.1 from p3]
          refine z_aload_n cx 0 dX7_west_60 rfl rfl ?_
          refine gX7_10 cx dX7_west_61 ?_
          refine gX7_102 cx dX7_west_64 ?_
          refine z_iload_n cx 1 dX7_west_67 rfl rfl ?_
          refine g_ialdN cx i (by decide) (fun _ => rfl) rfl (by omega) (by decide) dX7_west_68 ?_
          rw [show τ 4 i = y.2.1 from p4]
          refine z_aload_n cx 0 dX7_west_69 rfl rfl ?_
          refine gX7_10 cx dX7_west_70 ?_
          refine gX7_105 cx dX7_west_73 ?_
          refine z_iload_n cx 1 dX7_west_76 rfl rfl ?_
          refine g_ialdN cx i (by decide) (fun _ => rfl) rfl (by omega) (by decide) dX7_west_77 ?_
          rw [show τ 5 i = y.2.2 from p5]
          refine z_V3v cx vX6_carryOut kX7_108 (c_X6_carryOut hg τ (w := y.1) (nE := E9) (nB := B9) (by omega) (fun q => by have := v2; rw [rmF, if_pos q] at this; simpa using this) (fun q => by have := v2; rw [rmF, if_neg (by omega), if_pos q] at this; simpa using this) h8 h9 _ _) (by decide) hC6 rfl rfl (Nat.le_of_ble_eq_true rfl) dX7_west_78 ?_
          refine z_iinc cx dX7_west_81 rfl ic_1 (nI_1 i) hnL (by decide) rfl ?_
          refine z_goto (tgt := 30) cx dX7_west_84 (by decide) ?_
          refine ih (i + 1) (alE y.1 E9) (alB y.1 B9) _ τ0 h1 (by omega) v3 h4 (by rw [← h5, cOutL]) h6 (by rw [cOf 1 (by omega)]; exact h7) cEB.1 cEB.2 (fun k x hx => ?_)
          rw [cOf 3 (by omega), cOf 4 (by omega), cOf 5 (by omega), show i + 1 + k = i + (k + 1) by omega]
          exact h10 (k + 1) x hx
  refine z_aload_n cx 0 dX7_west_0 rfl rfl ?_
  refine gX7_10 cx dX7_west_1 ?_
  refine z_aload_n cx 0 dX7_west_4 rfl rfl ?_
  refine gX7_19 cx dX7_west_5 ?_
  refine gX7_85 cx dX7_west_8 ?_
  refine z_aload_n cx 0 dX7_west_11 rfl rfl ?_
  refine gX7_19 cx dX7_west_12 ?_
  refine gX7_88 cx dX7_west_15 ?_
  rw [eE, eB]
  refine z_V2I cx vX5_findFault kX7_91 (c_X5_findFault hg σ hL eL hE (Nat.le_trans hB (by decide))) (by decide) hC1 rfl rfl (Nat.le_of_ble_eq_true rfl) dX7_west_18 (fun v_18 σ_18 h_18 => ?_)
  rw [hR9] at h_18
  obtain ⟨f1, f2, f3, f4, f5⟩ := h_18
  refine z_iconst cx dX7_west_21 ic_m1 ?_
  refine z_icmp_eq (tgt := 28) cx dX7_west_22 (by decide) (fun c_22 => ?_) (fun c_22 => ?_)
  · refine z_iconst cx dX7_west_28 ic_0 ?_
    refine z_istore_n cx 1 dX7_west_29 rfl hnL (by decide) rfl ?_
    have hz : R9.1 = -1 := by rw [← f1]; exact c_22
    obtain ⟨g1, g2⟩ := f2 hz
    exact loop R9.2 0 E B σ_18 σ_18 hz (by omega) hok f5 rfl (by rw [g1]; congr 1; omega) (by rw [g1]; congr 1; omega) ((congrFun (f5 6 (by decide) (by decide) (by decide) (by decide)) 3).trans eE) ((congrFun (f5 6 (by decide) (by decide) (by decide) (by decide)) 4).trans eB) g2
  · refine z_bipush cx dX7_west_25 bi_m4 ?_
    exact z_iret cx hR ⟨_, rfl, fun _ => ⟨rfl, f3, f5⟩, fun z => absurd (f1.trans z) c_22⟩ dX7_west_27
