/-- a clause read from p on, over E evenings and B bidders: where its fault is, or its end, its word, its numbers -/
def clP (tx : Nat → Int32) (L p E B : Nat) : Nat ⊕ (Nat × Nat × Int32 × Int32) :=
  if 13 ≤ wdN tx (tkB tx L p) (tkE tx L (tkB tx L p)) then .inl (tkB tx L p)
  else if rmF (wdN tx (tkB tx L p) (tkE tx L (tkB tx L p))) E B = false then .inl (tkB tx L p)
  else if nbh (wdN tx (tkB tx L p) (tkE tx L (tkB tx L p))) = 0 then .inr (tkE tx L (tkB tx L p), wdN tx (tkB tx L p) (tkE tx L (tkB tx L p)), 0, 0)
  else if nmT tx (tkB tx L (tkE tx L (tkB tx L p))) (tkE tx L (tkB tx L (tkE tx L (tkB tx L p)))) (nI (tpb (wdN tx (tkB tx L p) (tkE tx L (tkB tx L p))))) = -1 then .inl (tkB tx L (tkE tx L (tkB tx L p)))
  else if nbh (wdN tx (tkB tx L p) (tkE tx L (tkB tx L p))) = 1 then .inr (tkE tx L (tkB tx L (tkE tx L (tkB tx L p))), wdN tx (tkB tx L p) (tkE tx L (tkB tx L p)), nmT tx (tkB tx L (tkE tx L (tkB tx L p))) (tkE tx L (tkB tx L (tkE tx L (tkB tx L p)))) (nI (tpb (wdN tx (tkB tx L p) (tkE tx L (tkB tx L p))))), 0)
  else if nmT tx (tkB tx L (tkE tx L (tkB tx L (tkE tx L (tkB tx L p))))) (tkE tx L (tkB tx L (tkE tx L (tkB tx L (tkE tx L (tkB tx L p)))))) 99 = -1 then .inl (tkB tx L (tkE tx L (tkB tx L (tkE tx L (tkB tx L p)))))
  else .inr (tkE tx L (tkB tx L (tkE tx L (tkB tx L (tkE tx L (tkB tx L p))))), wdN tx (tkB tx L p) (tkE tx L (tkB tx L p)), nmT tx (tkB tx L (tkE tx L (tkB tx L p))) (tkE tx L (tkB tx L (tkE tx L (tkB tx L p)))) (nI (tpb (wdN tx (tkB tx L p) (tkE tx L (tkB tx L p))))), nmT tx (tkB tx L (tkE tx L (tkB tx L (tkE tx L (tkB tx L p))))) (tkE tx L (tkB tx L (tkE tx L (tkB tx L (tkE tx L (tkB tx L p)))))) 99)
/-- the same by its steps -/
theorem clP_at {tx : Nat → Int32} {L p E B b0 e0 w b1 e1 b2 e2 : Nat} (h0 : tkB tx L p = b0) (h1 : tkE tx L b0 = e0) (hw : wdN tx b0 e0 = w) (h2 : tkB tx L e0 = b1) (h3 : tkE tx L b1 = e1) (h4 : tkB tx L e1 = b2) (h5 : tkE tx L b2 = e2) :
    clP tx L p E B = if 13 ≤ w then .inl b0 else if rmF w E B = false then .inl b0 else if nbh w = 0 then .inr (e0, w, 0, 0) else if nmT tx b1 e1 (nI (tpb w)) = -1 then .inl b1 else if nbh w = 1 then .inr (e1, w, nmT tx b1 e1 (nI (tpb w)), 0) else if nmT tx b2 e2 99 = -1 then .inl b2 else .inr (e2, w, nmT tx b1 e1 (nI (tpb w)), nmT tx b2 e2 99) := by
  subst h0; subst h1; subst hw; subst h2; subst h3; subst h4; subst h5
  rfl
/-- what a clause's reading leaves -/
def ClQ (σ' σ : Mem) (L p E B i : Nat) (v : Int32) : Prop :=
  (match clP (σ 2) L p E B with
    | .inl f => v = 0 ∧ σ' 1 6 = nI f
    | .inr (p2, w, a, b) => v = 1 ∧ p2 ≤ L ∧ w < 13 ∧ σ' 1 7 = nI p2 ∧ σ' 3 i = nI w ∧ σ' 4 i = a ∧ σ' 5 i = b ∧ σ' 1 8 = nI (alE w E) ∧ σ' 1 9 = nI (alB w B)) ∧
  (σ' 1 1 = σ 1 1 ∧ σ' 1 2 = σ 1 2) ∧ (∀ k, k ≠ i → σ' 3 k = σ 3 k ∧ σ' 4 k = σ 4 k ∧ σ' 5 k = σ 5 k) ∧ ∀ q, q ≠ 1 → q ≠ 3 → q ≠ 4 → q ≠ 5 → σ' q = σ q
set_option maxRecDepth 100000 in
set_option maxHeartbeats 4000000 in
theorem c_X5_readClause {l : Launch} {g : Gx} (hg : ApG 123 g.ad) (σ : Mem) {L p E B i : Nat} (hL : L ≤ 160) (eL : σ 1 1 = nI L) (hp : p ≤ L) (eP : σ 1 7 = nI p) (hE : E < 2 ^ 31) (hB : B < 2 ^ 31) (eE : σ 1 8 = nI E) (eB : σ 1 9 = nI B) (hi : i < 14) : CtI l (OC g) 6 mX5_readClause [.ref (g.ad 1), .int (nI i)] σ (fun v σ' => ClQ σ' σ L p E B i v) := by
  refine ct_of (lv := [some (.ref (g.ad 1)), some (.int (nI i)), none, none]) (okC hg) (by decide +kernel) (Nat.le_of_ble_eq_true rfl) (fun ls h => lvh_entry h rfl 2) ?_
  intro κ hl hnL cx hR
  subst hl
  have cx : Cx κ (OC g) RX5 cX5_readClause 6 := cx
  have hnL : κ.nL = 4 := hnL
  generalize hb0 : tkB (σ 2) L p = b0
  generalize he0 : tkE (σ 2) L b0 = e0
  generalize hw9 : wdN (σ 2) b0 e0 = w
  generalize hb1 : tkB (σ 2) L e0 = b1
  generalize he1 : tkE (σ 2) L b1 = e1
  generalize hb2 : tkB (σ 2) L e1 = b2
  generalize he2 : tkE (σ 2) L b2 = e2
  have hC := clP_at (E := E) (B := B) hb0 he0 hw9 hb1 he1 hb2 he2
  have i0 : p ≤ b0 ∧ b0 ≤ L := by rw [← hb0]; exact tkB_in hp
  have j0 : b0 ≤ e0 ∧ e0 ≤ L ∧ (b0 < L → b0 < e0) := by rw [← he0]; exact tkE_in i0.2
  have i1 : e0 ≤ b1 ∧ b1 ≤ L := by rw [← hb1]; exact tkB_in j0.2.1
  have j1 : b1 ≤ e1 ∧ e1 ≤ L ∧ (b1 < L → b1 < e1) := by rw [← he1]; exact tkE_in i1.2
  have i2 : e1 ≤ b2 ∧ b2 ≤ L := by rw [← hb2]; exact tkB_in j1.2.1
  have j2 : b2 ≤ e2 ∧ e2 ≤ L ∧ (b2 < L → b2 < e2) := by rw [← he2]; exact tkE_in i2.2
  have hw13 : w ≤ 13 := by rw [← hw9]; exact wdN_le _ _ _
  -- the end: words and numbers stand, the counts go along
  have tail : ∀ (τ : Mem) (pe : Nat) (a b : Int32) (x : Option Value), w < 13 → τ 1 8 = nI E → τ 1 9 = nI B → (τ 1 1 = σ 1 1 ∧ τ 1 2 = σ 1 2) → (∀ k, k ≠ i → τ 3 k = σ 3 k ∧ τ 4 k = σ 4 k ∧ τ 5 k = σ 5 k) → (∀ q, q ≠ 1 → q ≠ 3 → q ≠ 4 → q ≠ 5 → τ q = σ q) → τ 3 i = nI w → τ 4 i = a → τ 5 i = b →
      ((a = -1 ∨ b = -1) → ∃ f, clP (σ 2) L p E B = .inl f ∧ τ 1 6 = nI f) → (¬ a = -1 → ¬ b = -1 → clP (σ 2) L p E B = .inr (pe, w, a, b) ∧ τ 1 7 = nI pe ∧ pe ≤ L) →
      Z κ (OC g) τ 103 [some (.ref (g.ad 1)), some (.int (nI i)), some (.int (nI w)), x] [] := by
    intro τ pe a b x hw eE9 eB9 h1 h2 h3 h4 h5 h6 h7 h8
    refine z_aload_n cx 0 dX5_readClause_103 rfl rfl ?_
    refine z_iload_n cx 2 dX5_readClause_104 rfl rfl ?_
    refine z_V1V cx vX5_countAlong kX5_67 (c_X5_countAlong hg τ hw eE9 eB9) (by decide) hC1 rfl rfl (Nat.le_of_ble_eq_true rfl) dX5_readClause_105 (fun σ_105 h_105 => ?_)
    have k4 : σ_105 4 i = a := by rw [h_105.2.2 4 (by decide)]; exact h5
    have k5 : σ_105 5 i = b := by rw [h_105.2.2 5 (by decide)]; exact h6
    have k3 : σ_105 3 i = nI w := by rw [h_105.2.2 3 (by decide)]; exact h4
    have r1 : σ_105 1 1 = σ 1 1 ∧ σ_105 1 2 = σ 1 2 := by rw [h_105.2.1 1 (by decide) (by decide), h_105.2.1 2 (by decide) (by decide)]; exact h1
    have r2 : ∀ k, k ≠ i → σ_105 3 k = σ 3 k ∧ σ_105 4 k = σ 4 k ∧ σ_105 5 k = σ 5 k := fun k hk => by rw [h_105.2.2 3 (by decide), h_105.2.2 4 (by decide), h_105.2.2 5 (by decide)]; exact h2 k hk
    have r3 : ∀ q, q ≠ 1 → q ≠ 3 → q ≠ 4 → q ≠ 5 → σ_105 q = σ q := fun q g1 g3 g4 g5 => by rw [h_105.2.2 q g1]; exact h3 q g1 g3 g4 g5
    have k6 : σ_105 1 6 = τ 1 6 := h_105.2.1 6 (by decide) (by decide)
    have k7 : σ_105 1 7 = τ 1 7 := h_105.2.1 7 (by decide) (by decide)
    refine z_aload_n cx 0 dX5_readClause_108 rfl rfl ?_
    refine gX5_18 cx dX5_readClause_109 ?_
    refine z_iload_n cx 1 dX5_readClause_112 rfl rfl ?_
    refine g_ialdN cx i (by decide) (fun _ => rfl) rfl (by omega) (by decide) dX5_readClause_113 ?_
    rw [k4]
    refine z_iconst cx dX5_readClause_114 ic_m1 ?_
    refine z_icmp_eq (tgt := 132) cx dX5_readClause_115 (by decide) (fun c_115 => ?_) (fun c_115 => ?_)
    · refine z_iconst cx dX5_readClause_132 ic_0 ?_
      obtain ⟨f, q1, q2⟩ := h7 (Or.inl c_115)
      refine z_zret cx hR rfl ⟨_, rfl, ?_, r1, r2, r3⟩ dX5_readClause_133
      rw [q1]
      exact ⟨rfl, k6.trans q2⟩
    · refine z_aload_n cx 0 dX5_readClause_118 rfl rfl ?_
      refine gX5_21 cx dX5_readClause_119 ?_
      refine z_iload_n cx 1 dX5_readClause_122 rfl rfl ?_
      refine g_ialdN cx i (by decide) (fun _ => rfl) rfl (by omega) (by decide) dX5_readClause_123 ?_
      rw [k5]
      refine z_iconst cx dX5_readClause_124 ic_m1 ?_
      refine z_icmp_eq (tgt := 132) cx dX5_readClause_125 (by decide) (fun c_125 => ?_) (fun c_125 => ?_)
      · refine z_iconst cx dX5_readClause_132 ic_0 ?_
        obtain ⟨f, q1, q2⟩ := h7 (Or.inr c_125)
        refine z_zret cx hR rfl ⟨_, rfl, ?_, r1, r2, r3⟩ dX5_readClause_133
        rw [q1]
        exact ⟨rfl, k6.trans q2⟩
      · refine z_iconst cx dX5_readClause_128 ic_1 ?_
        refine z_goto (tgt := 133) cx dX5_readClause_129 (by decide) ?_
        obtain ⟨q1, q2, q3⟩ := h8 c_115 c_125
        refine z_zret cx hR rfl ⟨_, rfl, ?_, r1, r2, r3⟩ dX5_readClause_133
        rw [q1]
        exact ⟨rfl, q3, hw, k7.trans q2, k3, k4, k5, h_105.1.1, h_105.1.2⟩
  refine z_aload_n cx 0 dX5_readClause_0 rfl rfl ?_
  refine z_V0V cx vX5_readToken kX5_47 (c_X5_readToken hg σ hL eL hp eP) (by decide) hC1 rfl rfl (Nat.le_of_ble_eq_true rfl) dX5_readClause_1 (fun σ_1 h_1 => ?_)
  obtain ⟨⟨t6, t7⟩, tO⟩ := h_1
  rw [hb0] at t6 t7
  rw [he0] at t7
  have x2 : σ_1 2 = σ 2 := tO.2 2 (by decide)
  have x11 : σ_1 1 1 = nI L := (tO.1 1 (by decide) (by decide)).trans eL
  have x18 : σ_1 1 8 = nI E := (tO.1 8 (by decide) (by decide)).trans eE
  have x19 : σ_1 1 9 = nI B := (tO.1 9 (by decide) (by decide)).trans eB
  refine z_aload_n cx 0 dX5_readClause_4 rfl rfl ?_
  refine z_V0i cx vX5_findWord kX5_50 (c_X5_findWord hg σ_1 (b := b0) (e := e0) ⟨j0.1, by omega, t6, t7⟩) (by decide) hC1 rfl rfl (Nat.le_of_ble_eq_true rfl) dX5_readClause_5 ?_
  rw [x2, hw9]
  refine z_istore_n cx 2 dX5_readClause_8 rfl hnL (by decide) rfl ?_
  refine z_iload_n cx 2 dX5_readClause_9 rfl rfl ?_
  refine z_iconst cx dX5_readClause_10 ic_m1 ?_
  refine z_icmp_eq (tgt := 22) cx dX5_readClause_11 (by decide) (fun c_11 => ?_) (fun c_11 => ?_)
  · have c11 : 13 ≤ w := by
      rcases Nat.lt_or_ge w 13 with z | z
      · rw [wdI, if_pos z] at c_11
        exact absurd (show nI w < 0 by rw [c_11]; decide) (nI_pos (by omega))
      · exact z
    refine z_iconst cx dX5_readClause_22 ic_0 ?_
    refine z_zret cx hR rfl ⟨_, rfl, ?_, ⟨tO.1 1 (by decide) (by decide), tO.1 2 (by decide) (by decide)⟩, fun k _ => ⟨congrFun (tO.2 3 (by decide)) k, congrFun (tO.2 4 (by decide)) k, congrFun (tO.2 5 (by decide)) k⟩, fun q g1 _ _ _ => tO.2 q g1⟩ dX5_readClause_23
    rw [hC, if_pos c11]
    exact ⟨rfl, t6⟩
  · have c11 : w < 13 := by
      rcases Nat.lt_or_ge w 13 with z | z
      · exact z
      · exact absurd (by rw [wdI, if_neg (by omega)]) c_11
    rw [show wdI w = nI w by rw [wdI, if_pos c11]]
    refine z_aload_n cx 0 dX5_readClause_14 rfl rfl ?_
    refine z_iload_n cx 2 dX5_readClause_15 rfl rfl ?_
    refine z_V1i cx vX5_hasRoomFor kX5_54 (c_X5_hasRoomFor hg σ_1 hw13 hE hB x18 x19) (by decide) hC1 rfl rfl (Nat.le_of_ble_eq_true rfl) dX5_readClause_16 ?_
    refine z_ifb_ne (tgt := 24) cx dX5_readClause_19 (by decide) (fun c_19 => ?_) (fun c_19 => ?_)
    · refine z_aload_n cx 0 dX5_readClause_24 rfl rfl ?_
      refine gX5_15 cx dX5_readClause_25 ?_
      refine z_iload_n cx 1 dX5_readClause_28 rfl rfl ?_
      refine z_iload_n cx 2 dX5_readClause_29 rfl rfl ?_
      refine g_iastN cx i (by decide) (fun _ => rfl) rfl (by omega) (by decide) dX5_readClause_30 ?_
      refine z_aload_n cx 0 dX5_readClause_31 rfl rfl ?_
      refine gX5_18 cx dX5_readClause_32 ?_
      refine z_iload_n cx 1 dX5_readClause_35 rfl rfl ?_
      refine z_iconst cx dX5_readClause_36 ic_0 ?_
      refine g_iastN cx i (by decide) (fun _ => rfl) rfl (by omega) (by decide) dX5_readClause_37 ?_
      refine z_aload_n cx 0 dX5_readClause_38 rfl rfl ?_
      refine gX5_21 cx dX5_readClause_39 ?_
      refine z_iload_n cx 1 dX5_readClause_42 rfl rfl ?_
      refine z_iconst cx dX5_readClause_43 ic_0 ?_
      refine g_iastN cx i (by decide) (fun _ => rfl) rfl (by omega) (by decide) dX5_readClause_44 ?_
      refine z_iload_n cx 2 dX5_readClause_45 rfl rfl ?_
      rw [if_neg (by omega), if_neg (by rw [c_19]; decide)] at hC
      have y1 : ∀ k, (up2 (up2 (up2 σ_1 3 i (nI w)) 4 i 0) 5 i 0) 1 k = σ_1 1 k := fun _ => rfl
      have yq : ∀ q, q ≠ 1 → q ≠ 3 → q ≠ 4 → q ≠ 5 → (up2 (up2 (up2 σ_1 3 i (nI w)) 4 i 0) 5 i 0) q = σ q := fun q g1 g3 g4 g5 => by rw [up2_ne _ _ _ g5, up2_ne _ _ _ g4, up2_ne _ _ _ g3]; exact tO.2 q g1
      have yk : ∀ k, k ≠ i → (up2 (up2 (up2 σ_1 3 i (nI w)) 4 i 0) 5 i 0) 3 k = σ 3 k ∧ (up2 (up2 (up2 σ_1 3 i (nI w)) 4 i 0) 5 i 0) 4 k = σ 4 k ∧ (up2 (up2 (up2 σ_1 3 i (nI w)) 4 i 0) 5 i 0) 5 k = σ 5 k := fun k hk => by
        refine ⟨?_, ?_, ?_⟩
        · rw [up2_ne _ _ _ (by decide), up2_ne _ _ _ (by decide), up2_at, upd_ne _ _ hk, tO.2 3 (by decide)]
        · rw [up2_ne _ _ _ (by decide), up2_at, upd_ne _ _ hk, up2_ne _ _ _ (by decide), tO.2 4 (by decide)]
        · rw [up2_at, upd_ne _ _ hk, up2_ne _ _ _ (by decide), up2_ne _ _ _ (by decide), tO.2 5 (by decide)]
      have z3 : (up2 (up2 (up2 σ_1 3 i (nI w)) 4 i 0) 5 i 0) 3 i = nI w := by rw [up2_ne _ _ _ (by decide), up2_ne _ _ _ (by decide), up2_at, upd_at]
      have z4 : (up2 (up2 (up2 σ_1 3 i (nI w)) 4 i 0) 5 i 0) 4 i = 0 := by rw [up2_ne _ _ _ (by decide), up2_at, upd_at]
      have z5 : (up2 (up2 (up2 σ_1 3 i (nI w)) 4 i 0) 5 i 0) 5 i = 0 := by rw [up2_at, upd_at]
      generalize hρ : (up2 (up2 (up2 σ_1 3 i (nI w)) 4 i 0) 5 i 0) = ρ at *
      have n2 : nbh w ≤ 2 := by unfold nbh; split; omega; split <;> omega
      have x2r : ρ 2 = σ 2 := yq 2 (by decide) (by decide) (by decide) (by decide)
      refine z_S1i cx sX5_numbersBehind kX5_57 (c_X5_numbersBehind hg ρ c11) (by decide) (Nat.le_of_ble_eq_true rfl) dX5_readClause_46 ?_
      refine z_istore_n cx 3 dX5_readClause_49 rfl hnL (by decide) rfl ?_
      refine z_iload_n cx 3 dX5_readClause_50 rfl rfl ?_
      refine z_if_le (tgt := 72) cx dX5_readClause_51 (by decide) (fun c_51 => ?_) (fun c_51 => ?_)
      · have c51 : nbh w = 0 := by have := (nI_leI (b := 0) (by omega) (by decide)).mp c_51; omega
        refine z_iload_n cx 3 dX5_readClause_72 rfl rfl ?_
        refine z_iconst cx dX5_readClause_73 ic_1 ?_
        refine z_icmp_le (tgt := 103) cx dX5_readClause_74 (by decide) (fun c_74 => ?_) (fun c_74 => ?_)
        · have c74 : nbh w ≤ 1 := (nI_leI (b := 1) (by omega) (by decide)).mp c_74
          refine tail ρ e0 0 0 _ c11 ((y1 8).trans x18) ((y1 9).trans x19) ⟨(y1 1).trans (tO.1 1 (by decide) (by decide)), (y1 2).trans (tO.1 2 (by decide) (by decide))⟩ yk yq z3 z4 z5 (fun h => ?_) (fun _ _ => ?_)
          · rcases h with h | h <;> exact absurd h (by decide)
          · rw [if_pos c51] at hC
            exact ⟨hC, (y1 7).trans t7, j0.2.1⟩
        · exact absurd (show nI (nbh w) ≤ 1 by rw [c51]; decide) c_74
      · have c51 : ¬ nbh w = 0 := fun z => c_51 (by rw [z]; decide)
        refine z_aload_n cx 0 dX5_readClause_54 rfl rfl ?_
        refine z_V0V cx vX5_readToken kX5_47 (c_X5_readToken hg ρ hL ((y1 1).trans x11) j0.2.1 ((y1 7).trans t7)) (by decide) hC1 rfl rfl (Nat.le_of_ble_eq_true rfl) dX5_readClause_55 (fun σ_55 h_55 => ?_)
        obtain ⟨⟨u6, u7⟩, uO⟩ := h_55
        rw [x2r, hb1] at u6 u7
        rw [he1] at u7
        have v2 : σ_55 2 = σ 2 := (uO.2 2 (by decide)).trans x2r
        refine z_aload_n cx 0 dX5_readClause_58 rfl rfl ?_
        refine gX5_18 cx dX5_readClause_59 ?_
        refine z_iload_n cx 1 dX5_readClause_62 rfl rfl ?_
        refine z_aload_n cx 0 dX5_readClause_63 rfl rfl ?_
        refine z_iload_n cx 2 dX5_readClause_64 rfl rfl ?_
        refine z_S1i cx sX5_topBehind kX5_61 (c_X5_topBehind hg σ_55 c11) (by decide) (Nat.le_of_ble_eq_true rfl) dX5_readClause_65 ?_
        refine z_V1i cx vX5_numberUpTo kX5_64 (c_X5_numberUpTo hg σ_55 (b := b1) (e := e1) ⟨j1.1, by omega, u6, u7⟩ _) (by decide) hC1 rfl rfl (Nat.le_of_ble_eq_true rfl) dX5_readClause_68 ?_
        rw [v2]
        refine g_iastN cx i (by decide) (fun _ => rfl) rfl (by omega) (by decide) dX5_readClause_71 ?_
        have V1 : ∀ k, k ≠ 6 → k ≠ 7 → (up2 σ_55 4 i (nmT (σ 2) b1 e1 (nI (tpb w)))) 1 k = σ_1 1 k := fun k g6 g7 => by rw [up2_ne _ _ _ (by decide), uO.1 k g6 g7, y1 k]
        have Vq : ∀ q, q ≠ 1 → q ≠ 3 → q ≠ 4 → q ≠ 5 → (up2 σ_55 4 i (nmT (σ 2) b1 e1 (nI (tpb w)))) q = σ q := fun q g1 g3 g4 g5 => by rw [up2_ne _ _ _ g4, uO.2 q g1]; exact yq q g1 g3 g4 g5
        have Vk : ∀ k, k ≠ i → (up2 σ_55 4 i (nmT (σ 2) b1 e1 (nI (tpb w)))) 3 k = σ 3 k ∧ (up2 σ_55 4 i (nmT (σ 2) b1 e1 (nI (tpb w)))) 4 k = σ 4 k ∧ (up2 σ_55 4 i (nmT (σ 2) b1 e1 (nI (tpb w)))) 5 k = σ 5 k := fun k hk => by
          have := yk k hk
          refine ⟨?_, ?_, ?_⟩
          · rw [up2_ne _ _ _ (by decide), uO.2 3 (by decide)]; exact this.1
          · rw [up2_at, upd_ne _ _ hk, uO.2 4 (by decide)]; exact this.2.1
          · rw [up2_ne _ _ _ (by decide), uO.2 5 (by decide)]; exact this.2.2
        have Z3 : (up2 σ_55 4 i (nmT (σ 2) b1 e1 (nI (tpb w)))) 3 i = nI w := by rw [up2_ne _ _ _ (by decide), uO.2 3 (by decide)]; exact z3
        have Z4 : (up2 σ_55 4 i (nmT (σ 2) b1 e1 (nI (tpb w)))) 4 i = nmT (σ 2) b1 e1 (nI (tpb w)) := by rw [up2_at, upd_at]
        have Z5 : (up2 σ_55 4 i (nmT (σ 2) b1 e1 (nI (tpb w)))) 5 i = 0 := by rw [up2_ne _ _ _ (by decide), uO.2 5 (by decide)]; exact z5
        have V6 : (up2 σ_55 4 i (nmT (σ 2) b1 e1 (nI (tpb w)))) 1 6 = nI b1 := u6
        have V7 : (up2 σ_55 4 i (nmT (σ 2) b1 e1 (nI (tpb w)))) 1 7 = nI e1 := u7
        generalize hρ2 : (up2 σ_55 4 i (nmT (σ 2) b1 e1 (nI (tpb w)))) = ρ2 at *
        have x2s : ρ2 2 = σ 2 := Vq 2 (by decide) (by decide) (by decide) (by decide)
        have two : ∀ x : Option Value, nbh w = 2 → ¬ nmT (σ 2) b1 e1 (nI (tpb w)) = -1 → Z κ (OC g) ρ2 87 [some (.ref (g.ad 1)), some (.int (nI i)), some (.int (nI w)), x] [] := by
          intro x nb2 hn1
          refine z_aload_n cx 0 dX5_readClause_87 rfl rfl ?_
          refine z_V0V cx vX5_readToken kX5_47 (c_X5_readToken hg ρ2 hL ((V1 1 (by decide) (by decide)).trans x11) j1.2.1 V7) (by decide) hC1 rfl rfl (Nat.le_of_ble_eq_true rfl) dX5_readClause_88 (fun σ_88 h_88 => ?_)
          obtain ⟨⟨s6, s7⟩, sO⟩ := h_88
          rw [x2s, hb2] at s6 s7
          rw [he2] at s7
          have q2 : σ_88 2 = σ 2 := (sO.2 2 (by decide)).trans x2s
          refine z_aload_n cx 0 dX5_readClause_91 rfl rfl ?_
          refine gX5_21 cx dX5_readClause_92 ?_
          refine z_iload_n cx 1 dX5_readClause_95 rfl rfl ?_
          refine z_aload_n cx 0 dX5_readClause_96 rfl rfl ?_
          refine z_bipush cx dX5_readClause_97 bi_99 ?_
          refine z_V1i cx vX5_numberUpTo kX5_64 (c_X5_numberUpTo hg σ_88 (b := b2) (e := e2) ⟨j2.1, by omega, s6, s7⟩ _) (by decide) hC1 rfl rfl (Nat.le_of_ble_eq_true rfl) dX5_readClause_99 ?_
          rw [q2]
          refine g_iastN cx i (by decide) (fun _ => rfl) rfl (by omega) (by decide) dX5_readClause_102 ?_
          refine tail _ e2 (nmT (σ 2) b1 e1 (nI (tpb w))) (nmT (σ 2) b2 e2 99) _ c11 ?_ ?_ ⟨?_, ?_⟩ (fun k hk => ⟨?_, ?_, ?_⟩) (fun q g1 g3 g4 g5 => ?_) ?_ ?_ ?_ (fun h => ?_) (fun h9 h8 => ?_)
          · rw [up2_ne _ _ _ (by decide), sO.1 8 (by decide) (by decide), V1 8 (by decide) (by decide)]; exact x18
          · rw [up2_ne _ _ _ (by decide), sO.1 9 (by decide) (by decide), V1 9 (by decide) (by decide)]; exact x19
          · rw [up2_ne _ _ _ (by decide), sO.1 1 (by decide) (by decide), V1 1 (by decide) (by decide)]; exact tO.1 1 (by decide) (by decide)
          · rw [up2_ne _ _ _ (by decide), sO.1 2 (by decide) (by decide), V1 2 (by decide) (by decide)]; exact tO.1 2 (by decide) (by decide)
          · rw [up2_ne _ _ _ (by decide), sO.2 3 (by decide)]; exact (Vk k hk).1
          · rw [up2_ne _ _ _ (by decide), sO.2 4 (by decide)]; exact (Vk k hk).2.1
          · rw [up2_at, upd_ne _ _ hk, sO.2 5 (by decide)]; exact (Vk k hk).2.2
          · rw [up2_ne _ _ _ g5, sO.2 q g1]; exact Vq q g1 g3 g4 g5
          · rw [up2_ne _ _ _ (by decide), sO.2 3 (by decide)]; exact Z3
          · rw [up2_ne _ _ _ (by decide), sO.2 4 (by decide)]; exact Z4
          · rw [up2_at, upd_at]
          · have h := h.resolve_left hn1
            rw [if_neg (by omega), if_neg hn1, if_neg (by omega), if_pos h] at hC
            exact ⟨b2, hC, by rw [up2_ne _ _ _ (by decide)]; exact s6⟩
          · rw [if_neg (by omega), if_neg hn1, if_neg (by omega), if_neg h8] at hC
            exact ⟨hC, by rw [up2_ne _ _ _ (by decide)]; exact s7, j2.2.1⟩
        refine z_iload_n cx 3 dX5_readClause_72 rfl rfl ?_
        refine z_iconst cx dX5_readClause_73 ic_1 ?_
        refine z_icmp_le (tgt := 103) cx dX5_readClause_74 (by decide) (fun c_74 => ?_) (fun c_74 => ?_)
        · have c74 : nbh w ≤ 1 := (nI_leI (b := 1) (by omega) (by decide)).mp c_74
          refine tail ρ2 e1 (nmT (σ 2) b1 e1 (nI (tpb w))) 0 _ c11 ((V1 8 (by decide) (by decide)).trans x18) ((V1 9 (by decide) (by decide)).trans x19) ⟨(V1 1 (by decide) (by decide)).trans (tO.1 1 (by decide) (by decide)), (V1 2 (by decide) (by decide)).trans (tO.1 2 (by decide) (by decide))⟩ Vk Vq Z3 Z4 Z5 (fun h => ?_) (fun h9 _ => ?_)
          · have h := h.resolve_right (by decide)
            rw [if_neg c51, if_pos h] at hC
            exact ⟨b1, hC, V6⟩
          · rw [if_neg c51, if_neg h9, if_pos (by omega)] at hC
            exact ⟨hC, V7, j1.2.1⟩
        · have h974 : ¬ nbh w ≤ 1 := fun z => c_74 ((nI_leI (b := 1) (by omega) (by decide)).mpr z)
          have c74 : nbh w = 2 := by omega
          refine z_aload_n cx 0 dX5_readClause_77 rfl rfl ?_
          refine gX5_18 cx dX5_readClause_78 ?_
          refine z_iload_n cx 1 dX5_readClause_81 rfl rfl ?_
          refine g_ialdN cx i (by decide) (fun _ => rfl) rfl (by omega) (by decide) dX5_readClause_82 ?_
          rw [Z4]
          refine z_iconst cx dX5_readClause_83 ic_m1 ?_
          refine z_icmp_eq (tgt := 103) cx dX5_readClause_84 (by decide) (fun c_84 => ?_) (fun c_84 => ?_)
          · refine tail ρ2 e1 (nmT (σ 2) b1 e1 (nI (tpb w))) 0 _ c11 ((V1 8 (by decide) (by decide)).trans x18) ((V1 9 (by decide) (by decide)).trans x19) ⟨(V1 1 (by decide) (by decide)).trans (tO.1 1 (by decide) (by decide)), (V1 2 (by decide) (by decide)).trans (tO.1 2 (by decide) (by decide))⟩ Vk Vq Z3 Z4 Z5 (fun h => ?_) (fun h9 _ => ?_)
            · have h := h.resolve_right (by decide)
              rw [if_neg c51, if_pos h] at hC
              exact ⟨b1, hC, V6⟩
            · exact absurd c_84 h9
          · exact two _ c74 c_84
    · refine z_iconst cx dX5_readClause_22 ic_0 ?_
      refine z_zret cx hR rfl ⟨_, rfl, ?_, ⟨tO.1 1 (by decide) (by decide), tO.1 2 (by decide) (by decide)⟩, fun k _ => ⟨congrFun (tO.2 3 (by decide)) k, congrFun (tO.2 4 (by decide)) k, congrFun (tO.2 5 (by decide)) k⟩, fun q g1 _ _ _ => tO.2 q g1⟩ dX5_readClause_23
      rw [hC, if_neg (by omega), if_pos c_19]
      exact ⟨rfl, t6⟩
