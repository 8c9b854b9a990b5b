def scM (μ : Mem) (t : Nat) : Nat → Int32
  | 0 => 0
  | e + 1 => scM μ t e + (μ 1 (7 + 9 * e + 6 + t) - 10 * μ 1 (7 + 9 * e + 5)) * (μ 1 (7 + 9 * e + 6 + t) - 10 * μ 1 (7 + 9 * e + 5))
def soM (μ : Mem) (t : Nat) (k : Int32) : Int32 := if inW k 2 = false then -2 else scM μ (toN k) t
def btM (μ : Mem) (t : Nat) : Int32 := if t = 0 then -1 else nI (bs3 (fun k => scM μ k t))
def snM (μ : Mem) (s : Nat) (b dn : Int32) : Int32 := if inR b (μ 1 1) = false then -2 else if inW dn 1 = false then -3 else if s = 6 then -5 else 0
def ftM (sn bk : Nat → Int32) (w : Nat) : Nat → Bool
  | 0 => true
  | i + 1 => ftM sn bk w i && (decide (sn (2 * i + 1) = 1) == (decide (w < 5) && (!decide (sn (2 * i) = nI w) && !decide (bk (toN (sn (2 * i))) = 1))))
def tpM (T : Nat → Bool) (x0 : Int32) : Nat → Int32
  | 0 => x0
  | b + 1 => tpM T x0 b ||| (if T b = true then (1 : Int32) <<< (nI b &&& 31) else 0)
def buM (μ : Mem) (B s : Nat) : Int32 := tpM (fun b => ftM (μ 7) (mBk μ) b s) (if ftM (μ 7) (mBk μ) 5 s = true then 32 else 0) B
def mJo (μ : Mem) : Nat → Int32 := fun b => μ 1 (70 + 6 * b + 4)
def coM (μ : Mem) (B : Nat) (w : Int32) : Int32 := if w = 0 then μ 1 0 else if w = 1 then μ 1 1 else if w = 2 then μ 1 2 else if w = 3 then μ 1 3 else if w = 4 then μ 1 4 else if w = 5 then μ 1 5 else if w = 6 then nI (cnB (mBd μ) B) else if w = 7 then μ 1 6 else if w = 8 then smI (mJo μ) B else if w = 9 then μ 0 9 else if w = 10 then μ 0 3 else if w = 11 then μ 0 7 else -3
def SmH (μ : Mem) (s : Nat) : Prop := s ≤ 6 ∧ μ 0 9 = nI s ∧ ∀ i, i < s → ∃ b, b < 5 ∧ μ 7 (2 * i) = nI b
set_option maxRecDepth 100000 in
set_option maxHeartbeats 4000000 in
theorem c_X8_scoreOf {l : Launch} {g : Gx} (hg : ApG 9 g.ad) (σ : Mem) {t n : Nat} (ht : t < 3) (hn : n ≤ 7) (eT : σ 1 2 = nI n) : Ct l (OM g) 1 mX8_scoreOf [.ref (g.ad 0), .int (nI t)] σ (some (.int (scM σ t n))) σ := by
  refine ct_of (lv := [some (.ref (g.ad 0)), some (.int (nI t)), none, none, none]) (okM hg) (by decide +kernel) (Nat.le_of_ble_eq_true rfl) (fun ls h => lvh_entry h rfl 3) ?_
  intro κ hl hnL cx hR
  subst hl
  have cx : Cx κ (OM g) RX8 cX8_scoreOf 1 := cx
  have hnL : κ.nL = 5 := hnL
  have loop : ∀ (k i : Nat), n + 1 ≤ i + k → i ≤ n → ∀ x, Z κ (OM g) σ 4 [some (.ref (g.ad 0)), some (.int (nI t)), some (.int (scM σ t i)), some (.int (nI i)), x] [] := by
    intro k
    induction k with
    | zero => intro i h1 h2; exact absurd h1 (by omega)
    | succ k ih =>
      intro i h1 h2 x
      refine z_iload_n cx 3 dX8_scoreOf_4 rfl rfl ?_
      refine z_aload_n cx 0 dX8_scoreOf_5 rfl rfl ?_
      refine gX8_7 cx dX8_scoreOf_6 ?_
      refine z_iconst cx dX8_scoreOf_9 ic_2 ?_
      refine g_ialdN cx 2 (by decide) (fun _ => rfl) rfl (by omega) (by decide) dX8_scoreOf_10 ?_
      rw [eT]
      refine z_icmp_ge (tgt := 59) cx dX8_scoreOf_11 (by decide) (fun c_11 => ?_) (fun c_11 => ?_)
      · have c11 := (nI_leI (by omega) (by omega)).mp c_11
        have e5 : i = n := by omega
        subst e5
        refine z_iload_n cx 2 dX8_scoreOf_59 rfl rfl ?_
        exact z_iret cx hR ⟨rfl, rfl⟩ dX8_scoreOf_60
      · have c11 : ¬ n ≤ i := fun z => c_11 ((nI_leI (by omega) (by omega)).mpr z)
        refine z_aload_n cx 0 dX8_scoreOf_14 rfl rfl ?_
        refine gX8_7 cx dX8_scoreOf_15 ?_
        refine z_iload_n cx 3 dX8_scoreOf_18 rfl rfl ?_
        refine z_S1i cx sX8_eveningAt kX8_98 (c_X8_eveningAt hg _ i) (by decide) (Nat.le_of_ble_eq_true rfl) dX8_scoreOf_19 ?_
        refine z_bipush cx dX8_scoreOf_22 bi_6 ?_
        refine z_iadd cx dX8_scoreOf_24 ?_
        refine z_iload_n cx 1 dX8_scoreOf_25 rfl rfl ?_
        refine z_iadd cx dX8_scoreOf_26 ?_
        refine g_ialdN cx (7 + 9 * i + 6 + t) (by decide) (fun _ => rfl) (by rw [show (6 : Int32) = nI 6 from rfl, nI_add, nI_add]) (by omega) (by decide) dX8_scoreOf_27 ?_
        refine z_bipush cx dX8_scoreOf_28 bi_10 ?_
        refine z_aload_n cx 0 dX8_scoreOf_30 rfl rfl ?_
        refine gX8_7 cx dX8_scoreOf_31 ?_
        refine z_iload_n cx 3 dX8_scoreOf_34 rfl rfl ?_
        refine z_S1i cx sX8_eveningAt kX8_98 (c_X8_eveningAt hg _ i) (by decide) (Nat.le_of_ble_eq_true rfl) dX8_scoreOf_35 ?_
        refine z_iconst cx dX8_scoreOf_38 ic_5 ?_
        refine z_iadd cx dX8_scoreOf_39 ?_
        refine g_ialdN cx (7 + 9 * i + 5) (by decide) (fun _ => rfl) (nI_add _ 5) (by omega) (by decide) dX8_scoreOf_40 ?_
        refine z_imul cx dX8_scoreOf_41 ?_
        refine z_isub cx dX8_scoreOf_42 ?_
        refine z_istore cx dX8_scoreOf_43 hnL (by decide) rfl ?_
        refine z_iload_n cx 2 dX8_scoreOf_45 rfl rfl ?_
        refine z_iload cx dX8_scoreOf_46 rfl ?_
        refine z_iload cx dX8_scoreOf_48 rfl ?_
        refine z_imul cx dX8_scoreOf_50 ?_
        refine z_iadd cx dX8_scoreOf_51 ?_
        refine z_istore_n cx 2 dX8_scoreOf_52 rfl hnL (by decide) rfl ?_
        refine z_iinc cx dX8_scoreOf_53 rfl ic_1 (nI_1 i) hnL (by decide) rfl ?_
        refine z_goto (tgt := 4) cx dX8_scoreOf_56 (by decide) ?_
        exact ih (i + 1) (by omega) (by omega) _
  refine z_iconst cx dX8_scoreOf_0 ic_0 ?_
  refine z_istore_n cx 2 dX8_scoreOf_1 rfl hnL (by decide) rfl ?_
  refine z_iconst cx dX8_scoreOf_2 ic_0 ?_
  refine z_istore_n cx 3 dX8_scoreOf_3 rfl hnL (by decide) rfl ?_
  exact loop (n + 1) 0 (by omega) (by omega) _
set_option maxRecDepth 100000 in
set_option maxHeartbeats 4000000 in
theorem c_X8_score {l : Launch} {g : Gx} (hg : ApG 9 g.ad) (σ : Mem) {E B t : Nat} (hM : MH σ E B t) (k : Int32) : Ct l (OM g) 2 mX8_score [.ref (g.ad 0), .int k] σ (some (.int (soM σ t k))) σ := by
  refine ct_of (lv := [some (.ref (g.ad 0)), some (.int k)]) (okM hg) (by decide +kernel) (Nat.le_of_ble_eq_true rfl) (fun ls h => lvh_entry h rfl 0) ?_
  intro κ hl hnL cx hR
  subst hl
  have cx : Cx κ (OM g) RX8 cX8_score 2 := cx
  have hnL : κ.nL = 2 := hnL
  have hM0 := hM
  obtain ⟨⟨hE, eE⟩, ⟨hB, eB⟩, ht, eT⟩ := hM0
  refine z_iload_n cx 1 dX8_score_0 rfl rfl ?_
  refine z_S1i cx sX8_isTeller kX8_170 (c_X8_isTeller hg σ _) (by decide) (Nat.le_of_ble_eq_true rfl) dX8_score_1 ?_
  refine z_ifb_eq (tgt := 15) cx dX8_score_4 (by decide) (fun c_4 => ?_) (fun c_4 => ?_)
  · refine z_bipush cx dX8_score_15 bi_m2 ?_
    exact z_iret cx hR ⟨by rw [soM, if_pos c_4], rfl⟩ dX8_score_17
  · obtain ⟨i, hi, rfl⟩ := inW_of (n := 2) c_4 (by decide)
    refine z_aload_n cx 0 dX8_score_7 rfl rfl ?_
    refine z_iload_n cx 1 dX8_score_8 rfl rfl ?_
    refine z_V1i cx vX8_scoreOf kX8_197 (c_X8_scoreOf hg σ (t := i) (by omega) (n := t) (by omega) eT) (by decide) hM0 rfl rfl (Nat.le_of_ble_eq_true rfl) dX8_score_9 ?_
    refine z_goto (tgt := 17) cx dX8_score_12 (by decide) ?_
    exact z_iret cx hR ⟨by rw [soM, if_neg (by rw [c_4]; decide), toN_nI (by omega)], rfl⟩ dX8_score_17
set_option maxRecDepth 100000 in
set_option maxHeartbeats 4000000 in
theorem c_X8_best {l : Launch} {g : Gx} (hg : ApG 9 g.ad) (σ : Mem) {E B t : Nat} (hM : MH σ E B t) : Ct l (OM g) 2 mX8_best [.ref (g.ad 0)] σ (some (.int (btM σ t))) σ := by
  refine ct_of (lv := [some (.ref (g.ad 0)), none, none]) (okM hg) (by decide +kernel) (Nat.le_of_ble_eq_true rfl) (fun ls h => lvh_entry h rfl 2) ?_
  intro κ hl hnL cx hR
  subst hl
  have cx : Cx κ (OM g) RX8 cX8_best 2 := cx
  have hnL : κ.nL = 3 := hnL
  have hM0 := hM
  obtain ⟨⟨hE, eE⟩, ⟨hB, eB⟩, ht, eT⟩ := hM0
  have tail : ∀ x : Nat, x = bs3 (fun k => scM σ k t) → Z κ (OM g) σ 34 [some (.ref (g.ad 0)), some (.int (nI x)), some (.int 3)] [] := by
    intro x hx
    refine z_aload_n cx 0 dX8_best_34 rfl rfl ?_
    refine gX8_7 cx dX8_best_35 ?_
    refine z_iconst cx dX8_best_38 ic_2 ?_
    refine g_ialdN cx 2 (by decide) (fun _ => rfl) rfl (by omega) (by decide) dX8_best_39 ?_
    rw [eT]
    refine z_if_ne (tgt := 47) cx dX8_best_40 (by decide) (fun c_40 => ?_) (fun c_40 => ?_)
    · have c40 : ¬ t = 0 := fun z => c_40 (by rw [z]; rfl)
      refine z_iload_n cx 1 dX8_best_47 rfl rfl ?_
      exact z_iret cx hR ⟨by rw [btM, if_neg c40, hx], rfl⟩ dX8_best_48
    · have c40 : t = 0 := (nI_eq (b := 0) (by omega) (by decide)).mp c_40
      refine z_iconst cx dX8_best_43 ic_m1 ?_
      refine z_goto (tgt := 48) cx dX8_best_44 (by decide) ?_
      exact z_iret cx hR ⟨by rw [btM, if_pos c40], rfl⟩ dX8_best_48
  have s2 : ∀ x : Nat, x < 3 → x = (if scM σ 1 t < scM σ 0 t then 1 else 0) → Z κ (OM g) σ 4 [some (.ref (g.ad 0)), some (.int (nI x)), some (.int 2)] [] := by
    intro x hx3 hx
    refine z_iload_n cx 2 dX8_best_4 rfl rfl ?_
    refine z_iconst cx dX8_best_5 ic_3 ?_
    refine z_icmp_ge (tgt := 34) cx dX8_best_6 (by decide) (fun c_6 => ?_) (fun c_6 => ?_)
    · exact absurd c_6 (by decide)
    · refine z_aload_n cx 0 dX8_best_9 rfl rfl ?_
      refine z_iload_n cx 2 dX8_best_10 rfl rfl ?_
      refine z_V1i cx vX8_scoreOf kX8_197 (c_X8_scoreOf hg σ (t := 2) (by omega) (n := t) (by omega) eT) (by decide) hM0 rfl rfl (Nat.le_of_ble_eq_true rfl) dX8_best_11 ?_
      refine z_aload_n cx 0 dX8_best_14 rfl rfl ?_
      refine z_iload_n cx 1 dX8_best_15 rfl rfl ?_
      refine z_V1i cx vX8_scoreOf kX8_197 (c_X8_scoreOf hg σ (t := x) (by omega) (n := t) (by omega) eT) (by decide) hM0 rfl rfl (Nat.le_of_ble_eq_true rfl) dX8_best_16 ?_
      refine z_icmp_ge (tgt := 26) cx dX8_best_19 (by decide) (fun c_19 => ?_) (fun c_19 => ?_)
      · refine z_iload_n cx 1 dX8_best_26 rfl rfl ?_
        refine z_istore_n cx 1 dX8_best_27 rfl hnL (by decide) rfl ?_
        refine z_iinc cx dX8_best_28 rfl ic_1 (show (2 : Int32) + 1 = 3 by decide) hnL (by decide) rfl ?_
        refine z_goto (tgt := 4) cx dX8_best_31 (by decide) ?_
        refine z_iload_n cx 2 dX8_best_4 rfl rfl ?_
        refine z_iconst cx dX8_best_5 ic_3 ?_
        refine z_icmp_ge (tgt := 34) cx dX8_best_6 (by decide) (fun c_6 => ?_) (fun c_6 => ?_)
        · exact tail x (by simp only [bs3]; rw [← hx, if_neg (Int32.not_lt.mpr c_19)])
        · exact absurd (by decide) c_6
      · refine z_iload_n cx 2 dX8_best_22 rfl rfl ?_
        refine z_goto (tgt := 27) cx dX8_best_23 (by decide) ?_
        refine z_istore_n cx 1 dX8_best_27 rfl hnL (by decide) rfl ?_
        refine z_iinc cx dX8_best_28 rfl ic_1 (show (2 : Int32) + 1 = 3 by decide) hnL (by decide) rfl ?_
        refine z_goto (tgt := 4) cx dX8_best_31 (by decide) ?_
        refine z_iload_n cx 2 dX8_best_4 rfl rfl ?_
        refine z_iconst cx dX8_best_5 ic_3 ?_
        refine z_icmp_ge (tgt := 34) cx dX8_best_6 (by decide) (fun c_6 => ?_) (fun c_6 => ?_)
        · exact tail 2 (by simp only [bs3]; rw [← hx, if_pos (Int32.not_le.mp c_19)])
        · exact absurd (by decide) c_6
  refine z_iconst cx dX8_best_0 ic_0 ?_
  refine z_istore_n cx 1 dX8_best_1 rfl hnL (by decide) rfl ?_
  refine z_iconst cx dX8_best_2 ic_1 ?_
  refine z_istore_n cx 2 dX8_best_3 rfl hnL (by decide) rfl ?_
  refine z_iload_n cx 2 dX8_best_4 rfl rfl ?_
  refine z_iconst cx dX8_best_5 ic_3 ?_
  refine z_icmp_ge (tgt := 34) cx dX8_best_6 (by decide) (fun c_6 => ?_) (fun c_6 => ?_)
  · exact absurd c_6 (by decide)
  · refine z_aload_n cx 0 dX8_best_9 rfl rfl ?_
    refine z_iload_n cx 2 dX8_best_10 rfl rfl ?_
    refine z_V1i cx vX8_scoreOf kX8_197 (c_X8_scoreOf hg σ (t := 1) (by omega) (n := t) (by omega) eT) (by decide) hM0 rfl rfl (Nat.le_of_ble_eq_true rfl) dX8_best_11 ?_
    refine z_aload_n cx 0 dX8_best_14 rfl rfl ?_
    refine z_iload_n cx 1 dX8_best_15 rfl rfl ?_
    refine z_V1i cx vX8_scoreOf kX8_197 (c_X8_scoreOf hg σ (t := 0) (by omega) (n := t) (by omega) eT) (by decide) hM0 rfl rfl (Nat.le_of_ble_eq_true rfl) dX8_best_16 ?_
    refine z_icmp_ge (tgt := 26) cx dX8_best_19 (by decide) (fun c_19 => ?_) (fun c_19 => ?_)
    · refine z_iload_n cx 1 dX8_best_26 rfl rfl ?_
      refine z_istore_n cx 1 dX8_best_27 rfl hnL (by decide) rfl ?_
      refine z_iinc cx dX8_best_28 rfl ic_1 (show (1 : Int32) + 1 = 2 by decide) hnL (by decide) rfl ?_
      refine z_goto (tgt := 4) cx dX8_best_31 (by decide) ?_
      exact s2 0 (by decide) (by rw [if_neg (Int32.not_lt.mpr c_19)])
    · refine z_iload_n cx 2 dX8_best_22 rfl rfl ?_
      refine z_goto (tgt := 27) cx dX8_best_23 (by decide) ?_
      refine z_istore_n cx 1 dX8_best_27 rfl hnL (by decide) rfl ?_
      refine z_iinc cx dX8_best_28 rfl ic_1 (show (1 : Int32) + 1 = 2 by decide) hnL (by decide) rfl ?_
      refine z_goto (tgt := 4) cx dX8_best_31 (by decide) ?_
      exact s2 1 (by decide) (by rw [if_pos (Int32.not_le.mp c_19)])
set_option maxRecDepth 100000 in
set_option maxHeartbeats 4000000 in
theorem c_X8_seen {l : Launch} {g : Gx} (hg : ApG 9 g.ad) (σ : Mem) {E B t s : Nat} (hM : MH σ E B t) (hs : s ≤ 6) (eS : σ 0 9 = nI s) (b dn : Int32) : CtI l (OM g) 2 mX8_seen [.ref (g.ad 0), .int b, .int dn] σ (fun v σ' => (snM σ s b dn = 0 → s < 6 ∧ v = nI (s + 1) ∧ σ' = up2 (up2 (up2 σ 7 (2 * s) b) 7 (2 * s + 1) dn) 0 9 (nI (s + 1))) ∧ (¬ snM σ s b dn = 0 → v = snM σ s b dn ∧ σ' = σ)) := by
  refine ct_of (lv := [some (.ref (g.ad 0)), some (.int b), some (.int dn)]) (okM hg) (by decide +kernel) (Nat.le_of_ble_eq_true rfl) (fun ls h => lvh_entry h rfl 0) ?_
  intro κ hl hnL cx hR
  subst hl
  have cx : Cx κ (OM g) RX8 cX8_seen 2 := cx
  have hnL : κ.nL = 3 := hnL
  have hM0 := hM
  obtain ⟨⟨hE, eE⟩, ⟨hB, eB⟩, ht, eT⟩ := hM0
  refine z_aload_n cx 0 dX8_seen_0 rfl rfl ?_
  refine z_iload_n cx 1 dX8_seen_1 rfl rfl ?_
  refine z_V1i cx vX8_isBidder kX8_131 (c_X8_isBidder hg σ (by omega) eB _) (by decide) hM0 rfl rfl (Nat.le_of_ble_eq_true rfl) dX8_seen_2 ?_
  refine z_ifb_ne (tgt := 11) cx dX8_seen_5 (by decide) (fun c_5 => ?_) (fun c_5 => ?_)
  · obtain ⟨j, hj, rfl⟩ := inR_of c_5 (by omega)
    have ej : toN (nI j) = j := toN_nI (by omega)
    have c5 : ¬ inR (nI j) (σ 1 1) = false := by rw [eB, c_5]; decide
    refine z_iload_n cx 2 dX8_seen_11 rfl rfl ?_
    refine z_iconst cx dX8_seen_12 ic_0 ?_
    refine z_iconst cx dX8_seen_13 ic_1 ?_
    refine z_S3i cx sX8_in kX8_35 (c_X8_in hg σ _ _ _) (by decide) (Nat.le_of_ble_eq_true rfl) dX8_seen_14 ?_
    refine z_ifb_ne (tgt := 23) cx dX8_seen_17 (by decide) (fun c_17 => ?_) (fun c_17 => ?_)
    · have c17 : ¬ inW dn 1 = false := by rw [show inW dn 1 = true from c_17]; decide
      refine z_aload_n cx 0 dX8_seen_23 rfl rfl ?_
      refine gX8_122 cx dX8_seen_24 ?_
      refine z_bipush cx dX8_seen_27 bi_6 ?_
      rw [eS]
      refine z_icmp_ne (tgt := 35) cx dX8_seen_29 (by decide) (fun c_29 => ?_) (fun c_29 => ?_)
      · have c29 : ¬ s = 6 := fun z => c_29 (by rw [z]; rfl)
        refine z_aload_n cx 0 dX8_seen_35 rfl rfl ?_
        refine gX8_29 cx dX8_seen_36 ?_
        refine z_iconst cx dX8_seen_39 ic_2 ?_
        refine z_aload_n cx 0 dX8_seen_40 rfl rfl ?_
        refine gX8_122 cx dX8_seen_41 ?_
        refine z_imul cx dX8_seen_44 ?_
        refine z_iload_n cx 1 dX8_seen_45 rfl rfl ?_
        refine g_iastN cx (2 * s) (by decide) (fun _ => rfl) (by rw [eS]; exact pk_mul 2 s) (by omega) (by decide) dX8_seen_46 ?_
        refine z_aload_n cx 0 dX8_seen_47 rfl rfl ?_
        refine gX8_29 cx dX8_seen_48 ?_
        refine z_iconst cx dX8_seen_51 ic_2 ?_
        refine z_aload_n cx 0 dX8_seen_52 rfl rfl ?_
        refine gX8_122 cx dX8_seen_53 ?_
        refine z_imul cx dX8_seen_56 ?_
        refine z_iconst cx dX8_seen_57 ic_1 ?_
        refine z_iadd cx dX8_seen_58 ?_
        refine z_iload_n cx 2 dX8_seen_59 rfl rfl ?_
        refine g_iastN cx (2 * s + 1) (by decide) (fun _ => rfl) (by rw [show up2 σ 7 (2 * s) (nI j) 0 9 = nI s from eS, show (2 : Int32) * nI s = nI (2 * s) from pk_mul 2 s, nI_1]) (by omega) (by decide) dX8_seen_60 ?_
        refine z_aload_n cx 0 dX8_seen_61 rfl rfl ?_
        refine z_dup cx dX8_seen_62 rfl ?_
        refine gX8_122 cx dX8_seen_63 ?_
        refine z_iconst cx dX8_seen_66 ic_1 ?_
        refine z_iadd cx dX8_seen_67 ?_
        rw [show up2 (up2 σ 7 (2 * s) (nI j)) 7 (2 * s + 1) dn 0 9 + 1 = nI (s + 1) from (congrArg (· + 1) eS).trans (nI_1 s)]
        refine pX8_122 cx dX8_seen_68 ?_
        refine z_aload_n cx 0 dX8_seen_71 rfl rfl ?_
        refine gX8_122 cx dX8_seen_72 ?_
        have e9 : snM σ s (nI j) dn = 0 := by rw [snM, if_neg c5, if_neg c17, if_neg c29]
        exact z_iret cx hR ⟨_, rfl, fun _ => ⟨by omega, rfl, rfl⟩, fun q9 => absurd e9 q9⟩ dX8_seen_75
      · have c29 : s = 6 := (nI_eq (b := 6) (by omega) (by decide)).mp c_29
        refine z_bipush cx dX8_seen_32 bi_m5 ?_
        have e9 : snM σ s (nI j) dn = -5 := by rw [snM, if_neg c5, if_neg c17, if_pos c29]
        exact z_iret cx hR ⟨_, rfl, fun q9 => absurd (e9.symm.trans q9) (by decide), fun _ => ⟨e9.symm, rfl⟩⟩ dX8_seen_34
    · have c17 : inW dn 1 = false := c_17
      refine z_bipush cx dX8_seen_20 bi_m3 ?_
      have e9 : snM σ s (nI j) dn = -3 := by rw [snM, if_neg c5, if_pos c17]
      exact z_iret cx hR ⟨_, rfl, fun q9 => absurd (e9.symm.trans q9) (by decide), fun _ => ⟨e9.symm, rfl⟩⟩ dX8_seen_22
  · refine z_bipush cx dX8_seen_8 bi_m2 ?_
    have e9 : snM σ s b dn = -2 := by rw [snM, eB, if_pos c_5]
    exact z_iret cx hR ⟨_, rfl, fun q9 => absurd (e9.symm.trans q9) (by decide), fun _ => ⟨e9.symm, rfl⟩⟩ dX8_seen_10
set_option maxRecDepth 100000 in
set_option maxHeartbeats 4000000 in
theorem c_X8_forget {l : Launch} {g : Gx} (hg : ApG 9 g.ad) (σ : Mem) : Ct l (OM g) 0 mX8_forget [.ref (g.ad 0)] σ (some (.int (σ 0 9))) (up2 σ 0 9 0) := by
  refine ct_of (lv := [some (.ref (g.ad 0)), none]) (okM hg) (by decide +kernel) (Nat.le_of_ble_eq_true rfl) (fun ls h => lvh_entry h rfl 1) ?_
  intro κ hl hnL cx hR
  subst hl
  have cx : Cx κ (OM g) RX8 cX8_forget 0 := cx
  have hnL : κ.nL = 2 := hnL
  refine z_aload_n cx 0 dX8_forget_0 rfl rfl ?_
  refine gX8_122 cx dX8_forget_1 ?_
  refine z_istore_n cx 1 dX8_forget_4 rfl hnL (by decide) rfl ?_
  refine z_aload_n cx 0 dX8_forget_5 rfl rfl ?_
  refine z_iconst cx dX8_forget_6 ic_0 ?_
  refine pX8_122 cx dX8_forget_7 ?_
  refine z_iload_n cx 1 dX8_forget_10 rfl rfl ?_
  exact z_iret cx hR ⟨rfl, rfl⟩ dX8_forget_11
set_option maxRecDepth 100000 in
set_option maxHeartbeats 4000000 in
theorem c_X8_canHave {l : Launch} {g : Gx} (hg : ApG 9 g.ad) (σ : Mem) {s w : Nat} (hS : SmH σ s) (hw : w ≤ 5) : Ct l (OM g) 1 mX8_canHave [.ref (g.ad 0), .int (nI w)] σ (some (.int (bI (ftM (σ 7) (mBk σ) w s)))) σ := by
  refine ct_of (lv := [some (.ref (g.ad 0)), some (.int (nI w)), none, none, none, none]) (okM hg) (by decide +kernel) (Nat.le_of_ble_eq_true rfl) (fun ls h => lvh_entry h rfl 4) ?_
  intro κ hl hnL cx hR
  subst hl
  have cx : Cx κ (OM g) RX8 cX8_canHave 1 := cx
  have hnL : κ.nL = 6 := hnL
  obtain ⟨hs, eS, hb⟩ := hS
  have loop : ∀ (c i : Nat), s + 1 ≤ i + c → i ≤ s → ∀ x y, Z κ (OM g) σ 4 [some (.ref (g.ad 0)), some (.int (nI w)), some (.int (bI (ftM (σ 7) (mBk σ) w i))), some (.int (nI i)), x, y] [] := by
    intro c
    induction c with
    | zero => intro i h1 h2; exact absurd h1 (by omega)
    | succ c ih =>
      intro i h1 h2 x y
      have rest : i < s → ∀ (dn : Bool) (x : Option Value), dn = (decide (w < 5) && (!decide (σ 7 (2 * i) = nI w) && !decide (mBk σ (toN (σ 7 (2 * i))) = 1))) → Z κ (OM g) σ 56 [some (.ref (g.ad 0)), some (.int (nI w)), some (.int (bI (ftM (σ 7) (mBk σ) w i))), some (.int (nI i)), x, some (.int (bI dn))] [] := by
        intro hi dn x hd
        refine z_iload_n cx 2 dX8_canHave_56 rfl rfl ?_
        refine z_ifb_eq (tgt := 88) cx dX8_canHave_57 (by decide) (fun c_57 => ?_) (fun c_57 => ?_)
        · refine z_iconst cx dX8_canHave_88 ic_0 ?_
          refine z_istore_n cx 2 dX8_canHave_89 rfl hnL (by decide) rfl ?_
          refine z_iinc cx dX8_canHave_90 rfl ic_1 (nI_1 i) hnL (by decide) rfl ?_
          refine z_goto (tgt := 4) cx dX8_canHave_93 (by decide) ?_
          refine z_eq rfl ?_ rfl (ih (i + 1) (by omega) (by omega) x (some (.int (bI dn))))
          rw [ftM, c_57, Bool.false_and]; rfl
        · refine z_aload_n cx 0 dX8_canHave_60 rfl rfl ?_
          refine gX8_29 cx dX8_canHave_61 ?_
          refine z_iconst cx dX8_canHave_64 ic_2 ?_
          refine z_iload_n cx 3 dX8_canHave_65 rfl rfl ?_
          refine z_imul cx dX8_canHave_66 ?_
          refine z_iconst cx dX8_canHave_67 ic_1 ?_
          refine z_iadd cx dX8_canHave_68 ?_
          refine g_ialdN cx (2 * i + 1) (by decide) (fun _ => rfl) (by rw [show (2 : Int32) * nI i = nI (2 * i) from pk_mul 2 i, nI_1]) (by omega) (by decide) dX8_canHave_69 ?_
          refine z_iconst cx dX8_canHave_70 ic_1 ?_
          refine z_icmp_ne (tgt := 78) cx dX8_canHave_71 (by decide) (fun c_71 => ?_) (fun c_71 => ?_)
          · refine z_iconst cx dX8_canHave_78 ic_0 ?_
            refine z_iload cx dX8_canHave_79 rfl ?_
            refine z_icmp_ne (tgt := 88) cx dX8_canHave_81 (by decide) (fun c_81 => ?_) (fun c_81 => ?_)
            · refine z_iconst cx dX8_canHave_88 ic_0 ?_
              refine z_istore_n cx 2 dX8_canHave_89 rfl hnL (by decide) rfl ?_
              refine z_iinc cx dX8_canHave_90 rfl ic_1 (nI_1 i) hnL (by decide) rfl ?_
              refine z_goto (tgt := 4) cx dX8_canHave_93 (by decide) ?_
              refine z_eq rfl ?_ rfl (ih (i + 1) (by omega) (by omega) x (some (.int (bI dn))))
              rw [ftM, c_57, ← hd, decide_eq_false c_71, Bool.true_and]; cases dn with | false => exact absurd rfl c_81 | true => exact rfl
            · refine z_iconst cx dX8_canHave_84 ic_1 ?_
              refine z_goto (tgt := 89) cx dX8_canHave_85 (by decide) ?_
              refine z_istore_n cx 2 dX8_canHave_89 rfl hnL (by decide) rfl ?_
              refine z_iinc cx dX8_canHave_90 rfl ic_1 (nI_1 i) hnL (by decide) rfl ?_
              refine z_goto (tgt := 4) cx dX8_canHave_93 (by decide) ?_
              refine z_eq rfl ?_ rfl (ih (i + 1) (by omega) (by omega) x (some (.int (bI dn))))
              rw [ftM, c_57, ← hd, decide_eq_false c_71, Bool.true_and]; cases dn with | false => exact rfl | true => exact absurd c_81 (by decide)
          · refine z_iconst cx dX8_canHave_74 ic_1 ?_
            refine z_goto (tgt := 79) cx dX8_canHave_75 (by decide) ?_
            refine z_iload cx dX8_canHave_79 rfl ?_
            refine z_icmp_ne (tgt := 88) cx dX8_canHave_81 (by decide) (fun c_81 => ?_) (fun c_81 => ?_)
            · refine z_iconst cx dX8_canHave_88 ic_0 ?_
              refine z_istore_n cx 2 dX8_canHave_89 rfl hnL (by decide) rfl ?_
              refine z_iinc cx dX8_canHave_90 rfl ic_1 (nI_1 i) hnL (by decide) rfl ?_
              refine z_goto (tgt := 4) cx dX8_canHave_93 (by decide) ?_
              refine z_eq rfl ?_ rfl (ih (i + 1) (by omega) (by omega) x (some (.int (bI dn))))
              rw [ftM, c_57, ← hd, decide_eq_true c_71, Bool.true_and]; cases dn with | false => exact rfl | true => exact absurd rfl c_81
            · refine z_iconst cx dX8_canHave_84 ic_1 ?_
              refine z_goto (tgt := 89) cx dX8_canHave_85 (by decide) ?_
              refine z_istore_n cx 2 dX8_canHave_89 rfl hnL (by decide) rfl ?_
              refine z_iinc cx dX8_canHave_90 rfl ic_1 (nI_1 i) hnL (by decide) rfl ?_
              refine z_goto (tgt := 4) cx dX8_canHave_93 (by decide) ?_
              refine z_eq rfl ?_ rfl (ih (i + 1) (by omega) (by omega) x (some (.int (bI dn))))
              rw [ftM, c_57, ← hd, decide_eq_true c_71, Bool.true_and]; cases dn with | false => exact absurd c_81 (by decide) | true => exact rfl
      refine z_iload_n cx 3 dX8_canHave_4 rfl rfl ?_
      refine z_aload_n cx 0 dX8_canHave_5 rfl rfl ?_
      refine gX8_122 cx dX8_canHave_6 ?_
      rw [eS]
      refine z_icmp_ge (tgt := 96) cx dX8_canHave_9 (by decide) (fun c_9 => ?_) (fun c_9 => ?_)
      · have c9 := (nI_leI (by omega) (by omega)).mp c_9
        have e5 : i = s := by omega
        subst e5
        refine z_iload_n cx 2 dX8_canHave_96 rfl rfl ?_
        exact z_zret cx hR (nar_b _) ⟨rfl, rfl⟩ dX8_canHave_97
      · have c9 : i < s := Nat.not_le.mp (fun z => c_9 ((nI_leI (by omega) (by omega)).mpr z))
        obtain ⟨b, hb5, eb⟩ := hb i c9
        refine z_aload_n cx 0 dX8_canHave_12 rfl rfl ?_
        refine gX8_29 cx dX8_canHave_13 ?_
        refine z_iconst cx dX8_canHave_16 ic_2 ?_
        refine z_iload_n cx 3 dX8_canHave_17 rfl rfl ?_
        refine z_imul cx dX8_canHave_18 ?_
        refine g_ialdN cx (2 * i) (by decide) (fun _ => rfl) (show (2 : Int32) * nI i = nI (2 * i) from pk_mul 2 i) (by omega) (by decide) dX8_canHave_19 ?_
        refine z_istore cx dX8_canHave_20 hnL (by decide) rfl ?_
        refine z_iload_n cx 1 dX8_canHave_22 rfl rfl ?_
        refine z_iconst cx dX8_canHave_23 ic_5 ?_
        refine z_icmp_ge (tgt := 53) cx dX8_canHave_24 (by decide) (fun c_24 => ?_) (fun c_24 => ?_)
        · have c24 : ¬ w < 5 := Nat.not_lt.mpr ((nI_leI (a := 5) (by omega) (by omega)).mp c_24)
          refine z_iconst cx dX8_canHave_53 ic_0 ?_
          refine z_istore cx dX8_canHave_54 hnL (by decide) rfl ?_
          exact rest c9 false _ (by rw [decide_eq_false c24, Bool.false_and])
        · have c24 : w < 5 := Nat.not_le.mp (fun z => c_24 ((nI_leI (a := 5) (by omega) (by omega)).mpr z))
          refine z_iload cx dX8_canHave_27 rfl ?_
          refine z_iload_n cx 1 dX8_canHave_29 rfl rfl ?_
          refine z_icmp_eq (tgt := 53) cx dX8_canHave_30 (by decide) (fun c_30 => ?_) (fun c_30 => ?_)
          · refine z_iconst cx dX8_canHave_53 ic_0 ?_
            refine z_istore cx dX8_canHave_54 hnL (by decide) rfl ?_
            exact rest c9 false _ (by rw [decide_eq_true c_30]; simp)
          · refine z_aload_n cx 0 dX8_canHave_33 rfl rfl ?_
            refine gX8_7 cx dX8_canHave_34 ?_
            refine z_iload cx dX8_canHave_37 rfl ?_
            rw [eb]
            refine z_S1i cx sX8_bidderAt kX8_105 (c_X8_bidderAt hg _ b) (by decide) (Nat.le_of_ble_eq_true rfl) dX8_canHave_39 ?_
            refine z_iconst cx dX8_canHave_42 ic_0 ?_
            refine z_iadd cx dX8_canHave_43 ?_
            refine g_ialdN cx (70 + 6 * b) (by decide) (fun _ => rfl) (nI_add _ 0) (by omega) (by decide) dX8_canHave_44 ?_
            refine z_iconst cx dX8_canHave_45 ic_1 ?_
            refine z_icmp_eq (tgt := 53) cx dX8_canHave_46 (by decide) (fun c_46 => ?_) (fun c_46 => ?_)
            · refine z_iconst cx dX8_canHave_53 ic_0 ?_
              refine z_istore cx dX8_canHave_54 hnL (by decide) rfl ?_
              exact rest c9 false _ (by rw [eb, toN_nI (by omega), show mBk σ b = 1 from c_46]; simp)
            · refine z_iconst cx dX8_canHave_49 ic_1 ?_
              refine z_goto (tgt := 54) cx dX8_canHave_50 (by decide) ?_
              refine z_istore cx dX8_canHave_54 hnL (by decide) rfl ?_
              exact rest c9 true _ (by rw [decide_eq_true c24, decide_eq_false c_30, eb, toN_nI (by omega), decide_eq_false (show ¬ mBk σ b = 1 from c_46)]; rfl)
  refine z_iconst cx dX8_canHave_0 ic_1 ?_
  refine z_istore_n cx 2 dX8_canHave_1 rfl hnL (by decide) rfl ?_
  refine z_iconst cx dX8_canHave_2 ic_0 ?_
  refine z_istore_n cx 3 dX8_canHave_3 rfl hnL (by decide) rfl ?_
  exact loop (s + 1) 0 (by omega) (by omega) _ _
set_option maxRecDepth 100000 in
set_option maxHeartbeats 4000000 in
theorem c_X8_buyers {l : Launch} {g : Gx} (hg : ApG 9 g.ad) (σ : Mem) {E B t s : Nat} (hM : MH σ E B t) (hS : SmH σ s) : Ct l (OM g) 2 mX8_buyers [.ref (g.ad 0)] σ (some (.int (buM σ B s))) σ := by
  refine ct_of (lv := [some (.ref (g.ad 0)), none, none]) (okM hg) (by decide +kernel) (Nat.le_of_ble_eq_true rfl) (fun ls h => lvh_entry h rfl 2) ?_
  intro κ hl hnL cx hR
  subst hl
  have cx : Cx κ (OM g) RX8 cX8_buyers 2 := cx
  have hnL : κ.nL = 3 := hnL
  have hM0 := hM
  obtain ⟨⟨hE, eE⟩, ⟨hB, eB⟩, ht, eT⟩ := hM0
  unfold buM at hR
  generalize hX : (if ftM (σ 7) (mBk σ) 5 s = true then (32 : Int32) else 0) = x0 at hR
  have loop : ∀ (c i : Nat), B + 1 ≤ i + c → i ≤ B → Z κ (OM g) σ 17 [some (.ref (g.ad 0)), some (.int (tpM (fun b => ftM (σ 7) (mBk σ) b s) x0 i)), some (.int (nI i))] [] := by
    intro c
    induction c with
    | zero => intro i h1 h2; exact absurd h1 (by omega)
    | succ c ih =>
      intro i h1 h2
      refine z_iload_n cx 2 dX8_buyers_17 rfl rfl ?_
      refine z_aload_n cx 0 dX8_buyers_18 rfl rfl ?_
      refine gX8_7 cx dX8_buyers_19 ?_
      refine z_iconst cx dX8_buyers_22 ic_1 ?_
      refine g_ialdN cx 1 (by decide) (fun _ => rfl) rfl (by omega) (by decide) dX8_buyers_23 ?_
      rw [eB]
      refine z_icmp_ge (tgt := 51) cx dX8_buyers_24 (by decide) (fun c_24 => ?_) (fun c_24 => ?_)
      · have c24 := (nI_leI (by omega) (by omega)).mp c_24
        have e5 : i = B := by omega
        subst e5
        refine z_iload_n cx 1 dX8_buyers_51 rfl rfl ?_
        exact z_iret cx hR ⟨rfl, rfl⟩ dX8_buyers_52
      · have c24 : ¬ B ≤ i := fun z => c_24 ((nI_leI (by omega) (by omega)).mpr z)
        refine z_iload_n cx 1 dX8_buyers_27 rfl rfl ?_
        refine z_aload_n cx 0 dX8_buyers_28 rfl rfl ?_
        refine z_iload_n cx 2 dX8_buyers_29 rfl rfl ?_
        refine z_V1i cx vX8_canHave kX8_200 (c_X8_canHave hg σ hS (w := i) (by omega)) (by decide) hM0 rfl rfl (Nat.le_of_ble_eq_true rfl) dX8_buyers_30 ?_
        refine z_ifb_eq (tgt := 42) cx dX8_buyers_33 (by decide) (fun c_33 => ?_) (fun c_33 => ?_)
        · refine z_iconst cx dX8_buyers_42 ic_0 ?_
          refine z_ior cx dX8_buyers_43 ?_
          refine z_istore_n cx 1 dX8_buyers_44 rfl hnL (by decide) rfl ?_
          refine z_iinc cx dX8_buyers_45 rfl ic_1 (nI_1 i) hnL (by decide) rfl ?_
          refine z_goto (tgt := 17) cx dX8_buyers_48 (by decide) ?_
          exact z_eq rfl (by rw [tpM, if_neg (by rw [c_33]; decide)]; rfl) rfl (ih (i + 1) (by omega) (by omega))
        · refine z_iconst cx dX8_buyers_36 ic_1 ?_
          refine z_iload_n cx 2 dX8_buyers_37 rfl rfl ?_
          refine z_ishl cx dX8_buyers_38 ?_
          refine z_goto (tgt := 43) cx dX8_buyers_39 (by decide) ?_
          refine z_ior cx dX8_buyers_43 ?_
          refine z_istore_n cx 1 dX8_buyers_44 rfl hnL (by decide) rfl ?_
          refine z_iinc cx dX8_buyers_45 rfl ic_1 (nI_1 i) hnL (by decide) rfl ?_
          refine z_goto (tgt := 17) cx dX8_buyers_48 (by decide) ?_
          exact z_eq rfl (by rw [tpM, if_pos c_33]; rfl) rfl (ih (i + 1) (by omega) (by omega))
  refine z_aload_n cx 0 dX8_buyers_0 rfl rfl ?_
  refine z_iconst cx dX8_buyers_1 ic_5 ?_
  refine z_V1i cx vX8_canHave kX8_200 (c_X8_canHave hg σ hS (w := 5) (by omega)) (by decide) hM0 rfl rfl (Nat.le_of_ble_eq_true rfl) dX8_buyers_2 ?_
  refine z_ifb_eq (tgt := 13) cx dX8_buyers_5 (by decide) (fun c_5 => ?_) (fun c_5 => ?_)
  · refine z_iconst cx dX8_buyers_13 ic_0 ?_
    refine z_istore_n cx 1 dX8_buyers_14 rfl hnL (by decide) rfl ?_
    refine z_iconst cx dX8_buyers_15 ic_0 ?_
    refine z_istore_n cx 2 dX8_buyers_16 rfl hnL (by decide) rfl ?_
    exact z_eq rfl (by rw [← hX, if_neg (by rw [c_5]; decide)]; rfl) rfl (loop (B + 1) 0 (by omega) (by omega))
  · refine z_bipush cx dX8_buyers_8 bi_32 ?_
    refine z_goto (tgt := 14) cx dX8_buyers_10 (by decide) ?_
    refine z_istore_n cx 1 dX8_buyers_14 rfl hnL (by decide) rfl ?_
    refine z_iconst cx dX8_buyers_15 ic_0 ?_
    refine z_istore_n cx 2 dX8_buyers_16 rfl hnL (by decide) rfl ?_
    exact z_eq rfl (by rw [← hX, if_pos c_5]; rfl) rfl (loop (B + 1) 0 (by omega) (by omega))
set_option maxRecDepth 100000 in
set_option maxHeartbeats 4000000 in
theorem c_X8_count {l : Launch} {g : Gx} (hg : ApG 9 g.ad) (σ : Mem) {E B t : Nat} (hM : MH σ E B t) (w : Int32) : Ct l (OM g) 2 mX8_count [.ref (g.ad 0), .int w] σ (some (.int (coM σ B w))) σ := by
  refine ct_of (lv := [some (.ref (g.ad 0)), some (.int w), none, none]) (okM hg) (by decide +kernel) (Nat.le_of_ble_eq_true rfl) (fun ls h => lvh_entry h rfl 2) ?_
  intro κ hl hnL cx hR
  subst hl
  have cx : Cx κ (OM g) RX8 cX8_count 2 := cx
  have hnL : κ.nL = 4 := hnL
  have hM0 := hM
  obtain ⟨⟨hE, eE⟩, ⟨hB, eB⟩, ht, eT⟩ := hM0
  have loop : ∀ (c i : Nat), B + 1 ≤ i + c → i ≤ B → Z κ (OM g) σ 4 [some (.ref (g.ad 0)), some (.int w), some (.int (smI (mJo σ) i)), some (.int (nI i))] [] := by
    intro c
    induction c with
    | zero => intro i h1 h2; exact absurd h1 (by omega)
    | succ c ih =>
      intro i h1 h2
      refine z_iload_n cx 3 dX8_count_4 rfl rfl ?_
      refine z_aload_n cx 0 dX8_count_5 rfl rfl ?_
      refine gX8_7 cx dX8_count_6 ?_
      refine z_iconst cx dX8_count_9 ic_1 ?_
      refine g_ialdN cx 1 (by decide) (fun _ => rfl) rfl (by omega) (by decide) dX8_count_10 ?_
      rw [eB]
      refine z_icmp_ge (tgt := 34) cx dX8_count_11 (by decide) (fun c_11 => ?_) (fun c_11 => ?_)
      · have c11 := (nI_leI (by omega) (by omega)).mp c_11
        have e5 : i = B := by omega
        subst e5
        refine z_iload_n cx 1 dX8_count_34 rfl rfl ?_
        rcases tsw w (n := 11) (by decide) with hout | ⟨q, hq, rfl⟩
        · refine z_tableOut (tgt := 133) cx dX8_count_35 hout (by decide) ?_
          refine z_bipush cx dX8_count_133 bi_m3 ?_
          refine z_iret cx hR ⟨?_, rfl⟩ dX8_count_135
          have hne : ∀ k : Nat, k ≤ 11 → ¬ w = nI k := fun k hk z => by
            rw [z, nI_toInt (by omega)] at hout; omega
          rw [coM, if_neg (show ¬ w = 0 from hne 0 (by decide)), if_neg (show ¬ w = 1 from hne 1 (by decide)), if_neg (show ¬ w = 2 from hne 2 (by decide)), if_neg (show ¬ w = 3 from hne 3 (by decide)), if_neg (show ¬ w = 4 from hne 4 (by decide)), if_neg (show ¬ w = 5 from hne 5 (by decide)), if_neg (show ¬ w = 6 from hne 6 (by decide)), if_neg (show ¬ w = 7 from hne 7 (by decide)), if_neg (show ¬ w = 8 from hne 8 (by decide)), if_neg (show ¬ w = 9 from hne 9 (by decide)), if_neg (show ¬ w = 10 from hne 10 (by decide)), if_neg (show ¬ w = 11 from hne 11 (by decide))]
        · rcases (show q = 0 ∨ q = 1 ∨ q = 2 ∨ q = 3 ∨ q = 4 ∨ q = 5 ∨ q = 6 ∨ q = 7 ∨ q = 8 ∨ q = 9 ∨ q = 10 ∨ q = 11 by omega) with rfl | rfl | rfl | rfl | rfl | rfl | rfl | rfl | rfl | rfl | rfl | rfl
          · refine z_tableIn (off := 61) (tgt := 96) cx dX8_count_35 (by decide) (by decide) (by decide) (by decide) ?_
            refine z_aload_n cx 0 dX8_count_96 rfl rfl ?_
            refine gX8_7 cx dX8_count_97 ?_
            refine z_iload_n cx 1 dX8_count_100 rfl rfl ?_
            refine g_ialdN cx 0 (by decide) (fun _ => rfl) rfl (by omega) (by decide) dX8_count_101 ?_
            exact z_iret cx hR ⟨rfl, rfl⟩ dX8_count_102
          · refine z_tableIn (off := 61) (tgt := 96) cx dX8_count_35 (by decide) (by decide) (by decide) (by decide) ?_
            refine z_aload_n cx 0 dX8_count_96 rfl rfl ?_
            refine gX8_7 cx dX8_count_97 ?_
            refine z_iload_n cx 1 dX8_count_100 rfl rfl ?_
            refine g_ialdN cx 1 (by decide) (fun _ => rfl) rfl (by omega) (by decide) dX8_count_101 ?_
            exact z_iret cx hR ⟨rfl, rfl⟩ dX8_count_102
          · refine z_tableIn (off := 61) (tgt := 96) cx dX8_count_35 (by decide) (by decide) (by decide) (by decide) ?_
            refine z_aload_n cx 0 dX8_count_96 rfl rfl ?_
            refine gX8_7 cx dX8_count_97 ?_
            refine z_iload_n cx 1 dX8_count_100 rfl rfl ?_
            refine g_ialdN cx 2 (by decide) (fun _ => rfl) rfl (by omega) (by decide) dX8_count_101 ?_
            exact z_iret cx hR ⟨rfl, rfl⟩ dX8_count_102
          · refine z_tableIn (off := 61) (tgt := 96) cx dX8_count_35 (by decide) (by decide) (by decide) (by decide) ?_
            refine z_aload_n cx 0 dX8_count_96 rfl rfl ?_
            refine gX8_7 cx dX8_count_97 ?_
            refine z_iload_n cx 1 dX8_count_100 rfl rfl ?_
            refine g_ialdN cx 3 (by decide) (fun _ => rfl) rfl (by omega) (by decide) dX8_count_101 ?_
            exact z_iret cx hR ⟨rfl, rfl⟩ dX8_count_102
          · refine z_tableIn (off := 61) (tgt := 96) cx dX8_count_35 (by decide) (by decide) (by decide) (by decide) ?_
            refine z_aload_n cx 0 dX8_count_96 rfl rfl ?_
            refine gX8_7 cx dX8_count_97 ?_
            refine z_iload_n cx 1 dX8_count_100 rfl rfl ?_
            refine g_ialdN cx 4 (by decide) (fun _ => rfl) rfl (by omega) (by decide) dX8_count_101 ?_
            exact z_iret cx hR ⟨rfl, rfl⟩ dX8_count_102
          · refine z_tableIn (off := 61) (tgt := 96) cx dX8_count_35 (by decide) (by decide) (by decide) (by decide) ?_
            refine z_aload_n cx 0 dX8_count_96 rfl rfl ?_
            refine gX8_7 cx dX8_count_97 ?_
            refine z_iload_n cx 1 dX8_count_100 rfl rfl ?_
            refine g_ialdN cx 5 (by decide) (fun _ => rfl) rfl (by omega) (by decide) dX8_count_101 ?_
            exact z_iret cx hR ⟨rfl, rfl⟩ dX8_count_102
          · refine z_tableIn (off := 68) (tgt := 103) cx dX8_count_35 (by decide) (by decide) (by decide) (by decide) ?_
            refine z_aload_n cx 0 dX8_count_103 rfl rfl ?_
            refine z_V0i cx vX8_manyBid kX8_147 (c_X8_manyBid hg σ hB eB) (by decide) hM0 rfl rfl (Nat.le_of_ble_eq_true rfl) dX8_count_104 ?_
            exact z_iret cx hR ⟨rfl, rfl⟩ dX8_count_107
          · refine z_tableIn (off := 73) (tgt := 108) cx dX8_count_35 (by decide) (by decide) (by decide) (by decide) ?_
            refine z_aload_n cx 0 dX8_count_108 rfl rfl ?_
            refine gX8_7 cx dX8_count_109 ?_
            refine z_bipush cx dX8_count_112 bi_6 ?_
            refine g_ialdN cx 6 (by decide) (fun _ => rfl) rfl (by omega) (by decide) dX8_count_114 ?_
            exact z_iret cx hR ⟨rfl, rfl⟩ dX8_count_115
          · refine z_tableIn (off := 81) (tgt := 116) cx dX8_count_35 (by decide) (by decide) (by decide) (by decide) ?_
            refine z_iload_n cx 2 dX8_count_116 rfl rfl ?_
            exact z_iret cx hR ⟨rfl, rfl⟩ dX8_count_117
          · refine z_tableIn (off := 83) (tgt := 118) cx dX8_count_35 (by decide) (by decide) (by decide) (by decide) ?_
            refine z_aload_n cx 0 dX8_count_118 rfl rfl ?_
            refine gX8_122 cx dX8_count_119 ?_
            exact z_iret cx hR ⟨rfl, rfl⟩ dX8_count_122
          · refine z_tableIn (off := 88) (tgt := 123) cx dX8_count_35 (by decide) (by decide) (by decide) (by decide) ?_
            refine z_aload_n cx 0 dX8_count_123 rfl rfl ?_
            refine gX8_125 cx dX8_count_124 ?_
            exact z_iret cx hR ⟨rfl, rfl⟩ dX8_count_127
          · refine z_tableIn (off := 93) (tgt := 128) cx dX8_count_35 (by decide) (by decide) (by decide) (by decide) ?_
            refine z_aload_n cx 0 dX8_count_128 rfl rfl ?_
            refine gX8_39 cx dX8_count_129 ?_
            exact z_iret cx hR ⟨rfl, rfl⟩ dX8_count_132
      · have c11 : ¬ B ≤ i := fun z => c_11 ((nI_leI (by omega) (by omega)).mpr z)
        refine z_iload_n cx 2 dX8_count_14 rfl rfl ?_
        refine z_aload_n cx 0 dX8_count_15 rfl rfl ?_
        refine gX8_7 cx dX8_count_16 ?_
        refine z_iload_n cx 3 dX8_count_19 rfl rfl ?_
        refine z_S1i cx sX8_bidderAt kX8_105 (c_X8_bidderAt hg _ i) (by decide) (Nat.le_of_ble_eq_true rfl) dX8_count_20 ?_
        refine z_iconst cx dX8_count_23 ic_4 ?_
        refine z_iadd cx dX8_count_24 ?_
        refine g_ialdN cx (70 + 6 * i + 4) (by decide) (fun _ => rfl) (nI_add _ 4) (by omega) (by decide) dX8_count_25 ?_
        refine z_iadd cx dX8_count_26 ?_
        refine z_istore_n cx 2 dX8_count_27 rfl hnL (by decide) rfl ?_
        refine z_iinc cx dX8_count_28 rfl ic_1 (nI_1 i) hnL (by decide) rfl ?_
        refine z_goto (tgt := 4) cx dX8_count_31 (by decide) ?_
        exact ih (i + 1) (by omega) (by omega)
  refine z_iconst cx dX8_count_0 ic_0 ?_
  refine z_istore_n cx 2 dX8_count_1 rfl hnL (by decide) rfl ?_
  refine z_iconst cx dX8_count_2 ic_0 ?_
  refine z_istore_n cx 3 dX8_count_3 rfl hnL (by decide) rfl ?_
  exact loop (B + 1) 0 (by omega) (by omega)
