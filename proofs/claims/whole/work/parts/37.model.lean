/-- a row is noted: n were -/
def NoQ (μ' μ : Mem) (n : Nat) : Prop :=
  (∀ i k, k < 100 → i < (if n < 8 then n else 7) → μ' 3 (100 * i + k) = μ 3 (100 * (if n < 8 then i else i + 1) + k)) ∧ (∀ k, k < 100 → μ' 3 (100 * (if n < 8 then n else 7) + k) = μ 1 k) ∧
  μ' 0 3 = nI ((if n < 8 then n else 7) + 1) ∧ (∀ k, k ≠ 3 → μ' 0 k = μ 0 k) ∧ ∀ q, q ≠ 0 → q ≠ 3 → μ' q = μ q
def shF (i : Nat) (f : Nat → Int32) : Nat → Int32 := fun k => if k < i then f (k + 100) else f k
theorem shF_0 (f : Nat → Int32) : shF 0 f = f := by funext k; simp only [shF]; rw [if_neg (by omega)]
theorem shF_s (i : Nat) (f : Nat → Int32) : upd (shF i f) i (f (i + 100)) = shF (i + 1) f := by
  funext k
  by_cases q : k = i
  · subst q; rw [upd_at]; simp only [shF]; rw [if_pos (show k < k + 1 by omega)]
  · rw [upd_ne _ _ q]; simp only [shF]
    by_cases q2 : k < i
    · rw [if_pos q2, if_pos (show k < i + 1 by omega)]
    · rw [if_neg q2, if_neg (show ¬ k < i + 1 by omega)]
theorem cpy_in {f h : Nat → Int32} {a b n k : Nat} (hk : k < n) : va_cpy f h a b n (b + k) = f (a + k) := by
  simp only [va_cpy]; rw [if_pos (by omega)]; congr 1; omega
theorem cpy_out {f h : Nat → Int32} {a b n k : Nat} (hk : k < b ∨ b + n ≤ k) : va_cpy f h a b n k = h k := by
  simp only [va_cpy]; rw [if_neg (by omega)]
set_option maxRecDepth 100000 in
set_option maxHeartbeats 4000000 in
theorem c_X8_notes {l : Launch} {g : Gx} (hg : ApG 9 g.ad) (σ : Mem) {n : Nat} (hn : n ≤ 8) (eN : σ 0 3 = nI n) : CtV l (OM g) 1 mX8_notes [.ref (g.ad 0)] σ (fun σ' => NoQ σ' σ n) := by
  refine ct_of (lv := [some (.ref (g.ad 0)), none]) (okM hg) (by decide +kernel) (Nat.le_of_ble_eq_true rfl) (fun ls h => lvh_entry h rfl 1) ?_
  intro κ hl hnL cx hR
  subst hl
  have cx : Cx κ (OM g) RX8 cX8_notes 1 := cx
  have hnL : κ.nL = 2 := hnL
  have tail : ∀ (τ : Mem) (x : Option Value), τ 0 3 = nI (if n < 8 then n else 7) → (∀ i k, k < 100 → i < (if n < 8 then n else 7) → τ 3 (100 * i + k) = σ 3 (100 * (if n < 8 then i else i + 1) + k)) → (∀ k, k ≠ 3 → τ 0 k = σ 0 k) → (∀ q, q ≠ 0 → q ≠ 3 → τ q = σ q) → Z κ (OM g) τ 49 [some (.ref (g.ad 0)), x] [] := by
    have h8 : (if n < 8 then n else 7) < 8 := by split <;> omega
    unfold NoQ at hR
    generalize (if n < 8 then n else 7) = n7 at *
    intro τ x h1 h2 h3 h4
    refine z_aload_n cx 0 dX8_notes_49 rfl rfl ?_
    refine gX8_7 cx dX8_notes_50 ?_
    refine z_iconst cx dX8_notes_53 ic_0 ?_
    refine z_aload_n cx 0 dX8_notes_54 rfl rfl ?_
    refine gX8_16 cx dX8_notes_55 ?_
    refine z_bipush cx dX8_notes_58 bi_100 ?_
    refine z_aload_n cx 0 dX8_notes_60 rfl rfl ?_
    refine gX8_125 cx dX8_notes_61 ?_
    refine z_imul cx dX8_notes_64 ?_
    rw [h1, show (100 : Int32) = nI 100 from rfl, pk_mul]
    refine z_S4v cx sX8_copies kX8_108 (c_X8_copies (a := 0) (b := 100 * n7) hg _ (by decide) (by decide) (fun _ => rfl) (fun _ => rfl) (by decide) (by decide) (by omega) (by decide) (by decide)) (by decide) (Nat.le_of_ble_eq_true rfl) dX8_notes_65 ?_
    refine z_aload_n cx 0 dX8_notes_68 rfl rfl ?_
    refine z_dup cx dX8_notes_69 rfl ?_
    refine gX8_125 cx dX8_notes_70 ?_
    refine z_iconst cx dX8_notes_73 ic_1 ?_
    refine z_iadd cx dX8_notes_74 ?_
    rw [show (upA τ 3 (va_cpy (τ 1) (τ 3) 0 (100 * n7) 100)) 0 3 + 1 = nI (n7 + 1) from (congrArg (· + 1) h1).trans (nI_1 n7)]
    refine pX8_125 cx dX8_notes_75 ?_
    refine z_vret cx hR ⟨rfl, fun i k hk hi => ?_, fun k hk => ?_, rfl, fun k hk => ?_, fun q q1 q2 => ?_⟩ dX8_notes_78
    · rw [up2_ne _ _ _ (by decide), upA_at, cpy_out (Or.inl (by omega))]; exact h2 i k hk hi
    · rw [up2_ne _ _ _ (by decide), upA_at, cpy_in hk, Nat.zero_add, h4 1 (by decide) (by decide)]
    · rw [up2_at, upd_ne _ _ hk, upA_ne _ _ (by decide)]; exact h3 k hk
    · rw [up2_ne _ _ _ q1, upA_ne _ _ q2]; exact h4 q q1 q2
  have loop : n = 8 → ∀ (k i : Nat), 700 + 1 ≤ i + k → i ≤ 700 → Z κ (OM g) (upA σ 3 (shF i (σ 3))) 11 [some (.ref (g.ad 0)), some (.int (nI i))] [] := by
    intro h8 k
    subst h8
    induction k with
    | zero => intro i h1 h2; exact absurd h1 (by omega)
    | succ k ih =>
      intro i h1 h2
      refine z_iload_n cx 1 dX8_notes_11 rfl rfl ?_
      refine z_sipush cx dX8_notes_12 si_700 ?_
      refine z_icmp_ge (tgt := 39) cx dX8_notes_15 (by decide) (fun c_15 => ?_) (fun c_15 => ?_)
      · have c15 := (nI_leI (a := 700) (by decide) (by omega)).mp c_15
        have e9 : i = 700 := by omega
        subst e9
        refine z_aload_n cx 0 dX8_notes_39 rfl rfl ?_
        refine z_dup cx dX8_notes_40 rfl ?_
        refine gX8_125 cx dX8_notes_41 ?_
        refine z_iconst cx dX8_notes_44 ic_1 ?_
        refine z_isub cx dX8_notes_45 ?_
        rw [show upA σ 3 (shF 700 (σ 3)) 0 3 - 1 = nI 7 from (congrArg (· - 1) eN).trans (by decide)]
        refine pX8_125 cx dX8_notes_46 ?_
        refine tail _ _ rfl (fun i k hk hi => ?_) (fun k hk => ?_) (fun q q1 q2 => ?_)
        · rw [up2_ne _ _ _ (by decide), upA_at]
          have hi : i < 7 := hi
          simp only [shF]
          rw [if_pos (by omega)]
          show σ 3 (100 * i + k + 100) = σ 3 (100 * (i + 1) + k)
          congr 1; omega
        · rw [up2_at, upd_ne _ _ hk, upA_ne _ _ (by decide)]
        · rw [up2_ne _ _ _ q1, upA_ne _ _ q2]
      · have c15 : ¬ 700 ≤ i := fun z => c_15 ((nI_leI (a := 700) (by decide) (by omega)).mpr z)
        refine z_aload_n cx 0 dX8_notes_18 rfl rfl ?_
        refine gX8_16 cx dX8_notes_19 ?_
        refine z_iload_n cx 1 dX8_notes_22 rfl rfl ?_
        refine z_aload_n cx 0 dX8_notes_23 rfl rfl ?_
        refine gX8_16 cx dX8_notes_24 ?_
        refine z_iload_n cx 1 dX8_notes_27 rfl rfl ?_
        refine z_bipush cx dX8_notes_28 bi_100 ?_
        refine z_iadd cx dX8_notes_30 ?_
        refine g_ialdN cx (i + 100) (by decide) (fun _ => rfl) (nI_add i 100) (by omega) (by decide) dX8_notes_31 ?_
        rw [upA_at, show shF i (σ 3) (i + 100) = σ 3 (i + 100) by simp only [shF]; rw [if_neg (by omega)]]
        refine g_iastN cx i (by decide) (fun _ => rfl) rfl (by omega) (by decide) dX8_notes_32 ?_
        refine z_iinc cx dX8_notes_33 rfl ic_1 (nI_1 i) hnL (by decide) rfl ?_
        refine z_goto (tgt := 11) cx dX8_notes_36 (by decide) ?_
        exact z_eq (by rw [up2_upA, shF_s]) rfl rfl (ih (i + 1) (by omega) (by omega))
  refine z_aload_n cx 0 dX8_notes_0 rfl rfl ?_
  refine gX8_125 cx dX8_notes_1 ?_
  refine z_bipush cx dX8_notes_4 bi_8 ?_
  rw [eN]
  refine z_icmp_ne (tgt := 49) cx dX8_notes_6 (by decide) (fun c_6 => ?_) (fun c_6 => ?_)
  · have c6 : n < 8 := by
      have : ¬ n = 8 := fun z => c_6 (by rw [z]; rfl)
      omega
    exact tail σ _ (by rw [if_pos c6]; exact eN) (fun i k _ _ => by rw [if_pos c6]) (fun _ _ => rfl) (fun _ _ _ => rfl)
  · have c6 : n = 8 := (nI_eq (b := 8) (by omega) (by decide)).mp c_6
    refine z_iconst cx dX8_notes_9 ic_0 ?_
    refine z_istore_n cx 1 dX8_notes_10 rfl hnL (by decide) rfl ?_
    exact z_eq (by rw [shF_0, upA_self]) rfl rfl (loop c6 701 0 (by omega) (by omega))
def bdM (μ : Mem) (b n : Int32) : Int32 := if inR b (μ 1 1) = false then -2 else if inL n (-1) 99 = false then -3 else if μ 1 (70 + 6 * toN b + 3) < n then -4 else if inR (μ 1 2) (μ 1 0) = false then -4 else 0
def slN (μ : Mem) (z : Int32) : Int32 := if inW z 9999 = false then -3 else if inR (μ 1 2) (μ 1 0) = false then -4 else 0
def prM (μ : Mem) (e n : Int32) : Int32 := if inR e (μ 1 0) = false then -2 else if inW n 99 = false then -3 else 0
def syM (μ : Mem) (t e n : Int32) : Int32 := if inW t 2 = false then -2 else if inR e (μ 1 0) = false then -2 else if inW n 10 = false then -3 else if μ 1 2 ≤ e then 0 else -4
theorem nit_of {σ : Mem} {E B t : Nat} (hM : MH σ E B t) : inR (σ 1 2) (σ 1 0) = decide (t < E) := by
  obtain ⟨⟨hE, eE⟩, _, ht, eT⟩ := hM
  rw [eE, eT, inR_nI (by omega) (by omega)]
set_option maxRecDepth 100000 in
set_option maxHeartbeats 4000000 in
theorem c_X8_bid {l : Launch} {g : Gx} (hg : ApG 9 g.ad) (σ : Mem) {E B t : Nat} (hM : MH σ E B t) {nu : Nat} (hn : nu ≤ 8) (eN : σ 0 3 = nI nu) (b n : Int32) : CtI l (OM g) 2 mX8_bid [.ref (g.ad 0), .int b, .int n] σ (fun v σ' => (bdM σ b n = 0 → ∃ (σ1 : Mem) (j : Nat), j < B ∧ b = nI j ∧ NoQ σ1 σ nu ∧ σ' = up2 σ1 1 (70 + 6 * j + 5) n ∧ v = nI (cnB (mBd σ') B)) ∧ (¬ bdM σ b n = 0 → v = bdM σ b n ∧ σ' = σ)) := by
  refine ct_of (lv := [some (.ref (g.ad 0)), some (.int b), some (.int n)]) (okM hg) (by decide +kernel) (Nat.le_of_ble_eq_true rfl) (fun ls h => lvh_entry h rfl 0) ?_
  intro κ hl hnL cx hR
  subst hl
  have cx : Cx κ (OM g) RX8 cX8_bid 2 := cx
  have hnL : κ.nL = 3 := hnL
  have hM0 := hM
  obtain ⟨⟨hE, eE⟩, ⟨hB, eB⟩, ht, eT⟩ := hM0
  refine z_aload_n cx 0 dX8_bid_0 rfl rfl ?_
  refine z_iload_n cx 1 dX8_bid_1 rfl rfl ?_
  refine z_V1i cx vX8_isBidder kX8_131 (c_X8_isBidder hg σ (by omega) eB _) (by decide) hM0 rfl rfl (Nat.le_of_ble_eq_true rfl) dX8_bid_2 ?_
  refine z_ifb_ne (tgt := 11) cx dX8_bid_5 (by decide) (fun c_5 => ?_) (fun c_5 => ?_)
  · obtain ⟨j, hj, rfl⟩ := inR_of c_5 (by omega)
    have ej : toN (nI j) = j := toN_nI (by omega)
    have c5 : ¬ inR (nI j) (σ 1 1) = false := by rw [eB, c_5]; decide
    refine z_iload_n cx 2 dX8_bid_11 rfl rfl ?_
    refine z_iconst cx dX8_bid_12 ic_m1 ?_
    refine z_bipush cx dX8_bid_13 bi_99 ?_
    refine z_S3i cx sX8_in kX8_35 (c_X8_in hg σ _ _ _) (by decide) (Nat.le_of_ble_eq_true rfl) dX8_bid_15 ?_
    refine z_ifb_ne (tgt := 24) cx dX8_bid_18 (by decide) (fun c_18 => ?_) (fun c_18 => ?_)
    · refine z_iload_n cx 2 dX8_bid_24 rfl rfl ?_
      refine z_aload_n cx 0 dX8_bid_25 rfl rfl ?_
      refine gX8_7 cx dX8_bid_26 ?_
      refine z_iload_n cx 1 dX8_bid_29 rfl rfl ?_
      refine z_S1i cx sX8_bidderAt kX8_105 (c_X8_bidderAt hg σ j) (by decide) (Nat.le_of_ble_eq_true rfl) dX8_bid_30 ?_
      refine z_iconst cx dX8_bid_33 ic_3 ?_
      refine z_iadd cx dX8_bid_34 ?_
      refine g_ialdN cx (70 + 6 * j + 3) (by decide) (fun _ => rfl) (nI_add _ 3) (by omega) (by decide) dX8_bid_35 ?_
      refine z_icmp_gt (tgt := 46) cx dX8_bid_36 (by decide) (fun c_36 => ?_) (fun c_36 => ?_)
      · refine z_bipush cx dX8_bid_46 bi_m4 ?_
        have e9 : bdM σ (nI j) n = -4 := by rw [bdM, if_neg c5, if_neg (by rw [c_18]; decide), ej, if_pos c_36]
        exact z_iret cx hR ⟨_, rfl, fun q9 => absurd (e9.symm.trans q9) (by decide), fun _ => ⟨e9.symm, rfl⟩⟩ dX8_bid_48
      · refine z_aload_n cx 0 dX8_bid_39 rfl rfl ?_
        refine z_V0i cx vX8_isTonight kX8_141 (c_X8_isTonight (E := E) (t := t) hg σ (by omega) (by omega) eE eT) (by decide) hM0 rfl rfl (Nat.le_of_ble_eq_true rfl) dX8_bid_40 ?_
        refine z_ifb_ne (tgt := 49) cx dX8_bid_43 (by decide) (fun c_43 => ?_) (fun c_43 => ?_)
        · have c43 : ¬ inR (σ 1 2) (σ 1 0) = false := by rw [nit_of hM, c_43]; decide
          have htE : t < E := of_decide_eq_true c_43
          refine z_aload_n cx 0 dX8_bid_49 rfl rfl ?_
          refine z_V0V cx vX8_notes kX8_144 (c_X8_notes hg σ hn eN) (by decide) hM0 rfl rfl (Nat.le_of_ble_eq_true rfl) dX8_bid_50 (fun σ_50 h_50 => ?_)
          have n1 : σ_50 1 = σ 1 := h_50.2.2.2.2 1 (by decide) (by decide)
          refine z_aload_n cx 0 dX8_bid_53 rfl rfl ?_
          refine gX8_7 cx dX8_bid_54 ?_
          refine z_iload_n cx 1 dX8_bid_57 rfl rfl ?_
          refine z_S1i cx sX8_bidderAt kX8_105 (c_X8_bidderAt hg _ j) (by decide) (Nat.le_of_ble_eq_true rfl) dX8_bid_58 ?_
          refine z_iconst cx dX8_bid_61 ic_5 ?_
          refine z_iadd cx dX8_bid_62 ?_
          refine z_iload_n cx 2 dX8_bid_63 rfl rfl ?_
          refine g_iastN cx (70 + 6 * j + 5) (by decide) (fun _ => rfl) (nI_add _ 5) (by omega) (by decide) dX8_bid_64 ?_
          refine z_aload_n cx 0 dX8_bid_65 rfl rfl ?_
          refine z_V0i cx vX8_manyBid kX8_147 (c_X8_manyBid hg _ hB (by rw [up2_at, upd_ne _ _ (by omega), n1]; exact eB)) (by decide) hM0 rfl rfl (Nat.le_of_ble_eq_true rfl) dX8_bid_66 ?_
          have e9 : bdM σ (nI j) n = 0 := by rw [bdM, if_neg c5, if_neg (by rw [c_18]; decide), ej, if_neg c_36, if_neg c43]
          exact z_iret cx hR ⟨_, rfl, fun _ => ⟨σ_50, j, hj, rfl, h_50, rfl, rfl⟩, fun q9 => absurd e9 q9⟩ dX8_bid_69
        · have c43 : inR (σ 1 2) (σ 1 0) = false := by rw [nit_of hM, c_43]
          refine z_bipush cx dX8_bid_46 bi_m4 ?_
          have e9 : bdM σ (nI j) n = -4 := by rw [bdM, if_neg c5, if_neg (by rw [c_18]; decide), ej, if_neg c_36, if_pos c43]
          exact z_iret cx hR ⟨_, rfl, fun q9 => absurd (e9.symm.trans q9) (by decide), fun _ => ⟨e9.symm, rfl⟩⟩ dX8_bid_48
    · refine z_bipush cx dX8_bid_21 bi_m3 ?_
      have e9 : bdM σ (nI j) n = -3 := by rw [bdM, if_neg c5, if_pos c_18]
      exact z_iret cx hR ⟨_, rfl, fun q9 => absurd (e9.symm.trans q9) (by decide), fun _ => ⟨e9.symm, rfl⟩⟩ dX8_bid_23
  · refine z_bipush cx dX8_bid_8 bi_m2 ?_
    have e9 : bdM σ b n = -2 := by rw [bdM, eB, if_pos c_5]
    exact z_iret cx hR ⟨_, rfl, fun q9 => absurd (e9.symm.trans q9) (by decide), fun _ => ⟨e9.symm, rfl⟩⟩ dX8_bid_10
set_option maxRecDepth 100000 in
set_option maxHeartbeats 4000000 in
theorem c_X8_price {l : Launch} {g : Gx} (hg : ApG 9 g.ad) (σ : Mem) {E : Nat} (hE : E ≤ 7) (eE : σ 1 0 = nI E) {nu : Nat} (hn : nu ≤ 8) (eN : σ 0 3 = nI nu) (e n : Int32) : CtI l (OM g) 2 mX8_price [.ref (g.ad 0), .int e, .int n] σ (fun v σ' => (prM σ e n = 0 → ∃ (σ1 : Mem) (j : Nat), j < E ∧ e = nI j ∧ NoQ σ1 σ nu ∧ σ' = up2 σ1 1 (7 + 9 * j + 2) n ∧ v = σ1 1 (7 + 9 * j + 2)) ∧ (¬ prM σ e n = 0 → v = prM σ e n ∧ σ' = σ)) := by
  refine ct_of (lv := [some (.ref (g.ad 0)), some (.int e), some (.int n), none]) (okM hg) (by decide +kernel) (Nat.le_of_ble_eq_true rfl) (fun ls h => lvh_entry h rfl 1) ?_
  intro κ hl hnL cx hR
  subst hl
  have cx : Cx κ (OM g) RX8 cX8_price 2 := cx
  have hnL : κ.nL = 4 := hnL
  refine z_aload_n cx 0 dX8_price_0 rfl rfl ?_
  refine z_iload_n cx 1 dX8_price_1 rfl rfl ?_
  refine z_V1i cx vX8_isEvening kX8_128 (c_X8_isEvening hg σ (by omega) eE _) (by decide) hM0 rfl rfl (Nat.le_of_ble_eq_true rfl) dX8_price_2 ?_
  refine z_ifb_ne (tgt := 11) cx dX8_price_5 (by decide) (fun c_5 => ?_) (fun c_5 => ?_)
  · obtain ⟨j, hj, rfl⟩ := inR_of c_5 (by omega)
    have ej : toN (nI j) = j := toN_nI (by omega)
    have c5 : ¬ inR (nI j) (σ 1 0) = false := by rw [eE, c_5]; decide
    refine z_iload_n cx 2 dX8_price_11 rfl rfl ?_
    refine z_iconst cx dX8_price_12 ic_0 ?_
    refine z_bipush cx dX8_price_13 bi_99 ?_
    refine z_S3i cx sX8_in kX8_35 (c_X8_in hg σ _ _ _) (by decide) (Nat.le_of_ble_eq_true rfl) dX8_price_15 ?_
    refine z_ifb_ne (tgt := 24) cx dX8_price_18 (by decide) (fun c_18 => ?_) (fun c_18 => ?_)
    · have c18 : inW n 99 = true := c_18
      refine z_aload_n cx 0 dX8_price_24 rfl rfl ?_
      refine z_V0V cx vX8_notes kX8_144 (c_X8_notes hg σ hn eN) (by decide) hM0 rfl rfl (Nat.le_of_ble_eq_true rfl) dX8_price_25 (fun σ_25 h_25 => ?_)
      refine z_aload_n cx 0 dX8_price_28 rfl rfl ?_
      refine gX8_7 cx dX8_price_29 ?_
      refine z_iload_n cx 1 dX8_price_32 rfl rfl ?_
      refine z_S1i cx sX8_eveningAt kX8_98 (c_X8_eveningAt hg _ j) (by decide) (Nat.le_of_ble_eq_true rfl) dX8_price_33 ?_
      refine z_iconst cx dX8_price_36 ic_2 ?_
      refine z_iadd cx dX8_price_37 ?_
      refine g_ialdN cx (7 + 9 * j + 2) (by decide) (fun _ => rfl) (nI_add _ 2) (by omega) (by decide) dX8_price_38 ?_
      refine z_istore_n cx 3 dX8_price_39 rfl hnL (by decide) rfl ?_
      refine z_aload_n cx 0 dX8_price_40 rfl rfl ?_
      refine gX8_7 cx dX8_price_41 ?_
      refine z_iload_n cx 1 dX8_price_44 rfl rfl ?_
      refine z_S1i cx sX8_eveningAt kX8_98 (c_X8_eveningAt hg _ j) (by decide) (Nat.le_of_ble_eq_true rfl) dX8_price_45 ?_
      refine z_iconst cx dX8_price_48 ic_2 ?_
      refine z_iadd cx dX8_price_49 ?_
      refine z_iload_n cx 2 dX8_price_50 rfl rfl ?_
      refine g_iastN cx (7 + 9 * j + 2) (by decide) (fun _ => rfl) (nI_add _ 2) (by omega) (by decide) dX8_price_51 ?_
      refine z_iload_n cx 3 dX8_price_52 rfl rfl ?_
      have e9 : prM σ (nI j) n = 0 := by rw [prM, if_neg c5, if_neg (by rw [c18]; decide)]
      exact z_iret cx hR ⟨_, rfl, fun _ => ⟨σ_25, j, hj, rfl, h_25, rfl, rfl⟩, fun q9 => absurd e9 q9⟩ dX8_price_53
    · have c18 : inW n 99 = false := c_18
      refine z_bipush cx dX8_price_21 bi_m3 ?_
      have e9 : prM σ (nI j) n = -3 := by rw [prM, if_neg c5, if_pos c18]
      exact z_iret cx hR ⟨_, rfl, fun q9 => absurd (e9.symm.trans q9) (by decide), fun _ => ⟨e9.symm, rfl⟩⟩ dX8_price_23
  · refine z_bipush cx dX8_price_8 bi_m2 ?_
    have e9 : prM σ e n = -2 := by rw [prM, eE, if_pos c_5]
    exact z_iret cx hR ⟨_, rfl, fun q9 => absurd (e9.symm.trans q9) (by decide), fun _ => ⟨e9.symm, rfl⟩⟩ dX8_price_10
set_option maxRecDepth 100000 in
set_option maxHeartbeats 4000000 in
theorem c_X8_says {l : Launch} {g : Gx} (hg : ApG 9 g.ad) (σ : Mem) {E : Nat} (hE : E ≤ 7) (eE : σ 1 0 = nI E) {nu : Nat} (hn : nu ≤ 8) (eN : σ 0 3 = nI nu) (t e n : Int32) : CtI l (OM g) 2 mX8_says [.ref (g.ad 0), .int t, .int e, .int n] σ (fun v σ' => (syM σ t e n = 0 → ∃ (σ1 : Mem) (i j : Nat), i < 3 ∧ t = nI i ∧ j < E ∧ e = nI j ∧ NoQ σ1 σ nu ∧ σ' = up2 σ1 1 (7 + 9 * j + 6 + i) n ∧ v = σ1 1 (7 + 9 * j + 6 + i)) ∧ (¬ syM σ t e n = 0 → v = syM σ t e n ∧ σ' = σ)) := by
  refine ct_of (lv := [some (.ref (g.ad 0)), some (.int t), some (.int e), some (.int n), none, none]) (okM hg) (by decide +kernel) (Nat.le_of_ble_eq_true rfl) (fun ls h => lvh_entry h rfl 2) ?_
  intro κ hl hnL cx hR
  subst hl
  have cx : Cx κ (OM g) RX8 cX8_says 2 := cx
  have hnL : κ.nL = 6 := hnL
  refine z_iload_n cx 1 dX8_says_0 rfl rfl ?_
  refine z_S1i cx sX8_isTeller kX8_170 (c_X8_isTeller hg σ _) (by decide) (Nat.le_of_ble_eq_true rfl) dX8_says_1 ?_
  refine z_ifb_eq (tgt := 15) cx dX8_says_4 (by decide) (fun c_4 => ?_) (fun c_4 => ?_)
  · refine z_bipush cx dX8_says_15 bi_m2 ?_
    have e9 : syM σ t e n = -2 := by rw [syM, if_pos c_4]
    exact z_iret cx hR ⟨_, rfl, fun q9 => absurd (e9.symm.trans q9) (by decide), fun _ => ⟨e9.symm, rfl⟩⟩ dX8_says_17
  · obtain ⟨i, hi, rfl⟩ := inW_of (n := 2) c_4 (by decide)
    have c4 : ¬ inW (nI i) 2 = false := by rw [c_4]; decide
    refine z_aload_n cx 0 dX8_says_7 rfl rfl ?_
    refine z_iload_n cx 2 dX8_says_8 rfl rfl ?_
    refine z_V1i cx vX8_isEvening kX8_128 (c_X8_isEvening hg σ (by omega) eE _) (by decide) hM0 rfl rfl (Nat.le_of_ble_eq_true rfl) dX8_says_9 ?_
    refine z_ifb_ne (tgt := 18) cx dX8_says_12 (by decide) (fun c_12 => ?_) (fun c_12 => ?_)
    · obtain ⟨j, hj, rfl⟩ := inR_of c_12 (by omega)
      have ej : toN (nI j) = j := toN_nI (by omega)
      have c12 : ¬ inR (nI j) (σ 1 0) = false := by rw [eE, c_12]; decide
      refine z_iload_n cx 3 dX8_says_18 rfl rfl ?_
      refine z_iconst cx dX8_says_19 ic_0 ?_
      refine z_bipush cx dX8_says_20 bi_10 ?_
      refine z_S3i cx sX8_in kX8_35 (c_X8_in hg σ _ _ _) (by decide) (Nat.le_of_ble_eq_true rfl) dX8_says_22 ?_
      refine z_ifb_ne (tgt := 31) cx dX8_says_25 (by decide) (fun c_25 => ?_) (fun c_25 => ?_)
      · have c25 : ¬ inW n 10 = false := by rw [show inW n 10 = true from c_25]; decide
        refine z_iload_n cx 2 dX8_says_31 rfl rfl ?_
        refine z_aload_n cx 0 dX8_says_32 rfl rfl ?_
        refine gX8_7 cx dX8_says_33 ?_
        refine z_iconst cx dX8_says_36 ic_2 ?_
        refine g_ialdN cx 2 (by decide) (fun _ => rfl) rfl (by omega) (by decide) dX8_says_37 ?_
        refine z_icmp_ge (tgt := 44) cx dX8_says_38 (by decide) (fun c_38 => ?_) (fun c_38 => ?_)
        · refine z_aload_n cx 0 dX8_says_44 rfl rfl ?_
          refine z_V0V cx vX8_notes kX8_144 (c_X8_notes hg σ hn eN) (by decide) hM0 rfl rfl (Nat.le_of_ble_eq_true rfl) dX8_says_45 (fun σ_45 h_45 => ?_)
          refine z_iload_n cx 2 dX8_says_48 rfl rfl ?_
          refine z_S1i cx sX8_eveningAt kX8_98 (c_X8_eveningAt hg _ j) (by decide) (Nat.le_of_ble_eq_true rfl) dX8_says_49 ?_
          refine z_bipush cx dX8_says_52 bi_6 ?_
          refine z_iadd cx dX8_says_54 ?_
          refine z_iload_n cx 1 dX8_says_55 rfl rfl ?_
          refine z_iadd cx dX8_says_56 ?_
          refine z_istore cx dX8_says_57 hnL (by decide) rfl ?_
          refine z_aload_n cx 0 dX8_says_59 rfl rfl ?_
          refine gX8_7 cx dX8_says_60 ?_
          refine z_iload cx dX8_says_63 rfl ?_
          refine g_ialdN cx (7 + 9 * j + 6 + i) (by decide) (fun _ => rfl) (by rw [show (6 : Int32) = nI 6 from rfl, nI_add, nI_add]) (by omega) (by decide) dX8_says_65 ?_
          refine z_istore cx dX8_says_66 hnL (by decide) rfl ?_
          refine z_aload_n cx 0 dX8_says_68 rfl rfl ?_
          refine gX8_7 cx dX8_says_69 ?_
          refine z_iload cx dX8_says_72 rfl ?_
          refine z_iload_n cx 3 dX8_says_74 rfl rfl ?_
          refine g_iastN cx (7 + 9 * j + 6 + i) (by decide) (fun _ => rfl) (by rw [show (6 : Int32) = nI 6 from rfl, nI_add, nI_add]) (by omega) (by decide) dX8_says_75 ?_
          refine z_iload cx dX8_says_76 rfl ?_
          have e9 : syM σ (nI i) (nI j) n = 0 := by rw [syM, if_neg c4, if_neg c12, if_neg c25, if_pos c_38]
          exact z_iret cx hR ⟨_, rfl, fun _ => ⟨σ_45, i, j, by omega, rfl, hj, rfl, h_45, rfl, rfl⟩, fun q9 => absurd e9 q9⟩ dX8_says_78
        · refine z_bipush cx dX8_says_41 bi_m4 ?_
          have e9 : syM σ (nI i) (nI j) n = -4 := by rw [syM, if_neg c4, if_neg c12, if_neg c25, if_neg c_38]
          exact z_iret cx hR ⟨_, rfl, fun q9 => absurd (e9.symm.trans q9) (by decide), fun _ => ⟨e9.symm, rfl⟩⟩ dX8_says_43
      · have c25 : inW n 10 = false := c_25
        refine z_bipush cx dX8_says_28 bi_m3 ?_
        have e9 : syM σ (nI i) (nI j) n = -3 := by rw [syM, if_neg c4, if_neg c12, if_pos c25]
        exact z_iret cx hR ⟨_, rfl, fun q9 => absurd (e9.symm.trans q9) (by decide), fun _ => ⟨e9.symm, rfl⟩⟩ dX8_says_30
    · refine z_bipush cx dX8_says_15 bi_m2 ?_
      have e9 : syM σ (nI i) e n = -2 := by rw [syM, if_neg c4, eE, if_pos c_12]
      exact z_iret cx hR ⟨_, rfl, fun q9 => absurd (e9.symm.trans q9) (by decide), fun _ => ⟨e9.symm, rfl⟩⟩ dX8_says_17
set_option maxRecDepth 100000 in
set_option maxHeartbeats 4000000 in
theorem c_X8_undo {l : Launch} {g : Gx} (hg : ApG 9 g.ad) (σ : Mem) {nu : Nat} (hn : nu ≤ 8) (eN : σ 0 3 = nI nu) : CtI l (OM g) 1 mX8_undo [.ref (g.ad 0)] σ (fun v σ' => (nu = 0 → v = -4 ∧ σ' = σ) ∧ (¬ nu = 0 → v = nI (nu - 1) ∧ (∀ k, k < 100 → σ' 1 k = σ 3 (100 * (nu - 1) + k)) ∧ σ' 0 = upd (σ 0) 3 (nI (nu - 1)) ∧ ∀ q, q ≠ 0 → q ≠ 1 → σ' q = σ q)) := by
  refine ct_of (lv := [some (.ref (g.ad 0))]) (okM hg) (by decide +kernel) (Nat.le_of_ble_eq_true rfl) (fun ls h => lvh_entry h rfl 0) ?_
  intro κ hl hnL cx hR
  subst hl
  have cx : Cx κ (OM g) RX8 cX8_undo 1 := cx
  have hnL : κ.nL = 1 := hnL
  refine z_aload_n cx 0 dX8_undo_0 rfl rfl ?_
  refine gX8_125 cx dX8_undo_1 ?_
  rw [eN]
  refine z_if_ne (tgt := 10) cx dX8_undo_4 (by decide) (fun c_4 => ?_) (fun c_4 => ?_)
  · have c4 : ¬ nu = 0 := fun z => c_4 (by rw [z]; rfl)
    refine z_aload_n cx 0 dX8_undo_10 rfl rfl ?_
    refine z_dup cx dX8_undo_11 rfl ?_
    refine gX8_125 cx dX8_undo_12 ?_
    refine z_iconst cx dX8_undo_15 ic_1 ?_
    refine z_isub cx dX8_undo_16 ?_
    rw [show σ 0 3 - 1 = nI (nu - 1) by rw [eN]; cases nu with | zero => exact absurd rfl c4 | succ nu => exact nI_pred nu]
    refine pX8_125 cx dX8_undo_17 ?_
    refine z_aload_n cx 0 dX8_undo_20 rfl rfl ?_
    refine gX8_16 cx dX8_undo_21 ?_
    refine z_bipush cx dX8_undo_24 bi_100 ?_
    refine z_aload_n cx 0 dX8_undo_26 rfl rfl ?_
    refine gX8_125 cx dX8_undo_27 ?_
    refine z_imul cx dX8_undo_30 ?_
    rw [show 100 * (up2 σ 0 3 (nI (nu - 1))) 0 3 = nI (100 * (nu - 1)) from pk_mul 100 (nu - 1)]
    refine z_aload_n cx 0 dX8_undo_31 rfl rfl ?_
    refine gX8_7 cx dX8_undo_32 ?_
    refine z_iconst cx dX8_undo_35 ic_0 ?_
    refine z_S4v cx sX8_copies kX8_108 (c_X8_copies (a := 100 * (nu - 1)) (b := 0) hg _ (by decide) (by decide) (fun _ => rfl) (fun _ => rfl) (by decide) (by omega) (by decide) (by decide) (by decide)) (by decide) (Nat.le_of_ble_eq_true rfl) dX8_undo_36 ?_
    refine z_aload_n cx 0 dX8_undo_39 rfl rfl ?_
    refine gX8_125 cx dX8_undo_40 ?_
    refine z_iret cx hR ⟨_, rfl, fun z => absurd z c4, fun _ => ⟨rfl, fun k hk => ?_, rfl, fun q q1 q2 => ?_⟩⟩ dX8_undo_43
    · have e1 := cpy_in (f := σ 3) (h := σ 1) (a := 100 * (nu - 1)) (b := 0) hk
      rw [Nat.zero_add] at e1
      exact e1
    · rw [upA_ne _ _ q2, up2_ne _ _ _ q1]
  · have c4 : nu = 0 := (nI_eq (b := 0) (by omega) (by decide)).mp c_4
    refine z_bipush cx dX8_undo_7 bi_m4 ?_
    exact z_iret cx hR ⟨_, rfl, fun _ => ⟨rfl, rfl⟩, fun z => absurd c4 z⟩ dX8_undo_9
set_option maxRecDepth 100000 in
set_option maxHeartbeats 4000000 in
theorem c_X8_keep {l : Launch} {g : Gx} (hg : ApG 9 g.ad) (σ : Mem) (k : Int32) : CtI l (OM g) 1 mX8_keep [.ref (g.ad 0), .int k] σ (fun v σ' => (inW k 1 = false → v = -2 ∧ σ' = σ) ∧ (inW k 1 = true → ∃ j : Nat, j < 2 ∧ k = nI j ∧ v = σ 1 2 ∧ (∀ i, i < 100 → σ' 4 (100 * j + i) = σ 1 i) ∧ (∀ i, i < 100 * j ∨ 100 * j + 100 ≤ i → σ' 4 i = σ 4 i) ∧ σ' 5 = upd (σ 5) j 1 ∧ ∀ q, q ≠ 4 → q ≠ 5 → σ' q = σ q)) := by
  refine ct_of (lv := [some (.ref (g.ad 0)), some (.int k)]) (okM hg) (by decide +kernel) (Nat.le_of_ble_eq_true rfl) (fun ls h => lvh_entry h rfl 0) ?_
  intro κ hl hnL cx hR
  subst hl
  have cx : Cx κ (OM g) RX8 cX8_keep 1 := cx
  have hnL : κ.nL = 2 := hnL
  refine z_iload_n cx 1 dX8_keep_0 rfl rfl ?_
  refine z_iconst cx dX8_keep_1 ic_0 ?_
  refine z_iconst cx dX8_keep_2 ic_1 ?_
  refine z_S3i cx sX8_in kX8_35 (c_X8_in hg σ _ _ _) (by decide) (Nat.le_of_ble_eq_true rfl) dX8_keep_3 ?_
  refine z_ifb_ne (tgt := 12) cx dX8_keep_6 (by decide) (fun c_6 => ?_) (fun c_6 => ?_)
  · have c6 : inW k 1 = true := c_6
    obtain ⟨j, hj, rfl⟩ := inW_of (n := 1) c6 (by decide)
    refine z_aload_n cx 0 dX8_keep_12 rfl rfl ?_
    refine gX8_7 cx dX8_keep_13 ?_
    refine z_iconst cx dX8_keep_16 ic_0 ?_
    refine z_aload_n cx 0 dX8_keep_17 rfl rfl ?_
    refine gX8_19 cx dX8_keep_18 ?_
    refine z_bipush cx dX8_keep_21 bi_100 ?_
    refine z_iload_n cx 1 dX8_keep_23 rfl rfl ?_
    refine z_imul cx dX8_keep_24 ?_
    rw [show 100 * nI j = nI (100 * j) from pk_mul 100 j]
    refine z_S4v cx sX8_copies kX8_108 (c_X8_copies (a := 0) (b := 100 * j) hg _ (by decide) (by decide) (fun _ => rfl) (fun _ => rfl) (by decide) (by decide) (by omega) (by decide) (by decide)) (by decide) (Nat.le_of_ble_eq_true rfl) dX8_keep_25 ?_
    refine z_aload_n cx 0 dX8_keep_28 rfl rfl ?_
    refine gX8_22 cx dX8_keep_29 ?_
    refine z_iload_n cx 1 dX8_keep_32 rfl rfl ?_
    refine z_iconst cx dX8_keep_33 ic_1 ?_
    refine g_zast cx (by decide) (fun _ => rfl) (vp_in_nI (n := j) (by omega) (by decide)) dX8_keep_34 ?_
    rw [nI_clamp (by omega)]
    refine z_aload_n cx 0 dX8_keep_35 rfl rfl ?_
    refine gX8_7 cx dX8_keep_36 ?_
    refine z_iconst cx dX8_keep_39 ic_2 ?_
    refine g_ialdN cx 2 (by decide) (fun _ => rfl) rfl (by omega) (by decide) dX8_keep_40 ?_
    refine z_iret cx hR ⟨_, rfl, fun z => absurd (c6.symm.trans z) (by decide), fun _ => ⟨j, by omega, rfl, rfl, fun i hi => ?_, fun i hi => ?_, rfl, fun q q1 q2 => ?_⟩⟩ dX8_keep_41
    · rw [up2_ne _ _ _ (by decide), upA_at, cpy_in hi, Nat.zero_add]
    · rw [up2_ne _ _ _ (by decide), upA_at, cpy_out hi]
    · rw [up2_ne _ _ _ q2, upA_ne _ _ q1]
  · have c6 : inW k 1 = false := c_6
    refine z_bipush cx dX8_keep_9 bi_m2 ?_
    exact z_iret cx hR ⟨_, rfl, fun _ => ⟨rfl, rfl⟩, fun z => absurd (c6.symm.trans z) (by decide)⟩ dX8_keep_11
set_option maxRecDepth 100000 in
set_option maxHeartbeats 4000000 in
theorem c_X8_back {l : Launch} {g : Gx} (hg : ApG 9 g.ad) (σ : Mem) (k : Int32) : CtI l (OM g) 1 mX8_back [.ref (g.ad 0), .int k] σ (fun v σ' => (inW k 1 = false → v = -2 ∧ σ' = σ) ∧ (inW k 1 = true → ∃ j : Nat, j < 2 ∧ k = nI j ∧ (σ 5 j = 0 → v = -4 ∧ σ' = σ) ∧ (¬ σ 5 j = 0 → v = σ' 1 2 ∧ (∀ i, i < 100 → σ' 1 i = σ 4 (100 * j + i)) ∧ σ' 0 = upd (σ 0) 3 0 ∧ ∀ q, q ≠ 0 → q ≠ 1 → σ' q = σ q))) := by
  refine ct_of (lv := [some (.ref (g.ad 0)), some (.int k)]) (okM hg) (by decide +kernel) (Nat.le_of_ble_eq_true rfl) (fun ls h => lvh_entry h rfl 0) ?_
  intro κ hl hnL cx hR
  subst hl
  have cx : Cx κ (OM g) RX8 cX8_back 1 := cx
  have hnL : κ.nL = 2 := hnL
  refine z_iload_n cx 1 dX8_back_0 rfl rfl ?_
  refine z_iconst cx dX8_back_1 ic_0 ?_
  refine z_iconst cx dX8_back_2 ic_1 ?_
  refine z_S3i cx sX8_in kX8_35 (c_X8_in hg σ _ _ _) (by decide) (Nat.le_of_ble_eq_true rfl) dX8_back_3 ?_
  refine z_ifb_ne (tgt := 12) cx dX8_back_6 (by decide) (fun c_6 => ?_) (fun c_6 => ?_)
  · have c6 : inW k 1 = true := c_6
    obtain ⟨j, hj, rfl⟩ := inW_of (n := 1) c6 (by decide)
    refine z_aload_n cx 0 dX8_back_12 rfl rfl ?_
    refine gX8_22 cx dX8_back_13 ?_
    refine z_iload_n cx 1 dX8_back_16 rfl rfl ?_
    refine g_zald cx (by decide) (fun _ => rfl) (vp_in_nI (n := j) (by omega) (by decide)) dX8_back_17 ?_
    rw [nI_clamp (by omega)]
    refine z_if_ne (tgt := 24) cx dX8_back_18 (by decide) (fun c_18 => ?_) (fun c_18 => ?_)
    · refine z_aload_n cx 0 dX8_back_24 rfl rfl ?_
      refine gX8_19 cx dX8_back_25 ?_
      refine z_bipush cx dX8_back_28 bi_100 ?_
      refine z_iload_n cx 1 dX8_back_30 rfl rfl ?_
      refine z_imul cx dX8_back_31 ?_
      rw [show 100 * nI j = nI (100 * j) from pk_mul 100 j]
      refine z_aload_n cx 0 dX8_back_32 rfl rfl ?_
      refine gX8_7 cx dX8_back_33 ?_
      refine z_iconst cx dX8_back_36 ic_0 ?_
      refine z_S4v cx sX8_copies kX8_108 (c_X8_copies (a := 100 * j) (b := 0) hg _ (by decide) (by decide) (fun _ => rfl) (fun _ => rfl) (by decide) (by omega) (by decide) (by decide) (by decide)) (by decide) (Nat.le_of_ble_eq_true rfl) dX8_back_37 ?_
      refine z_aload_n cx 0 dX8_back_40 rfl rfl ?_
      refine z_iconst cx dX8_back_41 ic_0 ?_
      refine pX8_125 cx dX8_back_42 ?_
      refine z_aload_n cx 0 dX8_back_45 rfl rfl ?_
      refine gX8_7 cx dX8_back_46 ?_
      refine z_iconst cx dX8_back_49 ic_2 ?_
      refine g_ialdN cx 2 (by decide) (fun _ => rfl) rfl (by omega) (by decide) dX8_back_50 ?_
      refine z_iret cx hR ⟨_, rfl, fun z => absurd (c6.symm.trans z) (by decide), fun _ => ⟨j, by omega, rfl, fun z => absurd z c_18, fun _ => ⟨rfl, fun i hi => ?_, rfl, fun q q1 q2 => ?_⟩⟩⟩ dX8_back_51
      · have e1 := cpy_in (f := σ 4) (h := σ 1) (a := 100 * j) (b := 0) hi
        rw [Nat.zero_add] at e1
        exact e1
      · rw [up2_ne _ _ _ q1, upA_ne _ _ q2]
    · refine z_bipush cx dX8_back_21 bi_m4 ?_
      exact z_iret cx hR ⟨_, rfl, fun z => absurd (c6.symm.trans z) (by decide), fun _ => ⟨j, by omega, rfl, fun _ => ⟨rfl, rfl⟩, fun z => absurd c_18 z⟩⟩ dX8_back_23
  · have c6 : inW k 1 = false := c_6
    refine z_bipush cx dX8_back_9 bi_m2 ?_
    exact z_iret cx hR ⟨_, rfl, fun _ => ⟨rfl, rfl⟩, fun z => absurd (c6.symm.trans z) (by decide)⟩ dX8_back_11
