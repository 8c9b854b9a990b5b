def mBk (μ : Mem) : Nat → Int32 := fun b => μ 1 (70 + 6 * b)
def mWo (μ : Mem) : Nat → Int32 := fun b => μ 1 (70 + 6 * b + 1)
def tbF (μ : Mem) (B : Nat) : Nat → Int32 := fun k => if k < B then μ 1 (70 + 6 * k + 5) else -1
def hsM (μ : Mem) (t : Nat) (bd : Nat → Int32) (j : Nat) : Int32 := hsG (μ 1 3) (μ 1 4) (μ 1 5) (mBk μ) (mWo μ) (μ 1 (7 + 9 * t + 1)) (μ 1 (7 + 9 * t)) bd 5 j
def uP (gf : Int32 → Int32) : Nat → Int32
  | 0 => 0
  | p + 1 => if gf (nI p) < 0 then uP gf p else nI p
def rpN (G : Nat → Int32) (x0 : Int32) : Nat → Int32 × Int32
  | 0 => (-1, x0)
  | k + 1 => if G k ≤ (rpN G x0 k).2 then rpN G x0 k else (nI k, G k)
def rpR (μ : Mem) (B t j pu : Nat) : Int32 × Int32 := rpN (fun k => hsM μ t (upd (tbF μ B) j (nI k)) j) (hsM μ t (upd (tbF μ B) j (-1)) j) (tpN pu + 1)
def OffR (μ' μ : Mem) : Prop := (∀ k, k ≠ 17 → μ' 0 k = μ 0 k) ∧ ∀ q, q ≠ 0 → q ≠ 8 → μ' q = μ q
theorem OffR.trans {τ σ ρ : Mem} (h : OffR τ σ) (h2 : OffR σ ρ) : OffR τ ρ := ⟨fun k hk => (h.1 k hk).trans (h2.1 k hk), fun q h3 h4 => (h.2 q h3 h4).trans (h2.2 q h3 h4)⟩
theorem tbF_off {τ σ : Mem} (h : τ 1 = σ 1) (B : Nat) : tbF τ B = tbF σ B := by unfold tbF; rw [h]
theorem hsM_off {τ σ : Mem} (h : τ 1 = σ 1) (t : Nat) (bd : Nat → Int32) (j : Nat) : hsM τ t bd j = hsM σ t bd j := by unfold hsM mBk mWo; rw [h]
theorem rpR_off {τ σ : Mem} (h : τ 1 = σ 1) (B t j pu : Nat) : rpR τ B t j pu = rpR σ B t j pu := by simp only [rpR, hsM_off h, tbF_off h]
theorem hsM_congr (μ : Mem) (t : Nat) {bd bd2 : Nat → Int32} {j : Nat} (hj : j < 5) (h : ∀ b, b < 5 → bd b = bd2 b) : hsM μ t bd j = hsM μ t bd2 j := hsG_congr _ _ _ _ _ _ _ (by decide) hj h
theorem tkF_tb (μ : Mem) (B : Nat) {b : Nat} (h : b < 5) : tkF μ B 5 b = tbF μ B b := by simp only [tkF, tbF]; rw [if_pos h]
def RsH (μ : Mem) : Prop := (-1 : Int32) < μ 1 4
/-- the row behind a sale -/
def sR0 (f : Nat → Int32) (t : Nat) (br : Bool) (who : Int32) : Nat → Int32 := upd (upd f (7 + 9 * t + 5) (bI br)) (7 + 9 * t + 3) who
def sR1 (f : Nat → Int32) (t : Nat) (br : Bool) (j : Nat) (cost : Int32) : Nat → Int32 :=
  upd (upd (upd (upd (sR0 f t br (nI j)) (7 + 9 * t + 4) cost) (70 + 6 * j + 3) (f (70 + 6 * j + 3) - lft br (f (7 + 9 * t)) (f 5) cost)) (70 + 6 * j + 4) (f (70 + 6 * j + 4) + (if br = true then wB (f (70 + 6 * j)) (f (70 + 6 * j + 1)) else wD (f (70 + 6 * j)) (f (70 + 6 * j + 1))))) 6 (f 6 + lft br (f (7 + 9 * t)) (f 5) cost)
def bdR (i : Nat) (f : Nat → Int32) : Nat → Int32 := fun k => if 70 ≤ k ∧ k < 70 + 6 * i ∧ (k - 70) % 6 = 5 then -1 else f k
def saW (μ : Mem) (B : Nat) : Int32 := ow (μ 1 4) (tbF μ B) 5
def saP (μ : Mem) (B : Nat) : Int32 := if saW μ B = -1 then -1 else pay (μ 1 3) (μ 1 4) (tbF μ B) (saW μ B).toNatClampNeg 5
def saB (μ : Mem) (t : Nat) (z : Int32) : Bool := brt z (nI t) (μ 1 (7 + 9 * t + 1))
def saR (μ : Mem) (B t : Nat) (z : Int32) : Nat → Int32 := upd (bdR 5 (if saW μ B = -1 then sR0 (μ 1) t (saB μ t z) (-1) else sR1 (μ 1) t (saB μ t z) (saW μ B).toNatClampNeg (saP μ B))) 2 (nI (t + 1))
theorem bdR_0 (f : Nat → Int32) : bdR 0 f = f := by funext k; simp only [bdR]; rw [if_neg (by omega)]
theorem bdR_s (i : Nat) (f : Nat → Int32) : upd (bdR i f) (70 + 6 * i + 5) (-1) = bdR (i + 1) f := by
  funext k
  by_cases q : k = 70 + 6 * i + 5
  · subst q; rw [upd_at]; simp only [bdR]; rw [if_pos (by omega)]
  · rw [upd_ne _ _ q]; simp only [bdR]
    by_cases q2 : 70 ≤ k ∧ k < 70 + 6 * i ∧ (k - 70) % 6 = 5
    · rw [if_pos q2, if_pos (by omega)]
    · rw [if_neg q2, if_neg (by omega)]
theorem bdR_out {i k : Nat} (f : Nat → Int32) (h : k < 70 ∨ ¬ (k - 70) % 6 = 5) : bdR i f k = f k := by simp only [bdR]; rw [if_neg (by omega)]
theorem bdR_in {i b : Nat} (f : Nat → Int32) (h : b < i) : bdR i f (70 + 6 * b + 5) = -1 := by simp only [bdR]; rw [if_pos (by omega)]
def gaM (μ : Mem) (b e p : Int32) : Int32 := if inR b (μ 1 1) = false then -2 else if inR e (μ 1 0) = false then -2 else if inW p 99 = false then -3 else 99999 + gnM μ (toN b) (toN e) p
set_option maxRecDepth 100000 in
set_option maxHeartbeats 4000000 in
theorem c_X8_gain {l : Launch} {g : Gx} (hg : ApG 9 g.ad) (σ : Mem) {E B t : Nat} (hM : MH σ E B t) (b e p : Int32) : Ct l (OM g) 3 mX8_gain [.ref (g.ad 0), .int b, .int e, .int p] σ (some (.int (gaM σ b e p))) σ := by
  refine ct_of (lv := [some (.ref (g.ad 0)), some (.int b), some (.int e), some (.int p)]) (okM hg) (by decide +kernel) (Nat.le_of_ble_eq_true rfl) (fun ls h => lvh_entry h rfl 0) ?_
  intro κ hl hnL cx hR
  subst hl
  have cx : Cx κ (OM g) RX8 cX8_gain 3 := cx
  have hnL : κ.nL = 4 := hnL
  have hM0 := hM
  obtain ⟨⟨hE, eE⟩, ⟨hB, eB⟩, ht, eT⟩ := hM0
  refine z_aload_n cx 0 dX8_gain_0 rfl rfl ?_
  refine z_iload_n cx 1 dX8_gain_1 rfl rfl ?_
  refine z_V1i cx vX8_isBidder kX8_131 (c_X8_isBidder hg σ (by omega) eB _) (by decide) hM0 rfl rfl (Nat.le_of_ble_eq_true rfl) dX8_gain_2 ?_
  refine z_ifb_eq (tgt := 16) cx dX8_gain_5 (by decide) (fun c_5 => ?_) (fun c_5 => ?_)
  · refine z_bipush cx dX8_gain_16 bi_m2 ?_
    exact z_iret cx hR ⟨by rw [gaM, eB, if_pos c_5], rfl⟩ dX8_gain_18
  · obtain ⟨j, hj, rfl⟩ := inR_of c_5 (by omega)
    have ej : toN (nI j) = j := toN_nI (by omega)
    have c5 : ¬ inR (nI j) (σ 1 1) = false := by rw [eB, c_5]; decide
    refine z_aload_n cx 0 dX8_gain_8 rfl rfl ?_
    refine z_iload_n cx 2 dX8_gain_9 rfl rfl ?_
    refine z_V1i cx vX8_isEvening kX8_128 (c_X8_isEvening hg σ (by omega) eE _) (by decide) hM0 rfl rfl (Nat.le_of_ble_eq_true rfl) dX8_gain_10 ?_
    refine z_ifb_ne (tgt := 19) cx dX8_gain_13 (by decide) (fun c_13 => ?_) (fun c_13 => ?_)
    · obtain ⟨i, hi, rfl⟩ := inR_of c_13 (by omega)
      have ei : toN (nI i) = i := toN_nI (by omega)
      have c13 : ¬ inR (nI i) (σ 1 0) = false := by rw [eE, c_13]; decide
      refine z_iload_n cx 3 dX8_gain_19 rfl rfl ?_
      refine z_iconst cx dX8_gain_20 ic_0 ?_
      refine z_bipush cx dX8_gain_21 bi_99 ?_
      refine z_S3i cx sX8_in kX8_35 (c_X8_in hg σ _ _ _) (by decide) (Nat.le_of_ble_eq_true rfl) dX8_gain_23 ?_
      refine z_ifb_eq (tgt := 42) cx dX8_gain_26 (by decide) (fun c_26 => ?_) (fun c_26 => ?_)
      · have c26 : inW p 99 = false := c_26
        refine z_bipush cx dX8_gain_42 bi_m3 ?_
        exact z_iret cx hR ⟨by rw [gaM, if_neg c5, if_neg c13, if_pos c26], rfl⟩ dX8_gain_44
      · have c26 : ¬ inW p 99 = false := by rw [show inW p 99 = true from c_26]; decide
        refine z_ldc cx qX8_173 dX8_gain_29 ?_
        refine z_aload_n cx 0 dX8_gain_31 rfl rfl ?_
        refine z_iload_n cx 1 dX8_gain_32 rfl rfl ?_
        refine z_iload_n cx 2 dX8_gain_33 rfl rfl ?_
        refine z_iload_n cx 3 dX8_gain_34 rfl rfl ?_
        refine z_V3i cx vX8_gainOf kX8_174 (c_X8_gainOf hg σ (j := j) (i := i) (by omega) (by omega) _) (by decide) hM0 rfl rfl (Nat.le_of_ble_eq_true rfl) dX8_gain_35 ?_
        refine z_iadd cx dX8_gain_38 ?_
        refine z_goto (tgt := 44) cx dX8_gain_39 (by decide) ?_
        exact z_iret cx hR ⟨by rw [gaM, if_neg c5, if_neg c13, if_neg c26, ej, ei], rfl⟩ dX8_gain_44
    · refine z_bipush cx dX8_gain_16 bi_m2 ?_
      exact z_iret cx hR ⟨by rw [gaM, if_neg c5, eE, if_pos c_13], rfl⟩ dX8_gain_18
set_option maxRecDepth 100000 in
set_option maxHeartbeats 4000000 in
theorem c_X8_purse {l : Launch} {g : Gx} (hg : ApG 9 g.ad) (σ : Mem) {j pu : Nat} (hj : j < 5) (hp : pu < 2 ^ 31) (eP : σ 1 (70 + 6 * j + 3) = nI pu) : Ct l (OM g) 1 mX8_purse [.ref (g.ad 0), .int (nI j)] σ (some (.int (nI (tpN pu)))) σ := by
  refine ct_of (lv := [some (.ref (g.ad 0)), some (.int (nI j))]) (okM hg) (by decide +kernel) (Nat.le_of_ble_eq_true rfl) (fun ls h => lvh_entry h rfl 0) ?_
  intro κ hl hnL cx hR
  subst hl
  have cx : Cx κ (OM g) RX8 cX8_purse 1 := cx
  have hnL : κ.nL = 2 := hnL
  refine z_bipush cx dX8_purse_0 bi_99 ?_
  refine z_aload_n cx 0 dX8_purse_2 rfl rfl ?_
  refine gX8_7 cx dX8_purse_3 ?_
  refine z_iload_n cx 1 dX8_purse_6 rfl rfl ?_
  refine z_S1i cx sX8_bidderAt kX8_105 (c_X8_bidderAt hg σ j) (by decide) (Nat.le_of_ble_eq_true rfl) dX8_purse_7 ?_
  refine z_iconst cx dX8_purse_10 ic_3 ?_
  refine z_iadd cx dX8_purse_11 ?_
  refine g_ialdN cx (70 + 6 * j + 3) (by decide) (fun _ => rfl) (nI_add _ 3) (by omega) (by decide) dX8_purse_12 ?_
  rw [eP]
  refine z_S2i cx sX8_least kX8_178 (c_X8_least hg σ _ _) (by decide) (Nat.le_of_ble_eq_true rfl) dX8_purse_13 ?_
  refine z_iret cx hR ⟨?_, rfl⟩ dX8_purse_16
  congr 2
  unfold mnI tpN
  have e9 : nI pu ≤ 99 ↔ pu ≤ 99 := nI_leI (a := pu) (b := 99) hp (by decide)
  by_cases q : pu < 99
  · rw [if_pos q, if_pos (e9.mpr (by omega))]
  · rw [if_neg q]
    by_cases q2 : nI pu ≤ 99
    · have q3 := e9.mp q2
      rw [if_pos q2, show pu = 99 by omega]
    · rw [if_neg q2]; rfl
def liM (μ : Mem) (t : Nat) (b : Int32) : Int32 := if inR b (μ 1 1) = false then -2 else if inR (μ 1 2) (μ 1 0) = false then -4 else uP (fun p => gnM μ (toN b) t p) (tpN (toN (μ 1 (70 + 6 * toN b + 3))) + 1)
set_option maxRecDepth 100000 in
set_option maxHeartbeats 4000000 in
theorem c_X8_limit {l : Launch} {g : Gx} (hg : ApG 9 g.ad) (σ : Mem) {E B t : Nat} (hM : MH σ E B t) (hP : ∀ b, b < B → ∃ pu, pu < 2 ^ 31 ∧ σ 1 (70 + 6 * b + 3) = nI pu) (b : Int32) : Ct l (OM g) 3 mX8_limit [.ref (g.ad 0), .int b] σ (some (.int (liM σ t b))) σ := by
  refine ct_of (lv := [some (.ref (g.ad 0)), some (.int b), none, none]) (okM hg) (by decide +kernel) (Nat.le_of_ble_eq_true rfl) (fun ls h => lvh_entry h rfl 2) ?_
  intro κ hl hnL cx hR
  subst hl
  have cx : Cx κ (OM g) RX8 cX8_limit 3 := cx
  have hnL : κ.nL = 4 := hnL
  have hM0 := hM
  obtain ⟨⟨hE, eE⟩, ⟨hB, eB⟩, ht, eT⟩ := hM0
  have loop : ∀ (j pu : Nat), j < 5 → t < 7 → pu < 2 ^ 31 → σ 1 (70 + 6 * j + 3) = nI pu → liM σ t b = uP (fun p => gnM σ j t p) (tpN pu + 1) → ∀ (c i : Nat), tpN pu + 2 ≤ i + c → i ≤ tpN pu + 1 → Z κ (OM g) σ 25 [some (.ref (g.ad 0)), some (.int (nI j)), some (.int (uP (fun p => gnM σ j t p) i)), some (.int (nI i))] [] := by
    intro j pu hj htE hp eP hQ c
    have hT := tpN_le pu
    induction c with
    | zero => intro i h1 h2; exact absurd h1 (by omega)
    | succ c ih =>
      intro i h1 h2
      refine z_iload_n cx 3 dX8_limit_25 rfl rfl ?_
      refine z_aload_n cx 0 dX8_limit_26 rfl rfl ?_
      refine z_iload_n cx 1 dX8_limit_27 rfl rfl ?_
      refine z_V1i cx vX8_purse kX8_181 (c_X8_purse hg σ hj hp eP) (by decide) hM0 rfl rfl (Nat.le_of_ble_eq_true rfl) dX8_limit_28 ?_
      refine z_icmp_gt (tgt := 61) cx dX8_limit_31 (by decide) (fun c_31 => ?_) (fun c_31 => ?_)
      · have c31 := (nI_ltI (by omega) (by omega)).mp c_31
        have e9 : i = tpN pu + 1 := by omega
        subst e9
        refine z_iload_n cx 2 dX8_limit_61 rfl rfl ?_
        exact z_iret cx hR ⟨by rw [hQ], rfl⟩ dX8_limit_62
      · have c31 : ¬ tpN pu < i := fun z => c_31 ((nI_ltI (by omega) (by omega)).mpr z)
        refine z_aload_n cx 0 dX8_limit_34 rfl rfl ?_
        refine z_iload_n cx 1 dX8_limit_35 rfl rfl ?_
        refine z_aload_n cx 0 dX8_limit_36 rfl rfl ?_
        refine gX8_7 cx dX8_limit_37 ?_
        refine z_iconst cx dX8_limit_40 ic_2 ?_
        refine g_ialdN cx 2 (by decide) (fun _ => rfl) rfl (by omega) (by decide) dX8_limit_41 ?_
        rw [eT]
        refine z_iload_n cx 3 dX8_limit_42 rfl rfl ?_
        refine z_V3i cx vX8_gainOf kX8_174 (c_X8_gainOf hg σ hj htE _) (by decide) hM0 rfl rfl (Nat.le_of_ble_eq_true rfl) dX8_limit_43 ?_
        refine z_if_lt (tgt := 53) cx dX8_limit_46 (by decide) (fun c_46 => ?_) (fun c_46 => ?_)
        · refine z_iload_n cx 2 dX8_limit_53 rfl rfl ?_
          refine z_istore_n cx 2 dX8_limit_54 rfl hnL (by decide) rfl ?_
          refine z_iinc cx dX8_limit_55 rfl ic_1 (nI_1 i) hnL (by decide) rfl ?_
          refine z_goto (tgt := 25) cx dX8_limit_58 (by decide) ?_
          exact z_eq rfl (by rw [uP, if_pos c_46]; rfl) rfl (ih (i + 1) (by omega) (by omega))
        · refine z_iload_n cx 3 dX8_limit_49 rfl rfl ?_
          refine z_goto (tgt := 54) cx dX8_limit_50 (by decide) ?_
          refine z_istore_n cx 2 dX8_limit_54 rfl hnL (by decide) rfl ?_
          refine z_iinc cx dX8_limit_55 rfl ic_1 (nI_1 i) hnL (by decide) rfl ?_
          refine z_goto (tgt := 25) cx dX8_limit_58 (by decide) ?_
          exact z_eq rfl (by rw [uP, if_neg c_46]; rfl) rfl (ih (i + 1) (by omega) (by omega))
  refine z_aload_n cx 0 dX8_limit_0 rfl rfl ?_
  refine z_iload_n cx 1 dX8_limit_1 rfl rfl ?_
  refine z_V1i cx vX8_isBidder kX8_131 (c_X8_isBidder hg σ (by omega) eB _) (by decide) hM0 rfl rfl (Nat.le_of_ble_eq_true rfl) dX8_limit_2 ?_
  refine z_ifb_ne (tgt := 11) cx dX8_limit_5 (by decide) (fun c_5 => ?_) (fun c_5 => ?_)
  · obtain ⟨j, hj, rfl⟩ := inR_of c_5 (by omega)
    have ej : toN (nI j) = j := toN_nI (by omega)
    have c5 : ¬ inR (nI j) (σ 1 1) = false := by rw [eB, c_5]; decide
    refine z_aload_n cx 0 dX8_limit_11 rfl rfl ?_
    refine z_V0i cx vX8_isTonight kX8_141 (c_X8_isTonight (E := E) (t := t) hg σ (by omega) (by omega) eE eT) (by decide) hM0 rfl rfl (Nat.le_of_ble_eq_true rfl) dX8_limit_12 ?_
    refine z_ifb_ne (tgt := 21) cx dX8_limit_15 (by decide) (fun c_15 => ?_) (fun c_15 => ?_)
    · have c15 : ¬ inR (σ 1 2) (σ 1 0) = false := by rw [nit_of hM, c_15]; decide
      have htE : t < E := of_decide_eq_true c_15
      refine z_iconst cx dX8_limit_21 ic_0 ?_
      refine z_istore_n cx 2 dX8_limit_22 rfl hnL (by decide) rfl ?_
      refine z_iconst cx dX8_limit_23 ic_0 ?_
      refine z_istore_n cx 3 dX8_limit_24 rfl hnL (by decide) rfl ?_
      obtain ⟨pu, hp, eP⟩ := hP j hj
      exact loop j pu (by omega) (by omega) hp eP (by rw [liM, if_neg c5, if_neg c15, ej, eP, toN_nI hp]) (tpN pu + 2) 0 (by omega) (by omega)
    · have c15 : inR (σ 1 2) (σ 1 0) = false := by rw [nit_of hM, c_15]
      refine z_bipush cx dX8_limit_18 bi_m4 ?_
      exact z_iret cx hR ⟨by rw [liM, if_neg c5, if_pos c15], rfl⟩ dX8_limit_20
  · refine z_bipush cx dX8_limit_8 bi_m2 ?_
    exact z_iret cx hR ⟨by rw [liM, eB, if_pos c_5], rfl⟩ dX8_limit_10
set_option maxRecDepth 100000 in
set_option maxHeartbeats 4000000 in
theorem c_X8_hasBy {l : Launch} {g : Gx} (hg : ApG 9 g.ad) (σ : Mem) {t j : Nat} (hr : RsH σ) (ht : t < 7) (eT : σ 1 2 = nI t) (hj : j < 5) : Ct l (OM g) 3 mX8_hasBy [.ref (g.ad 0), .int (nI j)] σ (some (.int (hsM σ t (σ 8) j))) σ := by
  refine ct_of (lv := [some (.ref (g.ad 0)), some (.int (nI j))]) (okM hg) (by decide +kernel) (Nat.le_of_ble_eq_true rfl) (fun ls h => lvh_entry h rfl 0) ?_
  intro κ hl hnL cx hR
  subst hl
  have cx : Cx κ (OM g) RX8 cX8_hasBy 3 := cx
  have hnL : κ.nL = 2 := hnL
  refine z_aload_n cx 0 dX8_hasBy_0 rfl rfl ?_
  refine z_V0i cx vX8_buyer kX8_161 (c_X8_buyer hg σ hr) (by decide) hM0 rfl rfl (Nat.le_of_ble_eq_true rfl) dX8_hasBy_1 ?_
  refine z_iload_n cx 1 dX8_hasBy_4 rfl rfl ?_
  refine z_icmp_ne (tgt := 33) cx dX8_hasBy_5 (by decide) (fun c_5 => ?_) (fun c_5 => ?_)
  · refine z_iconst cx dX8_hasBy_33 ic_0 ?_
    exact z_iret cx hR ⟨by rw [hsM, hsG, if_neg c_5], rfl⟩ dX8_hasBy_34
  · refine z_aload_n cx 0 dX8_hasBy_8 rfl rfl ?_
    refine z_iload_n cx 1 dX8_hasBy_9 rfl rfl ?_
    refine z_aload_n cx 0 dX8_hasBy_10 rfl rfl ?_
    refine gX8_7 cx dX8_hasBy_11 ?_
    refine z_iconst cx dX8_hasBy_14 ic_2 ?_
    refine g_ialdN cx 2 (by decide) (fun _ => rfl) rfl (by omega) (by decide) dX8_hasBy_15 ?_
    rw [eT]
    refine z_aload_n cx 0 dX8_hasBy_16 rfl rfl ?_
    refine z_iload_n cx 1 dX8_hasBy_17 rfl rfl ?_
    refine z_aload_n cx 0 dX8_hasBy_18 rfl rfl ?_
    refine gX8_7 cx dX8_hasBy_19 ?_
    refine z_iconst cx dX8_hasBy_22 ic_3 ?_
    refine g_ialdN cx 3 (by decide) (fun _ => rfl) rfl (by omega) (by decide) dX8_hasBy_23 ?_
    refine z_V2i cx vX8_costOf kX8_167 (c_X8_costOf hg σ hj _) (by decide) hM0 rfl rfl (Nat.le_of_ble_eq_true rfl) dX8_hasBy_24 ?_
    refine z_V3i cx vX8_gainOf kX8_174 (c_X8_gainOf hg σ hj ht _) (by decide) hM0 rfl rfl (Nat.le_of_ble_eq_true rfl) dX8_hasBy_27 ?_
    refine z_goto (tgt := 34) cx dX8_hasBy_30 (by decide) ?_
    exact z_iret cx hR ⟨by rw [hsM, hsG, if_pos c_5]; rfl, rfl⟩ dX8_hasBy_34
def haM (μ : Mem) (B t : Nat) (b : Int32) : Int32 := if inR b (μ 1 1) = false then -2 else if inR (μ 1 2) (μ 1 0) = false then -4 else 99999 + hsM μ t (tbF μ B) (toN b)
set_option maxRecDepth 100000 in
set_option maxHeartbeats 4000000 in
theorem c_X8_has_ {l : Launch} {g : Gx} (hg : ApG 9 g.ad) (σ : Mem) {E B t : Nat} (hM : MH σ E B t) (hr : RsH σ) (b : Int32) : CtI l (OM g) 4 mX8_has_ [.ref (g.ad 0), .int b] σ (fun v σ' => v = haM σ B t b ∧ OffR σ' σ) := by
  refine ct_of (lv := [some (.ref (g.ad 0)), some (.int b)]) (okM hg) (by decide +kernel) (Nat.le_of_ble_eq_true rfl) (fun ls h => lvh_entry h rfl 0) ?_
  intro κ hl hnL cx hR
  subst hl
  have cx : Cx κ (OM g) RX8 cX8_has_ 4 := cx
  have hnL : κ.nL = 2 := hnL
  have hM0 := hM
  obtain ⟨⟨hE, eE⟩, ⟨hB, eB⟩, ht, eT⟩ := hM0
  refine z_aload_n cx 0 dX8_has__0 rfl rfl ?_
  refine z_iload_n cx 1 dX8_has__1 rfl rfl ?_
  refine z_V1i cx vX8_isBidder kX8_131 (c_X8_isBidder hg σ (by omega) eB _) (by decide) hM0 rfl rfl (Nat.le_of_ble_eq_true rfl) dX8_has__2 ?_
  refine z_ifb_ne (tgt := 11) cx dX8_has__5 (by decide) (fun c_5 => ?_) (fun c_5 => ?_)
  · obtain ⟨j, hj, rfl⟩ := inR_of c_5 (by omega)
    have ej : toN (nI j) = j := toN_nI (by omega)
    have c5 : ¬ inR (nI j) (σ 1 1) = false := by rw [eB, c_5]; decide
    refine z_aload_n cx 0 dX8_has__11 rfl rfl ?_
    refine z_V0i cx vX8_isTonight kX8_141 (c_X8_isTonight (E := E) (t := t) hg σ (by omega) (by omega) eE eT) (by decide) hM0 rfl rfl (Nat.le_of_ble_eq_true rfl) dX8_has__12 ?_
    refine z_ifb_ne (tgt := 21) cx dX8_has__15 (by decide) (fun c_15 => ?_) (fun c_15 => ?_)
    · have c15 : ¬ inR (σ 1 2) (σ 1 0) = false := by rw [nit_of hM, c_15]; decide
      have htE : t < E := of_decide_eq_true c_15
      refine z_aload_n cx 0 dX8_has__21 rfl rfl ?_
      refine z_V0v cx vX8_takesBids kX8_158 (c_X8_takesBids hg σ hB eB) (by decide) hM0 rfl rfl (Nat.le_of_ble_eq_true rfl) dX8_has__22 ?_
      refine z_ldc cx qX8_173 dX8_has__25 ?_
      refine z_aload_n cx 0 dX8_has__27 rfl rfl ?_
      refine z_iload_n cx 1 dX8_has__28 rfl rfl ?_
      refine z_V1i cx vX8_hasBy kX8_184 (c_X8_hasBy (t := t) hg (upA σ 8 (tkF σ B 5)) hr (by omega) eT (j := j) (by omega)) (by decide) hM0 rfl rfl (Nat.le_of_ble_eq_true rfl) dX8_has__29 ?_
      rw [hsM_off (show upA σ 8 (tkF σ B 5) 1 = σ 1 from rfl), hsM_congr σ t (j := j) (bd := upA σ 8 (tkF σ B 5) 8) (bd2 := tbF σ B) (by omega) (fun b hb => tkF_tb σ B hb)]
      refine z_iadd cx dX8_has__32 ?_
      exact z_iret cx hR ⟨_, rfl, by rw [haM, if_neg c5, if_neg c15, ej], fun _ _ => rfl, fun q _ q2 => upA_ne _ _ q2⟩ dX8_has__33
    · have c15 : inR (σ 1 2) (σ 1 0) = false := by rw [nit_of hM, c_15]
      refine z_bipush cx dX8_has__18 bi_m4 ?_
      exact z_iret cx hR ⟨_, rfl, by rw [haM, if_neg c5, if_pos c15], ⟨fun _ _ => rfl, fun _ _ _ => rfl⟩⟩ dX8_has__20
  · refine z_bipush cx dX8_has__8 bi_m2 ?_
    exact z_iret cx hR ⟨_, rfl, by rw [haM, eB, if_pos c_5], ⟨fun _ _ => rfl, fun _ _ _ => rfl⟩⟩ dX8_has__10
set_option maxRecDepth 100000 in
set_option maxHeartbeats 4000000 in
theorem c_X8_replyOf {l : Launch} {g : Gx} (hg : ApG 9 g.ad) (σ : Mem) {E B t : Nat} (hM : MH σ E B t) (htE : t < E) (hr : RsH σ) {j : Nat} (hj : j < 5) {pu : Nat} (hp : pu < 2 ^ 31) (eP : σ 1 (70 + 6 * j + 3) = nI pu) : CtI l (OM g) 4 mX8_replyOf [.ref (g.ad 0), .int (nI j)] σ (fun v σ' => v = (rpR σ B t j pu).1 ∧ σ' 0 17 = (rpR σ B t j pu).2 ∧ OffR σ' σ) := by
  refine ct_of (lv := [some (.ref (g.ad 0)), some (.int (nI j)), none, none, none]) (okM hg) (by decide +kernel) (Nat.le_of_ble_eq_true rfl) (fun ls h => lvh_entry h rfl 3) ?_
  intro κ hl hnL cx hR
  subst hl
  have cx : Cx κ (OM g) RX8 cX8_replyOf 4 := cx
  have hnL : κ.nL = 5 := hnL
  have hM0 := hM
  obtain ⟨⟨hE, eE⟩, ⟨hB, eB⟩, ht, eT⟩ := hM0
  have hT := tpN_le pu
  have i9 : ∀ (τ : Mem) (x : Int32), OffR τ σ → (∀ b, b < 5 → b ≠ j → τ 8 b = tbF σ B b) → hsM (up2 τ 8 j x) t (up2 τ 8 j x 8) j = hsM σ t (upd (tbF σ B) j x) j := by
    intro τ x hO h8
    rw [hsM_off (show up2 τ 8 j x 1 = σ 1 from hO.2 1 (by decide) (by decide)), up2_at]
    refine hsM_congr σ t hj (fun b hb => ?_)
    by_cases q : b = j
    · subst q; rw [upd_at, upd_at]
    · rw [upd_ne _ _ q, upd_ne _ _ q]; exact h8 b hb q
  unfold rpR at hR
  generalize hG : (fun k => hsM σ t (upd (tbF σ B) j (nI k)) j) = G at hR
  generalize hX : hsM σ t (upd (tbF σ B) j (-1)) j = x0 at hR
  have loop : ∀ (c i : Nat) (τ : Mem) (x : Option Value), tpN pu + 2 ≤ i + c → i ≤ tpN pu + 1 → OffR τ σ → (∀ b, b < 5 → b ≠ j → τ 8 b = tbF σ B b) → τ 0 17 = (rpN G x0 i).2 → Z κ (OM g) τ 8 [some (.ref (g.ad 0)), some (.int (nI j)), some (.int (rpN G x0 i).1), some (.int (nI i)), x] [] := by
    intro c
    induction c with
    | zero => intro i τ x h1 h2; exact absurd h1 (by omega)
    | succ c ih =>
      intro i τ x h1 h2 hO h8 h17
      refine z_iload_n cx 3 dX8_replyOf_8 rfl rfl ?_
      refine z_aload_n cx 0 dX8_replyOf_9 rfl rfl ?_
      refine z_iload_n cx 1 dX8_replyOf_10 rfl rfl ?_
      refine z_V1i cx vX8_purse kX8_181 (c_X8_purse hg τ hj hp (by rw [hO.2 1 (by decide) (by decide)]; exact eP)) (by decide) hM0 rfl rfl (Nat.le_of_ble_eq_true rfl) dX8_replyOf_11 ?_
      refine z_icmp_gt (tgt := 84) cx dX8_replyOf_14 (by decide) (fun c_14 => ?_) (fun c_14 => ?_)
      · have c14 := (nI_ltI (by omega) (by omega)).mp c_14
        have e9 : i = tpN pu + 1 := by omega
        subst e9
        refine z_iload_n cx 2 dX8_replyOf_84 rfl rfl ?_
        exact z_iret cx hR ⟨_, rfl, rfl, h17, hO⟩ dX8_replyOf_85
      · have c14 : ¬ tpN pu < i := fun z => c_14 ((nI_ltI (by omega) (by omega)).mpr z)
        refine z_aload_n cx 0 dX8_replyOf_17 rfl rfl ?_
        refine gX8_32 cx dX8_replyOf_18 ?_
        refine z_iload_n cx 1 dX8_replyOf_21 rfl rfl ?_
        refine z_iload_n cx 3 dX8_replyOf_22 rfl rfl ?_
        refine g_iastN cx j (by decide) (fun _ => rfl) rfl (by omega) (by decide) dX8_replyOf_23 ?_
        have r1 : up2 τ 8 j (nI i) 1 = σ 1 := hO.2 1 (by decide) (by decide)
        have O2 : OffR (up2 τ 8 j (nI i)) σ := ⟨hO.1, fun q q1 q2 => by rw [up2_ne _ _ _ q2]; exact hO.2 q q1 q2⟩
        have r8 : ∀ b, b < 5 → b ≠ j → up2 τ 8 j (nI i) 8 b = tbF σ B b := fun b hb q => by rw [up2_at, upd_ne _ _ q]; exact h8 b hb q
        have ei := i9 τ (nI i) hO h8
        have r17 : up2 τ 8 j (nI i) 0 17 = τ 0 17 := rfl
        generalize up2 τ 8 j (nI i) = ρ at *
        refine z_aload_n cx 0 dX8_replyOf_24 rfl rfl ?_
        refine z_iload_n cx 1 dX8_replyOf_25 rfl rfl ?_
        refine z_V1i cx vX8_hasBy kX8_184 (c_X8_hasBy (t := t) hg ρ (by unfold RsH at *; rw [r1]; exact hr) (by omega) (by rw [r1]; exact eT) hj) (by decide) hM0 rfl rfl (Nat.le_of_ble_eq_true rfl) dX8_replyOf_26 ?_
        rw [ei, show hsM σ t (upd (tbF σ B) j (nI i)) j = G i by rw [← hG]]
        refine z_istore cx dX8_replyOf_29 hnL (by decide) rfl ?_
        refine z_iload_n cx 3 dX8_replyOf_31 rfl rfl ?_
        refine z_iconst cx dX8_replyOf_32 ic_m1 ?_
        refine z_icmp_eq (tgt := 45) cx dX8_replyOf_33 (by decide) (fun c_33 => ?_) (fun c_33 => ?_)
        · exact absurd c_33 (nI_nm1_big (by omega))
        · refine z_iload cx dX8_replyOf_36 rfl ?_
          refine z_aload_n cx 0 dX8_replyOf_38 rfl rfl ?_
          refine gX8_187 cx dX8_replyOf_39 ?_
          rw [r17, h17]
          refine z_icmp_le (tgt := 49) cx dX8_replyOf_42 (by decide) (fun c_42 => ?_) (fun c_42 => ?_)
          · have c42 : G i ≤ (rpN G x0 i).2 := c_42
            refine z_iload_n cx 2 dX8_replyOf_49 rfl rfl ?_
            refine z_istore_n cx 2 dX8_replyOf_50 rfl hnL (by decide) rfl ?_
            refine z_aload_n cx 0 dX8_replyOf_51 rfl rfl ?_
            refine z_iload_n cx 3 dX8_replyOf_52 rfl rfl ?_
            refine z_iconst cx dX8_replyOf_53 ic_m1 ?_
            refine z_icmp_eq (tgt := 66) cx dX8_replyOf_54 (by decide) (fun c_54 => ?_) (fun c_54 => ?_)
            · exact absurd c_54 (nI_nm1_big (by omega))
            · refine z_iload cx dX8_replyOf_57 rfl ?_
              refine z_aload_n cx 0 dX8_replyOf_59 rfl rfl ?_
              refine gX8_187 cx dX8_replyOf_60 ?_
              rw [r17, h17]
              refine z_icmp_le (tgt := 71) cx dX8_replyOf_63 (by decide) (fun c_63 => ?_) (fun c_63 => ?_)
              · refine z_aload_n cx 0 dX8_replyOf_71 rfl rfl ?_
                refine gX8_187 cx dX8_replyOf_72 ?_
                rw [r17, h17]
                refine pX8_187 cx dX8_replyOf_75 ?_
                refine z_iinc cx dX8_replyOf_78 rfl ic_1 (nI_1 i) hnL (by decide) rfl ?_
                refine z_goto (tgt := 8) cx dX8_replyOf_81 (by decide) ?_
                exact z_eq rfl (by rw [rpN, if_pos c42]; rfl) rfl (ih (i + 1) _ _ (by omega) (by omega) ⟨fun k hk => by rw [up2_at, upd_ne _ _ hk]; exact O2.1 k hk, fun q q1 q2 => by rw [up2_ne _ _ _ q1]; exact O2.2 q q1 q2⟩ (fun b hb q => by rw [up2_ne _ _ _ (by decide)]; exact r8 b hb q) (by rw [rpN, if_pos c42]; rfl))
              · exact absurd c42 c_63
          · have c42 : ¬ G i ≤ (rpN G x0 i).2 := c_42
            refine z_iload_n cx 3 dX8_replyOf_45 rfl rfl ?_
            refine z_goto (tgt := 50) cx dX8_replyOf_46 (by decide) ?_
            refine z_istore_n cx 2 dX8_replyOf_50 rfl hnL (by decide) rfl ?_
            refine z_aload_n cx 0 dX8_replyOf_51 rfl rfl ?_
            refine z_iload_n cx 3 dX8_replyOf_52 rfl rfl ?_
            refine z_iconst cx dX8_replyOf_53 ic_m1 ?_
            refine z_icmp_eq (tgt := 66) cx dX8_replyOf_54 (by decide) (fun c_54 => ?_) (fun c_54 => ?_)
            · exact absurd c_54 (nI_nm1_big (by omega))
            · refine z_iload cx dX8_replyOf_57 rfl ?_
              refine z_aload_n cx 0 dX8_replyOf_59 rfl rfl ?_
              refine gX8_187 cx dX8_replyOf_60 ?_
              rw [r17, h17]
              refine z_icmp_le (tgt := 71) cx dX8_replyOf_63 (by decide) (fun c_63 => ?_) (fun c_63 => ?_)
              · exact absurd c_63 c42
              · refine z_iload cx dX8_replyOf_66 rfl ?_
                refine z_goto (tgt := 75) cx dX8_replyOf_68 (by decide) ?_
                refine pX8_187 cx dX8_replyOf_75 ?_
                refine z_iinc cx dX8_replyOf_78 rfl ic_1 (nI_1 i) hnL (by decide) rfl ?_
                refine z_goto (tgt := 8) cx dX8_replyOf_81 (by decide) ?_
                exact z_eq rfl (by rw [rpN, if_neg c42]; rfl) rfl (ih (i + 1) _ _ (by omega) (by omega) ⟨fun k hk => by rw [up2_at, upd_ne _ _ hk]; exact O2.1 k hk, fun q q1 q2 => by rw [up2_ne _ _ _ q1]; exact O2.2 q q1 q2⟩ (fun b hb q => by rw [up2_ne _ _ _ (by decide)]; exact r8 b hb q) (by rw [rpN, if_neg c42]; rfl))
  refine z_aload_n cx 0 dX8_replyOf_0 rfl rfl ?_
  refine z_V0v cx vX8_takesBids kX8_158 (c_X8_takesBids hg σ hB eB) (by decide) hM0 rfl rfl (Nat.le_of_ble_eq_true rfl) dX8_replyOf_1 ?_
  refine z_iconst cx dX8_replyOf_4 ic_m1 ?_
  refine z_istore_n cx 2 dX8_replyOf_5 rfl hnL (by decide) rfl ?_
  refine z_iconst cx dX8_replyOf_6 ic_m1 ?_
  refine z_istore_n cx 3 dX8_replyOf_7 rfl hnL (by decide) rfl ?_
  have hO : OffR (upA σ 8 (tkF σ B 5)) σ := ⟨fun _ _ => rfl, fun q _ q2 => upA_ne _ _ q2⟩
  have h8 : ∀ b, b < 5 → b ≠ j → upA σ 8 (tkF σ B 5) 8 b = tbF σ B b := fun b hb _ => by rw [upA_at]; exact tkF_tb σ B hb
  generalize upA σ 8 (tkF σ B 5) = τ at *
  refine z_iload_n cx 3 dX8_replyOf_8 rfl rfl ?_
  refine z_aload_n cx 0 dX8_replyOf_9 rfl rfl ?_
  refine z_iload_n cx 1 dX8_replyOf_10 rfl rfl ?_
  refine z_V1i cx vX8_purse kX8_181 (c_X8_purse hg τ hj hp (by rw [hO.2 1 (by decide) (by decide)]; exact eP)) (by decide) hM0 rfl rfl (Nat.le_of_ble_eq_true rfl) dX8_replyOf_11 ?_
  refine z_icmp_gt (tgt := 84) cx dX8_replyOf_14 (by decide) (fun c_14 => ?_) (fun c_14 => ?_)
  · exact absurd (Int32.lt_trans c_14 (by decide : (-1 : Int32) < 0)) (nI_pos (by omega))
  · refine z_aload_n cx 0 dX8_replyOf_17 rfl rfl ?_
    refine gX8_32 cx dX8_replyOf_18 ?_
    refine z_iload_n cx 1 dX8_replyOf_21 rfl rfl ?_
    refine z_iload_n cx 3 dX8_replyOf_22 rfl rfl ?_
    refine g_iastN cx j (by decide) (fun _ => rfl) rfl (by omega) (by decide) dX8_replyOf_23 ?_
    have r1 : up2 τ 8 j (-1) 1 = σ 1 := hO.2 1 (by decide) (by decide)
    have O2 : OffR (up2 τ 8 j (-1)) σ := ⟨hO.1, fun q q1 q2 => by rw [up2_ne _ _ _ q2]; exact hO.2 q q1 q2⟩
    have r8 : ∀ b, b < 5 → b ≠ j → up2 τ 8 j (-1) 8 b = tbF σ B b := fun b hb q => by rw [up2_at, upd_ne _ _ q]; exact h8 b hb q
    have ei := i9 τ (-1) hO h8
    have r17 : up2 τ 8 j (-1) 0 17 = τ 0 17 := rfl
    generalize up2 τ 8 j (-1) = ρ at *
    refine z_aload_n cx 0 dX8_replyOf_24 rfl rfl ?_
    refine z_iload_n cx 1 dX8_replyOf_25 rfl rfl ?_
    refine z_V1i cx vX8_hasBy kX8_184 (c_X8_hasBy (t := t) hg ρ (by unfold RsH at *; rw [r1]; exact hr) (by omega) (by rw [r1]; exact eT) hj) (by decide) hM0 rfl rfl (Nat.le_of_ble_eq_true rfl) dX8_replyOf_26 ?_
    rw [ei, hX]
    refine z_istore cx dX8_replyOf_29 hnL (by decide) rfl ?_
    refine z_iload_n cx 3 dX8_replyOf_31 rfl rfl ?_
    refine z_iconst cx dX8_replyOf_32 ic_m1 ?_
    refine z_icmp_eq (tgt := 45) cx dX8_replyOf_33 (by decide) (fun c_33 => ?_) (fun c_33 => ?_)
    · refine z_iload_n cx 3 dX8_replyOf_45 rfl rfl ?_
      refine z_goto (tgt := 50) cx dX8_replyOf_46 (by decide) ?_
      refine z_istore_n cx 2 dX8_replyOf_50 rfl hnL (by decide) rfl ?_
      refine z_aload_n cx 0 dX8_replyOf_51 rfl rfl ?_
      refine z_iload_n cx 3 dX8_replyOf_52 rfl rfl ?_
      refine z_iconst cx dX8_replyOf_53 ic_m1 ?_
      refine z_icmp_eq (tgt := 66) cx dX8_replyOf_54 (by decide) (fun c_54 => ?_) (fun c_54 => ?_)
      · refine z_iload cx dX8_replyOf_66 rfl ?_
        refine z_goto (tgt := 75) cx dX8_replyOf_68 (by decide) ?_
        refine pX8_187 cx dX8_replyOf_75 ?_
        refine z_iinc cx dX8_replyOf_78 rfl ic_1 (show (-1 : Int32) + 1 = nI 0 by decide) hnL (by decide) rfl ?_
        refine z_goto (tgt := 8) cx dX8_replyOf_81 (by decide) ?_
        exact loop (tpN pu + 2) 0 _ _ (by omega) (by omega) ⟨fun k hk => by rw [up2_at, upd_ne _ _ hk]; exact O2.1 k hk, fun q q1 q2 => by rw [up2_ne _ _ _ q1]; exact O2.2 q q1 q2⟩ (fun b hb q => by rw [up2_ne _ _ _ (by decide)]; exact r8 b hb q) rfl
      · exact absurd rfl c_54
    · exact absurd rfl c_33
def rpM (μ : Mem) (B t : Nat) (b w : Int32) : Int32 := if inR b (μ 1 1) = false then -2 else if inW w 1 = false then -3 else if inR (μ 1 2) (μ 1 0) = false then -4 else if w = 0 then (rpR μ B t (toN b) (toN (μ 1 (70 + 6 * toN b + 3)))).1 else 99999 + (rpR μ B t (toN b) (toN (μ 1 (70 + 6 * toN b + 3)))).2
set_option maxRecDepth 100000 in
set_option maxHeartbeats 4000000 in
theorem c_X8_reply {l : Launch} {g : Gx} (hg : ApG 9 g.ad) (σ : Mem) {E B t : Nat} (hM : MH σ E B t) (hr : RsH σ) (hP : ∀ b, b < B → ∃ pu, pu < 2 ^ 31 ∧ σ 1 (70 + 6 * b + 3) = nI pu) (b w : Int32) : CtI l (OM g) 5 mX8_reply [.ref (g.ad 0), .int b, .int w] σ (fun v σ' => v = rpM σ B t b w ∧ OffR σ' σ) := by
  refine ct_of (lv := [some (.ref (g.ad 0)), some (.int b), some (.int w), none]) (okM hg) (by decide +kernel) (Nat.le_of_ble_eq_true rfl) (fun ls h => lvh_entry h rfl 1) ?_
  intro κ hl hnL cx hR
  subst hl
  have cx : Cx κ (OM g) RX8 cX8_reply 5 := cx
  have hnL : κ.nL = 4 := hnL
  have hM0 := hM
  obtain ⟨⟨hE, eE⟩, ⟨hB, eB⟩, ht, eT⟩ := hM0
  refine z_aload_n cx 0 dX8_reply_0 rfl rfl ?_
  refine z_iload_n cx 1 dX8_reply_1 rfl rfl ?_
  refine z_V1i cx vX8_isBidder kX8_131 (c_X8_isBidder hg σ (by omega) eB _) (by decide) hM0 rfl rfl (Nat.le_of_ble_eq_true rfl) dX8_reply_2 ?_
  refine z_ifb_ne (tgt := 11) cx dX8_reply_5 (by decide) (fun c_5 => ?_) (fun c_5 => ?_)
  · obtain ⟨j, hj, rfl⟩ := inR_of c_5 (by omega)
    have ej : toN (nI j) = j := toN_nI (by omega)
    have c5 : ¬ inR (nI j) (σ 1 1) = false := by rw [eB, c_5]; decide
    refine z_iload_n cx 2 dX8_reply_11 rfl rfl ?_
    refine z_iconst cx dX8_reply_12 ic_0 ?_
    refine z_iconst cx dX8_reply_13 ic_1 ?_
    refine z_S3i cx sX8_in kX8_35 (c_X8_in hg σ _ _ _) (by decide) (Nat.le_of_ble_eq_true rfl) dX8_reply_14 ?_
    refine z_ifb_ne (tgt := 23) cx dX8_reply_17 (by decide) (fun c_17 => ?_) (fun c_17 => ?_)
    · have c17 : ¬ inW w 1 = false := by rw [show inW w 1 = true from c_17]; decide
      refine z_aload_n cx 0 dX8_reply_23 rfl rfl ?_
      refine z_V0i cx vX8_isTonight kX8_141 (c_X8_isTonight (E := E) (t := t) hg σ (by omega) (by omega) eE eT) (by decide) hM0 rfl rfl (Nat.le_of_ble_eq_true rfl) dX8_reply_24 ?_
      refine z_ifb_ne (tgt := 33) cx dX8_reply_27 (by decide) (fun c_27 => ?_) (fun c_27 => ?_)
      · have c27 : ¬ inR (σ 1 2) (σ 1 0) = false := by rw [nit_of hM, c_27]; decide
        have htE : t < E := of_decide_eq_true c_27
        refine z_aload_n cx 0 dX8_reply_33 rfl rfl ?_
        refine z_iload_n cx 1 dX8_reply_34 rfl rfl ?_
        obtain ⟨pu, hp, eP⟩ := hP j hj
        refine z_V1I cx vX8_replyOf kX8_190 (c_X8_replyOf hg σ hM htE hr (j := j) (by omega) hp eP) (by decide) hM0 rfl rfl (Nat.le_of_ble_eq_true rfl) dX8_reply_35 (fun v_35 σ_35 h_35 => ?_)
        obtain ⟨rfl, y17, yO⟩ := h_35
        refine z_istore_n cx 3 dX8_reply_38 rfl hnL (by decide) rfl ?_
        refine z_iload_n cx 2 dX8_reply_39 rfl rfl ?_
        refine z_if_ne (tgt := 47) cx dX8_reply_40 (by decide) (fun c_40 => ?_) (fun c_40 => ?_)
        · refine z_ldc cx qX8_173 dX8_reply_47 ?_
          refine z_aload_n cx 0 dX8_reply_49 rfl rfl ?_
          refine gX8_187 cx dX8_reply_50 ?_
          refine z_iadd cx dX8_reply_53 ?_
          exact z_iret cx hR ⟨_, rfl, by rw [rpM, if_neg c5, if_neg c17, if_neg c27, if_neg c_40, ej, eP, toN_nI hp, y17], yO⟩ dX8_reply_54
        · refine z_iload_n cx 3 dX8_reply_43 rfl rfl ?_
          refine z_goto (tgt := 54) cx dX8_reply_44 (by decide) ?_
          exact z_iret cx hR ⟨_, rfl, by rw [rpM, if_neg c5, if_neg c17, if_neg c27, if_pos c_40, ej, eP, toN_nI hp], yO⟩ dX8_reply_54
      · have c27 : inR (σ 1 2) (σ 1 0) = false := by rw [nit_of hM, c_27]
        refine z_bipush cx dX8_reply_30 bi_m4 ?_
        exact z_iret cx hR ⟨_, rfl, by rw [rpM, if_neg c5, if_neg c17, if_pos c27], ⟨fun _ _ => rfl, fun _ _ _ => rfl⟩⟩ dX8_reply_32
    · have c17 : inW w 1 = false := c_17
      refine z_bipush cx dX8_reply_20 bi_m3 ?_
      exact z_iret cx hR ⟨_, rfl, by rw [rpM, if_neg c5, if_pos c17], ⟨fun _ _ => rfl, fun _ _ _ => rfl⟩⟩ dX8_reply_22
  · refine z_bipush cx dX8_reply_8 bi_m2 ?_
    exact z_iret cx hR ⟨_, rfl, by rw [rpM, eB, if_pos c_5], ⟨fun _ _ => rfl, fun _ _ _ => rfl⟩⟩ dX8_reply_10
def tmM (μ : Mem) (B t : Nat) : Nat → Bool := fun b => !decide ((rpR μ B t b (toN (μ 1 (70 + 6 * b + 3)))).2 ≤ hsM μ t (tbF μ B) b)
def teM (μ : Mem) (B t : Nat) : Int32 := if inR (μ 1 2) (μ 1 0) = false then -4 else tpS (tmM μ B t) B
theorem or_0 (x : Int32) : x ||| 0 = x := by
  apply Int32.toBitVec_inj.mp
  rw [Int32.toBitVec_or]
  exact BitVec.or_zero
theorem MH_off {τ σ : Mem} (h : τ 1 = σ 1) {E B t : Nat} (hM : MH σ E B t) : MH τ E B t := by unfold MH at *; rw [h]; exact hM
set_option maxRecDepth 100000 in
set_option maxHeartbeats 4000000 in
theorem c_X8_tempted {l : Launch} {g : Gx} (hg : ApG 9 g.ad) (σ : Mem) {E B t : Nat} (hM : MH σ E B t) (hr : RsH σ) (hP : ∀ b, b < B → ∃ pu, pu < 2 ^ 31 ∧ σ 1 (70 + 6 * b + 3) = nI pu) : CtI l (OM g) 5 mX8_tempted [.ref (g.ad 0)] σ (fun v σ' => v = teM σ B t ∧ OffR σ' σ) := by
  refine ct_of (lv := [some (.ref (g.ad 0)), none, none, none]) (okM hg) (by decide +kernel) (Nat.le_of_ble_eq_true rfl) (fun ls h => lvh_entry h rfl 3) ?_
  intro κ hl hnL cx hR
  subst hl
  have cx : Cx κ (OM g) RX8 cX8_tempted 5 := cx
  have hnL : κ.nL = 4 := hnL
  have hM0 := hM
  obtain ⟨⟨hE, eE⟩, ⟨hB, eB⟩, ht, eT⟩ := hM0
  have loop : t < E → ¬ inR (σ 1 2) (σ 1 0) = false → ∀ (c i : Nat) (τ : Mem) (x : Option Value), B + 1 ≤ i + c → i ≤ B → OffR τ σ → Z κ (OM g) τ 14 [some (.ref (g.ad 0)), some (.int (tpS (tmM σ B t) i)), some (.int (nI i)), x] [] := by
    intro htE c4 c
    induction c with
    | zero => intro i τ x h1 h2; exact absurd h1 (by omega)
    | succ c ih =>
      intro i τ x h1 h2 hO
      have r1 : τ 1 = σ 1 := hO.2 1 (by decide) (by decide)
      refine z_iload_n cx 2 dX8_tempted_14 rfl rfl ?_
      refine z_aload_n cx 0 dX8_tempted_15 rfl rfl ?_
      refine gX8_7 cx dX8_tempted_16 ?_
      refine z_iconst cx dX8_tempted_19 ic_1 ?_
      refine g_ialdN cx 1 (by decide) (fun _ => rfl) rfl (by omega) (by decide) dX8_tempted_20 ?_
      rw [r1, eB]
      refine z_icmp_ge (tgt := 64) cx dX8_tempted_21 (by decide) (fun c_21 => ?_) (fun c_21 => ?_)
      · have c21 := (nI_leI (by omega) (by omega)).mp c_21
        have e9 : i = B := by omega
        subst e9
        refine z_iload_n cx 1 dX8_tempted_64 rfl rfl ?_
        exact z_iret cx hR ⟨_, rfl, by rw [teM, if_neg c4], hO⟩ dX8_tempted_65
      · have c21 : ¬ B ≤ i := fun z => c_21 ((nI_leI (by omega) (by omega)).mpr z)
        refine z_aload_n cx 0 dX8_tempted_24 rfl rfl ?_
        refine z_V0v cx vX8_takesBids kX8_158 (c_X8_takesBids hg τ hB (by rw [r1]; exact eB)) (by decide) hM0 rfl rfl (Nat.le_of_ble_eq_true rfl) dX8_tempted_25 ?_
        have O2 : OffR (upA τ 8 (tkF τ B 5)) σ := ⟨hO.1, fun q q1 q2 => by rw [upA_ne _ _ q2]; exact hO.2 q q1 q2⟩
        have eh : hsM (upA τ 8 (tkF τ B 5)) t (upA τ 8 (tkF τ B 5) 8) i = hsM σ t (tbF σ B) i := by
          rw [hsM_off (show upA τ 8 (tkF τ B 5) 1 = σ 1 from r1), upA_at, ← tbF_off r1]
          exact hsM_congr σ t (by omega) (fun b hb => tkF_tb τ B hb)
        generalize upA τ 8 (tkF τ B 5) = ρ at *
        have q1 : ρ 1 = σ 1 := O2.2 1 (by decide) (by decide)
        obtain ⟨pu, hp, eP⟩ := hP i (by omega)
        refine z_aload_n cx 0 dX8_tempted_28 rfl rfl ?_
        refine z_iload_n cx 2 dX8_tempted_29 rfl rfl ?_
        refine z_V1i cx vX8_hasBy kX8_184 (c_X8_hasBy (t := t) hg ρ (by unfold RsH at *; rw [q1]; exact hr) (by omega) (by rw [q1]; exact eT) (j := i) (by omega)) (by decide) hM0 rfl rfl (Nat.le_of_ble_eq_true rfl) dX8_tempted_30 ?_
        rw [eh]
        refine z_istore_n cx 3 dX8_tempted_33 rfl hnL (by decide) rfl ?_
        refine z_aload_n cx 0 dX8_tempted_34 rfl rfl ?_
        refine z_iload_n cx 2 dX8_tempted_35 rfl rfl ?_
        refine z_V1I cx vX8_replyOf kX8_190 (c_X8_replyOf hg ρ (MH_off q1 hM) htE (by unfold RsH at *; rw [q1]; exact hr) (j := i) (by omega) hp (by rw [q1]; exact eP)) (by decide) hM0 rfl rfl (Nat.le_of_ble_eq_true rfl) dX8_tempted_36 (fun v_36 σ_36 h_36 => ?_)
        rw [rpR_off q1] at h_36
        obtain ⟨rfl, y17, yO⟩ := h_36
        refine z_pop cx dX8_tempted_39 rfl ?_
        refine z_iload_n cx 1 dX8_tempted_40 rfl rfl ?_
        refine z_aload_n cx 0 dX8_tempted_41 rfl rfl ?_
        refine gX8_187 cx dX8_tempted_42 ?_
        refine z_iload_n cx 3 dX8_tempted_45 rfl rfl ?_
        rw [y17]
        refine z_icmp_le (tgt := 55) cx dX8_tempted_46 (by decide) (fun c_46 => ?_) (fun c_46 => ?_)
        · have c46 : tmM σ B t i = false := by simp only [tmM, eP, toN_nI hp, c_46, decide_true, Bool.not_true]
          refine z_iconst cx dX8_tempted_55 ic_0 ?_
          refine z_ior cx dX8_tempted_56 ?_
          rw [or_0]
          refine z_istore_n cx 1 dX8_tempted_57 rfl hnL (by decide) rfl ?_
          refine z_iinc cx dX8_tempted_58 rfl ic_1 (nI_1 i) hnL (by decide) rfl ?_
          refine z_goto (tgt := 14) cx dX8_tempted_61 (by decide) ?_
          exact z_eq rfl (by rw [tpS, if_neg (by rw [c46]; decide)]; rfl) rfl (ih (i + 1) _ _ (by omega) (by omega) (yO.trans O2))
        · have c46 : tmM σ B t i = true := by simp only [tmM, eP, toN_nI hp, c_46, decide_false, Bool.not_false]
          refine z_iconst cx dX8_tempted_49 ic_1 ?_
          refine z_iload_n cx 2 dX8_tempted_50 rfl rfl ?_
          refine z_ishl cx dX8_tempted_51 ?_
          refine z_goto (tgt := 56) cx dX8_tempted_52 (by decide) ?_
          refine z_ior cx dX8_tempted_56 ?_
          refine z_istore_n cx 1 dX8_tempted_57 rfl hnL (by decide) rfl ?_
          refine z_iinc cx dX8_tempted_58 rfl ic_1 (nI_1 i) hnL (by decide) rfl ?_
          refine z_goto (tgt := 14) cx dX8_tempted_61 (by decide) ?_
          exact z_eq rfl (by rw [tpS, if_pos c46]; rfl) rfl (ih (i + 1) _ _ (by omega) (by omega) (yO.trans O2))
  refine z_aload_n cx 0 dX8_tempted_0 rfl rfl ?_
  refine z_V0i cx vX8_isTonight kX8_141 (c_X8_isTonight (E := E) (t := t) hg σ (by omega) (by omega) eE eT) (by decide) hM0 rfl rfl (Nat.le_of_ble_eq_true rfl) dX8_tempted_1 ?_
  refine z_ifb_ne (tgt := 10) cx dX8_tempted_4 (by decide) (fun c_4 => ?_) (fun c_4 => ?_)
  · have c4 : ¬ inR (σ 1 2) (σ 1 0) = false := by rw [nit_of hM, c_4]; decide
    have htE : t < E := of_decide_eq_true c_4
    refine z_iconst cx dX8_tempted_10 ic_0 ?_
    refine z_istore_n cx 1 dX8_tempted_11 rfl hnL (by decide) rfl ?_
    refine z_iconst cx dX8_tempted_12 ic_0 ?_
    refine z_istore_n cx 2 dX8_tempted_13 rfl hnL (by decide) rfl ?_
    exact loop htE c4 (B + 1) 0 σ _ (by omega) (by omega) ⟨fun _ _ => rfl, fun _ _ _ => rfl⟩
  · have c4 : inR (σ 1 2) (σ 1 0) = false := by rw [nit_of hM, c_4]
    refine z_bipush cx dX8_tempted_7 bi_m4 ?_
    exact z_iret cx hR ⟨_, rfl, by rw [teM, if_pos c4], ⟨fun _ _ => rfl, fun _ _ _ => rfl⟩⟩ dX8_tempted_9
def otM (μ : Mem) (B : Nat) : Int32 := if inR (μ 1 2) (μ 1 0) = false then -4 else if saW μ B = -1 then -1 else pay (1 - μ 1 3) (μ 1 4) (tbF μ B) (saW μ B).toNatClampNeg 5
set_option maxRecDepth 100000 in
set_option maxHeartbeats 4000000 in
theorem c_X8_otherwise {l : Launch} {g : Gx} (hg : ApG 9 g.ad) (σ : Mem) {E B t : Nat} (hM : MH σ E B t) (hr : RsH σ) : CtI l (OM g) 2 mX8_otherwise [.ref (g.ad 0)] σ (fun v σ' => v = otM σ B ∧ OffR σ' σ) := by
  refine ct_of (lv := [some (.ref (g.ad 0)), none]) (okM hg) (by decide +kernel) (Nat.le_of_ble_eq_true rfl) (fun ls h => lvh_entry h rfl 1) ?_
  intro κ hl hnL cx hR
  subst hl
  have cx : Cx κ (OM g) RX8 cX8_otherwise 2 := cx
  have hnL : κ.nL = 2 := hnL
  have hM0 := hM
  obtain ⟨⟨hE, eE⟩, ⟨hB, eB⟩, ht, eT⟩ := hM0
  refine z_aload_n cx 0 dX8_otherwise_0 rfl rfl ?_
  refine z_V0i cx vX8_isTonight kX8_141 (c_X8_isTonight (E := E) (t := t) hg σ (by omega) (by omega) eE eT) (by decide) hM0 rfl rfl (Nat.le_of_ble_eq_true rfl) dX8_otherwise_1 ?_
  refine z_ifb_ne (tgt := 10) cx dX8_otherwise_4 (by decide) (fun c_4 => ?_) (fun c_4 => ?_)
  · have c4 : ¬ inR (σ 1 2) (σ 1 0) = false := by rw [nit_of hM, c_4]; decide
    have htE : t < E := of_decide_eq_true c_4
    refine z_aload_n cx 0 dX8_otherwise_10 rfl rfl ?_
    refine z_V0v cx vX8_takesBids kX8_158 (c_X8_takesBids hg σ hB eB) (by decide) hM0 rfl rfl (Nat.le_of_ble_eq_true rfl) dX8_otherwise_11 ?_
    have eW : ow (upA σ 8 (tkF σ B 5) 1 4) (upA σ 8 (tkF σ B 5) 8) 5 = saW σ B := by
      rw [upA_at]; exact ow_congr _ (by decide) (fun b hb => tkF_tb σ B hb)
    have eY : ∀ (ru : Int32) (j : Nat), j < 5 → pay ru (upA σ 8 (tkF σ B 5) 1 4) (upA σ 8 (tkF σ B 5) 8) j 5 = pay ru (σ 1 4) (tbF σ B) j 5 := by
      intro ru j hj
      rw [upA_at]; exact pay_congr _ _ (tkF_tb σ B hj) (fun b hb => tkF_tb σ B hb)
    have O2 : OffR (upA σ 8 (tkF σ B 5)) σ := ⟨fun _ _ => rfl, fun q _ q2 => upA_ne _ _ q2⟩
    have r1 : upA σ 8 (tkF σ B 5) 1 = σ 1 := rfl
    generalize upA σ 8 (tkF σ B 5) = ρ at *
    refine z_aload_n cx 0 dX8_otherwise_14 rfl rfl ?_
    refine z_V0i cx vX8_buyer kX8_161 (c_X8_buyer hg ρ (by unfold RsH at hr; rw [r1]; exact hr)) (by decide) hM0 rfl rfl (Nat.le_of_ble_eq_true rfl) dX8_otherwise_15 ?_
    rw [eW]
    refine z_istore_n cx 1 dX8_otherwise_18 rfl hnL (by decide) rfl ?_
    refine z_iload_n cx 1 dX8_otherwise_19 rfl rfl ?_
    refine z_iconst cx dX8_otherwise_20 ic_m1 ?_
    refine z_icmp_ne (tgt := 28) cx dX8_otherwise_21 (by decide) (fun c_21 => ?_) (fun c_21 => ?_)
    · obtain ⟨j9, hj9, ej9⟩ := (ow_rng (σ 1 4) (tbF σ B) 5).resolve_left c_21
      have ew : saW σ B = nI j9 := ej9
      refine z_aload_n cx 0 dX8_otherwise_28 rfl rfl ?_
      refine z_iload_n cx 1 dX8_otherwise_29 rfl rfl ?_
      refine z_iconst cx dX8_otherwise_30 ic_1 ?_
      refine z_aload_n cx 0 dX8_otherwise_31 rfl rfl ?_
      refine gX8_7 cx dX8_otherwise_32 ?_
      refine z_iconst cx dX8_otherwise_35 ic_3 ?_
      refine g_ialdN cx 3 (by decide) (fun _ => rfl) rfl (by omega) (by decide) dX8_otherwise_36 ?_
      rw [r1]
      refine z_isub cx dX8_otherwise_37 ?_
      rw [ew]
      refine z_V2i cx vX8_costOf kX8_167 (c_X8_costOf hg ρ hj9 _) (by decide) hM0 rfl rfl (Nat.le_of_ble_eq_true rfl) dX8_otherwise_38 ?_
      rw [eY _ j9 hj9]
      exact z_iret cx hR ⟨_, rfl, by rw [otM, if_neg c4, if_neg c_21, ew, nI_clamp (by omega)], O2⟩ dX8_otherwise_41
    · refine z_iconst cx dX8_otherwise_24 ic_m1 ?_
      refine z_goto (tgt := 41) cx dX8_otherwise_25 (by decide) ?_
      exact z_iret cx hR ⟨_, rfl, by rw [otM, if_neg c4, if_pos c_21], O2⟩ dX8_otherwise_41
  · have c4 : inR (σ 1 2) (σ 1 0) = false := by rw [nit_of hM, c_4]
    refine z_bipush cx dX8_otherwise_7 bi_m4 ?_
    exact z_iret cx hR ⟨_, rfl, by rw [otM, if_pos c4], ⟨fun _ _ => rfl, fun _ _ _ => rfl⟩⟩ dX8_otherwise_9
