def inL (v lo hi : Int32) : Bool := !decide (v < lo) && !decide (hi < v)
theorem inW_pred {E : Nat} (hE : E < 2 ^ 31) (e : Int32) : inW e (nI E - 1) = inR e (nI E) := by
  unfold inW inR
  by_cases h0 : e < 0
  · simp [h0]
  · obtain ⟨j, hj, rfl⟩ := nI_of h0
    congr 2
    cases E with
    | zero =>
      have h1 : (nI 0 - 1 < nI j) := by
        rw [Int32.lt_iff_toInt_lt, nI_toInt hj]
        have : (nI 0 - 1).toInt = -1 := by decide
        omega
      have h2 : nI 0 ≤ nI j := (nI_leI (by decide) hj).mpr (Nat.zero_le _)
      simp [h1, h2]
    | succ E =>
      rw [nI_pred]
      have e1 : (nI E < nI j) ↔ E < j := nI_ltI (by omega) hj
      have e2 : (nI (E + 1) ≤ nI j) ↔ E + 1 ≤ j := nI_leI hE hj
      by_cases q : E < j
      · simp [e1.mpr q, e2.mpr (by omega)]
      · have q2 : ¬ nI E < nI j := fun z => q (e1.mp z)
        have q3 : ¬ nI (E + 1) ≤ nI j := fun z => q (by have := e2.mp z; omega)
        simp [q2, q3]
theorem cpy_s (f h : Nat → Int32) (a b i : Nat) : upd (va_cpy f h a b i) (b + i) (f (a + i)) = va_cpy f h a b (i + 1) := by
  funext k
  simp only [upd, va_cpy]
  by_cases q : k = b + i
  · subst q; rw [if_pos rfl, if_pos (by omega)]; congr 1; omega
  · rw [if_neg q]
    by_cases q2 : b ≤ k ∧ k < b + i
    · rw [if_pos q2, if_pos (by omega)]
    · rw [if_neg q2, if_neg (by omega)]
theorem cpy_0 (f h : Nat → Int32) (a b : Nat) : va_cpy f h a b 0 = h := by
  funext k
  simp only [va_cpy]
  rw [if_neg (by omega)]
def MH (μ : Mem) (E B t : Nat) : Prop := (E ≤ 7 ∧ μ 1 0 = nI E) ∧ (B ≤ 5 ∧ μ 1 1 = nI B) ∧ t ≤ E ∧ μ 1 2 = nI t
def mxI (a b : Int32) : Int32 := if a ≤ b then b else a
def mnI (a b : Int32) : Int32 := if b ≤ a then b else a
/-- the letter at a place, -1 behind the end -/
def lat (tx : Nat → Int32) (L i : Nat) : Int32 := if i < L then tx i else -1
def mso (c : Int32) : Int32 := if c < 0 then 0 else if inL c 97 122 = true then 1 else if inL c 48 57 = true then 2 else if c = 59 then 3 else 4
set_option maxRecDepth 100000 in
set_option maxHeartbeats 4000000 in
theorem c_X8_in {l : Launch} {g : Gx} (hg : ApG 9 g.ad) (σ : Mem) (v lo hi : Int32) : Ct l (OM g) 0 mX8_in [.int v, .int lo, .int hi] σ (some (.int (bI (inL v lo hi)))) σ := by
  refine ct_of (lv := [some (.int v), some (.int lo), some (.int hi)]) (okM hg) (by decide +kernel) (Nat.le_of_ble_eq_true rfl) (fun ls h => lvh_entry h rfl 0) ?_
  intro κ hl hnL cx hR
  subst hl
  have cx : Cx κ (OM g) RX8 cX8_in 0 := cx
  have hnL : κ.nL = 3 := hnL
  refine z_iload_n cx 0 dX8_in_0 rfl rfl ?_
  refine z_iload_n cx 1 dX8_in_1 rfl rfl ?_
  refine z_icmp_lt (tgt := 14) cx dX8_in_2 (by decide) (fun c_2 => ?_) (fun c_2 => ?_)
  · refine z_iconst cx dX8_in_14 ic_0 ?_
    exact z_zret cx hR rfl ⟨by simp [inL, bI, c_2], rfl⟩ dX8_in_15
  · refine z_iload_n cx 0 dX8_in_5 rfl rfl ?_
    refine z_iload_n cx 2 dX8_in_6 rfl rfl ?_
    refine z_icmp_gt (tgt := 14) cx dX8_in_7 (by decide) (fun c_7 => ?_) (fun c_7 => ?_)
    · refine z_iconst cx dX8_in_14 ic_0 ?_
      exact z_zret cx hR rfl ⟨by simp [inL, bI, c_2, c_7], rfl⟩ dX8_in_15
    · refine z_iconst cx dX8_in_10 ic_1 ?_
      refine z_goto (tgt := 15) cx dX8_in_11 (by decide) ?_
      exact z_zret cx hR rfl ⟨by simp [inL, bI, c_2, c_7], rfl⟩ dX8_in_15
set_option maxRecDepth 100000 in
set_option maxHeartbeats 4000000 in
theorem c_X8_has {l : Launch} {g : Gx} (hg : ApG 9 g.ad) (σ : Mem) (k w : Nat) : Ct l (OM g) 0 mX8_has [.int (nI k), .int (nI w)] σ (some (.int (bI (bt5 k w)))) σ := by
  refine ct_of (lv := [some (.int (nI k)), some (.int (nI w))]) (okM hg) (by decide +kernel) (Nat.le_of_ble_eq_true rfl) (fun ls h => lvh_entry h rfl 0) ?_
  intro κ hl hnL cx hR
  subst hl
  have cx : Cx κ (OM g) RX8 cX8_has 0 := cx
  have hnL : κ.nL = 2 := hnL
  refine z_iload_n cx 0 dX8_has_0 rfl rfl ?_
  refine z_iload_n cx 1 dX8_has_1 rfl rfl ?_
  refine z_ishr cx dX8_has_2 ?_
  refine z_iconst cx dX8_has_3 ic_1 ?_
  refine z_iand cx dX8_has_4 ?_
  refine z_iconst cx dX8_has_5 ic_1 ?_
  refine z_icmp_ne (tgt := 13) cx dX8_has_6 (by decide) (fun c_6 => ?_) (fun c_6 => ?_)
  · refine z_iconst cx dX8_has_13 ic_0 ?_
    exact z_zret cx hR rfl ⟨by simp only [bt5, c_6, decide_true, decide_false, bI, if_true, Bool.false_eq_true, if_false], rfl⟩ dX8_has_14
  · refine z_iconst cx dX8_has_9 ic_1 ?_
    refine z_goto (tgt := 14) cx dX8_has_10 (by decide) ?_
    exact z_zret cx hR rfl ⟨by simp only [bt5, c_6, decide_true, decide_false, bI, if_true, Bool.false_eq_true, if_false], rfl⟩ dX8_has_14
set_option maxRecDepth 100000 in
set_option maxHeartbeats 4000000 in
theorem c_X8_most {l : Launch} {g : Gx} (hg : ApG 9 g.ad) (σ : Mem) (a b : Int32) : Ct l (OM g) 0 mX8_most [.int a, .int b] σ (some (.int (mxI a b))) σ := by
  refine ct_of (lv := [some (.int a), some (.int b)]) (okM hg) (by decide +kernel) (Nat.le_of_ble_eq_true rfl) (fun ls h => lvh_entry h rfl 0) ?_
  intro κ hl hnL cx hR
  subst hl
  have cx : Cx κ (OM g) RX8 cX8_most 0 := cx
  have hnL : κ.nL = 2 := hnL
  refine z_iload_n cx 0 dX8_most_0 rfl rfl ?_
  refine z_iload_n cx 1 dX8_most_1 rfl rfl ?_
  refine z_icmp_le (tgt := 9) cx dX8_most_2 (by decide) (fun c_2 => ?_) (fun c_2 => ?_)
  · refine z_iload_n cx 1 dX8_most_9 rfl rfl ?_
    exact z_iret cx hR ⟨by simp only [mxI, c_2, if_true, if_false], rfl⟩ dX8_most_10
  · refine z_iload_n cx 0 dX8_most_5 rfl rfl ?_
    refine z_goto (tgt := 10) cx dX8_most_6 (by decide) ?_
    exact z_iret cx hR ⟨by simp only [mxI, c_2, if_true, if_false], rfl⟩ dX8_most_10
set_option maxRecDepth 100000 in
set_option maxHeartbeats 4000000 in
theorem c_X8_least {l : Launch} {g : Gx} (hg : ApG 9 g.ad) (σ : Mem) (a b : Int32) : Ct l (OM g) 0 mX8_least [.int a, .int b] σ (some (.int (mnI a b))) σ := by
  refine ct_of (lv := [some (.int a), some (.int b)]) (okM hg) (by decide +kernel) (Nat.le_of_ble_eq_true rfl) (fun ls h => lvh_entry h rfl 0) ?_
  intro κ hl hnL cx hR
  subst hl
  have cx : Cx κ (OM g) RX8 cX8_least 0 := cx
  have hnL : κ.nL = 2 := hnL
  refine z_iload_n cx 0 dX8_least_0 rfl rfl ?_
  refine z_iload_n cx 1 dX8_least_1 rfl rfl ?_
  refine z_icmp_ge (tgt := 9) cx dX8_least_2 (by decide) (fun c_2 => ?_) (fun c_2 => ?_)
  · refine z_iload_n cx 1 dX8_least_9 rfl rfl ?_
    exact z_iret cx hR ⟨by simp only [mnI, c_2, if_true, if_false], rfl⟩ dX8_least_10
  · refine z_iload_n cx 0 dX8_least_5 rfl rfl ?_
    refine z_goto (tgt := 10) cx dX8_least_6 (by decide) ?_
    exact z_iret cx hR ⟨by simp only [mnI, c_2, if_true, if_false], rfl⟩ dX8_least_10
set_option maxRecDepth 100000 in
set_option maxHeartbeats 4000000 in
theorem c_X8_copies {l : Launch} {g : Gx} (hg : ApG 9 g.ad) (σ : Mem) {q0 q1 n0 n1 a b : Nat} (hq0 : q0 < 9) (hq1 : q1 < 9) (hE0 : ∀ f, mE g q0 f = .inl (g.cI, n0, .inl f)) (hE1 : ∀ f, mE g q1 f = .inl (g.cI, n1, .inl f)) (hne : q0 ≠ q1) (h0 : a + 100 ≤ n0) (h1 : b + 100 ≤ n1) (hn0 : n0 ≤ 1000) (hn1 : n1 ≤ 1000) : Ct l (OM g) 0 mX8_copies [.ref (g.ad q0), .int (nI a), .ref (g.ad q1), .int (nI b)] σ none (upA σ q1 (va_cpy (σ q0) (σ q1) a b 100)) := by
  refine ct_of (lv := [some (.ref (g.ad q0)), some (.int (nI a)), some (.ref (g.ad q1)), some (.int (nI b)), none]) (okM hg) (by decide +kernel) (Nat.le_of_ble_eq_true rfl) (fun ls h => lvh_entry h rfl 1) ?_
  intro κ hl hnL cx hR
  subst hl
  have cx : Cx κ (OM g) RX8 cX8_copies 0 := cx
  have hnL : κ.nL = 5 := hnL
  have loop : ∀ (k i : Nat), 100 + 1 ≤ i + k → i ≤ 100 → Z κ (OM g) (upA σ q1 (va_cpy (σ q0) (σ q1) a b i)) 3 [some (.ref (g.ad q0)), some (.int (nI a)), some (.ref (g.ad q1)), some (.int (nI b)), some (.int (nI i))] [] := by
    intro k
    induction k with
    | zero => intro i h1 h2; exact absurd h1 (by omega)
    | succ k ih =>
      intro i g1 g2
      refine z_iload cx dX8_copies_3 rfl ?_
      refine z_bipush cx dX8_copies_5 bi_100 ?_
      refine z_icmp_ge (tgt := 28) cx dX8_copies_7 (by decide) (fun c_7 => ?_) (fun c_7 => ?_)
      · have c7 := (nI_leI (a := 100) (by decide) (by omega)).mp c_7
        have e9 : i = 100 := by omega
        subst e9
        exact z_vret cx hR ⟨rfl, rfl⟩ dX8_copies_28
      · have c7 : ¬ 100 ≤ i := fun z => c_7 ((nI_leI (a := 100) (by decide) (by omega)).mpr z)
        refine z_aload_n cx 2 dX8_copies_10 rfl rfl ?_
        refine z_iload_n cx 3 dX8_copies_11 rfl rfl ?_
        refine z_iload cx dX8_copies_12 rfl ?_
        refine z_iadd cx dX8_copies_14 ?_
        refine z_aload_n cx 0 dX8_copies_15 rfl rfl ?_
        refine z_iload_n cx 1 dX8_copies_16 rfl rfl ?_
        refine z_iload cx dX8_copies_17 rfl ?_
        refine z_iadd cx dX8_copies_19 ?_
        refine g_ialdN cx (a + i) hq0 hE0 (nI_add a i) (by omega) hn0 dX8_copies_20 ?_
        rw [upA_ne _ _ hne]
        refine g_iastN cx (b + i) hq1 hE1 (nI_add b i) (by omega) hn1 dX8_copies_21 ?_
        refine z_iinc cx dX8_copies_22 rfl ic_1 (nI_1 i) hnL (by decide) rfl ?_
        refine z_goto (tgt := 3) cx dX8_copies_25 (by decide) ?_
        exact z_eq (by rw [up2_upA, cpy_s]) rfl rfl (ih (i + 1) (by omega) (by omega))
  refine z_iconst cx dX8_copies_0 ic_0 ?_
  refine z_istore cx dX8_copies_1 hnL (by decide) rfl ?_
  exact z_eq (by rw [cpy_0, upA_self]) rfl rfl (loop 101 0 (by omega) (by omega))
set_option maxRecDepth 100000 in
set_option maxHeartbeats 4000000 in
theorem c_X8_eveningAt {l : Launch} {g : Gx} (hg : ApG 9 g.ad) (σ : Mem) (e : Nat) : Ct l (OM g) 0 mX8_eveningAt [.int (nI e)] σ (some (.int (nI (7 + 9 * e)))) σ := by
  refine ct_of (lv := [some (.int (nI e))]) (okM hg) (by decide +kernel) (Nat.le_of_ble_eq_true rfl) (fun ls h => lvh_entry h rfl 0) ?_
  intro κ hl hnL cx hR
  subst hl
  have cx : Cx κ (OM g) RX8 cX8_eveningAt 0 := cx
  have hnL : κ.nL = 1 := hnL
  refine z_bipush cx dX8_eveningAt_0 bi_7 ?_
  refine z_bipush cx dX8_eveningAt_2 bi_9 ?_
  refine z_iload_n cx 0 dX8_eveningAt_4 rfl rfl ?_
  refine z_imul cx dX8_eveningAt_5 ?_
  refine z_iadd cx dX8_eveningAt_6 ?_
  exact z_iret cx hR ⟨by rw [show (9 : Int32) = nI 9 from rfl, show (7 : Int32) = nI 7 from rfl, pk_mul, nI_add], rfl⟩ dX8_eveningAt_7
set_option maxRecDepth 100000 in
set_option maxHeartbeats 4000000 in
theorem c_X8_bidderAt {l : Launch} {g : Gx} (hg : ApG 9 g.ad) (σ : Mem) (e : Nat) : Ct l (OM g) 0 mX8_bidderAt [.int (nI e)] σ (some (.int (nI (70 + 6 * e)))) σ := by
  refine ct_of (lv := [some (.int (nI e))]) (okM hg) (by decide +kernel) (Nat.le_of_ble_eq_true rfl) (fun ls h => lvh_entry h rfl 0) ?_
  intro κ hl hnL cx hR
  subst hl
  have cx : Cx κ (OM g) RX8 cX8_bidderAt 0 := cx
  have hnL : κ.nL = 1 := hnL
  refine z_bipush cx dX8_bidderAt_0 bi_70 ?_
  refine z_bipush cx dX8_bidderAt_2 bi_6 ?_
  refine z_iload_n cx 0 dX8_bidderAt_4 rfl rfl ?_
  refine z_imul cx dX8_bidderAt_5 ?_
  refine z_iadd cx dX8_bidderAt_6 ?_
  exact z_iret cx hR ⟨by rw [show (6 : Int32) = nI 6 from rfl, show (70 : Int32) = nI 70 from rfl, pk_mul, nI_add], rfl⟩ dX8_bidderAt_7
set_option maxRecDepth 100000 in
set_option maxHeartbeats 4000000 in
theorem c_X8_isEvening {l : Launch} {g : Gx} (hg : ApG 9 g.ad) (σ : Mem) {E : Nat} (hE : E < 2 ^ 31) (eE : σ 1 0 = nI E) (e : Int32) : Ct l (OM g) 1 mX8_isEvening [.ref (g.ad 0), .int e] σ (some (.int (bI (inR e (nI E))))) σ := by
  refine ct_of (lv := [some (.ref (g.ad 0)), some (.int e)]) (okM hg) (by decide +kernel) (Nat.le_of_ble_eq_true rfl) (fun ls h => lvh_entry h rfl 0) ?_
  intro κ hl hnL cx hR
  subst hl
  have cx : Cx κ (OM g) RX8 cX8_isEvening 1 := cx
  have hnL : κ.nL = 2 := hnL
  refine z_iload_n cx 1 dX8_isEvening_0 rfl rfl ?_
  refine z_iconst cx dX8_isEvening_1 ic_0 ?_
  refine z_aload_n cx 0 dX8_isEvening_2 rfl rfl ?_
  refine gX8_7 cx dX8_isEvening_3 ?_
  refine z_iconst cx dX8_isEvening_6 ic_0 ?_
  refine g_ialdN cx 0 (by decide) (fun _ => rfl) rfl (by omega) (by decide) dX8_isEvening_7 ?_
  rw [eE]
  refine z_iconst cx dX8_isEvening_8 ic_1 ?_
  refine z_isub cx dX8_isEvening_9 ?_
  refine z_S3i cx sX8_in kX8_35 (c_X8_in hg σ _ _ _) (by decide) (Nat.le_of_ble_eq_true rfl) dX8_isEvening_10 ?_
  exact z_zret cx hR (nar_b _) ⟨by rw [← inW_pred hE e]; rfl, rfl⟩ dX8_isEvening_13
set_option maxRecDepth 100000 in
set_option maxHeartbeats 4000000 in
theorem c_X8_isBidder {l : Launch} {g : Gx} (hg : ApG 9 g.ad) (σ : Mem) {E : Nat} (hE : E < 2 ^ 31) (eE : σ 1 1 = nI E) (e : Int32) : Ct l (OM g) 1 mX8_isBidder [.ref (g.ad 0), .int e] σ (some (.int (bI (inR e (nI E))))) σ := by
  refine ct_of (lv := [some (.ref (g.ad 0)), some (.int e)]) (okM hg) (by decide +kernel) (Nat.le_of_ble_eq_true rfl) (fun ls h => lvh_entry h rfl 0) ?_
  intro κ hl hnL cx hR
  subst hl
  have cx : Cx κ (OM g) RX8 cX8_isBidder 1 := cx
  have hnL : κ.nL = 2 := hnL
  refine z_iload_n cx 1 dX8_isBidder_0 rfl rfl ?_
  refine z_iconst cx dX8_isBidder_1 ic_0 ?_
  refine z_aload_n cx 0 dX8_isBidder_2 rfl rfl ?_
  refine gX8_7 cx dX8_isBidder_3 ?_
  refine z_iconst cx dX8_isBidder_6 ic_1 ?_
  refine g_ialdN cx 1 (by decide) (fun _ => rfl) rfl (by omega) (by decide) dX8_isBidder_7 ?_
  rw [eE]
  refine z_iconst cx dX8_isBidder_8 ic_1 ?_
  refine z_isub cx dX8_isBidder_9 ?_
  refine z_S3i cx sX8_in kX8_35 (c_X8_in hg σ _ _ _) (by decide) (Nat.le_of_ble_eq_true rfl) dX8_isBidder_10 ?_
  exact z_zret cx hR (nar_b _) ⟨by rw [← inW_pred hE e]; rfl, rfl⟩ dX8_isBidder_13
set_option maxRecDepth 100000 in
set_option maxHeartbeats 4000000 in
theorem c_X8_isTonight {l : Launch} {g : Gx} (hg : ApG 9 g.ad) (σ : Mem) {E t : Nat} (hE : E < 2 ^ 31) (ht : t < 2 ^ 31) (eE : σ 1 0 = nI E) (eT : σ 1 2 = nI t) : Ct l (OM g) 0 mX8_isTonight [.ref (g.ad 0)] σ (some (.int (bI (decide (t < E))))) σ := by
  refine ct_of (lv := [some (.ref (g.ad 0))]) (okM hg) (by decide +kernel) (Nat.le_of_ble_eq_true rfl) (fun ls h => lvh_entry h rfl 0) ?_
  intro κ hl hnL cx hR
  subst hl
  have cx : Cx κ (OM g) RX8 cX8_isTonight 0 := cx
  have hnL : κ.nL = 1 := hnL
  refine z_aload_n cx 0 dX8_isTonight_0 rfl rfl ?_
  refine gX8_7 cx dX8_isTonight_1 ?_
  refine z_iconst cx dX8_isTonight_4 ic_2 ?_
  refine g_ialdN cx 2 (by decide) (fun _ => rfl) rfl (by omega) (by decide) dX8_isTonight_5 ?_
  refine z_aload_n cx 0 dX8_isTonight_6 rfl rfl ?_
  refine gX8_7 cx dX8_isTonight_7 ?_
  refine z_iconst cx dX8_isTonight_10 ic_0 ?_
  refine g_ialdN cx 0 (by decide) (fun _ => rfl) rfl (by omega) (by decide) dX8_isTonight_11 ?_
  rw [eE, eT]
  refine z_icmp_ge (tgt := 19) cx dX8_isTonight_12 (by decide) (fun c_12 => ?_) (fun c_12 => ?_)
  · have c12 : ¬ t < E := Nat.not_lt.mpr ((nI_leI hE ht).mp c_12)
    refine z_iconst cx dX8_isTonight_19 ic_0 ?_
    exact z_zret cx hR rfl ⟨by simp [bI, c12], rfl⟩ dX8_isTonight_20
  · have c12 : t < E := Nat.not_le.mp (fun z => c_12 ((nI_leI hE ht).mpr z))
    refine z_iconst cx dX8_isTonight_15 ic_1 ?_
    refine z_goto (tgt := 20) cx dX8_isTonight_16 (by decide) ?_
    exact z_zret cx hR rfl ⟨by simp [bI, c12], rfl⟩ dX8_isTonight_20
def wrM (c : Int32) (L : Nat) : Int32 := if inW c 255 = false then -3 else if L = 160 then -5 else 0
set_option maxRecDepth 100000 in
set_option maxHeartbeats 4000000 in
theorem c_X8_write {l : Launch} {g : Gx} (hg : ApG 9 g.ad) (σ : Mem) {L : Nat} (hL : L ≤ 160) (eL : σ 0 7 = nI L) (c : Int32) : CtI l (OM g) 1 mX8_write [.ref (g.ad 0), .int c] σ (fun v σ' => (wrM c L = 0 → v = nI (L + 1) ∧ σ' = up2 (up2 σ 6 L c) 0 7 (nI (L + 1))) ∧ (¬ wrM c L = 0 → v = wrM c L ∧ σ' = σ)) := by
  refine ct_of (lv := [some (.ref (g.ad 0)), some (.int c)]) (okM hg) (by decide +kernel) (Nat.le_of_ble_eq_true rfl) (fun ls h => lvh_entry h rfl 0) ?_
  intro κ hl hnL cx hR
  subst hl
  have cx : Cx κ (OM g) RX8 cX8_write 1 := cx
  have hnL : κ.nL = 2 := hnL
  refine z_iload_n cx 1 dX8_write_0 rfl rfl ?_
  refine z_iconst cx dX8_write_1 ic_0 ?_
  refine z_sipush cx dX8_write_2 si_255 ?_
  refine z_S3i cx sX8_in kX8_35 (c_X8_in hg σ _ _ _) (by decide) (Nat.le_of_ble_eq_true rfl) dX8_write_5 ?_
  refine z_ifb_ne (tgt := 14) cx dX8_write_8 (by decide) (fun c_8 => ?_) (fun c_8 => ?_)
  · have c8 : inW c 255 = true := c_8
    refine z_aload_n cx 0 dX8_write_14 rfl rfl ?_
    refine gX8_39 cx dX8_write_15 ?_
    refine z_sipush cx dX8_write_18 si_160 ?_
    rw [eL]
    refine z_icmp_ne (tgt := 27) cx dX8_write_21 (by decide) (fun c_21 => ?_) (fun c_21 => ?_)
    · have c21 : ¬ L = 160 := fun z => c_21 (by rw [z]; rfl)
      refine z_aload_n cx 0 dX8_write_27 rfl rfl ?_
      refine gX8_26 cx dX8_write_28 ?_
      refine z_aload_n cx 0 dX8_write_31 rfl rfl ?_
      refine gX8_39 cx dX8_write_32 ?_
      refine z_iload_n cx 1 dX8_write_35 rfl rfl ?_
      refine g_iastN cx L (by decide) (fun _ => rfl) eL (by omega) (by decide) dX8_write_36 ?_
      refine z_aload_n cx 0 dX8_write_37 rfl rfl ?_
      refine z_dup cx dX8_write_38 rfl ?_
      refine gX8_39 cx dX8_write_39 ?_
      refine z_iconst cx dX8_write_42 ic_1 ?_
      refine z_iadd cx dX8_write_43 ?_
      rw [show (up2 σ 6 L c) 0 7 + 1 = nI (L + 1) from (congrArg (· + 1) eL).trans (nI_1 L)]
      refine pX8_39 cx dX8_write_44 ?_
      refine z_aload_n cx 0 dX8_write_47 rfl rfl ?_
      refine gX8_39 cx dX8_write_48 ?_
      have e9 : wrM c L = 0 := by rw [wrM, if_neg (by rw [c8]; decide), if_neg c21]
      exact z_iret cx hR ⟨_, rfl, fun _ => ⟨rfl, rfl⟩, fun z => absurd e9 z⟩ dX8_write_51
    · have c21 : L = 160 := (nI_eq (b := 160) (by omega) (by decide)).mp c_21
      refine z_bipush cx dX8_write_24 bi_m5 ?_
      have e9 : wrM c L = -5 := by rw [wrM, if_neg (by rw [c8]; decide), if_pos c21]
      exact z_iret cx hR ⟨_, rfl, fun z => absurd (e9.symm.trans z) (by decide), fun _ => ⟨e9.symm, rfl⟩⟩ dX8_write_26
  · have c8 : inW c 255 = false := c_8
    refine z_bipush cx dX8_write_11 bi_m3 ?_
    have e9 : wrM c L = -3 := by rw [wrM, if_pos c8]
    exact z_iret cx hR ⟨_, rfl, fun z => absurd (e9.symm.trans z) (by decide), fun _ => ⟨e9.symm, rfl⟩⟩ dX8_write_13
set_option maxRecDepth 100000 in
set_option maxHeartbeats 4000000 in
theorem c_X8_erase {l : Launch} {g : Gx} (hg : ApG 9 g.ad) (σ : Mem) : Ct l (OM g) 0 mX8_erase [.ref (g.ad 0)] σ (some (.int (σ 0 7))) (up2 σ 0 7 0) := by
  refine ct_of (lv := [some (.ref (g.ad 0)), none]) (okM hg) (by decide +kernel) (Nat.le_of_ble_eq_true rfl) (fun ls h => lvh_entry h rfl 1) ?_
  intro κ hl hnL cx hR
  subst hl
  have cx : Cx κ (OM g) RX8 cX8_erase 0 := cx
  have hnL : κ.nL = 2 := hnL
  refine z_aload_n cx 0 dX8_erase_0 rfl rfl ?_
  refine gX8_39 cx dX8_erase_1 ?_
  refine z_istore_n cx 1 dX8_erase_4 rfl hnL (by decide) rfl ?_
  refine z_aload_n cx 0 dX8_erase_5 rfl rfl ?_
  refine z_iconst cx dX8_erase_6 ic_0 ?_
  refine pX8_39 cx dX8_erase_7 ?_
  refine z_iload_n cx 1 dX8_erase_10 rfl rfl ?_
  exact z_iret cx hR ⟨rfl, rfl⟩ dX8_erase_11
set_option maxRecDepth 100000 in
set_option maxHeartbeats 4000000 in
theorem c_X8_letterAt {l : Launch} {g : Gx} (hg : ApG 9 g.ad) (σ : Mem) {L i : Nat} (hL : L ≤ 160) (eL : σ 0 7 = nI L) (hi : i < 2 ^ 31) : Ct l (OM g) 0 mX8_letterAt [.ref (g.ad 0), .int (nI i)] σ (some (.int (lat (σ 6) L i))) σ := by
  refine ct_of (lv := [some (.ref (g.ad 0)), some (.int (nI i))]) (okM hg) (by decide +kernel) (Nat.le_of_ble_eq_true rfl) (fun ls h => lvh_entry h rfl 0) ?_
  intro κ hl hnL cx hR
  subst hl
  have cx : Cx κ (OM g) RX8 cX8_letterAt 0 := cx
  have hnL : κ.nL = 2 := hnL
  refine z_iload_n cx 1 dX8_letterAt_0 rfl rfl ?_
  refine z_aload_n cx 0 dX8_letterAt_1 rfl rfl ?_
  refine gX8_39 cx dX8_letterAt_2 ?_
  rw [eL]
  refine z_icmp_ge (tgt := 17) cx dX8_letterAt_5 (by decide) (fun c_5 => ?_) (fun c_5 => ?_)
  · have c5 : ¬ i < L := Nat.not_lt.mpr ((nI_leI (by omega) hi).mp c_5)
    refine z_iconst cx dX8_letterAt_17 ic_m1 ?_
    exact z_iret cx hR ⟨by simp only [lat, c5, if_true, if_false], rfl⟩ dX8_letterAt_18
  · have c5 : i < L := Nat.not_le.mp (fun z => c_5 ((nI_leI (by omega) hi).mpr z))
    refine z_aload_n cx 0 dX8_letterAt_8 rfl rfl ?_
    refine gX8_26 cx dX8_letterAt_9 ?_
    refine z_iload_n cx 1 dX8_letterAt_12 rfl rfl ?_
    refine g_ialdN cx i (by decide) (fun _ => rfl) rfl (by omega) (by decide) dX8_letterAt_13 ?_
    refine z_goto (tgt := 18) cx dX8_letterAt_14 (by decide) ?_
    exact z_iret cx hR ⟨by simp only [lat, c5, if_true, if_false], rfl⟩ dX8_letterAt_18
set_option maxRecDepth 100000 in
set_option maxHeartbeats 4000000 in
theorem c_X8_sortOf {l : Launch} {g : Gx} (hg : ApG 9 g.ad) (σ : Mem) (c : Int32) : Ct l (OM g) 1 mX8_sortOf [.int c] σ (some (.int (mso c))) σ := by
  refine ct_of (lv := [some (.int c)]) (okM hg) (by decide +kernel) (Nat.le_of_ble_eq_true rfl) (fun ls h => lvh_entry h rfl 0) ?_
  intro κ hl hnL cx hR
  subst hl
  have cx : Cx κ (OM g) RX8 cX8_sortOf 1 := cx
  have hnL : κ.nL = 1 := hnL
  refine z_iload_n cx 0 dX8_sortOf_0 rfl rfl ?_
  refine z_if_ge (tgt := 8) cx dX8_sortOf_1 (by decide) (fun c_1 => ?_) (fun c_1 => ?_)
  · refine z_iload_n cx 0 dX8_sortOf_8 rfl rfl ?_
    refine z_bipush cx dX8_sortOf_9 bi_97 ?_
    refine z_bipush cx dX8_sortOf_11 bi_122 ?_
    refine z_S3i cx sX8_in kX8_35 (c_X8_in hg σ _ _ _) (by decide) (Nat.le_of_ble_eq_true rfl) dX8_sortOf_13 ?_
    refine z_ifb_eq (tgt := 23) cx dX8_sortOf_16 (by decide) (fun c_16 => ?_) (fun c_16 => ?_)
    · refine z_iload_n cx 0 dX8_sortOf_23 rfl rfl ?_
      refine z_bipush cx dX8_sortOf_24 bi_48 ?_
      refine z_bipush cx dX8_sortOf_26 bi_57 ?_
      refine z_S3i cx sX8_in kX8_35 (c_X8_in hg σ _ _ _) (by decide) (Nat.le_of_ble_eq_true rfl) dX8_sortOf_28 ?_
      refine z_ifb_eq (tgt := 38) cx dX8_sortOf_31 (by decide) (fun c_31 => ?_) (fun c_31 => ?_)
      · refine z_iload_n cx 0 dX8_sortOf_38 rfl rfl ?_
        refine z_bipush cx dX8_sortOf_39 bi_59 ?_
        refine z_icmp_ne (tgt := 48) cx dX8_sortOf_41 (by decide) (fun c_41 => ?_) (fun c_41 => ?_)
        · refine z_iconst cx dX8_sortOf_48 ic_4 ?_
          exact z_iret cx hR ⟨by rw [mso, if_neg (Int32.not_lt.mpr c_1), if_neg (by rw [c_16]; decide), if_neg (by rw [c_31]; decide), if_neg c_41], rfl⟩ dX8_sortOf_49
        · refine z_iconst cx dX8_sortOf_44 ic_3 ?_
          refine z_goto (tgt := 49) cx dX8_sortOf_45 (by decide) ?_
          exact z_iret cx hR ⟨by rw [mso, if_neg (Int32.not_lt.mpr c_1), if_neg (by rw [c_16]; decide), if_neg (by rw [c_31]; decide), if_pos c_41], rfl⟩ dX8_sortOf_49
      · refine z_iconst cx dX8_sortOf_34 ic_2 ?_
        refine z_goto (tgt := 49) cx dX8_sortOf_35 (by decide) ?_
        exact z_iret cx hR ⟨by rw [mso, if_neg (Int32.not_lt.mpr c_1), if_neg (by rw [c_16]; decide), if_pos c_31], rfl⟩ dX8_sortOf_49
    · refine z_iconst cx dX8_sortOf_19 ic_1 ?_
      refine z_goto (tgt := 49) cx dX8_sortOf_20 (by decide) ?_
      exact z_iret cx hR ⟨by rw [mso, if_neg (Int32.not_lt.mpr c_1), if_pos c_16], rfl⟩ dX8_sortOf_49
  · refine z_iconst cx dX8_sortOf_4 ic_0 ?_
    refine z_goto (tgt := 49) cx dX8_sortOf_5 (by decide) ?_
    exact z_iret cx hR ⟨by rw [mso, if_pos (Int32.not_le.mp c_1)], rfl⟩ dX8_sortOf_49
theorem mso_1 {c : Int32} (h : ¬ c < 0) : mso c = 1 ↔ srt c = 1 := by
  unfold mso srt inL
  rw [if_neg h]
  by_cases q1 : c < 97 <;> by_cases q2 : 122 < c <;> by_cases q3 : c < 48 <;> by_cases q4 : 57 < c <;> by_cases q5 : c = 59 <;> simp [q1, q2, q3, q4, q5, -Int32.not_lt] <;> (try decide)
theorem mso_2 {c : Int32} (h : ¬ c < 0) : mso c = 2 ↔ srt c = 2 := by
  unfold mso srt inL
  rw [if_neg h]
  by_cases q1 : c < 97 <;> by_cases q2 : 122 < c <;> by_cases q3 : c < 48 <;> by_cases q4 : 57 < c <;> by_cases q5 : c = 59 <;> simp [q1, q2, q3, q4, q5, -Int32.not_lt] <;> (try decide)
theorem mso_0 {c : Int32} : mso c = 0 ↔ c < 0 := by
  unfold mso
  by_cases h : c < 0
  · simp [h]
  · rw [if_neg h]
    split
    · simp [h]
    · split
      · simp [h]
      · split <;> simp [h]
theorem mso_m1 : mso (-1) = 0 := by decide
/-- the token that begins at b is read -/
def TkQ (μ : Mem) (tx : Nat → Int32) (L b : Nat) : Prop := μ 0 12 = nI b ∧ μ 0 11 = nI (tkE tx L b) ∧ μ 0 13 = nI (tkE tx L b - b) ∧ μ 0 14 = mso (lat tx L b)
def OffK (μ' μ : Mem) : Prop := (∀ k, k ≠ 11 → k ≠ 12 → k ≠ 13 → k ≠ 14 → μ' 0 k = μ 0 k) ∧ ∀ q, q ≠ 0 → μ' q = μ q
def TxH (μ : Mem) (L : Nat) : Prop := L ≤ 160 ∧ μ 0 7 = nI L ∧ ∀ i, i < L → ¬ μ 6 i < 0
set_option maxRecDepth 100000 in
set_option maxHeartbeats 4000000 in
theorem c_X8_token {l : Launch} {g : Gx} (hg : ApG 9 g.ad) (σ : Mem) {L p : Nat} (hT : TxH σ L) (hp : p ≤ L) (eP : σ 0 11 = nI p) : CtV l (OM g) 2 mX8_token [.ref (g.ad 0)] σ (fun σ' => TkQ σ' (σ 6) L (tkB (σ 6) L p) ∧ OffK σ' σ) := by
  refine ct_of (lv := [some (.ref (g.ad 0)), none]) (okM hg) (by decide +kernel) (Nat.le_of_ble_eq_true rfl) (fun ls h => lvh_entry h rfl 1) ?_
  intro κ hl hnL cx hR
  subst hl
  have cx : Cx κ (OM g) RX8 cX8_token 2 := cx
  have hnL : κ.nL = 2 := hnL
  obtain ⟨hL, eL, hpos⟩ := hT
  have hB := tkB_in (tx := σ 6) hp
  have hE := tkE_in (tx := σ 6) hB.2
  generalize hb : tkB (σ 6) L p = b at *
  -- the row goes on at x, or has ended there
  have loop2 : ∀ (f x : Nat) (mo : Bool), x + f = L → b < x → b < L → (mo = true → x < L) → (mo = true → exT (σ 6) L (srt (σ 6 b)) (f - 1) (x + 1) = tkE (σ 6) L b ∧ srt (σ 6 b) ≠ 0) → (mo = false → tkE (σ 6) L b = x) → ∀ τ : Mem, OffK τ σ → τ 0 12 = nI b → τ 0 11 = nI x → τ 0 13 = nI (x - b) → τ 0 14 = mso (σ 6 b) → Z κ (OM g) τ 67 [some (.ref (g.ad 0)), some (.int (bI mo))] [] := by
    intro f
    induction f with
    | zero =>
      intro x mo h1 h2 h3 h4 h5 h6 τ hO e12 e11 e13 e14
      have hm : mo = false := by cases mo; rfl; exact absurd (h4 rfl) (by omega)
      subst hm
      refine z_iload_n cx 1 dX8_token_67 rfl rfl ?_
      refine z_ifb_eq (tgt := 134) cx dX8_token_68 (by decide) (fun c_68 => ?_) (fun c_68 => ?_)
      · exact z_vret cx hR ⟨rfl, ⟨e12, by rw [h6 rfl]; exact e11, by rw [h6 rfl]; exact e13, by rw [e14, lat, if_pos h3]⟩, hO⟩ dX8_token_134
      · exact absurd c_68 (by decide)
    | succ f ih =>
      intro x mo h1 h2 h3 h4 h5 h6 τ hO e12 e11 e13 e14
      cases mo with
      | false =>
        refine z_iload_n cx 1 dX8_token_67 rfl rfl ?_
        refine z_ifb_eq (tgt := 134) cx dX8_token_68 (by decide) (fun c_68 => ?_) (fun c_68 => ?_)
        · exact z_vret cx hR ⟨rfl, ⟨e12, by rw [h6 rfl]; exact e11, by rw [h6 rfl]; exact e13, by rw [e14, lat, if_pos h3]⟩, hO⟩ dX8_token_134
        · exact absurd c_68 (by decide)
      | true =>
        obtain ⟨h5a, h5b⟩ := h5 rfl
        have hx := h4 rfl
        refine z_iload_n cx 1 dX8_token_67 rfl rfl ?_
        refine z_ifb_eq (tgt := 134) cx dX8_token_68 (by decide) (fun c_68 => ?_) (fun c_68 => ?_)
        · exact absurd c_68 (by decide)
        · refine z_aload_n cx 0 dX8_token_71 rfl rfl ?_
          refine z_dup cx dX8_token_72 rfl ?_
          refine gX8_43 cx dX8_token_73 ?_
          refine z_iconst cx dX8_token_76 ic_1 ?_
          refine z_iadd cx dX8_token_77 ?_
          rw [show τ 0 11 + 1 = nI (x + 1) by rw [e11, nI_1]]
          refine pX8_43 cx dX8_token_78 ?_
          refine z_aload_n cx 0 dX8_token_81 rfl rfl ?_
          refine z_dup cx dX8_token_82 rfl ?_
          refine gX8_53 cx dX8_token_83 ?_
          refine z_iconst cx dX8_token_86 ic_1 ?_
          refine z_iadd cx dX8_token_87 ?_
          rw [show (up2 τ 0 11 (nI (x + 1))) 0 13 + 1 = nI (x + 1 - b) by rw [show (up2 τ 0 11 (nI (x + 1))) 0 13 = τ 0 13 from rfl, e13, nI_1]; congr 1; omega]
          refine pX8_53 cx dX8_token_88 ?_
          have O2 : OffK (up2 (up2 τ 0 11 (nI (x + 1))) 0 13 (nI (x + 1 - b))) σ := ⟨fun k k1 k2 k3 k4 => by rw [up2_at, upd_ne _ _ k3, up2_at, upd_ne _ _ k1]; exact hO.1 k k1 k2 k3 k4, fun q hq => by rw [up2_ne _ _ _ hq, up2_ne _ _ _ hq]; exact hO.2 q hq⟩
          have r12 : (up2 (up2 τ 0 11 (nI (x + 1))) 0 13 (nI (x + 1 - b))) 0 12 = nI b := e12
          have r11 : (up2 (up2 τ 0 11 (nI (x + 1))) 0 13 (nI (x + 1 - b))) 0 11 = nI (x + 1) := rfl
          have r13 : (up2 (up2 τ 0 11 (nI (x + 1))) 0 13 (nI (x + 1 - b))) 0 13 = nI (x + 1 - b) := rfl
          have r14 : (up2 (up2 τ 0 11 (nI (x + 1))) 0 13 (nI (x + 1 - b))) 0 14 = mso (σ 6 b) := e14
          have r7 : (up2 (up2 τ 0 11 (nI (x + 1))) 0 13 (nI (x + 1 - b))) 0 7 = nI L := (hO.1 7 (by decide) (by decide) (by decide) (by decide)).trans eL
          have r6 : (up2 (up2 τ 0 11 (nI (x + 1))) 0 13 (nI (x + 1 - b))) 6 = σ 6 := hO.2 6 (by decide)
          generalize hρ : (up2 (up2 τ 0 11 (nI (x + 1))) 0 13 (nI (x + 1 - b))) = ρ at *
          have hb0 : ¬ σ 6 b < 0 := hpos b h3
          have sor9 : mso (σ 6 b) = 1 ∨ mso (σ 6 b) = 2 := by
            rcases srt_3 (σ 6 b) with z | z | z
            · exact absurd z h5b
            · exact Or.inl ((mso_1 hb0).mpr z)
            · exact Or.inr ((mso_2 hb0).mpr z)
          have same9 : mso (lat (σ 6) L (x + 1)) = mso (σ 6 b) → srt (σ 6 (x + 1)) = srt (σ 6 b) ∧ x + 1 < L := by
            intro z
            by_cases q : x + 1 < L
            · refine ⟨?_, q⟩
              rw [lat, if_pos q] at z
              have hx0 := hpos (x + 1) q
              rcases sor9 with y | y
              · rw [(mso_1 hb0).mp y, (mso_1 hx0).mp (z.trans y)]
              · rw [(mso_2 hb0).mp y, (mso_2 hx0).mp (z.trans y)]
            · rw [lat, if_neg q, mso_m1] at z
              rcases sor9 with y | y
              · rw [y] at z; exact absurd z (by decide)
              · rw [y] at z; exact absurd z (by decide)
          have other9 : ¬ mso (lat (σ 6) L (x + 1)) = mso (σ 6 b) → exT (σ 6) L (srt (σ 6 b)) f (x + 1) = x + 1 := by
            intro z
            cases f with
            | zero => rfl
            | succ f =>
              rw [exT, if_neg]
              intro y
              refine z ?_
              rw [lat, if_pos y.1]
              have hx0 := hpos (x + 1) y.1
              rcases sor9 with w | w
              · rw [w]; exact (mso_1 hx0).mpr (y.2.trans ((mso_1 hb0).mp w))
              · rw [w]; exact (mso_2 hx0).mpr (y.2.trans ((mso_2 hb0).mp w))
          refine z_aload_n cx 0 dX8_token_91 rfl rfl ?_
          refine gX8_59 cx dX8_token_92 ?_
          refine z_iconst cx dX8_token_95 ic_1 ?_
          rw [r14]
          refine z_icmp_eq (tgt := 107) cx dX8_token_96 (by decide) (fun c_96 => ?_) (fun c_96 => ?_)
          · refine z_aload_n cx 0 dX8_token_107 rfl rfl ?_
            refine z_aload_n cx 0 dX8_token_108 rfl rfl ?_
            refine gX8_43 cx dX8_token_109 ?_
            rw [r11]
            refine z_V1i cx vX8_letterAt kX8_46 (c_X8_letterAt hg ρ hL r7 (by omega)) (by decide) hM0 rfl rfl (Nat.le_of_ble_eq_true rfl) dX8_token_112 ?_
            rw [r6]
            refine z_S1i cx sX8_sortOf kX8_56 (c_X8_sortOf hg ρ _) (by decide) (Nat.le_of_ble_eq_true rfl) dX8_token_115 ?_
            refine z_aload_n cx 0 dX8_token_118 rfl rfl ?_
            refine gX8_59 cx dX8_token_119 ?_
            rw [r14]
            refine z_icmp_ne (tgt := 129) cx dX8_token_122 (by decide) (fun c_122 => ?_) (fun c_122 => ?_)
            · refine z_iconst cx dX8_token_129 ic_0 ?_
              refine z_istore_n cx 1 dX8_token_130 rfl hnL (by decide) rfl ?_
              refine z_goto (tgt := 67) cx dX8_token_131 (by decide) ?_
              refine ih (x + 1) false (by omega) (by omega) h3 (fun z => absurd z (by decide)) (fun z => absurd z (by decide)) (fun _ => ?_) ρ O2 r12 r11 r13 r14
              rw [← h5a, show f + 1 - 1 = f by omega]
              exact other9 c_122
            · refine z_iconst cx dX8_token_125 ic_1 ?_
              refine z_goto (tgt := 130) cx dX8_token_126 (by decide) ?_
              refine z_istore_n cx 1 dX8_token_130 rfl hnL (by decide) rfl ?_
              refine z_goto (tgt := 67) cx dX8_token_131 (by decide) ?_
              have s9 : srt (σ 6 (x + 1)) = srt (σ 6 b) ∧ x + 1 < L := same9 c_122
              refine ih (x + 1) true (by omega) (by omega) h3 (fun _ => s9.2) (fun _ => ⟨?_, h5b⟩) (fun z => absurd z (by decide)) ρ O2 r12 r11 r13 r14
              rw [← h5a]
              have e8 : f = (f - 1) + 1 := by omega
              rw [show f + 1 - 1 = (f - 1) + 1 by omega, exT, if_pos ⟨s9.2, s9.1⟩]
          · refine z_aload_n cx 0 dX8_token_99 rfl rfl ?_
            refine gX8_59 cx dX8_token_100 ?_
            refine z_iconst cx dX8_token_103 ic_2 ?_
            rw [r14]
            refine z_icmp_ne (tgt := 129) cx dX8_token_104 (by decide) (fun c_104 => ?_) (fun c_104 => ?_)
            · refine z_iconst cx dX8_token_129 ic_0 ?_
              refine z_istore_n cx 1 dX8_token_130 rfl hnL (by decide) rfl ?_
              refine z_goto (tgt := 67) cx dX8_token_131 (by decide) ?_
              exact absurd sor9 (by rintro (z | z); exact c_96 z; exact c_104 z)
            · refine z_aload_n cx 0 dX8_token_107 rfl rfl ?_
              refine z_aload_n cx 0 dX8_token_108 rfl rfl ?_
              refine gX8_43 cx dX8_token_109 ?_
              rw [r11]
              refine z_V1i cx vX8_letterAt kX8_46 (c_X8_letterAt hg ρ hL r7 (by omega)) (by decide) hM0 rfl rfl (Nat.le_of_ble_eq_true rfl) dX8_token_112 ?_
              rw [r6]
              refine z_S1i cx sX8_sortOf kX8_56 (c_X8_sortOf hg ρ _) (by decide) (Nat.le_of_ble_eq_true rfl) dX8_token_115 ?_
              refine z_aload_n cx 0 dX8_token_118 rfl rfl ?_
              refine gX8_59 cx dX8_token_119 ?_
              rw [r14]
              refine z_icmp_ne (tgt := 129) cx dX8_token_122 (by decide) (fun c_122 => ?_) (fun c_122 => ?_)
              · refine z_iconst cx dX8_token_129 ic_0 ?_
                refine z_istore_n cx 1 dX8_token_130 rfl hnL (by decide) rfl ?_
                refine z_goto (tgt := 67) cx dX8_token_131 (by decide) ?_
                refine ih (x + 1) false (by omega) (by omega) h3 (fun z => absurd z (by decide)) (fun z => absurd z (by decide)) (fun _ => ?_) ρ O2 r12 r11 r13 r14
                rw [← h5a, show f + 1 - 1 = f by omega]
                exact other9 c_122
              · refine z_iconst cx dX8_token_125 ic_1 ?_
                refine z_goto (tgt := 130) cx dX8_token_126 (by decide) ?_
                refine z_istore_n cx 1 dX8_token_130 rfl hnL (by decide) rfl ?_
                refine z_goto (tgt := 67) cx dX8_token_131 (by decide) ?_
                have s9 : srt (σ 6 (x + 1)) = srt (σ 6 b) ∧ x + 1 < L := same9 c_122
                refine ih (x + 1) true (by omega) (by omega) h3 (fun _ => s9.2) (fun _ => ⟨?_, h5b⟩) (fun z => absurd z (by decide)) ρ O2 r12 r11 r13 r14
                rw [← h5a]
                have e8 : f = (f - 1) + 1 := by omega
                rw [show f + 1 - 1 = (f - 1) + 1 by omega, exT, if_pos ⟨s9.2, s9.1⟩]
  have loop1 : ∀ (f x : Nat), x + f = L → skp (σ 6) L f x = b → ∀ τ : Mem, OffK τ σ → τ 0 11 = nI x → Z κ (OM g) τ 0 [some (.ref (g.ad 0)), none] [] := by
    have tail : ∀ τ : Mem, OffK τ σ → τ 0 11 = nI b → Z κ (OM g) τ 26 [some (.ref (g.ad 0)), none] [] := by
      intro τ hO e11
      have r7 : τ 0 7 = nI L := (hO.1 7 (by decide) (by decide) (by decide) (by decide)).trans eL
      have r6 : τ 6 = σ 6 := hO.2 6 (by decide)
      refine z_aload_n cx 0 dX8_token_26 rfl rfl ?_
      refine z_aload_n cx 0 dX8_token_27 rfl rfl ?_
      refine gX8_43 cx dX8_token_28 ?_
      refine pX8_50 cx dX8_token_31 ?_
      refine z_aload_n cx 0 dX8_token_34 rfl rfl ?_
      refine z_iconst cx dX8_token_35 ic_0 ?_
      refine pX8_53 cx dX8_token_36 ?_
      refine z_aload_n cx 0 dX8_token_39 rfl rfl ?_
      refine z_aload_n cx 0 dX8_token_40 rfl rfl ?_
      refine z_aload_n cx 0 dX8_token_41 rfl rfl ?_
      refine gX8_43 cx dX8_token_42 ?_
      rw [show (up2 (up2 τ 0 12 (τ 0 11)) 0 13 0) 0 11 = nI b from e11]
      refine z_V1i cx vX8_letterAt kX8_46 (c_X8_letterAt hg (up2 (up2 τ 0 12 (τ 0 11)) 0 13 0) hL r7 (i := b) (by omega)) (by decide) hM0 rfl rfl (Nat.le_of_ble_eq_true rfl) dX8_token_45 ?_
      rw [show (up2 (up2 τ 0 12 (τ 0 11)) 0 13 0) 6 = σ 6 from r6]
      refine z_S1i cx sX8_sortOf kX8_56 (c_X8_sortOf hg (up2 (up2 τ 0 12 (τ 0 11)) 0 13 0) _) (by decide) (Nat.le_of_ble_eq_true rfl) dX8_token_48 ?_
      refine pX8_59 cx dX8_token_51 ?_
      refine z_aload_n cx 0 dX8_token_54 rfl rfl ?_
      refine gX8_59 cx dX8_token_55 ?_
      refine z_if_eq (tgt := 65) cx dX8_token_58 (by decide) (fun c_58 => ?_) (fun c_58 => ?_)
      · refine z_iconst cx dX8_token_65 ic_0 ?_
        refine z_istore_n cx 1 dX8_token_66 rfl hnL (by decide) rfl ?_
        have O2 : OffK (up2 (up2 (up2 τ 0 12 (τ 0 11)) 0 13 0) 0 14 (mso (lat (σ 6) L b))) σ := ⟨fun k k1 k2 k3 k4 => by rw [up2_at, upd_ne _ _ k4, up2_at, upd_ne _ _ k3, up2_at, upd_ne _ _ k2]; exact hO.1 k k1 k2 k3 k4, fun q hq => by rw [up2_ne _ _ _ hq, up2_ne _ _ _ hq, up2_ne _ _ _ hq]; exact hO.2 q hq⟩
        have r11 : (up2 (up2 (up2 τ 0 12 (τ 0 11)) 0 13 0) 0 14 (mso (lat (σ 6) L b))) 0 11 = nI b := e11
        have r12 : (up2 (up2 (up2 τ 0 12 (τ 0 11)) 0 13 0) 0 14 (mso (lat (σ 6) L b))) 0 12 = nI b := e11
        have c58 : mso (lat (σ 6) L b) = 0 := c_58
        have bL : b = L := by
          by_cases q : b < L
          · rw [lat, if_pos q] at c58; exact absurd (mso_0.mp c58) (hpos b q)
          · omega
        have eE9 : tkE (σ 6) L b = b := by rw [tkE, if_neg (by omega)]
        refine z_iload_n cx 1 dX8_token_67 rfl rfl ?_
        refine z_if_eq (tgt := 134) cx dX8_token_68 (by decide) (fun _ => ?_) (fun z => absurd rfl z)
        exact z_vret cx hR ⟨rfl, ⟨r12, by rw [eE9]; exact r11, by rw [eE9, Nat.sub_self]; rfl, rfl⟩, O2⟩ dX8_token_134
      · refine z_iconst cx dX8_token_61 ic_1 ?_
        refine z_goto (tgt := 66) cx dX8_token_62 (by decide) ?_
        refine z_istore_n cx 1 dX8_token_66 rfl hnL (by decide) rfl ?_
        have c58 : ¬ mso (lat (σ 6) L b) = 0 := c_58
        have bL : b < L := by
          by_cases q : b < L
          · exact q
          · rw [lat, if_neg q] at c58; exact absurd mso_m1 c58
        have eL9 : lat (σ 6) L b = σ 6 b := by rw [lat, if_pos bL]
        have hb0 : ¬ σ 6 b < 0 := hpos b bL
        have O2 : OffK (up2 (up2 (up2 τ 0 12 (τ 0 11)) 0 13 0) 0 14 (mso (lat (σ 6) L b))) σ := ⟨fun k k1 k2 k3 k4 => by rw [up2_at, upd_ne _ _ k4, up2_at, upd_ne _ _ k3, up2_at, upd_ne _ _ k2]; exact hO.1 k k1 k2 k3 k4, fun q hq => by rw [up2_ne _ _ _ hq, up2_ne _ _ _ hq, up2_ne _ _ _ hq]; exact hO.2 q hq⟩
        have r11 : (up2 (up2 (up2 τ 0 12 (τ 0 11)) 0 13 0) 0 14 (mso (lat (σ 6) L b))) 0 11 = nI b := e11
        have r12 : (up2 (up2 (up2 τ 0 12 (τ 0 11)) 0 13 0) 0 14 (mso (lat (σ 6) L b))) 0 12 = nI b := e11
        have r14 : (up2 (up2 (up2 τ 0 12 (τ 0 11)) 0 13 0) 0 14 (mso (lat (σ 6) L b))) 0 14 = mso (σ 6 b) := by rw [← eL9]; rfl
        have r79 : (up2 (up2 (up2 τ 0 12 (τ 0 11)) 0 13 0) 0 14 (mso (lat (σ 6) L b))) 0 7 = nI L := r7
        have r69 : (up2 (up2 (up2 τ 0 12 (τ 0 11)) 0 13 0) 0 14 (mso (lat (σ 6) L b))) 6 = σ 6 := r6
        have r13 : (up2 (up2 (up2 τ 0 12 (τ 0 11)) 0 13 0) 0 14 (mso (lat (σ 6) L b))) 0 13 = 0 := rfl
        generalize hρ : (up2 (up2 (up2 τ 0 12 (τ 0 11)) 0 13 0) 0 14 (mso (lat (σ 6) L b))) = ρ at *
        refine z_iload_n cx 1 dX8_token_67 rfl rfl ?_
        refine z_if_eq (tgt := 134) cx dX8_token_68 (by decide) (fun c_68 => ?_) (fun c_68 => ?_)
        · exact absurd c_68 (by decide)
        · refine z_aload_n cx 0 dX8_token_71 rfl rfl ?_
          refine z_dup cx dX8_token_72 rfl ?_
          refine gX8_43 cx dX8_token_73 ?_
          refine z_iconst cx dX8_token_76 ic_1 ?_
          refine z_iadd cx dX8_token_77 ?_
          rw [show ρ 0 11 + 1 = nI (b + 1) by rw [r11, nI_1]]
          refine pX8_43 cx dX8_token_78 ?_
          refine z_aload_n cx 0 dX8_token_81 rfl rfl ?_
          refine z_dup cx dX8_token_82 rfl ?_
          refine gX8_53 cx dX8_token_83 ?_
          refine z_iconst cx dX8_token_86 ic_1 ?_
          refine z_iadd cx dX8_token_87 ?_
          rw [show (up2 ρ 0 11 (nI (b + 1))) 0 13 + 1 = nI 1 by rw [show (up2 ρ 0 11 (nI (b + 1))) 0 13 = ρ 0 13 from rfl, r13]; rfl]
          refine pX8_53 cx dX8_token_88 ?_
          have O3 : OffK (up2 (up2 ρ 0 11 (nI (b + 1))) 0 13 (nI 1)) σ := ⟨fun k k1 k2 k3 k4 => by rw [up2_at, upd_ne _ _ k3, up2_at, upd_ne _ _ k1]; exact O2.1 k k1 k2 k3 k4, fun q hq => by rw [up2_ne _ _ _ hq, up2_ne _ _ _ hq]; exact O2.2 q hq⟩
          have s12 : (up2 (up2 ρ 0 11 (nI (b + 1))) 0 13 (nI 1)) 0 12 = nI b := r12
          have s11 : (up2 (up2 ρ 0 11 (nI (b + 1))) 0 13 (nI 1)) 0 11 = nI (b + 1) := rfl
          have s13 : (up2 (up2 ρ 0 11 (nI (b + 1))) 0 13 (nI 1)) 0 13 = nI (b + 1 - b) := by rw [show b + 1 - b = 1 by omega]; rfl
          have s14 : (up2 (up2 ρ 0 11 (nI (b + 1))) 0 13 (nI 1)) 0 14 = mso (σ 6 b) := r14
          have s7 : (up2 (up2 ρ 0 11 (nI (b + 1))) 0 13 (nI 1)) 0 7 = nI L := r79
          have s6 : (up2 (up2 ρ 0 11 (nI (b + 1))) 0 13 (nI 1)) 6 = σ 6 := r69
          generalize hρ2 : (up2 (up2 ρ 0 11 (nI (b + 1))) 0 13 (nI 1)) = ρ2 at *
          refine z_aload_n cx 0 dX8_token_91 rfl rfl ?_
          refine gX8_59 cx dX8_token_92 ?_
          refine z_iconst cx dX8_token_95 ic_1 ?_
          rw [s14]
          refine z_icmp_eq (tgt := 107) cx dX8_token_96 (by decide) (fun c_96 => ?_) (fun c_96 => ?_)
          · have sor9 : mso (σ 6 b) = 1 ∨ mso (σ 6 b) = 2 := Or.inl c_96
            refine z_aload_n cx 0 dX8_token_107 rfl rfl ?_
            refine z_aload_n cx 0 dX8_token_108 rfl rfl ?_
            refine gX8_43 cx dX8_token_109 ?_
            rw [s11]
            refine z_V1i cx vX8_letterAt kX8_46 (c_X8_letterAt hg ρ2 hL s7 (by omega)) (by decide) hM0 rfl rfl (Nat.le_of_ble_eq_true rfl) dX8_token_112 ?_
            rw [s6]
            refine z_S1i cx sX8_sortOf kX8_56 (c_X8_sortOf hg ρ2 _) (by decide) (Nat.le_of_ble_eq_true rfl) dX8_token_115 ?_
            refine z_aload_n cx 0 dX8_token_118 rfl rfl ?_
            refine gX8_59 cx dX8_token_119 ?_
            rw [s14]
            refine z_icmp_ne (tgt := 129) cx dX8_token_122 (by decide) (fun c_122 => ?_) (fun c_122 => ?_)
            · refine z_iconst cx dX8_token_129 ic_0 ?_
              refine z_istore_n cx 1 dX8_token_130 rfl hnL (by decide) rfl ?_
              refine z_goto (tgt := 67) cx dX8_token_131 (by decide) ?_
              refine loop2 (L - (b + 1)) (b + 1) false (by omega) (by omega) bL (fun z => absurd z (by decide)) (fun z => absurd z (by decide)) (fun _ => ?_) ρ2 O3 s12 s11 s13 s14
              rw [tkE, if_pos bL]
              have s0 : ¬ srt (σ 6 b) = 0 := by
                rcases sor9 with y | y
                · rw [(mso_1 hb0).mp y]; decide
                · rw [(mso_2 hb0).mp y]; decide
              rw [if_neg s0]
              cases hf : L - (b + 1) with
              | zero => rfl
              | succ f =>
                rw [exT, if_neg]
                intro y
                refine c_122 ?_
                rw [lat, if_pos y.1]
                have hx0 := hpos (b + 1) y.1
                rcases sor9 with w | w
                · rw [w]; exact (mso_1 hx0).mpr (y.2.trans ((mso_1 hb0).mp w))
                · rw [w]; exact (mso_2 hx0).mpr (y.2.trans ((mso_2 hb0).mp w))
            · refine z_iconst cx dX8_token_125 ic_1 ?_
              refine z_goto (tgt := 130) cx dX8_token_126 (by decide) ?_
              refine z_istore_n cx 1 dX8_token_130 rfl hnL (by decide) rfl ?_
              refine z_goto (tgt := 67) cx dX8_token_131 (by decide) ?_
              have q9 : b + 1 < L := by
                by_cases q : b + 1 < L
                · exact q
                · rw [lat, if_neg q, mso_m1] at c_122
                  exact absurd (mso_0.mp c_122.symm) hb0
              have s9 : srt (σ 6 (b + 1)) = srt (σ 6 b) ∧ srt (σ 6 b) ≠ 0 := by
                rw [lat, if_pos q9] at c_122
                have hx0 := hpos (b + 1) q9
                rcases sor9 with y | y
                · have := (mso_1 hb0).mp y
                  exact ⟨((mso_1 hx0).mp (c_122.trans y)).trans this.symm, by rw [this]; decide⟩
                · have := (mso_2 hb0).mp y
                  exact ⟨((mso_2 hx0).mp (c_122.trans y)).trans this.symm, by rw [this]; decide⟩
              refine loop2 (L - (b + 1)) (b + 1) true (by omega) (by omega) bL (fun _ => q9) (fun _ => ⟨?_, s9.2⟩) (fun z => absurd z (by decide)) ρ2 O3 s12 s11 s13 s14
              rw [tkE, if_pos bL, if_neg s9.2]
              have e8 : L - (b + 1) = (L - (b + 1) - 1) + 1 := by omega
              conv => rhs; rw [e8]
              rw [exT, if_pos ⟨q9, s9.1⟩]
          · refine z_aload_n cx 0 dX8_token_99 rfl rfl ?_
            refine gX8_59 cx dX8_token_100 ?_
            refine z_iconst cx dX8_token_103 ic_2 ?_
            rw [s14]
            refine z_icmp_ne (tgt := 129) cx dX8_token_104 (by decide) (fun c_104 => ?_) (fun c_104 => ?_)
            · refine z_iconst cx dX8_token_129 ic_0 ?_
              refine z_istore_n cx 1 dX8_token_130 rfl hnL (by decide) rfl ?_
              refine z_goto (tgt := 67) cx dX8_token_131 (by decide) ?_
              refine loop2 (L - (b + 1)) (b + 1) false (by omega) (by omega) bL (fun z => absurd z (by decide)) (fun z => absurd z (by decide)) (fun _ => ?_) ρ2 O3 s12 s11 s13 s14
              rw [tkE, if_pos bL]
              have s0 : srt (σ 6 b) = 0 := by
                rcases srt_3 (σ 6 b) with z | z | z
                · exact z
                · exact absurd ((mso_1 hb0).mpr z) c_96
                · exact absurd ((mso_2 hb0).mpr z) c_104
              rw [if_pos s0]
            · have sor9 : mso (σ 6 b) = 1 ∨ mso (σ 6 b) = 2 := Or.inr c_104
              refine z_aload_n cx 0 dX8_token_107 rfl rfl ?_
              refine z_aload_n cx 0 dX8_token_108 rfl rfl ?_
              refine gX8_43 cx dX8_token_109 ?_
              rw [s11]
              refine z_V1i cx vX8_letterAt kX8_46 (c_X8_letterAt hg ρ2 hL s7 (by omega)) (by decide) hM0 rfl rfl (Nat.le_of_ble_eq_true rfl) dX8_token_112 ?_
              rw [s6]
              refine z_S1i cx sX8_sortOf kX8_56 (c_X8_sortOf hg ρ2 _) (by decide) (Nat.le_of_ble_eq_true rfl) dX8_token_115 ?_
              refine z_aload_n cx 0 dX8_token_118 rfl rfl ?_
              refine gX8_59 cx dX8_token_119 ?_
              rw [s14]
              refine z_icmp_ne (tgt := 129) cx dX8_token_122 (by decide) (fun c_122 => ?_) (fun c_122 => ?_)
              · refine z_iconst cx dX8_token_129 ic_0 ?_
                refine z_istore_n cx 1 dX8_token_130 rfl hnL (by decide) rfl ?_
                refine z_goto (tgt := 67) cx dX8_token_131 (by decide) ?_
                refine loop2 (L - (b + 1)) (b + 1) false (by omega) (by omega) bL (fun z => absurd z (by decide)) (fun z => absurd z (by decide)) (fun _ => ?_) ρ2 O3 s12 s11 s13 s14
                rw [tkE, if_pos bL]
                have s0 : ¬ srt (σ 6 b) = 0 := by
                  rcases sor9 with y | y
                  · rw [(mso_1 hb0).mp y]; decide
                  · rw [(mso_2 hb0).mp y]; decide
                rw [if_neg s0]
                cases hf : L - (b + 1) with
                | zero => rfl
                | succ f =>
                  rw [exT, if_neg]
                  intro y
                  refine c_122 ?_
                  rw [lat, if_pos y.1]
                  have hx0 := hpos (b + 1) y.1
                  rcases sor9 with w | w
                  · rw [w]; exact (mso_1 hx0).mpr (y.2.trans ((mso_1 hb0).mp w))
                  · rw [w]; exact (mso_2 hx0).mpr (y.2.trans ((mso_2 hb0).mp w))
              · refine z_iconst cx dX8_token_125 ic_1 ?_
                refine z_goto (tgt := 130) cx dX8_token_126 (by decide) ?_
                refine z_istore_n cx 1 dX8_token_130 rfl hnL (by decide) rfl ?_
                refine z_goto (tgt := 67) cx dX8_token_131 (by decide) ?_
                have q9 : b + 1 < L := by
                  by_cases q : b + 1 < L
                  · exact q
                  · rw [lat, if_neg q, mso_m1] at c_122
                    exact absurd (mso_0.mp c_122.symm) hb0
                have s9 : srt (σ 6 (b + 1)) = srt (σ 6 b) ∧ srt (σ 6 b) ≠ 0 := by
                  rw [lat, if_pos q9] at c_122
                  have hx0 := hpos (b + 1) q9
                  rcases sor9 with y | y
                  · have := (mso_1 hb0).mp y
                    exact ⟨((mso_1 hx0).mp (c_122.trans y)).trans this.symm, by rw [this]; decide⟩
                  · have := (mso_2 hb0).mp y
                    exact ⟨((mso_2 hx0).mp (c_122.trans y)).trans this.symm, by rw [this]; decide⟩
                refine loop2 (L - (b + 1)) (b + 1) true (by omega) (by omega) bL (fun _ => q9) (fun _ => ⟨?_, s9.2⟩) (fun z => absurd z (by decide)) ρ2 O3 s12 s11 s13 s14
                rw [tkE, if_pos bL, if_neg s9.2]
                have e8 : L - (b + 1) = (L - (b + 1) - 1) + 1 := by omega
                conv => rhs; rw [e8]
                rw [exT, if_pos ⟨q9, s9.1⟩]
    intro f
    induction f with
    | zero =>
      intro x h1 h2 τ hO e11
      have r7 : τ 0 7 = nI L := (hO.1 7 (by decide) (by decide) (by decide) (by decide)).trans eL
      have r6 : τ 6 = σ 6 := hO.2 6 (by decide)
      refine z_aload_n cx 0 dX8_token_0 rfl rfl ?_
      refine z_aload_n cx 0 dX8_token_1 rfl rfl ?_
      refine gX8_43 cx dX8_token_2 ?_
      rw [e11]
      refine z_V1i cx vX8_letterAt kX8_46 (c_X8_letterAt hg τ hL r7 (i := x) (by omega)) (by decide) hM0 rfl rfl (Nat.le_of_ble_eq_true rfl) dX8_token_5 ?_
      rw [r6]
      refine z_bipush cx dX8_token_8 bi_32 ?_
      refine z_icmp_ne (tgt := 26) cx dX8_token_10 (by decide) (fun c_10 => ?_) (fun c_10 => ?_)
      · exact tail τ hO (by rw [e11, ← h2, skp])
      · exact absurd c_10 (by rw [lat, if_neg (by omega)]; decide)
    | succ f ih =>
      intro x h1 h2 τ hO e11
      have r7 : τ 0 7 = nI L := (hO.1 7 (by decide) (by decide) (by decide) (by decide)).trans eL
      have r6 : τ 6 = σ 6 := hO.2 6 (by decide)
      have el : lat (σ 6) L x = σ 6 x := by rw [lat, if_pos (by omega)]
      refine z_aload_n cx 0 dX8_token_0 rfl rfl ?_
      refine z_aload_n cx 0 dX8_token_1 rfl rfl ?_
      refine gX8_43 cx dX8_token_2 ?_
      rw [e11]
      refine z_V1i cx vX8_letterAt kX8_46 (c_X8_letterAt hg τ hL r7 (i := x) (by omega)) (by decide) hM0 rfl rfl (Nat.le_of_ble_eq_true rfl) dX8_token_5 ?_
      rw [r6, el]
      refine z_bipush cx dX8_token_8 bi_32 ?_
      refine z_icmp_ne (tgt := 26) cx dX8_token_10 (by decide) (fun c_10 => ?_) (fun c_10 => ?_)
      · exact tail τ hO (by rw [e11, ← h2, skp, if_neg (fun z => c_10 z.2)])
      · refine z_aload_n cx 0 dX8_token_13 rfl rfl ?_
        refine z_dup cx dX8_token_14 rfl ?_
        refine gX8_43 cx dX8_token_15 ?_
        refine z_iconst cx dX8_token_18 ic_1 ?_
        refine z_iadd cx dX8_token_19 ?_
        rw [show τ 0 11 + 1 = nI (x + 1) by rw [e11, nI_1]]
        refine pX8_43 cx dX8_token_20 ?_
        refine z_goto (tgt := 0) cx dX8_token_23 (by decide) ?_
        exact ih (x + 1) (by omega) (by rw [← h2, skp, if_pos ⟨by omega, c_10⟩]) _ ⟨fun k k1 k2 k3 k4 => by rw [up2_at, upd_ne _ _ k1]; exact hO.1 k k1 k2 k3 k4, fun q hq => by rw [up2_ne _ _ _ hq]; exact hO.2 q hq⟩ rfl
  exact loop1 (L - p) p (by omega) (by rw [← hb, tkB]) σ ⟨fun _ _ _ _ _ => rfl, fun _ _ => rfl⟩ eP
