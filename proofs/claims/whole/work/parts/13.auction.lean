def ow (rs : Int32) (bd : Nat → Int32) : Nat → Int32
  | 0 => -1
  | n + 1 => if bd n < rs then ow rs bd n else if ow rs bd n = -1 then nI n else if bd n ≤ bd (ow rs bd n).toNatClampNeg then ow rs bd n else nI n
theorem ow_rng (rs : Int32) (bd : Nat → Int32) : ∀ n : Nat, ow rs bd n = -1 ∨ ∃ j, j < n ∧ ow rs bd n = nI j
  | 0 => Or.inl rfl
  | n + 1 => by
    have ih := ow_rng rs bd n
    simp only [ow]
    split
    · rcases ih with h | ⟨j, h1, h2⟩
      · exact Or.inl h
      · exact Or.inr ⟨j, by omega, h2⟩
    · split
      · exact Or.inr ⟨n, by omega, rfl⟩
      · split
        · rcases ih with h | ⟨j, h1, h2⟩
          · exact Or.inl h
          · exact Or.inr ⟨j, by omega, h2⟩
        · exact Or.inr ⟨n, by omega, rfl⟩
theorem ow_congr (rs : Int32) {bd bd2 : Nat → Int32} : ∀ {n : Nat}, n < 2 ^ 31 → (∀ b, b < n → bd b = bd2 b) → ow rs bd n = ow rs bd2 n
  | 0, _, _ => rfl
  | n + 1, hn, h => by
    have ih := ow_congr rs (n := n) (by omega) (fun b hb => h b (by omega))
    have e := h n (by omega)
    simp only [ow, ih, e]
    rcases ow_rng rs bd2 n with q | ⟨j, h1, h2⟩
    · simp only [q, if_true]
    · rw [h2, nI_clamp (by omega), h j (by omega)]
def pm (rs : Int32) (bd : Nat → Int32) (who : Nat) : Nat → Int32
  | 0 => rs
  | n + 1 => if n = who then pm rs bd who n else if pm rs bd who n < bd n then bd n else pm rs bd who n
theorem pm_congr (rs : Int32) {bd bd2 : Nat → Int32} (who : Nat) : ∀ {n : Nat}, (∀ b, b < n → bd b = bd2 b) → pm rs bd who n = pm rs bd2 who n
  | 0, _ => rfl
  | n + 1, h => by simp only [pm, pm_congr rs who (n := n) (fun b hb => h b (by omega)), h n (by omega)]
def pay (ru rs : Int32) (bd : Nat → Int32) (who n : Nat) : Int32 := if ru = 0 then bd who else pm rs bd who n
theorem pay_congr (ru rs : Int32) {bd bd2 : Nat → Int32} {who n : Nat} (hw : bd who = bd2 who) (h : ∀ b, b < n → bd b = bd2 b) : pay ru rs bd who n = pay ru rs bd2 who n := by
  simp only [pay, hw, pm_congr rs who h]
/-- what one has by these bids -/
def hsG (ru rs rf : Int32) (bk wo : Nat → Int32) (ch ek : Int32) (bd : Nat → Int32) (n j : Nat) : Int32 := if ow rs bd n = nI j then gn (bk j) (wo j) ch ek rf (pay ru rs bd j n) else 0
theorem hsG_congr (ru rs rf : Int32) (bk wo : Nat → Int32) (ch ek : Int32) {bd bd2 : Nat → Int32} {n j : Nat} (hn : n < 2 ^ 31) (hj : j < n) (h : ∀ b, b < n → bd b = bd2 b) : hsG ru rs rf bk wo ch ek bd n j = hsG ru rs rf bk wo ch ek bd2 n j := by
  simp only [hsG, ow_congr rs hn h, pay_congr ru rs (h j hj) h]
def brX (z e : Int32) : Int64 := ((7919 * z.toInt64 + 6151 * e.toInt64 + 1) * (7919 * z.toInt64 + 6151 * e.toInt64 + 1) - (7919 * z.toInt64 + 6151 * e.toInt64 + 1) * (7919 * z.toInt64 + 6151 * e.toInt64 + 1) / 65521 * 65521) - ((7919 * z.toInt64 + 6151 * e.toInt64 + 1) * (7919 * z.toInt64 + 6151 * e.toInt64 + 1) - (7919 * z.toInt64 + 6151 * e.toInt64 + 1) * (7919 * z.toInt64 + 6151 * e.toInt64 + 1) / 65521 * 65521) / 10 * 10
def brt (z e ch : Int32) : Bool := !decide (ch.toInt64 ≤ brX z e)
/-- what is left to pay -/
def lft (br : Bool) (ek rf paid : Int32) : Int32 := if br = true then paid else paid - rfO ek rf paid
def hOv (σ : Mem) (t j : Nat) (paid : Int32) (br : Bool) : Mem := up2 (up2 (up2 (up2 (up2 σ 17 t (nI j)) 18 t paid) 13 j (σ 13 j - lft br (σ 7 t) (σ 6 2) paid)) 12 1 (σ 12 1 + lft br (σ 7 t) (σ 6 2) paid)) 14 j (σ 14 j + (if br = true then wB (σ 9 j) (σ 10 j) else wD (σ 9 j) (σ 10 j)))
def sEnd (σ : Mem) (t : Nat) (br : Bool) : Mem := up2 (upA (up2 σ 19 t (bI br)) 15 (flF 5 (-1) (σ 15))) 12 0 (nI (t + 1))
def tpN (pu : Nat) : Nat := if pu < 99 then pu else 99
theorem tpN_le (pu : Nat) : tpN pu ≤ 99 := by unfold tpN; split <;> omega
def dP (gf : Int32 → Int32) : Nat → Int32
  | 0 => 0
  | p + 1 => if gf (nI (p + 1)) < 0 then dP gf p else nI (p + 1)
/-- the best of the bids 0 .. k - 1: the bid, what it gives -/
def rpG (G : Nat → Int32) : Nat → Int32 × Int32
  | 0 => (-1, 0)
  | k + 1 => if G k ≤ (rpG G k).2 then rpG G k else (nI k, G k)
def tpS (T : Nat → Bool) : Nat → Int32
  | 0 => 0
  | b + 1 => if T b = true then tpS T b ||| ((1 : Int32) <<< (nI b &&& 31)) else tpS T b
def bcN (k : Nat) : Nat := k % 2 + k / 2 % 2 + k / 4 % 2 + k / 8 % 2 + k / 16 % 2
def bt5 (k w : Nat) : Bool := decide (((nI k >>> (nI w &&& 31)) &&& 1) = 1)
def caG (S : Nat → Int32) (who : Nat) : Nat → Int32 × Int32
  | 0 => (-1, -1)
  | k + 1 => if bt5 k who = true ∧ 2 ≤ bcN k then (if S k ≤ (caG S who k).1 then caG S who k else (S k, nI k)) else caG S who k
/-- bids with the others of a set silent -/
def siB (bd : Nat → Int32) (k w : Nat) : Nat → Int32 := fun b => if b ≠ w ∧ bt5 k b = true then -1 else bd b
def AuH (σ : Mem) (n t : Nat) : Prop := n ≤ 5 ∧ σ 6 4 = nI n ∧ t < 7 ∧ σ 12 0 = nI t
/-- nothing but the auction's own cells has changed -/
def OffA (σ' σ : Mem) : Prop := ∀ q, q ≠ 115 → q ≠ 116 → σ' q = σ q
set_option maxRecDepth 100000 in
set_option maxHeartbeats 4000000 in
theorem c_X0_ownerBy {l : Launch} {g : Gx} (hg : ApG 123 g.ad) (σ : Mem) {q : Nat} (hq : q < 123) (hE : ∀ f, cE g q f = .inl (g.cI, 5, .inl f)) {n : Nat} (hn : n ≤ 5) (hb : σ 6 4 = nI n) : Ct l (OC g) 0 mX0_ownerBy [.ref (g.ad 115), .ref (g.ad q)] σ (some (.int (ow (σ 6 1) (σ q) n))) σ := by
  refine ct_of (lv := [some (.ref (g.ad 115)), some (.ref (g.ad q)), none, none]) (okC hg) (by decide +kernel) (Nat.le_of_ble_eq_true rfl) (fun ls h => lvh_entry h rfl 2) ?_
  intro κ hl hnL cx hR
  subst hl
  have cx : Cx κ (OC g) RX0 cX0_ownerBy 0 := cx
  have hnL : κ.nL = 4 := hnL
  have loop : ∀ (k i : Nat), n + 1 ≤ i + k → i ≤ n → Z κ (OC g) σ 4 [some (.ref (g.ad 115)), some (.ref (g.ad q)), some (.int (ow (σ 6 1) (σ q) i)), some (.int (nI i))] [] := by
    intro k
    induction k with
    | zero => intro i h1 h2; exact absurd h1 (by omega)
    | succ k ih =>
      intro i h1 h2
      refine z_iload_n cx 3 dX0_ownerBy_4 rfl rfl ?_
      refine z_aload_n cx 0 dX0_ownerBy_5 rfl rfl ?_
      refine gX0_15 cx dX0_ownerBy_6 ?_
      refine gX0_23 cx dX0_ownerBy_9 ?_
      refine z_icmp_ge (tgt := 50) cx dX0_ownerBy_12 (by decide) (fun c_12 => ?_) (fun c_12 => ?_)
      · rw [hb, nI_leI (by omega) (by omega)] at c_12
        have e9 : i = n := by omega
        subst e9
        refine z_iload_n cx 2 dX0_ownerBy_50 rfl rfl ?_
        exact z_iret cx hR ⟨rfl, rfl⟩ dX0_ownerBy_51
      · rw [hb, nI_leI (by omega) (by omega)] at c_12
        refine z_aload_n cx 1 dX0_ownerBy_15 rfl rfl ?_
        refine z_iload_n cx 3 dX0_ownerBy_16 rfl rfl ?_
        refine g_ialdN cx i hq hE rfl (by omega) (by decide) dX0_ownerBy_17 ?_
        refine z_aload_n cx 0 dX0_ownerBy_18 rfl rfl ?_
        refine gX0_15 cx dX0_ownerBy_19 ?_
        refine gX0_29 cx dX0_ownerBy_22 ?_
        refine z_icmp_lt (tgt := 44) cx dX0_ownerBy_25 (by decide) (fun c_25 => ?_) (fun c_25 => ?_)
        · refine z_iinc cx dX0_ownerBy_44 rfl ic_1 (nI_1 i) hnL (by decide) rfl ?_
          refine z_goto (tgt := 4) cx dX0_ownerBy_47 (by decide) ?_
          exact z_eq rfl (by simp [ow, c_25]) rfl (ih (i + 1) (by omega) (by omega))
        · refine z_iload_n cx 2 dX0_ownerBy_28 rfl rfl ?_
          refine z_iconst cx dX0_ownerBy_29 ic_m1 ?_
          refine z_icmp_eq (tgt := 42) cx dX0_ownerBy_30 (by decide) (fun c_30 => ?_) (fun c_30 => ?_)
          · refine z_iload_n cx 3 dX0_ownerBy_42 rfl rfl ?_
            refine z_istore_n cx 2 dX0_ownerBy_43 rfl hnL (by decide) rfl ?_
            refine z_iinc cx dX0_ownerBy_44 rfl ic_1 (nI_1 i) hnL (by decide) rfl ?_
            refine z_goto (tgt := 4) cx dX0_ownerBy_47 (by decide) ?_
            exact z_eq rfl (by simp [ow, c_25, c_30]) rfl (ih (i + 1) (by omega) (by omega))
          · obtain ⟨j9, hj9, ej9⟩ := (ow_rng (σ 6 1) (σ q) i).resolve_left c_30
            have c30b : ¬ nI j9 = -1 := ej9 ▸ c_30
            refine z_aload_n cx 1 dX0_ownerBy_33 rfl rfl ?_
            refine z_iload_n cx 3 dX0_ownerBy_34 rfl rfl ?_
            refine g_ialdN cx i hq hE rfl (by omega) (by decide) dX0_ownerBy_35 ?_
            refine z_aload_n cx 1 dX0_ownerBy_36 rfl rfl ?_
            refine z_iload_n cx 2 dX0_ownerBy_37 rfl rfl ?_
            refine g_ialdN cx j9 hq hE ej9 (by omega) (by decide) dX0_ownerBy_38 ?_
            refine z_icmp_le (tgt := 44) cx dX0_ownerBy_39 (by decide) (fun c_39 => ?_) (fun c_39 => ?_)
            · refine z_iinc cx dX0_ownerBy_44 rfl ic_1 (nI_1 i) hnL (by decide) rfl ?_
              refine z_goto (tgt := 4) cx dX0_ownerBy_47 (by decide) ?_
              exact z_eq rfl (by simp [ow, c_25, c_39, ej9, nI_clamp (show j9 < 2 ^ 31 by omega), c30b]) rfl (ih (i + 1) (by omega) (by omega))
            · refine z_iload_n cx 3 dX0_ownerBy_42 rfl rfl ?_
              refine z_istore_n cx 2 dX0_ownerBy_43 rfl hnL (by decide) rfl ?_
              refine z_iinc cx dX0_ownerBy_44 rfl ic_1 (nI_1 i) hnL (by decide) rfl ?_
              refine z_goto (tgt := 4) cx dX0_ownerBy_47 (by decide) ?_
              exact z_eq rfl (by simp [ow, c_25, c_39, ej9, nI_clamp (show j9 < 2 ^ 31 by omega), c30b]) rfl (ih (i + 1) (by omega) (by omega))
  refine z_iconst cx dX0_ownerBy_0 ic_m1 ?_
  refine z_istore_n cx 2 dX0_ownerBy_1 rfl hnL (by decide) rfl ?_
  refine z_iconst cx dX0_ownerBy_2 ic_0 ?_
  refine z_istore_n cx 3 dX0_ownerBy_3 rfl hnL (by decide) rfl ?_
  exact loop (n + 1) 0 (by omega) (by omega)
set_option maxRecDepth 100000 in
set_option maxHeartbeats 4000000 in
theorem c_X0_paymentBy {l : Launch} {g : Gx} (hg : ApG 123 g.ad) (σ : Mem) {q : Nat} (hq : q < 123) (hE : ∀ f, cE g q f = .inl (g.cI, 5, .inl f)) {n w : Nat} (hn : n ≤ 5) (hb : σ 6 4 = nI n) (hw : w < 5) (ru : Int32) : Ct l (OC g) 1 mX0_paymentBy [.ref (g.ad 115), .ref (g.ad q), .int (nI w), .int ru] σ (some (.int (pay ru (σ 6 1) (σ q) w n))) σ := by
  refine ct_of (lv := [some (.ref (g.ad 115)), some (.ref (g.ad q)), some (.int (nI w)), some (.int ru), none, none]) (okC hg) (by decide +kernel) (Nat.le_of_ble_eq_true rfl) (fun ls h => lvh_entry h rfl 2) ?_
  intro κ hl hnL cx hR
  subst hl
  have cx : Cx κ (OC g) RX0 cX0_paymentBy 1 := cx
  have hnL : κ.nL = 6 := hnL
  have loop : ¬ ru = 0 → ∀ (k i : Nat), n + 1 ≤ i + k → i ≤ n → Z κ (OC g) σ 20 [some (.ref (g.ad 115)), some (.ref (g.ad q)), some (.int (nI w)), some (.int ru), some (.int (pm (σ 6 1) (σ q) w i)), some (.int (nI i))] [] := by
    intro hru k
    induction k with
    | zero => intro i h1 h2; exact absurd h1 (by omega)
    | succ k ih =>
      intro i h1 h2
      refine z_iload cx dX0_paymentBy_20 rfl ?_
      refine z_aload_n cx 0 dX0_paymentBy_22 rfl rfl ?_
      refine gX0_15 cx dX0_paymentBy_23 ?_
      refine gX0_23 cx dX0_paymentBy_26 ?_
      refine z_icmp_ge (tgt := 55) cx dX0_paymentBy_29 (by decide) (fun c_29 => ?_) (fun c_29 => ?_)
      · rw [hb, nI_leI (by omega) (by omega)] at c_29
        have e9 : i = n := by omega
        subst e9
        refine z_iload cx dX0_paymentBy_55 rfl ?_
        exact z_iret cx hR ⟨by rw [pay, if_neg hru], rfl⟩ dX0_paymentBy_57
      · rw [hb, nI_leI (by omega) (by omega)] at c_29
        refine z_iload cx dX0_paymentBy_32 rfl ?_
        refine z_iload_n cx 2 dX0_paymentBy_34 rfl rfl ?_
        refine z_icmp_eq (tgt := 49) cx dX0_paymentBy_35 (by decide) (fun c_35 => ?_) (fun c_35 => ?_)
        · have c35 : i = w := (nI_eq (by omega) (by omega)).mp c_35
          refine z_iinc cx dX0_paymentBy_49 rfl ic_1 (nI_1 i) hnL (by decide) rfl ?_
          refine z_goto (tgt := 20) cx dX0_paymentBy_52 (by decide) ?_
          exact z_eq rfl (by simp only [pm, if_pos c35]; rfl) rfl (ih (i + 1) (by omega) (by omega))
        · have c35 : ¬ i = w := fun z => c_35 (by rw [z])
          refine z_iload cx dX0_paymentBy_38 rfl ?_
          refine z_aload_n cx 1 dX0_paymentBy_40 rfl rfl ?_
          refine z_iload cx dX0_paymentBy_41 rfl ?_
          refine g_ialdN cx i hq hE rfl (by omega) (by decide) dX0_paymentBy_43 ?_
          refine z_mmax cx kX0_32 sM_max iM_math cM_max (by decide) (Nat.le_of_ble_eq_true rfl) dX0_paymentBy_44 ?_
          refine z_istore cx dX0_paymentBy_47 hnL (by decide) rfl ?_
          refine z_iinc cx dX0_paymentBy_49 rfl ic_1 (nI_1 i) hnL (by decide) rfl ?_
          refine z_goto (tgt := 20) cx dX0_paymentBy_52 (by decide) ?_
          exact z_eq rfl (by simp only [pm, if_neg c35]; rfl) rfl (ih (i + 1) (by omega) (by omega))
  refine z_iload_n cx 3 dX0_paymentBy_0 rfl rfl ?_
  refine z_if_ne (tgt := 8) cx dX0_paymentBy_1 (by decide) (fun c_1 => ?_) (fun c_1 => ?_)
  · refine z_aload_n cx 0 dX0_paymentBy_8 rfl rfl ?_
    refine gX0_15 cx dX0_paymentBy_9 ?_
    refine gX0_29 cx dX0_paymentBy_12 ?_
    refine z_istore cx dX0_paymentBy_15 hnL (by decide) rfl ?_
    refine z_iconst cx dX0_paymentBy_17 ic_0 ?_
    refine z_istore cx dX0_paymentBy_18 hnL (by decide) rfl ?_
    exact loop c_1 (n + 1) 0 (by omega) (by omega)
  · refine z_aload_n cx 1 dX0_paymentBy_4 rfl rfl ?_
    refine z_iload_n cx 2 dX0_paymentBy_5 rfl rfl ?_
    refine g_ialdN cx w hq hE rfl (by omega) (by decide) dX0_paymentBy_6 ?_
    exact z_iret cx hR ⟨by rw [pay, if_pos c_1], rfl⟩ dX0_paymentBy_7
set_option maxRecDepth 100000 in
set_option maxHeartbeats 4000000 in
theorem c_X0_gainBy {l : Launch} {g : Gx} (hg : ApG 123 g.ad) (σ : Mem) {q : Nat} (hq : q < 123) (hE : ∀ f, cE g q f = .inl (g.cI, 5, .inl f)) {n t j : Nat} (hA : AuH σ n t) (hj : j < 5) : Ct l (OC g) 3 mX0_gainBy [.ref (g.ad 115), .ref (g.ad q), .int (nI j)] σ (some (.int (hsG (σ 6 0) (σ 6 1) (σ 6 2) (σ 9) (σ 10) (σ 8 t) (σ 7 t) (σ q) n j))) σ := by
  refine ct_of (lv := [some (.ref (g.ad 115)), some (.ref (g.ad q)), some (.int (nI j))]) (okC hg) (by decide +kernel) (Nat.le_of_ble_eq_true rfl) (fun ls h => lvh_entry h rfl 0) ?_
  intro κ hl hnL cx hR
  subst hl
  have cx : Cx κ (OC g) RX0 cX0_gainBy 3 := cx
  have hnL : κ.nL = 3 := hnL
  obtain ⟨hn, hb, ht, eT⟩ := hA
  refine z_aload_n cx 0 dX0_gainBy_0 rfl rfl ?_
  refine z_aload_n cx 1 dX0_gainBy_1 rfl rfl ?_
  refine z_V1i cx vX0_ownerBy kX0_38 (c_X0_ownerBy hg σ hq hE hn hb) (by decide) hC115 rfl rfl (Nat.le_of_ble_eq_true rfl) dX0_gainBy_2 ?_
  refine z_iload_n cx 2 dX0_gainBy_5 rfl rfl ?_
  refine z_icmp_eq (tgt := 11) cx dX0_gainBy_6 (by decide) (fun c_6 => ?_) (fun c_6 => ?_)
  · refine z_aload_n cx 0 dX0_gainBy_11 rfl rfl ?_
    refine gX0_15 cx dX0_gainBy_12 ?_
    refine z_iload_n cx 2 dX0_gainBy_15 rfl rfl ?_
    refine z_aload_n cx 0 dX0_gainBy_16 rfl rfl ?_
    refine gX0_19 cx dX0_gainBy_17 ?_
    refine gX0_42 cx dX0_gainBy_20 ?_
    refine z_aload_n cx 0 dX0_gainBy_23 rfl rfl ?_
    refine z_aload_n cx 1 dX0_gainBy_24 rfl rfl ?_
    refine z_iload_n cx 2 dX0_gainBy_25 rfl rfl ?_
    refine z_aload_n cx 0 dX0_gainBy_26 rfl rfl ?_
    refine gX0_15 cx dX0_gainBy_27 ?_
    refine gX0_47 cx dX0_gainBy_30 ?_
    refine z_V3i cx vX0_paymentBy kX0_50 (c_X0_paymentBy hg σ hq hE hn hb hj _) (by decide) hC115 rfl rfl (Nat.le_of_ble_eq_true rfl) dX0_gainBy_33 ?_
    rw [eT]
    refine z_V3i cx vX6_gainOf kX0_54 (c_X6_gainOf hg σ hj ht _) (by decide) hC6 rfl rfl (Nat.le_of_ble_eq_true rfl) dX0_gainBy_36 ?_
    exact z_iret cx hR ⟨by rw [hsG, if_pos c_6], rfl⟩ dX0_gainBy_39
  · refine z_iconst cx dX0_gainBy_9 ic_0 ?_
    exact z_iret cx hR ⟨by rw [hsG, if_neg c_6], rfl⟩ dX0_gainBy_10
set_option maxRecDepth 100000 in
set_option maxHeartbeats 4000000 in
theorem c_X0_isBrightBy {l : Launch} {g : Gx} (hg : ApG 123 g.ad) (σ : Mem) (z : Int32) {e : Nat} (he : e < 7) : Ct l (OC g) 0 mX0_isBrightBy [.ref (g.ad 115), .int z, .int (nI e)] σ (some (.int (bI (brt z (nI e) (σ 8 e))))) σ := by
  refine ct_of (lv := [some (.ref (g.ad 115)), some (.int z), some (.int (nI e)), none, none]) (okC hg) (by decide +kernel) (Nat.le_of_ble_eq_true rfl) (fun ls h => lvh_entry h rfl 2) ?_
  intro κ hl hnL cx hR
  subst hl
  have cx : Cx κ (OC g) RX0 cX0_isBrightBy 0 := cx
  have hnL : κ.nL = 5 := hnL
  refine z_ldc2 cx qX0_78 dX0_isBrightBy_0 ?_
  refine z_iload_n cx 1 dX0_isBrightBy_3 rfl rfl ?_
  refine z_i2l cx dX0_isBrightBy_4 ?_
  refine z_lmul cx dX0_isBrightBy_5 ?_
  refine z_ldc2 cx qX0_80 dX0_isBrightBy_6 ?_
  refine z_iload_n cx 2 dX0_isBrightBy_9 rfl rfl ?_
  refine z_i2l cx dX0_isBrightBy_10 ?_
  refine z_lmul cx dX0_isBrightBy_11 ?_
  refine z_ladd cx dX0_isBrightBy_12 ?_
  refine z_lconst (v := 1) cx dX0_isBrightBy_13 rfl ?_
  refine z_ladd cx dX0_isBrightBy_14 ?_
  refine z_lstore_n cx 3 dX0_isBrightBy_15 rfl hnL (by decide) rfl ?_
  refine z_lload_n cx 3 dX0_isBrightBy_16 rfl rfl ?_
  refine z_lload_n cx 3 dX0_isBrightBy_17 rfl rfl ?_
  refine z_lmul cx dX0_isBrightBy_18 ?_
  refine z_ldc2 cx qX0_82 dX0_isBrightBy_19 ?_
  refine z_lrem cx dX0_isBrightBy_22 (by decide) ?_
  refine z_ldc2 cx qX0_84 dX0_isBrightBy_23 ?_
  refine z_lrem cx dX0_isBrightBy_26 (by decide) ?_
  refine z_aload_n cx 0 dX0_isBrightBy_27 rfl rfl ?_
  refine gX0_15 cx dX0_isBrightBy_28 ?_
  refine gX0_86 cx dX0_isBrightBy_31 ?_
  refine z_iload_n cx 2 dX0_isBrightBy_34 rfl rfl ?_
  refine g_ialdN cx e (by decide) (fun _ => rfl) rfl (by omega) (by decide) dX0_isBrightBy_35 ?_
  refine z_i2l cx dX0_isBrightBy_36 ?_
  refine z_lcmp cx dX0_isBrightBy_37 ?_
  refine z_if_ge (tgt := 45) cx dX0_isBrightBy_38 (by decide) (fun c_38 => ?_) (fun c_38 => ?_)
  · rw [lg_cmp_ge] at c_38
    refine z_iconst cx dX0_isBrightBy_45 ic_0 ?_
    exact z_zret cx hR rfl ⟨by have c38 : (σ 8 e).toInt64 ≤ brX z (nI e) := c_38; simp [brt, bI, c38], rfl⟩ dX0_isBrightBy_46
  · rw [lg_cmp_ge] at c_38
    refine z_iconst cx dX0_isBrightBy_41 ic_1 ?_
    refine z_goto (tgt := 46) cx dX0_isBrightBy_42 (by decide) ?_
    exact z_zret cx hR rfl ⟨by have c38 : ¬ (σ 8 e).toInt64 ≤ brX z (nI e) := c_38; simp [brt, bI, c38], rfl⟩ dX0_isBrightBy_46
set_option maxRecDepth 100000 in
set_option maxHeartbeats 4000000 in
theorem c_X0_handOver {l : Launch} {g : Gx} (hg : ApG 123 g.ad) (σ : Mem) {t j : Nat} (hj : j < 5) (ht : t < 7) (eT : σ 12 0 = nI t) (paid : Int32) (br : Bool) : Ct l (OC g) 2 mX0_handOver [.ref (g.ad 115), .int (nI j), .int paid, .int (bI br)] σ none (hOv σ t j paid br) := by
  refine ct_of (lv := [some (.ref (g.ad 115)), some (.int (nI j)), some (.int paid), some (.int (bI br)), none, none]) (okC hg) (by decide +kernel) (Nat.le_of_ble_eq_true rfl) (fun ls h => lvh_entry h rfl 2) ?_
  intro κ hl hnL cx hR
  subst hl
  have cx : Cx κ (OC g) RX0 cX0_handOver 2 := cx
  have hnL : κ.nL = 6 := hnL
  refine z_aload_n cx 0 dX0_handOver_0 rfl rfl ?_
  refine gX0_19 cx dX0_handOver_1 ?_
  refine gX0_42 cx dX0_handOver_4 ?_
  rw [eT]
  refine z_istore cx dX0_handOver_7 hnL (by decide) rfl ?_
  refine z_iload_n cx 3 dX0_handOver_9 rfl rfl ?_
  refine z_ifb_eq (tgt := 17) cx dX0_handOver_10 (by decide) (fun c_10 => ?_) (fun c_10 => ?_)
  · refine z_iload_n cx 2 dX0_handOver_17 rfl rfl ?_
    refine z_aload_n cx 0 dX0_handOver_18 rfl rfl ?_
    refine gX0_15 cx dX0_handOver_19 ?_
    refine z_iload cx dX0_handOver_22 rfl ?_
    refine z_iload_n cx 2 dX0_handOver_24 rfl rfl ?_
    refine z_V2i cx vX6_refundOf kX0_89 (c_X6_refundOf hg σ ht _) (by decide) hC6 rfl rfl (Nat.le_of_ble_eq_true rfl) dX0_handOver_25 ?_
    refine z_isub cx dX0_handOver_28 ?_
    refine z_istore cx dX0_handOver_29 hnL (by decide) rfl ?_
    refine z_aload_n cx 0 dX0_handOver_31 rfl rfl ?_
    refine gX0_19 cx dX0_handOver_32 ?_
    refine gX0_92 cx dX0_handOver_35 ?_
    refine z_iload cx dX0_handOver_38 rfl ?_
    refine z_iload_n cx 1 dX0_handOver_40 rfl rfl ?_
    refine g_iastN cx t (by decide) (fun _ => rfl) rfl (by omega) (by decide) dX0_handOver_41 ?_
    refine z_aload_n cx 0 dX0_handOver_42 rfl rfl ?_
    refine gX0_19 cx dX0_handOver_43 ?_
    refine gX0_95 cx dX0_handOver_46 ?_
    refine z_iload cx dX0_handOver_49 rfl ?_
    refine z_iload_n cx 2 dX0_handOver_51 rfl rfl ?_
    refine g_iastN cx t (by decide) (fun _ => rfl) rfl (by omega) (by decide) dX0_handOver_52 ?_
    refine z_aload_n cx 0 dX0_handOver_53 rfl rfl ?_
    refine gX0_19 cx dX0_handOver_54 ?_
    refine gX0_98 cx dX0_handOver_57 ?_
    refine z_iload_n cx 1 dX0_handOver_60 rfl rfl ?_
    refine z_dup2 cx dX0_handOver_61 rfl rfl ?_
    refine g_ialdN cx j (by decide) (fun _ => rfl) rfl (by omega) (by decide) dX0_handOver_62 ?_
    refine z_iload cx dX0_handOver_63 rfl ?_
    refine z_isub cx dX0_handOver_65 ?_
    refine g_iastN cx j (by decide) (fun _ => rfl) rfl (by omega) (by decide) dX0_handOver_66 ?_
    refine z_aload_n cx 0 dX0_handOver_67 rfl rfl ?_
    refine gX0_19 cx dX0_handOver_68 ?_
    refine z_dup cx dX0_handOver_71 rfl ?_
    refine gX0_101 cx dX0_handOver_72 ?_
    refine z_iload cx dX0_handOver_75 rfl ?_
    refine z_iadd cx dX0_handOver_77 ?_
    refine pX0_101 cx dX0_handOver_78 ?_
    refine z_aload_n cx 0 dX0_handOver_81 rfl rfl ?_
    refine gX0_19 cx dX0_handOver_82 ?_
    refine gX0_104 cx dX0_handOver_85 ?_
    refine z_iload_n cx 1 dX0_handOver_88 rfl rfl ?_
    refine z_dup2 cx dX0_handOver_89 rfl rfl ?_
    refine g_ialdN cx j (by decide) (fun _ => rfl) rfl (by omega) (by decide) dX0_handOver_90 ?_
    refine z_iload_n cx 3 dX0_handOver_91 rfl rfl ?_
    refine z_ifb_eq (tgt := 106) cx dX0_handOver_92 (by decide) (fun c_92 => ?_) (fun c_92 => ?_)
    · refine z_aload_n cx 0 dX0_handOver_106 rfl rfl ?_
      refine gX0_15 cx dX0_handOver_107 ?_
      refine z_iload_n cx 1 dX0_handOver_110 rfl rfl ?_
      refine z_V1i cx vX6_worthDull kX0_111 (c_X6_worthDull hg _ hj) (by decide) hC6 rfl rfl (Nat.le_of_ble_eq_true rfl) dX0_handOver_111 ?_
      refine z_iadd cx dX0_handOver_114 ?_
      refine g_iastN cx j (by decide) (fun _ => rfl) rfl (by omega) (by decide) dX0_handOver_115 ?_
      exact z_vret cx hR ⟨rfl, by simp only [hOv, lft, c_10, if_true, Bool.false_eq_true, if_false]; rfl⟩ dX0_handOver_116
    · exact absurd (c_10.symm.trans c_92) (by decide)
  · refine z_iload_n cx 2 dX0_handOver_13 rfl rfl ?_
    refine z_goto (tgt := 29) cx dX0_handOver_14 (by decide) ?_
    refine z_istore cx dX0_handOver_29 hnL (by decide) rfl ?_
    refine z_aload_n cx 0 dX0_handOver_31 rfl rfl ?_
    refine gX0_19 cx dX0_handOver_32 ?_
    refine gX0_92 cx dX0_handOver_35 ?_
    refine z_iload cx dX0_handOver_38 rfl ?_
    refine z_iload_n cx 1 dX0_handOver_40 rfl rfl ?_
    refine g_iastN cx t (by decide) (fun _ => rfl) rfl (by omega) (by decide) dX0_handOver_41 ?_
    refine z_aload_n cx 0 dX0_handOver_42 rfl rfl ?_
    refine gX0_19 cx dX0_handOver_43 ?_
    refine gX0_95 cx dX0_handOver_46 ?_
    refine z_iload cx dX0_handOver_49 rfl ?_
    refine z_iload_n cx 2 dX0_handOver_51 rfl rfl ?_
    refine g_iastN cx t (by decide) (fun _ => rfl) rfl (by omega) (by decide) dX0_handOver_52 ?_
    refine z_aload_n cx 0 dX0_handOver_53 rfl rfl ?_
    refine gX0_19 cx dX0_handOver_54 ?_
    refine gX0_98 cx dX0_handOver_57 ?_
    refine z_iload_n cx 1 dX0_handOver_60 rfl rfl ?_
    refine z_dup2 cx dX0_handOver_61 rfl rfl ?_
    refine g_ialdN cx j (by decide) (fun _ => rfl) rfl (by omega) (by decide) dX0_handOver_62 ?_
    refine z_iload cx dX0_handOver_63 rfl ?_
    refine z_isub cx dX0_handOver_65 ?_
    refine g_iastN cx j (by decide) (fun _ => rfl) rfl (by omega) (by decide) dX0_handOver_66 ?_
    refine z_aload_n cx 0 dX0_handOver_67 rfl rfl ?_
    refine gX0_19 cx dX0_handOver_68 ?_
    refine z_dup cx dX0_handOver_71 rfl ?_
    refine gX0_101 cx dX0_handOver_72 ?_
    refine z_iload cx dX0_handOver_75 rfl ?_
    refine z_iadd cx dX0_handOver_77 ?_
    refine pX0_101 cx dX0_handOver_78 ?_
    refine z_aload_n cx 0 dX0_handOver_81 rfl rfl ?_
    refine gX0_19 cx dX0_handOver_82 ?_
    refine gX0_104 cx dX0_handOver_85 ?_
    refine z_iload_n cx 1 dX0_handOver_88 rfl rfl ?_
    refine z_dup2 cx dX0_handOver_89 rfl rfl ?_
    refine g_ialdN cx j (by decide) (fun _ => rfl) rfl (by omega) (by decide) dX0_handOver_90 ?_
    refine z_iload_n cx 3 dX0_handOver_91 rfl rfl ?_
    refine z_ifb_eq (tgt := 106) cx dX0_handOver_92 (by decide) (fun c_92 => ?_) (fun c_92 => ?_)
    · exact absurd (c_10.symm.trans c_92) (by decide)
    · refine z_aload_n cx 0 dX0_handOver_95 rfl rfl ?_
      refine gX0_15 cx dX0_handOver_96 ?_
      refine z_iload_n cx 1 dX0_handOver_99 rfl rfl ?_
      refine z_V1i cx vX6_worthBright kX0_107 (c_X6_worthBright hg _ hj) (by decide) hC6 rfl rfl (Nat.le_of_ble_eq_true rfl) dX0_handOver_100 ?_
      refine z_goto (tgt := 114) cx dX0_handOver_103 (by decide) ?_
      refine z_iadd cx dX0_handOver_114 ?_
      refine g_iastN cx j (by decide) (fun _ => rfl) rfl (by omega) (by decide) dX0_handOver_115 ?_
      exact z_vret cx hR ⟨rfl, by simp only [hOv, lft, c_10, if_true, Bool.false_eq_true, if_false]; rfl⟩ dX0_handOver_116
/-- the sale of tonight: who, what, the memory behind it -/
def slW (σ : Mem) (n : Nat) : Int32 := ow (σ 6 1) (σ 15) n
def slP (σ : Mem) (n : Nat) : Int32 := if slW σ n = -1 then -1 else pay (σ 6 0) (σ 6 1) (σ 15) (slW σ n).toNatClampNeg n
def slB (σ : Mem) (t : Nat) (z : Int32) : Bool := brt z (nI t) (σ 8 t)
def slM (σ : Mem) (n t : Nat) (z : Int32) : Mem := sEnd (if slW σ n = -1 then σ else hOv σ t (slW σ n).toNatClampNeg (slP σ n) (slB σ t z)) t (slB σ t z)
set_option maxRecDepth 100000 in
set_option maxHeartbeats 4000000 in
theorem c_X0_sell {l : Launch} {g : Gx} (hg : ApG 123 g.ad) (σ : Mem) {n t : Nat} (hA : AuH σ n t) (z : Int32) : Ct l (OC g) 3 mX0_sell [.ref (g.ad 115), .int z] σ (some (.int (slP σ n))) (slM σ n t z) := by
  refine ct_of (lv := [some (.ref (g.ad 115)), some (.int z), none, none, none, none]) (okC hg) (by decide +kernel) (Nat.le_of_ble_eq_true rfl) (fun ls h => lvh_entry h rfl 4) ?_
  intro κ hl hnL cx hR
  subst hl
  have cx : Cx κ (OC g) RX0 cX0_sell 3 := cx
  have hnL : κ.nL = 6 := hnL
  obtain ⟨hn, hb, ht, eT⟩ := hA
  have tail : ∀ (τ : Mem) (w p : Int32), τ 12 0 = nI t → p = slP σ n → sEnd τ t (slB σ t z) = slM σ n t z → Z κ (OC g) τ 66 [some (.ref (g.ad 115)), some (.int z), some (.int (nI t)), some (.int w), some (.int (bI (slB σ t z))), some (.int p)] [] := by
    intro τ w p h1 h2 h3
    refine z_aload_n cx 0 dX0_sell_66 rfl rfl ?_
    refine gX0_19 cx dX0_sell_67 ?_
    refine gX0_69 cx dX0_sell_70 ?_
    refine z_iload_n cx 2 dX0_sell_73 rfl rfl ?_
    refine z_iload cx dX0_sell_74 rfl ?_
    refine z_ifb_eq (tgt := 83) cx dX0_sell_76 (by decide) (fun c_76 => ?_) (fun c_76 => ?_)
    · refine z_iconst cx dX0_sell_83 ic_0 ?_
      refine g_iastN cx t (by decide) (fun _ => rfl) rfl (by omega) (by decide) dX0_sell_84 ?_
      refine z_aload_n cx 0 dX0_sell_85 rfl rfl ?_
      refine gX0_19 cx dX0_sell_86 ?_
      refine gX0_58 cx dX0_sell_89 ?_
      refine z_iconst cx dX0_sell_92 ic_m1 ?_
      refine z_S2v cx sJ7_fill_53178 kX0_72 (c_J7_fill_53178 hg _ (by decide) (fun _ => rfl) (by decide) _) (by decide) (Nat.le_of_ble_eq_true rfl) dX0_sell_93 ?_
      refine z_aload_n cx 0 dX0_sell_96 rfl rfl ?_
      refine gX0_19 cx dX0_sell_97 ?_
      refine z_dup cx dX0_sell_100 rfl ?_
      refine gX0_42 cx dX0_sell_101 ?_
      refine z_iconst cx dX0_sell_104 ic_1 ?_
      refine z_iadd cx dX0_sell_105 ?_
      rw [show (upA (up2 τ 19 t 0) 15 (flF 5 (-1) ((up2 τ 19 t 0) 15))) 12 0 + 1 = nI (t + 1) from (congrArg (· + 1) h1).trans (nI_1 t)]
      refine pX0_42 cx dX0_sell_106 ?_
      refine z_iload cx dX0_sell_109 rfl ?_
      exact z_iret cx hR ⟨by rw [h2], by rw [← h3, sEnd, c_76]; rfl⟩ dX0_sell_111
    · refine z_iconst cx dX0_sell_79 ic_1 ?_
      refine z_goto (tgt := 84) cx dX0_sell_80 (by decide) ?_
      refine g_iastN cx t (by decide) (fun _ => rfl) rfl (by omega) (by decide) dX0_sell_84 ?_
      refine z_aload_n cx 0 dX0_sell_85 rfl rfl ?_
      refine gX0_19 cx dX0_sell_86 ?_
      refine gX0_58 cx dX0_sell_89 ?_
      refine z_iconst cx dX0_sell_92 ic_m1 ?_
      refine z_S2v cx sJ7_fill_53178 kX0_72 (c_J7_fill_53178 hg _ (by decide) (fun _ => rfl) (by decide) _) (by decide) (Nat.le_of_ble_eq_true rfl) dX0_sell_93 ?_
      refine z_aload_n cx 0 dX0_sell_96 rfl rfl ?_
      refine gX0_19 cx dX0_sell_97 ?_
      refine z_dup cx dX0_sell_100 rfl ?_
      refine gX0_42 cx dX0_sell_101 ?_
      refine z_iconst cx dX0_sell_104 ic_1 ?_
      refine z_iadd cx dX0_sell_105 ?_
      rw [show (upA (up2 τ 19 t 1) 15 (flF 5 (-1) ((up2 τ 19 t 1) 15))) 12 0 + 1 = nI (t + 1) from (congrArg (· + 1) h1).trans (nI_1 t)]
      refine pX0_42 cx dX0_sell_106 ?_
      refine z_iload cx dX0_sell_109 rfl ?_
      exact z_iret cx hR ⟨by rw [h2], by rw [← h3, sEnd, c_76]; rfl⟩ dX0_sell_111
  refine z_aload_n cx 0 dX0_sell_0 rfl rfl ?_
  refine gX0_19 cx dX0_sell_1 ?_
  refine gX0_42 cx dX0_sell_4 ?_
  rw [eT]
  refine z_istore_n cx 2 dX0_sell_7 rfl hnL (by decide) rfl ?_
  refine z_aload_n cx 0 dX0_sell_8 rfl rfl ?_
  refine z_aload_n cx 0 dX0_sell_9 rfl rfl ?_
  refine gX0_19 cx dX0_sell_10 ?_
  refine gX0_58 cx dX0_sell_13 ?_
  refine z_V1i cx vX0_ownerBy kX0_38 (c_X0_ownerBy hg σ (by decide) (fun _ => rfl) hn hb) (by decide) hC115 rfl rfl (Nat.le_of_ble_eq_true rfl) dX0_sell_16 ?_
  refine z_istore_n cx 3 dX0_sell_19 rfl hnL (by decide) rfl ?_
  refine z_aload_n cx 0 dX0_sell_20 rfl rfl ?_
  refine z_iload_n cx 1 dX0_sell_21 rfl rfl ?_
  refine z_iload_n cx 2 dX0_sell_22 rfl rfl ?_
  refine z_V2i cx vX0_isBrightBy kX0_61 (c_X0_isBrightBy hg σ z ht) (by decide) hC115 rfl rfl (Nat.le_of_ble_eq_true rfl) dX0_sell_23 ?_
  refine z_istore cx dX0_sell_26 hnL (by decide) rfl ?_
  refine z_iconst cx dX0_sell_28 ic_m1 ?_
  refine z_istore cx dX0_sell_29 hnL (by decide) rfl ?_
  refine z_iload_n cx 3 dX0_sell_31 rfl rfl ?_
  refine z_iconst cx dX0_sell_32 ic_m1 ?_
  refine z_icmp_eq (tgt := 66) cx dX0_sell_33 (by decide) (fun c_33 => ?_) (fun c_33 => ?_)
  · have c33 : slW σ n = -1 := c_33
    exact tail σ _ _ eT (by rw [slP, if_pos c33]) (by rw [slM, if_pos c33])
  · obtain ⟨j9, hj9, ej9⟩ := (ow_rng (σ 6 1) (σ 15) n).resolve_left c_33
    have c33 : ¬ slW σ n = -1 := c_33
    have ew : slW σ n = nI j9 := ej9
    refine z_aload_n cx 0 dX0_sell_36 rfl rfl ?_
    refine z_aload_n cx 0 dX0_sell_37 rfl rfl ?_
    refine gX0_19 cx dX0_sell_38 ?_
    refine gX0_58 cx dX0_sell_41 ?_
    refine z_iload_n cx 3 dX0_sell_44 rfl rfl ?_
    refine z_aload_n cx 0 dX0_sell_45 rfl rfl ?_
    refine gX0_15 cx dX0_sell_46 ?_
    refine gX0_47 cx dX0_sell_49 ?_
    rw [ej9]
    refine z_V3i cx vX0_paymentBy kX0_50 (c_X0_paymentBy hg σ (by decide) (fun _ => rfl) hn hb (by omega) _) (by decide) hC115 rfl rfl (Nat.le_of_ble_eq_true rfl) dX0_sell_52 ?_
    refine z_istore cx dX0_sell_55 hnL (by decide) rfl ?_
    refine z_aload_n cx 0 dX0_sell_57 rfl rfl ?_
    refine z_iload_n cx 3 dX0_sell_58 rfl rfl ?_
    refine z_iload cx dX0_sell_59 rfl ?_
    refine z_iload cx dX0_sell_61 rfl ?_
    refine z_V3v cx vX0_handOver kX0_65 (c_X0_handOver hg σ (by omega) ht eT _ (slB σ t z)) (by decide) hC115 rfl rfl (Nat.le_of_ble_eq_true rfl) dX0_sell_63 ?_
    exact tail _ _ _ eT (by rw [slP, if_neg c33, ew, nI_clamp (by omega)]) (by rw [slM, if_neg c33, slP, if_neg c33, ew, nI_clamp (by omega)])
