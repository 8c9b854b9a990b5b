def dwn (buyer bidder k : Int32) : Bool := !decide (buyer = -1) && (!decide (buyer = bidder) && !decide (k = 1))
def ftS (bs ds bk : Nat → Int32) (buyer : Int32) : Nat → Bool
  | 0 => true
  | i + 1 => ftS bs ds bk buyer i && decide (ds i = bI (dwn buyer (bs i) (bk (bs i).toNatClampNeg)))
theorem ftS_no {bs ds bk : Nat → Int32} {buyer : Int32} : ∀ {n i : Nat}, i ≤ n → ftS bs ds bk buyer i = false → ftS bs ds bk buyer n = false
  | 0, i, h, e => by rw [show i = 0 by omega] at e; exact e
  | n + 1, i, h, e => by
    by_cases z : i = n + 1
    · rw [← z]; exact e
    · rw [ftS, ftS_no (n := n) (i := i) (by omega) e]; rfl
def SiH (σ : Mem) (n : Nat) : Prop := n ≤ 6 ∧ σ 120 3 = nI n ∧ ∀ i, i < n → ∃ b, b < 5 ∧ σ 121 i = nI b
set_option maxRecDepth 100000 in
set_option maxHeartbeats 4000000 in
theorem c_X4_add {l : Launch} {g : Gx} (hg : ApG 123 g.ad) (σ : Mem) {n : Nat} (hn : n < 6) (eN : σ 120 3 = nI n) (b dn : Int32) : Ct l (OC g) 0 mX4_add [.ref (g.ad 120), .int b, .int dn] σ none (up2 (up2 (up2 σ 121 n b) 122 n dn) 120 3 (nI (n + 1))) := by
  refine ct_of (lv := [some (.ref (g.ad 120)), some (.int b), some (.int dn)]) (okC hg) (by decide +kernel) (Nat.le_of_ble_eq_true rfl) (fun ls h => lvh_entry h rfl 0) ?_
  intro κ hl hnL cx hR
  subst hl
  have cx : Cx κ (OC g) RX4 cX4_add 0 := cx
  have hnL : κ.nL = 3 := hnL
  refine z_aload_n cx 0 dX4_add_0 rfl rfl ?_
  refine gX4_22 cx dX4_add_1 ?_
  refine z_bipush cx dX4_add_4 bi_6 ?_
  refine z_icmp_ge (tgt := 39) cx dX4_add_6 (by decide) (fun c_6 => ?_) (fun c_6 => ?_)
  · rw [eN] at c_6
    exact absurd c_6 (nI_ge hn (by decide))
  · refine z_aload_n cx 0 dX4_add_9 rfl rfl ?_
    refine gX4_9 cx dX4_add_10 ?_
    refine z_aload_n cx 0 dX4_add_13 rfl rfl ?_
    refine gX4_22 cx dX4_add_14 ?_
    refine z_iload_n cx 1 dX4_add_17 rfl rfl ?_
    refine g_iastN cx n (by decide) (fun _ => rfl) eN (by omega) (by decide) dX4_add_18 ?_
    refine z_aload_n cx 0 dX4_add_19 rfl rfl ?_
    refine gX4_15 cx dX4_add_20 ?_
    refine z_aload_n cx 0 dX4_add_23 rfl rfl ?_
    refine gX4_22 cx dX4_add_24 ?_
    refine z_iload_n cx 2 dX4_add_27 rfl rfl ?_
    refine g_iastN cx n (by decide) (fun _ => rfl) eN (by omega) (by decide) dX4_add_28 ?_
    refine z_aload_n cx 0 dX4_add_29 rfl rfl ?_
    refine z_dup cx dX4_add_30 rfl ?_
    refine gX4_22 cx dX4_add_31 ?_
    refine z_iconst cx dX4_add_34 ic_1 ?_
    refine z_iadd cx dX4_add_35 ?_
    rw [show (up2 (up2 σ 121 n b) 122 n dn) 120 3 + 1 = nI (n + 1) from (congrArg (· + 1) eN).trans (nI_1 n)]
    refine pX4_22 cx dX4_add_36 ?_
    exact z_vret cx hR ⟨rfl, rfl⟩ dX4_add_39
set_option maxRecDepth 100000 in
set_option maxHeartbeats 4000000 in
theorem c_X4_downBy {l : Launch} {g : Gx} (hg : ApG 123 g.ad) (σ : Mem) (buyer : Int32) {b : Nat} (hb : b < 5) : Ct l (OC g) 0 mX4_downBy [.ref (g.ad 120), .int buyer, .int (nI b)] σ (some (.int (bI (dwn buyer (nI b) (σ 9 b))))) σ := by
  refine ct_of (lv := [some (.ref (g.ad 120)), some (.int buyer), some (.int (nI b)), none]) (okC hg) (by decide +kernel) (Nat.le_of_ble_eq_true rfl) (fun ls h => lvh_entry h rfl 1) ?_
  intro κ hl hnL cx hR
  subst hl
  have cx : Cx κ (OC g) RX4 cX4_downBy 0 := cx
  have hnL : κ.nL = 4 := hnL
  refine z_iload_n cx 1 dX4_downBy_0 rfl rfl ?_
  refine z_iconst cx dX4_downBy_1 ic_m1 ?_
  refine z_icmp_eq (tgt := 27) cx dX4_downBy_2 (by decide) (fun c_2 => ?_) (fun c_2 => ?_)
  · refine z_iconst cx dX4_downBy_27 ic_0 ?_
    refine z_istore_n cx 3 dX4_downBy_28 rfl hnL (by decide) rfl ?_
    refine z_iload_n cx 3 dX4_downBy_29 rfl rfl ?_
    refine z_if_eq (tgt := 37) cx dX4_downBy_30 (by decide) (fun c_30 => ?_) (fun c_30 => ?_)
    · refine z_iconst cx dX4_downBy_37 ic_0 ?_
      exact z_iret cx hR ⟨by simp [dwn, bI, c_2], rfl⟩ dX4_downBy_38
    · exact absurd rfl c_30
  · refine z_iload_n cx 1 dX4_downBy_5 rfl rfl ?_
    refine z_iload_n cx 2 dX4_downBy_6 rfl rfl ?_
    refine z_icmp_eq (tgt := 27) cx dX4_downBy_7 (by decide) (fun c_7 => ?_) (fun c_7 => ?_)
    · refine z_iconst cx dX4_downBy_27 ic_0 ?_
      refine z_istore_n cx 3 dX4_downBy_28 rfl hnL (by decide) rfl ?_
      refine z_iload_n cx 3 dX4_downBy_29 rfl rfl ?_
      refine z_if_eq (tgt := 37) cx dX4_downBy_30 (by decide) (fun c_30 => ?_) (fun c_30 => ?_)
      · refine z_iconst cx dX4_downBy_37 ic_0 ?_
        exact z_iret cx hR ⟨by simp [dwn, bI, c_2, c_7], rfl⟩ dX4_downBy_38
      · exact absurd rfl c_30
    · refine z_aload_n cx 0 dX4_downBy_10 rfl rfl ?_
      refine gX4_18 cx dX4_downBy_11 ?_
      refine gX4_38 cx dX4_downBy_14 ?_
      refine z_iload_n cx 2 dX4_downBy_17 rfl rfl ?_
      refine g_ialdN cx b (by decide) (fun _ => rfl) rfl (by omega) (by decide) dX4_downBy_18 ?_
      refine z_iconst cx dX4_downBy_19 ic_1 ?_
      refine z_icmp_eq (tgt := 27) cx dX4_downBy_20 (by decide) (fun c_20 => ?_) (fun c_20 => ?_)
      · refine z_iconst cx dX4_downBy_27 ic_0 ?_
        refine z_istore_n cx 3 dX4_downBy_28 rfl hnL (by decide) rfl ?_
        refine z_iload_n cx 3 dX4_downBy_29 rfl rfl ?_
        refine z_if_eq (tgt := 37) cx dX4_downBy_30 (by decide) (fun c_30 => ?_) (fun c_30 => ?_)
        · refine z_iconst cx dX4_downBy_37 ic_0 ?_
          exact z_iret cx hR ⟨by simp [dwn, bI, c_2, c_7, c_20], rfl⟩ dX4_downBy_38
        · exact absurd rfl c_30
      · refine z_iconst cx dX4_downBy_23 ic_1 ?_
        refine z_goto (tgt := 28) cx dX4_downBy_24 (by decide) ?_
        refine z_istore_n cx 3 dX4_downBy_28 rfl hnL (by decide) rfl ?_
        refine z_iload_n cx 3 dX4_downBy_29 rfl rfl ?_
        refine z_if_eq (tgt := 37) cx dX4_downBy_30 (by decide) (fun c_30 => ?_) (fun c_30 => ?_)
        · exact absurd c_30 (by decide)
        · refine z_iconst cx dX4_downBy_33 ic_1 ?_
          refine z_goto (tgt := 38) cx dX4_downBy_34 (by decide) ?_
          exact z_iret cx hR ⟨by simp [dwn, bI, c_2, c_7, c_20], rfl⟩ dX4_downBy_38
set_option maxRecDepth 100000 in
set_option maxHeartbeats 4000000 in
theorem c_X4_fits {l : Launch} {g : Gx} (hg : ApG 123 g.ad) (σ : Mem) (buyer : Int32) {n : Nat} (hS : SiH σ n) : Ct l (OC g) 1 mX4_fits [.ref (g.ad 120), .int buyer] σ (some (.int (bI (ftS (σ 121) (σ 122) (σ 9) buyer n)))) σ := by
  refine ct_of (lv := [some (.ref (g.ad 120)), some (.int buyer), none]) (okC hg) (by decide +kernel) (Nat.le_of_ble_eq_true rfl) (fun ls h => lvh_entry h rfl 1) ?_
  intro κ hl hnL cx hR
  subst hl
  have cx : Cx κ (OC g) RX4 cX4_fits 1 := cx
  have hnL : κ.nL = 3 := hnL
  obtain ⟨hn, eN, hB⟩ := hS
  have loop : ∀ (c i : Nat), n + 1 ≤ i + c → i ≤ n → ftS (σ 121) (σ 122) (σ 9) buyer i = true → Z κ (OC g) σ 2 [some (.ref (g.ad 120)), some (.int buyer), some (.int (nI i))] [] := by
    intro c
    induction c with
    | zero => intro i h1 h2; exact absurd h1 (by omega)
    | succ c ih =>
      intro i h1 h2 h3
      refine z_iload_n cx 2 dX4_fits_2 rfl rfl ?_
      refine z_aload_n cx 0 dX4_fits_3 rfl rfl ?_
      refine gX4_22 cx dX4_fits_4 ?_
      rw [eN]
      refine z_icmp_ge (tgt := 38) cx dX4_fits_7 (by decide) (fun c_7 => ?_) (fun c_7 => ?_)
      · rw [nI_leI (by omega) (by omega)] at c_7
        have e9 : i = n := by omega
        subst e9
        refine z_iconst cx dX4_fits_38 ic_1 ?_
        exact z_zret cx hR rfl ⟨by rw [h3]; rfl, rfl⟩ dX4_fits_39
      · rw [nI_leI (by omega) (by omega)] at c_7
        obtain ⟨b, hb, eb⟩ := hB i (by omega)
        refine z_aload_n cx 0 dX4_fits_10 rfl rfl ?_
        refine gX4_15 cx dX4_fits_11 ?_
        refine z_iload_n cx 2 dX4_fits_14 rfl rfl ?_
        refine g_ialdN cx i (by decide) (fun _ => rfl) rfl (by omega) (by decide) dX4_fits_15 ?_
        refine z_aload_n cx 0 dX4_fits_16 rfl rfl ?_
        refine z_iload_n cx 1 dX4_fits_17 rfl rfl ?_
        refine z_aload_n cx 0 dX4_fits_18 rfl rfl ?_
        refine gX4_9 cx dX4_fits_19 ?_
        refine z_iload_n cx 2 dX4_fits_22 rfl rfl ?_
        refine g_ialdN cx i (by decide) (fun _ => rfl) rfl (by omega) (by decide) dX4_fits_23 ?_
        rw [eb]
        refine z_V2i cx vX4_downBy kX4_34 (c_X4_downBy hg σ buyer hb) (by decide) hC120 rfl rfl (Nat.le_of_ble_eq_true rfl) dX4_fits_24 ?_
        refine z_icmp_eq (tgt := 32) cx dX4_fits_27 (by decide) (fun c_27 => ?_) (fun c_27 => ?_)
        · refine z_iinc cx dX4_fits_32 rfl ic_1 (nI_1 i) hnL (by decide) rfl ?_
          refine z_goto (tgt := 2) cx dX4_fits_35 (by decide) ?_
          exact ih (i + 1) (by omega) (by omega) (by rw [ftS, h3, eb, nI_clamp (by omega)]; simpa using c_27)
        · refine z_iconst cx dX4_fits_30 ic_0 ?_
          exact z_zret cx hR rfl ⟨by rw [ftS_no (i := i + 1) (by omega) (by rw [ftS, h3, eb, nI_clamp (by omega)]; simpa using c_27)]; rfl, rfl⟩ dX4_fits_31
  refine z_iconst cx dX4_fits_0 ic_0 ?_
  refine z_istore_n cx 2 dX4_fits_1 rfl hnL (by decide) rfl ?_
  exact loop (n + 1) 0 (by omega) (by omega) rfl
def buS (σ : Mem) (n s : Nat) : Int32 := if ftS (σ 121) (σ 122) (σ 9) (-1) s = true then tpS (fun b => ftS (σ 121) (σ 122) (σ 9) (nI b) s) n ||| 32 else tpS (fun b => ftS (σ 121) (σ 122) (σ 9) (nI b) s) n
set_option maxRecDepth 100000 in
set_option maxHeartbeats 4000000 in
theorem c_X4_findBuyers {l : Launch} {g : Gx} (hg : ApG 123 g.ad) (σ : Mem) {n s : Nat} (hS : SiH σ s) (hn : n ≤ 5) (hb : σ 6 4 = nI n) : Ct l (OC g) 2 mX4_findBuyers [.ref (g.ad 120)] σ (some (.int (buS σ n s))) σ := by
  refine ct_of (lv := [some (.ref (g.ad 120)), none, none]) (okC hg) (by decide +kernel) (Nat.le_of_ble_eq_true rfl) (fun ls h => lvh_entry h rfl 2) ?_
  intro κ hl hnL cx hR
  subst hl
  have cx : Cx κ (OC g) RX4 cX4_findBuyers 2 := cx
  have hnL : κ.nL = 3 := hnL
  have loop : ∀ (c b : Nat), n + 1 ≤ b + c → b ≤ n → Z κ (OC g) σ 4 [some (.ref (g.ad 120)), some (.int (tpS (fun b => ftS (σ 121) (σ 122) (σ 9) (nI b) s) b)), some (.int (nI b))] [] := by
    intro c
    induction c with
    | zero => intro b h1 h2; exact absurd h1 (by omega)
    | succ c ih =>
      intro b h1 h2
      refine z_iload_n cx 2 dX4_findBuyers_4 rfl rfl ?_
      refine z_aload_n cx 0 dX4_findBuyers_5 rfl rfl ?_
      refine gX4_18 cx dX4_findBuyers_6 ?_
      refine gX4_26 cx dX4_findBuyers_9 ?_
      refine z_icmp_ge (tgt := 35) cx dX4_findBuyers_12 (by decide) (fun c_12 => ?_) (fun c_12 => ?_)
      · rw [hb, nI_leI (by omega) (by omega)] at c_12
        have e9 : b = n := by omega
        subst e9
        refine z_aload_n cx 0 dX4_findBuyers_35 rfl rfl ?_
        refine z_iconst cx dX4_findBuyers_36 ic_m1 ?_
        refine z_V1i cx vX4_fits kX4_30 (c_X4_fits hg σ _ hS) (by decide) hC120 rfl rfl (Nat.le_of_ble_eq_true rfl) dX4_findBuyers_37 ?_
        refine z_ifb_eq (tgt := 50) cx dX4_findBuyers_40 (by decide) (fun c_40 => ?_) (fun c_40 => ?_)
        · refine z_iload_n cx 1 dX4_findBuyers_50 rfl rfl ?_
          exact z_iret cx hR ⟨by rw [buS, if_neg (by rw [c_40]; decide)], rfl⟩ dX4_findBuyers_51
        · refine z_iload_n cx 1 dX4_findBuyers_43 rfl rfl ?_
          refine z_bipush cx dX4_findBuyers_44 bi_32 ?_
          refine z_ior cx dX4_findBuyers_46 ?_
          refine z_goto (tgt := 51) cx dX4_findBuyers_47 (by decide) ?_
          exact z_iret cx hR ⟨by rw [buS, if_pos c_40], rfl⟩ dX4_findBuyers_51
      · rw [hb, nI_leI (by omega) (by omega)] at c_12
        refine z_aload_n cx 0 dX4_findBuyers_15 rfl rfl ?_
        refine z_iload_n cx 2 dX4_findBuyers_16 rfl rfl ?_
        refine z_V1i cx vX4_fits kX4_30 (c_X4_fits hg σ _ hS) (by decide) hC120 rfl rfl (Nat.le_of_ble_eq_true rfl) dX4_findBuyers_17 ?_
        refine z_ifb_eq (tgt := 29) cx dX4_findBuyers_20 (by decide) (fun c_20 => ?_) (fun c_20 => ?_)
        · refine z_iinc cx dX4_findBuyers_29 rfl ic_1 (nI_1 b) hnL (by decide) rfl ?_
          refine z_goto (tgt := 4) cx dX4_findBuyers_32 (by decide) ?_
          exact z_eq rfl (by simp [tpS, c_20]) rfl (ih (b + 1) (by omega) (by omega))
        · refine z_iload_n cx 1 dX4_findBuyers_23 rfl rfl ?_
          refine z_iconst cx dX4_findBuyers_24 ic_1 ?_
          refine z_iload_n cx 2 dX4_findBuyers_25 rfl rfl ?_
          refine z_ishl cx dX4_findBuyers_26 ?_
          refine z_ior cx dX4_findBuyers_27 ?_
          refine z_istore_n cx 1 dX4_findBuyers_28 rfl hnL (by decide) rfl ?_
          refine z_iinc cx dX4_findBuyers_29 rfl ic_1 (nI_1 b) hnL (by decide) rfl ?_
          refine z_goto (tgt := 4) cx dX4_findBuyers_32 (by decide) ?_
          exact z_eq rfl (by simp [tpS, c_20]) rfl (ih (b + 1) (by omega) (by omega))
  refine z_iconst cx dX4_findBuyers_0 ic_0 ?_
  refine z_istore_n cx 1 dX4_findBuyers_1 rfl hnL (by decide) rfl ?_
  refine z_iconst cx dX4_findBuyers_2 ic_0 ?_
  refine z_istore_n cx 2 dX4_findBuyers_3 rfl hnL (by decide) rfl ?_
  exact loop (n + 1) 0 (by omega) (by omega)
