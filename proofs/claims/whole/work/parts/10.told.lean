def evW (w : Int32) : Bool := !decide (w < 1) && !decide (3 < w)
def biW (w : Int32) : Bool := !decide (w < 4) && !decide (7 < w)
def wB (k w : Int32) : Int32 := if k = 1 then w / 2 else if k = 3 then (if 0 < w - 10 then w - 10 else 0) else w
def wD (k w : Int32) : Int32 := if k = 1 then w / 2 else if k = 2 then 5 else 0
def rfO (ek rf pr : Int32) : Int32 := if ek = 2 then 0 else rf * pr / 10
def gn (bk w ch ek rf pr : Int32) : Int32 := ch * wB bk w + (10 - ch) * (wD bk w + rfO ek rf pr) - 10 * pr
def clC (kind ch : Int32) : Int32 := if kind = 1 then (if 0 < ch - 2 then ch - 2 else 0) else ch
def adE (σ : Mem) (n : Nat) (kind ch : Int32) : Mem := up2 (up2 (up2 σ 7 n kind) 8 n (clC kind ch)) 6 3 (nI (n + 1))
def adB (σ : Mem) (n : Nat) (kind wo te : Int32) : Mem := up2 (up2 (up2 (up2 σ 9 n kind) 10 n wo) 11 n te) 6 4 (nI (n + 1))
def fgA (σ : Mem) : Mem := up2 (up2 (up2 (up2 (up2 σ 6 0 0) 6 1 0) 6 2 0) 6 3 0) 6 4 0
def stl (σ : Mem) (w : Nat) (a : Int32) : Mem := if w = 0 then fgA σ else if w = 8 then up2 σ 6 0 0 else if w = 9 then up2 σ 6 0 1 else if w = 10 then up2 σ 6 1 a else if w = 11 then up2 σ 6 2 a else up2 σ 6 3 0
/-- a clause is done: its word, its numbers, over nE evenings and nB bidders with room -/
def cOut (σ : Mem) (w nE nB : Nat) (a b : Int32) : Mem := if w = 0 ∨ 8 ≤ w then stl σ w a else if w ≤ 3 then adE σ nE (nI (w - 1)) a else adB σ nB (nI (w - 4)) a b
set_option maxRecDepth 100000 in
set_option maxHeartbeats 4000000 in
theorem c_X7_isWithin {l : Launch} {g : Gx} (hg : ApG 123 g.ad) (σ : Mem) (n top : Int32) : Ct l (OC g) 0 mX7_isWithin [.int n, .int top] σ (some (.int (bI (inW n top)))) σ := by
  refine ct_of (lv := [some (.int n), some (.int top)]) (okC hg) (by decide +kernel) (Nat.le_of_ble_eq_true rfl) (fun ls h => lvh_entry h rfl 0) ?_
  intro κ hl hnL cx hR
  subst hl
  have cx : Cx κ (OC g) RX7 cX7_isWithin 0 := cx
  have hnL : κ.nL = 2 := hnL
  refine z_iload_n cx 0 dX7_isWithin_0 rfl rfl ?_
  refine z_if_lt (tgt := 13) cx dX7_isWithin_1 (by decide) (fun c_1 => ?_) (fun c_1 => ?_)
  · refine z_iconst cx dX7_isWithin_13 ic_0 ?_
    exact z_zret cx hR rfl ⟨by simp [inW, bI, c_1], rfl⟩ dX7_isWithin_14
  · refine z_iload_n cx 0 dX7_isWithin_4 rfl rfl ?_
    refine z_iload_n cx 1 dX7_isWithin_5 rfl rfl ?_
    refine z_icmp_gt (tgt := 13) cx dX7_isWithin_6 (by decide) (fun c_6 => ?_) (fun c_6 => ?_)
    · refine z_iconst cx dX7_isWithin_13 ic_0 ?_
      exact z_zret cx hR rfl ⟨by simp [inW, bI, c_1, c_6], rfl⟩ dX7_isWithin_14
    · refine z_iconst cx dX7_isWithin_9 ic_1 ?_
      refine z_goto (tgt := 14) cx dX7_isWithin_10 (by decide) ?_
      exact z_zret cx hR rfl ⟨by simp [inW, bI, c_1, c_6], rfl⟩ dX7_isWithin_14
set_option maxRecDepth 100000 in
set_option maxHeartbeats 4000000 in
theorem c_X7_isEveningWord {l : Launch} {g : Gx} (hg : ApG 123 g.ad) (σ : Mem) (w : Int32) : Ct l (OC g) 0 mX7_isEveningWord [.int w] σ (some (.int (bI (evW w)))) σ := by
  refine ct_of (lv := [some (.int w)]) (okC hg) (by decide +kernel) (Nat.le_of_ble_eq_true rfl) (fun ls h => lvh_entry h rfl 0) ?_
  intro κ hl hnL cx hR
  subst hl
  have cx : Cx κ (OC g) RX7 cX7_isEveningWord 0 := cx
  have hnL : κ.nL = 1 := hnL
  refine z_iload_n cx 0 dX7_isEveningWord_0 rfl rfl ?_
  refine z_iconst cx dX7_isEveningWord_1 ic_1 ?_
  refine z_icmp_lt (tgt := 14) cx dX7_isEveningWord_2 (by decide) (fun c_2 => ?_) (fun c_2 => ?_)
  · refine z_iconst cx dX7_isEveningWord_14 ic_0 ?_
    exact z_zret cx hR rfl ⟨by simp [evW, bI, c_2], rfl⟩ dX7_isEveningWord_15
  · refine z_iload_n cx 0 dX7_isEveningWord_5 rfl rfl ?_
    refine z_iconst cx dX7_isEveningWord_6 ic_3 ?_
    refine z_icmp_gt (tgt := 14) cx dX7_isEveningWord_7 (by decide) (fun c_7 => ?_) (fun c_7 => ?_)
    · refine z_iconst cx dX7_isEveningWord_14 ic_0 ?_
      exact z_zret cx hR rfl ⟨by simp [evW, bI, c_2, c_7], rfl⟩ dX7_isEveningWord_15
    · refine z_iconst cx dX7_isEveningWord_10 ic_1 ?_
      refine z_goto (tgt := 15) cx dX7_isEveningWord_11 (by decide) ?_
      exact z_zret cx hR rfl ⟨by simp [evW, bI, c_2, c_7], rfl⟩ dX7_isEveningWord_15
set_option maxRecDepth 100000 in
set_option maxHeartbeats 4000000 in
theorem c_X7_isBidderWord {l : Launch} {g : Gx} (hg : ApG 123 g.ad) (σ : Mem) (w : Int32) : Ct l (OC g) 0 mX7_isBidderWord [.int w] σ (some (.int (bI (biW w)))) σ := by
  refine ct_of (lv := [some (.int w)]) (okC hg) (by decide +kernel) (Nat.le_of_ble_eq_true rfl) (fun ls h => lvh_entry h rfl 0) ?_
  intro κ hl hnL cx hR
  subst hl
  have cx : Cx κ (OC g) RX7 cX7_isBidderWord 0 := cx
  have hnL : κ.nL = 1 := hnL
  refine z_iload_n cx 0 dX7_isBidderWord_0 rfl rfl ?_
  refine z_iconst cx dX7_isBidderWord_1 ic_4 ?_
  refine z_icmp_lt (tgt := 15) cx dX7_isBidderWord_2 (by decide) (fun c_2 => ?_) (fun c_2 => ?_)
  · refine z_iconst cx dX7_isBidderWord_15 ic_0 ?_
    exact z_zret cx hR rfl ⟨by simp [biW, bI, c_2], rfl⟩ dX7_isBidderWord_16
  · refine z_iload_n cx 0 dX7_isBidderWord_5 rfl rfl ?_
    refine z_bipush cx dX7_isBidderWord_6 bi_7 ?_
    refine z_icmp_gt (tgt := 15) cx dX7_isBidderWord_8 (by decide) (fun c_8 => ?_) (fun c_8 => ?_)
    · refine z_iconst cx dX7_isBidderWord_15 ic_0 ?_
      exact z_zret cx hR rfl ⟨by simp [biW, bI, c_2, c_8], rfl⟩ dX7_isBidderWord_16
    · refine z_iconst cx dX7_isBidderWord_11 ic_1 ?_
      refine z_goto (tgt := 16) cx dX7_isBidderWord_12 (by decide) ?_
      exact z_zret cx hR rfl ⟨by simp [biW, bI, c_2, c_8], rfl⟩ dX7_isBidderWord_16
set_option maxRecDepth 100000 in
set_option maxHeartbeats 4000000 in
theorem c_X7_sayingPlace {l : Launch} {g : Gx} (hg : ApG 123 g.ad) (σ : Mem) (t e : Int32) : Ct l (OC g) 0 mX7_sayingPlace [.int t, .int e] σ (some (.int (t * 7 + e))) σ := by
  refine ct_of (lv := [some (.int t), some (.int e)]) (okC hg) (by decide +kernel) (Nat.le_of_ble_eq_true rfl) (fun ls h => lvh_entry h rfl 0) ?_
  intro κ hl hnL cx hR
  subst hl
  have cx : Cx κ (OC g) RX7 cX7_sayingPlace 0 := cx
  have hnL : κ.nL = 2 := hnL
  refine z_iload_n cx 0 dX7_sayingPlace_0 rfl rfl ?_
  refine z_bipush cx dX7_sayingPlace_1 bi_7 ?_
  refine z_imul cx dX7_sayingPlace_3 ?_
  refine z_iload_n cx 1 dX7_sayingPlace_4 rfl rfl ?_
  refine z_iadd cx dX7_sayingPlace_5 ?_
  exact z_iret cx hR ⟨rfl, rfl⟩ dX7_sayingPlace_6
theorem nar_b (b : Bool) : narrow .boolean (.int (bI b)) = .int (bI b) := by cases b <;> rfl
set_option maxRecDepth 100000 in
set_option maxHeartbeats 4000000 in
theorem c_X7_isTeller {l : Launch} {g : Gx} (hg : ApG 123 g.ad) (σ : Mem) (t : Int32) : Ct l (OC g) 1 mX7_isTeller [.int t] σ (some (.int (bI (inW t 2)))) σ := by
  refine ct_of (lv := [some (.int t)]) (okC hg) (by decide +kernel) (Nat.le_of_ble_eq_true rfl) (fun ls h => lvh_entry h rfl 0) ?_
  intro κ hl hnL cx hR
  subst hl
  have cx : Cx κ (OC g) RX7 cX7_isTeller 1 := cx
  have hnL : κ.nL = 1 := hnL
  refine z_iload_n cx 0 dX7_isTeller_0 rfl rfl ?_
  refine z_iconst cx dX7_isTeller_1 ic_2 ?_
  refine z_S2i cx sX7_isWithin kX7_73 (c_X7_isWithin hg σ _ _) (by decide) (Nat.le_of_ble_eq_true rfl) dX7_isTeller_2 ?_
  exact z_zret cx hR (nar_b _) ⟨rfl, rfl⟩ dX7_isTeller_5
set_option maxRecDepth 100000 in
set_option maxHeartbeats 4000000 in
theorem c_X6_isEvening {l : Launch} {g : Gx} (hg : ApG 123 g.ad) (σ : Mem) (e : Int32) : Ct l (OC g) 0 mX6_isEvening [.ref (g.ad 6), .int e] σ (some (.int (bI (inR e (σ 6 3))))) σ := by
  refine ct_of (lv := [some (.ref (g.ad 6)), some (.int e)]) (okC hg) (by decide +kernel) (Nat.le_of_ble_eq_true rfl) (fun ls h => lvh_entry h rfl 0) ?_
  intro κ hl hnL cx hR
  subst hl
  have cx : Cx κ (OC g) RX6 cX6_isEvening 0 := cx
  have hnL : κ.nL = 2 := hnL
  refine z_iload_n cx 1 dX6_isEvening_0 rfl rfl ?_
  refine z_if_lt (tgt := 16) cx dX6_isEvening_1 (by decide) (fun c_1 => ?_) (fun c_1 => ?_)
  · refine z_iconst cx dX6_isEvening_16 ic_0 ?_
    exact z_zret cx hR rfl ⟨by simp [inR, bI, c_1], rfl⟩ dX6_isEvening_17
  · refine z_iload_n cx 1 dX6_isEvening_4 rfl rfl ?_
    refine z_aload_n cx 0 dX6_isEvening_5 rfl rfl ?_
    refine gX6_27 cx dX6_isEvening_6 ?_
    refine z_icmp_ge (tgt := 16) cx dX6_isEvening_9 (by decide) (fun c_9 => ?_) (fun c_9 => ?_)
    · refine z_iconst cx dX6_isEvening_16 ic_0 ?_
      exact z_zret cx hR rfl ⟨by simp [inR, bI, c_1, c_9], rfl⟩ dX6_isEvening_17
    · refine z_iconst cx dX6_isEvening_12 ic_1 ?_
      refine z_goto (tgt := 17) cx dX6_isEvening_13 (by decide) ?_
      exact z_zret cx hR rfl ⟨by simp [inR, bI, c_1, c_9], rfl⟩ dX6_isEvening_17
set_option maxRecDepth 100000 in
set_option maxHeartbeats 4000000 in
theorem c_X6_isBidder {l : Launch} {g : Gx} (hg : ApG 123 g.ad) (σ : Mem) (e : Int32) : Ct l (OC g) 0 mX6_isBidder [.ref (g.ad 6), .int e] σ (some (.int (bI (inR e (σ 6 4))))) σ := by
  refine ct_of (lv := [some (.ref (g.ad 6)), some (.int e)]) (okC hg) (by decide +kernel) (Nat.le_of_ble_eq_true rfl) (fun ls h => lvh_entry h rfl 0) ?_
  intro κ hl hnL cx hR
  subst hl
  have cx : Cx κ (OC g) RX6 cX6_isBidder 0 := cx
  have hnL : κ.nL = 2 := hnL
  refine z_iload_n cx 1 dX6_isBidder_0 rfl rfl ?_
  refine z_if_lt (tgt := 16) cx dX6_isBidder_1 (by decide) (fun c_1 => ?_) (fun c_1 => ?_)
  · refine z_iconst cx dX6_isBidder_16 ic_0 ?_
    exact z_zret cx hR rfl ⟨by simp [inR, bI, c_1], rfl⟩ dX6_isBidder_17
  · refine z_iload_n cx 1 dX6_isBidder_4 rfl rfl ?_
    refine z_aload_n cx 0 dX6_isBidder_5 rfl rfl ?_
    refine gX6_31 cx dX6_isBidder_6 ?_
    refine z_icmp_ge (tgt := 16) cx dX6_isBidder_9 (by decide) (fun c_9 => ?_) (fun c_9 => ?_)
    · refine z_iconst cx dX6_isBidder_16 ic_0 ?_
      exact z_zret cx hR rfl ⟨by simp [inR, bI, c_1, c_9], rfl⟩ dX6_isBidder_17
    · refine z_iconst cx dX6_isBidder_12 ic_1 ?_
      refine z_goto (tgt := 17) cx dX6_isBidder_13 (by decide) ?_
      exact z_zret cx hR rfl ⟨by simp [inR, bI, c_1, c_9], rfl⟩ dX6_isBidder_17
set_option maxRecDepth 100000 in
set_option maxHeartbeats 4000000 in
theorem c_X7_isTonight {l : Launch} {g : Gx} (hg : ApG 123 g.ad) (σ : Mem) : Ct l (OC g) 1 mX7_isTonight [.ref (g.ad 0)] σ (some (.int (bI (inR (σ 12 0) (σ 6 3))))) σ := by
  refine ct_of (lv := [some (.ref (g.ad 0))]) (okC hg) (by decide +kernel) (Nat.le_of_ble_eq_true rfl) (fun ls h => lvh_entry h rfl 0) ?_
  intro κ hl hnL cx hR
  subst hl
  have cx : Cx κ (OC g) RX7 cX7_isTonight 1 := cx
  have hnL : κ.nL = 1 := hnL
  refine z_aload_n cx 0 dX7_isTonight_0 rfl rfl ?_
  refine gX7_19 cx dX7_isTonight_1 ?_
  refine z_aload_n cx 0 dX7_isTonight_4 rfl rfl ?_
  refine gX7_26 cx dX7_isTonight_5 ?_
  refine gX7_194 cx dX7_isTonight_8 ?_
  refine z_V1i cx vX6_isEvening kX7_116 (c_X6_isEvening hg σ _) (by decide) hC6 rfl rfl (Nat.le_of_ble_eq_true rfl) dX7_isTonight_11 ?_
  exact z_zret cx hR (nar_b _) ⟨rfl, rfl⟩ dX7_isTonight_14
set_option maxRecDepth 100000 in
set_option maxHeartbeats 4000000 in
theorem c_X6_forgetAll {l : Launch} {g : Gx} (hg : ApG 123 g.ad) (σ : Mem) : Ct l (OC g) 0 mX6_forgetAll [.ref (g.ad 6)] σ none (fgA σ) := by
  refine ct_of (lv := [some (.ref (g.ad 6))]) (okC hg) (by decide +kernel) (Nat.le_of_ble_eq_true rfl) (fun ls h => lvh_entry h rfl 0) ?_
  intro κ hl hnL cx hR
  subst hl
  have cx : Cx κ (OC g) RX6 cX6_forgetAll 0 := cx
  have hnL : κ.nL = 1 := hnL
  refine z_aload_n cx 0 dX6_forgetAll_0 rfl rfl ?_
  refine z_iconst cx dX6_forgetAll_1 ic_0 ?_
  refine pX6_55 cx dX6_forgetAll_2 ?_
  refine z_aload_n cx 0 dX6_forgetAll_5 rfl rfl ?_
  refine z_iconst cx dX6_forgetAll_6 ic_0 ?_
  refine pX6_58 cx dX6_forgetAll_7 ?_
  refine z_aload_n cx 0 dX6_forgetAll_10 rfl rfl ?_
  refine z_iconst cx dX6_forgetAll_11 ic_0 ?_
  refine pX6_61 cx dX6_forgetAll_12 ?_
  refine z_aload_n cx 0 dX6_forgetAll_15 rfl rfl ?_
  refine z_iconst cx dX6_forgetAll_16 ic_0 ?_
  refine pX6_27 cx dX6_forgetAll_17 ?_
  refine z_aload_n cx 0 dX6_forgetAll_20 rfl rfl ?_
  refine z_iconst cx dX6_forgetAll_21 ic_0 ?_
  refine pX6_31 cx dX6_forgetAll_22 ?_
  exact z_vret cx hR ⟨rfl, rfl⟩ dX6_forgetAll_25
set_option maxRecDepth 100000 in
set_option maxHeartbeats 4000000 in
theorem c_X6_settle {l : Launch} {g : Gx} (hg : ApG 123 g.ad) (σ : Mem) {w : Nat} (hw : w = 0 ∨ (8 ≤ w ∧ w ≤ 12)) (a : Int32) : Ct l (OC g) 1 mX6_settle [.ref (g.ad 6), .int (nI w), .int a] σ none (stl σ w a) := by
  refine ct_of (lv := [some (.ref (g.ad 6)), some (.int (nI w)), some (.int a)]) (okC hg) (by decide +kernel) (Nat.le_of_ble_eq_true rfl) (fun ls h => lvh_entry h rfl 0) ?_
  intro κ hl hnL cx hR
  subst hl
  have cx : Cx κ (OC g) RX6 cX6_settle 1 := cx
  have hnL : κ.nL = 3 := hnL
  rcases (show w = 0 ∨ w = 8 ∨ w = 9 ∨ w = 10 ∨ w = 11 ∨ w = 12 by omega) with rfl | rfl | rfl | rfl | rfl | rfl
  · refine z_iload_n cx 1 dX6_settle_0 rfl rfl ?_
    refine z_tableIn (off := 67) (tgt := 68) cx dX6_settle_1 (by decide) (by decide) (by decide) (by decide) ?_
    refine z_aload_n cx 0 dX6_settle_68 rfl rfl ?_
    refine z_V0v cx vX6_forgetAll kX6_52 (c_X6_forgetAll hg σ) (by decide) hC6 rfl rfl (Nat.le_of_ble_eq_true rfl) dX6_settle_69 ?_
    refine z_goto (tgt := 115) cx dX6_settle_72 (by decide) ?_
    exact z_vret cx hR ⟨rfl, rfl⟩ dX6_settle_115
  · refine z_iload_n cx 1 dX6_settle_0 rfl rfl ?_
    refine z_tableIn (off := 74) (tgt := 75) cx dX6_settle_1 (by decide) (by decide) (by decide) (by decide) ?_
    refine z_aload_n cx 0 dX6_settle_75 rfl rfl ?_
    refine z_iconst cx dX6_settle_76 ic_0 ?_
    refine pX6_55 cx dX6_settle_77 ?_
    refine z_goto (tgt := 115) cx dX6_settle_80 (by decide) ?_
    exact z_vret cx hR ⟨rfl, rfl⟩ dX6_settle_115
  · refine z_iload_n cx 1 dX6_settle_0 rfl rfl ?_
    refine z_tableIn (off := 82) (tgt := 83) cx dX6_settle_1 (by decide) (by decide) (by decide) (by decide) ?_
    refine z_aload_n cx 0 dX6_settle_83 rfl rfl ?_
    refine z_iconst cx dX6_settle_84 ic_1 ?_
    refine pX6_55 cx dX6_settle_85 ?_
    refine z_goto (tgt := 115) cx dX6_settle_88 (by decide) ?_
    exact z_vret cx hR ⟨rfl, rfl⟩ dX6_settle_115
  · refine z_iload_n cx 1 dX6_settle_0 rfl rfl ?_
    refine z_tableIn (off := 90) (tgt := 91) cx dX6_settle_1 (by decide) (by decide) (by decide) (by decide) ?_
    refine z_aload_n cx 0 dX6_settle_91 rfl rfl ?_
    refine z_iload_n cx 2 dX6_settle_92 rfl rfl ?_
    refine pX6_58 cx dX6_settle_93 ?_
    refine z_goto (tgt := 115) cx dX6_settle_96 (by decide) ?_
    exact z_vret cx hR ⟨rfl, rfl⟩ dX6_settle_115
  · refine z_iload_n cx 1 dX6_settle_0 rfl rfl ?_
    refine z_tableIn (off := 98) (tgt := 99) cx dX6_settle_1 (by decide) (by decide) (by decide) (by decide) ?_
    refine z_aload_n cx 0 dX6_settle_99 rfl rfl ?_
    refine z_iload_n cx 2 dX6_settle_100 rfl rfl ?_
    refine pX6_61 cx dX6_settle_101 ?_
    refine z_goto (tgt := 115) cx dX6_settle_104 (by decide) ?_
    exact z_vret cx hR ⟨rfl, rfl⟩ dX6_settle_115
  · refine z_iload_n cx 1 dX6_settle_0 rfl rfl ?_
    refine z_tableIn (off := 106) (tgt := 107) cx dX6_settle_1 (by decide) (by decide) (by decide) (by decide) ?_
    refine z_aload_n cx 0 dX6_settle_107 rfl rfl ?_
    refine z_iconst cx dX6_settle_108 ic_0 ?_
    refine pX6_27 cx dX6_settle_109 ?_
    refine z_goto (tgt := 115) cx dX6_settle_112 (by decide) ?_
    exact z_vret cx hR ⟨rfl, rfl⟩ dX6_settle_115
set_option maxRecDepth 100000 in
set_option maxHeartbeats 4000000 in
theorem c_X6_addEvening {l : Launch} {g : Gx} (hg : ApG 123 g.ad) (σ : Mem) {n : Nat} (hn : n < 7) (he : σ 6 3 = nI n) (kind ch : Int32) : Ct l (OC g) 1 mX6_addEvening [.ref (g.ad 6), .int kind, .int ch] σ none (adE σ n kind ch) := by
  refine ct_of (lv := [some (.ref (g.ad 6)), some (.int kind), some (.int ch)]) (okC hg) (by decide +kernel) (Nat.le_of_ble_eq_true rfl) (fun ls h => lvh_entry h rfl 0) ?_
  intro κ hl hnL cx hR
  subst hl
  have cx : Cx κ (OC g) RX6 cX6_addEvening 1 := cx
  have hnL : κ.nL = 3 := hnL
  refine z_aload_n cx 0 dX6_addEvening_0 rfl rfl ?_
  refine gX6_27 cx dX6_addEvening_1 ?_
  refine z_bipush cx dX6_addEvening_4 bi_7 ?_
  refine z_icmp_ge (tgt := 54) cx dX6_addEvening_6 (by decide) (fun c_6 => ?_) (fun c_6 => ?_)
  · rw [he] at c_6
    exact absurd c_6 (nI_ge hn (by decide))
  · refine z_aload_n cx 0 dX6_addEvening_9 rfl rfl ?_
    refine gX6_9 cx dX6_addEvening_10 ?_
    refine z_aload_n cx 0 dX6_addEvening_13 rfl rfl ?_
    refine gX6_27 cx dX6_addEvening_14 ?_
    refine z_iload_n cx 1 dX6_addEvening_17 rfl rfl ?_
    refine g_iastN cx n (by decide) (fun _ => rfl) he (by omega) (by decide) dX6_addEvening_18 ?_
    refine z_aload_n cx 0 dX6_addEvening_19 rfl rfl ?_
    refine gX6_15 cx dX6_addEvening_20 ?_
    refine z_aload_n cx 0 dX6_addEvening_23 rfl rfl ?_
    refine gX6_27 cx dX6_addEvening_24 ?_
    refine z_iload_n cx 1 dX6_addEvening_27 rfl rfl ?_
    refine z_iconst cx dX6_addEvening_28 ic_1 ?_
    refine z_icmp_ne (tgt := 42) cx dX6_addEvening_29 (by decide) (fun c_29 => ?_) (fun c_29 => ?_)
    · refine z_iload_n cx 2 dX6_addEvening_42 rfl rfl ?_
      refine g_iastN cx n (by decide) (fun _ => rfl) he (by omega) (by decide) dX6_addEvening_43 ?_
      refine z_aload_n cx 0 dX6_addEvening_44 rfl rfl ?_
      refine z_dup cx dX6_addEvening_45 rfl ?_
      refine gX6_27 cx dX6_addEvening_46 ?_
      refine z_iconst cx dX6_addEvening_49 ic_1 ?_
      refine z_iadd cx dX6_addEvening_50 ?_
      rw [show (up2 (up2 σ 7 n kind) 8 n _) 6 3 + 1 = nI (n + 1) from (congrArg (· + 1) he).trans (nI_1 n)]
      refine pX6_27 cx dX6_addEvening_51 ?_
      exact z_vret cx hR ⟨rfl, by simp only [adE, clC, c_29, if_true, if_false]⟩ dX6_addEvening_54
    · refine z_iconst cx dX6_addEvening_32 ic_0 ?_
      refine z_iload_n cx 2 dX6_addEvening_33 rfl rfl ?_
      refine z_iconst cx dX6_addEvening_34 ic_2 ?_
      refine z_isub cx dX6_addEvening_35 ?_
      refine z_mmax cx kX6_64 sM_max iM_math cM_max (by decide) (Nat.le_of_ble_eq_true rfl) dX6_addEvening_36 ?_
      refine z_goto (tgt := 43) cx dX6_addEvening_39 (by decide) ?_
      refine g_iastN cx n (by decide) (fun _ => rfl) he (by omega) (by decide) dX6_addEvening_43 ?_
      refine z_aload_n cx 0 dX6_addEvening_44 rfl rfl ?_
      refine z_dup cx dX6_addEvening_45 rfl ?_
      refine gX6_27 cx dX6_addEvening_46 ?_
      refine z_iconst cx dX6_addEvening_49 ic_1 ?_
      refine z_iadd cx dX6_addEvening_50 ?_
      rw [show (up2 (up2 σ 7 n kind) 8 n _) 6 3 + 1 = nI (n + 1) from (congrArg (· + 1) he).trans (nI_1 n)]
      refine pX6_27 cx dX6_addEvening_51 ?_
      exact z_vret cx hR ⟨rfl, by simp only [adE, clC, c_29, if_true, if_false]⟩ dX6_addEvening_54
set_option maxRecDepth 100000 in
set_option maxHeartbeats 4000000 in
theorem c_X6_addBidder {l : Launch} {g : Gx} (hg : ApG 123 g.ad) (σ : Mem) {n : Nat} (hn : n < 5) (he : σ 6 4 = nI n) (kind wo te : Int32) : Ct l (OC g) 0 mX6_addBidder [.ref (g.ad 6), .int kind, .int wo, .int te] σ none (adB σ n kind wo te) := by
  refine ct_of (lv := [some (.ref (g.ad 6)), some (.int kind), some (.int wo), some (.int te)]) (okC hg) (by decide +kernel) (Nat.le_of_ble_eq_true rfl) (fun ls h => lvh_entry h rfl 0) ?_
  intro κ hl hnL cx hR
  subst hl
  have cx : Cx κ (OC g) RX6 cX6_addBidder 0 := cx
  have hnL : κ.nL = 4 := hnL
  refine z_aload_n cx 0 dX6_addBidder_0 rfl rfl ?_
  refine gX6_31 cx dX6_addBidder_1 ?_
  refine z_iconst cx dX6_addBidder_4 ic_5 ?_
  refine z_icmp_ge (tgt := 48) cx dX6_addBidder_5 (by decide) (fun c_5 => ?_) (fun c_5 => ?_)
  · rw [he] at c_5
    exact absurd c_5 (nI_ge hn (by decide))
  · refine z_aload_n cx 0 dX6_addBidder_8 rfl rfl ?_
    refine gX6_18 cx dX6_addBidder_9 ?_
    refine z_aload_n cx 0 dX6_addBidder_12 rfl rfl ?_
    refine gX6_31 cx dX6_addBidder_13 ?_
    refine z_iload_n cx 1 dX6_addBidder_16 rfl rfl ?_
    refine g_iastN cx n (by decide) (fun _ => rfl) he (by omega) (by decide) dX6_addBidder_17 ?_
    refine z_aload_n cx 0 dX6_addBidder_18 rfl rfl ?_
    refine gX6_21 cx dX6_addBidder_19 ?_
    refine z_aload_n cx 0 dX6_addBidder_22 rfl rfl ?_
    refine gX6_31 cx dX6_addBidder_23 ?_
    refine z_iload_n cx 2 dX6_addBidder_26 rfl rfl ?_
    refine g_iastN cx n (by decide) (fun _ => rfl) he (by omega) (by decide) dX6_addBidder_27 ?_
    refine z_aload_n cx 0 dX6_addBidder_28 rfl rfl ?_
    refine gX6_24 cx dX6_addBidder_29 ?_
    refine z_aload_n cx 0 dX6_addBidder_32 rfl rfl ?_
    refine gX6_31 cx dX6_addBidder_33 ?_
    refine z_iload_n cx 3 dX6_addBidder_36 rfl rfl ?_
    refine g_iastN cx n (by decide) (fun _ => rfl) he (by omega) (by decide) dX6_addBidder_37 ?_
    refine z_aload_n cx 0 dX6_addBidder_38 rfl rfl ?_
    refine z_dup cx dX6_addBidder_39 rfl ?_
    refine gX6_31 cx dX6_addBidder_40 ?_
    refine z_iconst cx dX6_addBidder_43 ic_1 ?_
    refine z_iadd cx dX6_addBidder_44 ?_
    rw [show (up2 (up2 (up2 σ 9 n kind) 10 n wo) 11 n te) 6 4 + 1 = nI (n + 1) from (congrArg (· + 1) he).trans (nI_1 n)]
    refine pX6_31 cx dX6_addBidder_45 ?_
    exact z_vret cx hR ⟨rfl, rfl⟩ dX6_addBidder_48
set_option maxRecDepth 100000 in
set_option maxHeartbeats 4000000 in
theorem c_X6_carryOut {l : Launch} {g : Gx} (hg : ApG 123 g.ad) (σ : Mem) {w nE nB : Nat} (hw : w ≤ 12) (hE : 1 ≤ w ∧ w ≤ 3 → nE < 7) (hB : 4 ≤ w ∧ w ≤ 7 → nB < 5) (he : σ 6 3 = nI nE) (hb : σ 6 4 = nI nB) (a b : Int32) : Ct l (OC g) 2 mX6_carryOut [.ref (g.ad 6), .int (nI w), .int a, .int b] σ none (cOut σ w nE nB a b) := by
  refine ct_of (lv := [some (.ref (g.ad 6)), some (.int (nI w)), some (.int a), some (.int b)]) (okC hg) (by decide +kernel) (Nat.le_of_ble_eq_true rfl) (fun ls h => lvh_entry h rfl 0) ?_
  intro κ hl hnL cx hR
  subst hl
  have cx : Cx κ (OC g) RX6 cX6_carryOut 2 := cx
  have hnL : κ.nL = 4 := hnL
  have hev : evW (nI w) = decide (1 ≤ w ∧ w ≤ 3) := by
    have e1 : (nI w < 1) ↔ w < 1 := nI_ltI (b := 1) (by omega) (by decide)
    have e2 : (3 < nI w) ↔ 3 < w := nI_ltI (a := 3) (by decide) (by omega)
    simp only [evW, e1, e2]
    by_cases h1 : w < 1 <;> by_cases h2 : 3 < w <;> simp [h1, h2] <;> omega
  have hbi : biW (nI w) = decide (4 ≤ w ∧ w ≤ 7) := by
    have e1 : (nI w < 4) ↔ w < 4 := nI_ltI (b := 4) (by omega) (by decide)
    have e2 : (7 < nI w) ↔ 7 < w := nI_ltI (a := 7) (by decide) (by omega)
    simp only [biW, e1, e2]
    by_cases h1 : w < 4 <;> by_cases h2 : 7 < w <;> simp [h1, h2] <;> omega
  refine z_iload_n cx 1 dX6_carryOut_0 rfl rfl ?_
  refine z_N1i cx sX7_isEveningWord cx.2.2.2.2.2.2.2.1.2.2.2.2.2.2.2.2.2.2.1 (c_X7_isEveningWord hg σ _) (by decide) (Nat.le_of_ble_eq_true rfl) dX6_carryOut_1 ?_
  refine z_ifb_eq (tgt := 18) cx dX6_carryOut_4 (by decide) (fun c_4 => ?_) (fun c_4 => ?_)
  · have c4 : ¬ (1 ≤ w ∧ w ≤ 3) := by rw [hev] at c_4; simpa using c_4
    refine z_iload_n cx 1 dX6_carryOut_18 rfl rfl ?_
    refine z_N1i cx sX7_isBidderWord cx.2.2.2.2.2.2.2.1.2.2.2.2.2.2.2.2.2.2.2.1 (c_X7_isBidderWord hg σ _) (by decide) (Nat.le_of_ble_eq_true rfl) dX6_carryOut_19 ?_
    refine z_ifb_eq (tgt := 37) cx dX6_carryOut_22 (by decide) (fun c_22 => ?_) (fun c_22 => ?_)
    · have c22 : ¬ (4 ≤ w ∧ w ≤ 7) := by rw [hbi] at c_22; simpa using c_22
      refine z_aload_n cx 0 dX6_carryOut_37 rfl rfl ?_
      refine z_iload_n cx 1 dX6_carryOut_38 rfl rfl ?_
      refine z_iload_n cx 2 dX6_carryOut_39 rfl rfl ?_
      refine z_V2v cx vX6_settle kX6_49 (c_X6_settle hg σ (by omega) _) (by decide) hC6 rfl rfl (Nat.le_of_ble_eq_true rfl) dX6_carryOut_40 ?_
      exact z_vret cx hR ⟨rfl, by rw [cOut, if_pos (by omega)]⟩ dX6_carryOut_43
    · have c22 : 4 ≤ w ∧ w ≤ 7 := by rw [hbi] at c_22; simpa using c_22
      refine z_aload_n cx 0 dX6_carryOut_25 rfl rfl ?_
      refine z_iload_n cx 1 dX6_carryOut_26 rfl rfl ?_
      refine z_iconst cx dX6_carryOut_27 ic_4 ?_
      refine z_isub cx dX6_carryOut_28 ?_
      refine z_iload_n cx 2 dX6_carryOut_29 rfl rfl ?_
      refine z_iload_n cx 3 dX6_carryOut_30 rfl rfl ?_
      rw [show nI w - 4 = nI (w - 4) from pk_sub (b := 4) c22.1]
      refine z_V3v cx vX6_addBidder kX6_45 (c_X6_addBidder hg σ (hB c22) hb _ _ _) (by decide) hC6 rfl rfl (Nat.le_of_ble_eq_true rfl) dX6_carryOut_31 ?_
      refine z_goto (tgt := 43) cx dX6_carryOut_34 (by decide) ?_
      exact z_vret cx hR ⟨rfl, by rw [cOut, if_neg (by omega), if_neg (by omega)]⟩ dX6_carryOut_43
  · have c4 : 1 ≤ w ∧ w ≤ 3 := by rw [hev] at c_4; simpa using c_4
    refine z_aload_n cx 0 dX6_carryOut_7 rfl rfl ?_
    refine z_iload_n cx 1 dX6_carryOut_8 rfl rfl ?_
    refine z_iconst cx dX6_carryOut_9 ic_1 ?_
    refine z_isub cx dX6_carryOut_10 ?_
    refine z_iload_n cx 2 dX6_carryOut_11 rfl rfl ?_
    rw [show nI w - 1 = nI (w - 1) from pk_sub (b := 1) c4.1]
    refine z_V2v cx vX6_addEvening kX6_38 (c_X6_addEvening hg σ (hE c4) he _ _) (by decide) hC6 rfl rfl (Nat.le_of_ble_eq_true rfl) dX6_carryOut_12 ?_
    refine z_goto (tgt := 43) cx dX6_carryOut_15 (by decide) ?_
    exact z_vret cx hR ⟨rfl, by rw [cOut, if_neg (by omega), if_pos (by omega)]⟩ dX6_carryOut_43
set_option maxRecDepth 100000 in
set_option maxHeartbeats 4000000 in
theorem c_X6_worthBright {l : Launch} {g : Gx} (hg : ApG 123 g.ad) (σ : Mem) {j : Nat} (hj : j < 5) : Ct l (OC g) 1 mX6_worthBright [.ref (g.ad 6), .int (nI j)] σ (some (.int (wB (σ 9 j) (σ 10 j)))) σ := by
  refine ct_of (lv := [some (.ref (g.ad 6)), some (.int (nI j))]) (okC hg) (by decide +kernel) (Nat.le_of_ble_eq_true rfl) (fun ls h => lvh_entry h rfl 0) ?_
  intro κ hl hnL cx hR
  subst hl
  have cx : Cx κ (OC g) RX6 cX6_worthBright 1 := cx
  have hnL : κ.nL = 2 := hnL
  refine z_aload_n cx 0 dX6_worthBright_0 rfl rfl ?_
  refine gX6_18 cx dX6_worthBright_1 ?_
  refine z_iload_n cx 1 dX6_worthBright_4 rfl rfl ?_
  refine g_ialdN cx j (by decide) (fun _ => rfl) rfl (by omega) (by decide) dX6_worthBright_5 ?_
  refine z_look2 cx 1 3 32 41 55 dX6_worthBright_6 (by decide) (by decide) (by decide) (by decide) (by decide) (by decide) (fun c_6 => ?_) (fun c_6 e_6 => ?_) (fun c_6 e_6 => ?_)
  · refine z_aload_n cx 0 dX6_worthBright_32 rfl rfl ?_
    refine gX6_21 cx dX6_worthBright_33 ?_
    refine z_iload_n cx 1 dX6_worthBright_36 rfl rfl ?_
    refine g_ialdN cx j (by decide) (fun _ => rfl) rfl (by omega) (by decide) dX6_worthBright_37 ?_
    refine z_iconst cx dX6_worthBright_38 ic_2 ?_
    refine z_idiv cx dX6_worthBright_39 (by decide) ?_
    exact z_iret cx hR ⟨by simp [wB, c_6], rfl⟩ dX6_worthBright_40
  · refine z_iconst cx dX6_worthBright_41 ic_0 ?_
    refine z_aload_n cx 0 dX6_worthBright_42 rfl rfl ?_
    refine gX6_21 cx dX6_worthBright_43 ?_
    refine z_iload_n cx 1 dX6_worthBright_46 rfl rfl ?_
    refine g_ialdN cx j (by decide) (fun _ => rfl) rfl (by omega) (by decide) dX6_worthBright_47 ?_
    refine z_bipush cx dX6_worthBright_48 bi_10 ?_
    refine z_isub cx dX6_worthBright_50 ?_
    refine z_mmax cx kX6_64 sM_max iM_math cM_max (by decide) (Nat.le_of_ble_eq_true rfl) dX6_worthBright_51 ?_
    exact z_iret cx hR ⟨by simp [wB, c_6, e_6], rfl⟩ dX6_worthBright_54
  · refine z_aload_n cx 0 dX6_worthBright_55 rfl rfl ?_
    refine gX6_21 cx dX6_worthBright_56 ?_
    refine z_iload_n cx 1 dX6_worthBright_59 rfl rfl ?_
    refine g_ialdN cx j (by decide) (fun _ => rfl) rfl (by omega) (by decide) dX6_worthBright_60 ?_
    exact z_iret cx hR ⟨by simp [wB, c_6, e_6], rfl⟩ dX6_worthBright_61
set_option maxRecDepth 100000 in
set_option maxHeartbeats 4000000 in
theorem c_X6_worthDull {l : Launch} {g : Gx} (hg : ApG 123 g.ad) (σ : Mem) {j : Nat} (hj : j < 5) : Ct l (OC g) 0 mX6_worthDull [.ref (g.ad 6), .int (nI j)] σ (some (.int (wD (σ 9 j) (σ 10 j)))) σ := by
  refine ct_of (lv := [some (.ref (g.ad 6)), some (.int (nI j))]) (okC hg) (by decide +kernel) (Nat.le_of_ble_eq_true rfl) (fun ls h => lvh_entry h rfl 0) ?_
  intro κ hl hnL cx hR
  subst hl
  have cx : Cx κ (OC g) RX6 cX6_worthDull 0 := cx
  have hnL : κ.nL = 2 := hnL
  refine z_aload_n cx 0 dX6_worthDull_0 rfl rfl ?_
  refine gX6_18 cx dX6_worthDull_1 ?_
  refine z_iload_n cx 1 dX6_worthDull_4 rfl rfl ?_
  refine g_ialdN cx j (by decide) (fun _ => rfl) rfl (by omega) (by decide) dX6_worthDull_5 ?_
  refine z_look2 cx 1 2 32 41 43 dX6_worthDull_6 (by decide) (by decide) (by decide) (by decide) (by decide) (by decide) (fun c_6 => ?_) (fun c_6 e_6 => ?_) (fun c_6 e_6 => ?_)
  · refine z_aload_n cx 0 dX6_worthDull_32 rfl rfl ?_
    refine gX6_21 cx dX6_worthDull_33 ?_
    refine z_iload_n cx 1 dX6_worthDull_36 rfl rfl ?_
    refine g_ialdN cx j (by decide) (fun _ => rfl) rfl (by omega) (by decide) dX6_worthDull_37 ?_
    refine z_iconst cx dX6_worthDull_38 ic_2 ?_
    refine z_idiv cx dX6_worthDull_39 (by decide) ?_
    exact z_iret cx hR ⟨by simp [wD, c_6], rfl⟩ dX6_worthDull_40
  · refine z_iconst cx dX6_worthDull_41 ic_5 ?_
    exact z_iret cx hR ⟨by simp [wD, c_6, e_6], rfl⟩ dX6_worthDull_42
  · refine z_iconst cx dX6_worthDull_43 ic_0 ?_
    exact z_iret cx hR ⟨by simp [wD, c_6, e_6], rfl⟩ dX6_worthDull_44
set_option maxRecDepth 100000 in
set_option maxHeartbeats 4000000 in
theorem c_X6_refundOf {l : Launch} {g : Gx} (hg : ApG 123 g.ad) (σ : Mem) {i : Nat} (hi : i < 7) (pr : Int32) : Ct l (OC g) 0 mX6_refundOf [.ref (g.ad 6), .int (nI i), .int pr] σ (some (.int (rfO (σ 7 i) (σ 6 2) pr))) σ := by
  refine ct_of (lv := [some (.ref (g.ad 6)), some (.int (nI i)), some (.int pr)]) (okC hg) (by decide +kernel) (Nat.le_of_ble_eq_true rfl) (fun ls h => lvh_entry h rfl 0) ?_
  intro κ hl hnL cx hR
  subst hl
  have cx : Cx κ (OC g) RX6 cX6_refundOf 0 := cx
  have hnL : κ.nL = 3 := hnL
  refine z_aload_n cx 0 dX6_refundOf_0 rfl rfl ?_
  refine gX6_9 cx dX6_refundOf_1 ?_
  refine z_iload_n cx 1 dX6_refundOf_4 rfl rfl ?_
  refine g_ialdN cx i (by decide) (fun _ => rfl) rfl (by omega) (by decide) dX6_refundOf_5 ?_
  refine z_iconst cx dX6_refundOf_6 ic_2 ?_
  refine z_icmp_ne (tgt := 14) cx dX6_refundOf_7 (by decide) (fun c_7 => ?_) (fun c_7 => ?_)
  · refine z_aload_n cx 0 dX6_refundOf_14 rfl rfl ?_
    refine gX6_61 cx dX6_refundOf_15 ?_
    refine z_iload_n cx 2 dX6_refundOf_18 rfl rfl ?_
    refine z_imul cx dX6_refundOf_19 ?_
    refine z_bipush cx dX6_refundOf_20 bi_10 ?_
    refine z_idiv cx dX6_refundOf_22 (by decide) ?_
    exact z_iret cx hR ⟨by simp [rfO, c_7], rfl⟩ dX6_refundOf_23
  · refine z_iconst cx dX6_refundOf_10 ic_0 ?_
    refine z_goto (tgt := 23) cx dX6_refundOf_11 (by decide) ?_
    exact z_iret cx hR ⟨by simp [rfO, c_7], rfl⟩ dX6_refundOf_23
set_option maxRecDepth 100000 in
set_option maxHeartbeats 4000000 in
theorem c_X6_gainOf {l : Launch} {g : Gx} (hg : ApG 123 g.ad) (σ : Mem) {j i : Nat} (hj : j < 5) (hi : i < 7) (pr : Int32) : Ct l (OC g) 2 mX6_gainOf [.ref (g.ad 6), .int (nI j), .int (nI i), .int pr] σ (some (.int (gn (σ 9 j) (σ 10 j) (σ 8 i) (σ 7 i) (σ 6 2) pr))) σ := by
  refine ct_of (lv := [some (.ref (g.ad 6)), some (.int (nI j)), some (.int (nI i)), some (.int pr), none, none]) (okC hg) (by decide +kernel) (Nat.le_of_ble_eq_true rfl) (fun ls h => lvh_entry h rfl 2) ?_
  intro κ hl hnL cx hR
  subst hl
  have cx : Cx κ (OC g) RX6 cX6_gainOf 2 := cx
  have hnL : κ.nL = 6 := hnL
  refine z_aload_n cx 0 dX6_gainOf_0 rfl rfl ?_
  refine gX6_15 cx dX6_gainOf_1 ?_
  refine z_iload_n cx 2 dX6_gainOf_4 rfl rfl ?_
  refine g_ialdN cx i (by decide) (fun _ => rfl) rfl (by omega) (by decide) dX6_gainOf_5 ?_
  refine z_istore cx dX6_gainOf_6 hnL (by decide) rfl ?_
  refine z_aload_n cx 0 dX6_gainOf_8 rfl rfl ?_
  refine z_iload_n cx 1 dX6_gainOf_9 rfl rfl ?_
  refine z_V1i cx vX6_worthDull kX6_70 (c_X6_worthDull hg σ hj) (by decide) hC6 rfl rfl (Nat.le_of_ble_eq_true rfl) dX6_gainOf_10 ?_
  refine z_aload_n cx 0 dX6_gainOf_13 rfl rfl ?_
  refine z_iload_n cx 2 dX6_gainOf_14 rfl rfl ?_
  refine z_iload_n cx 3 dX6_gainOf_15 rfl rfl ?_
  refine z_V2i cx vX6_refundOf kX6_74 (c_X6_refundOf hg σ hi _) (by decide) hC6 rfl rfl (Nat.le_of_ble_eq_true rfl) dX6_gainOf_16 ?_
  refine z_iadd cx dX6_gainOf_19 ?_
  refine z_istore cx dX6_gainOf_20 hnL (by decide) rfl ?_
  refine z_iload cx dX6_gainOf_22 rfl ?_
  refine z_aload_n cx 0 dX6_gainOf_24 rfl rfl ?_
  refine z_iload_n cx 1 dX6_gainOf_25 rfl rfl ?_
  refine z_V1i cx vX6_worthBright kX6_77 (c_X6_worthBright hg σ hj) (by decide) hC6 rfl rfl (Nat.le_of_ble_eq_true rfl) dX6_gainOf_26 ?_
  refine z_imul cx dX6_gainOf_29 ?_
  refine z_bipush cx dX6_gainOf_30 bi_10 ?_
  refine z_iload cx dX6_gainOf_32 rfl ?_
  refine z_isub cx dX6_gainOf_34 ?_
  refine z_iload cx dX6_gainOf_35 rfl ?_
  refine z_imul cx dX6_gainOf_37 ?_
  refine z_iadd cx dX6_gainOf_38 ?_
  refine z_bipush cx dX6_gainOf_39 bi_10 ?_
  refine z_iload_n cx 3 dX6_gainOf_41 rfl rfl ?_
  refine z_imul cx dX6_gainOf_42 ?_
  refine z_isub cx dX6_gainOf_43 ?_
  exact z_iret cx hR ⟨rfl, rfl⟩ dX6_gainOf_44
