def evC (σ : Mem) (e : Int32) : Bool := inR e (σ 6 3)
def biC (σ : Mem) (b : Int32) : Bool := inR b (σ 6 4)
/-- what is told of an evening -/
def evA (σ : Mem) (e w : Int32) : Int32 := if inR e (σ 6 3) = false then -2 else if w = 0 then σ 7 e.toNatClampNeg else if w = 1 then σ 8 e.toNatClampNeg else if w = 2 then σ 16 e.toNatClampNeg else if w = 3 then σ 17 e.toNatClampNeg else if w = 4 then σ 18 e.toNatClampNeg else if w = 5 then σ 19 e.toNatClampNeg else -3
def bdA (σ : Mem) (b w : Int32) : Int32 := if inR b (σ 6 4) = false then -2 else if w = 0 then σ 9 b.toNatClampNeg else if w = 1 then σ 10 b.toNatClampNeg else if w = 2 then σ 13 b.toNatClampNeg else if w = 3 then σ 14 b.toNatClampNeg else if w = 4 then σ 15 b.toNatClampNeg else -3
def asA (σ : Mem) (b k : Int32) : Int32 := if inR b (σ 6 4) = false then -2 else if inW k 4 = false then -3 else if und ovB 5 k 5 (σ 9 b.toNatClampNeg + 1) = false then -4 else 100 * wB (σ 9 b.toNatClampNeg) (σ 10 b.toNatClampNeg) + wD (σ 9 b.toNatClampNeg) (σ 10 b.toNatClampNeg)
def eaA (σ : Mem) (e k : Int32) : Int32 := if inR e (σ 6 3) = false then -2 else if inW k 3 = false then -3 else if und ovE 4 k 4 (σ 7 e.toNatClampNeg + 1) = false then -4 else rfO (σ 7 e.toNatClampNeg) (σ 6 2) 50
def wrC (σ : Mem) (c : Int32) : Int32 := if inW c 255 = false then -3 else if σ 1 1 < 160 then 0 else -5
/-- now is remembered at place x of the ring, n were -/
def RemQ (σ' σ : Mem) (x n : Nat) : Prop := CoEq σ' (23 + 9 * x) σ 12 ∧ σ' 21 1 = nI (if n < 8 then n + 1 else 8) ∧ σ' 21 2 = nI ((x + 1) % 8) ∧ ∀ q, q ≠ 21 → q < 23 + 9 * x ∨ 23 + 9 * x + 9 ≤ q → σ' q = σ q
def bdC (σ : Mem) (b n : Int32) : Int32 := if inR b (σ 6 4) = false then -2 else if ¬ n = -1 ∧ inW n 99 = false then -3 else if σ 13 b.toNatClampNeg < n then -4 else if inR (σ 12 0) (σ 6 3) = false then -4 else 0
def slC (σ : Mem) (z : Int32) : Int32 := if inW z 9999 = false then -3 else if inR (σ 12 0) (σ 6 3) = false then -4 else 0
def prC (σ : Mem) (e n : Int32) : Int32 := if inR e (σ 6 3) = false then -2 else if inW n 99 = false then -3 else 0
def syC (σ : Mem) (t e n : Int32) : Int32 := if inW t 2 = false then -2 else if inR e (σ 6 3) = false then -2 else if inW n 10 = false then -3 else if σ 12 0 ≤ e then 0 else -4
def PaH (σ : Mem) (n x : Nat) : Prop := (n ≤ 8 ∧ σ 21 1 = nI n) ∧ x < 8 ∧ σ 21 2 = nI x
set_option maxRecDepth 100000 in
set_option maxHeartbeats 4000000 in
theorem c_X7_write {l : Launch} {g : Gx} (hg : ApG 123 g.ad) (σ : Mem) {L : Nat} (hL : L ≤ 160) (eL : σ 1 1 = nI L) (c : Int32) : CtI l (OC g) 1 mX7_write [.ref (g.ad 0), .int c] σ (fun v σ' => (wrC σ c = 0 → L < 160 ∧ v = nI (L + 1) ∧ σ' = up2 (up2 σ 2 L c) 1 1 (nI (L + 1))) ∧ (¬ wrC σ c = 0 → v = wrC σ c ∧ σ' = σ)) := by
  refine ct_of (lv := [some (.ref (g.ad 0)), some (.int c)]) (okC hg) (by decide +kernel) (Nat.le_of_ble_eq_true rfl) (fun ls h => lvh_entry h rfl 0) ?_
  intro κ hl hnL cx hR
  subst hl
  have cx : Cx κ (OC g) RX7 cX7_write 1 := cx
  have hnL : κ.nL = 2 := hnL
  refine z_iload_n cx 1 dX7_write_0 rfl rfl ?_
  refine z_sipush cx dX7_write_1 si_255 ?_
  refine z_S2i cx sX7_isWithin kX7_73 (c_X7_isWithin hg σ _ _) (by decide) (Nat.le_of_ble_eq_true rfl) dX7_write_4 ?_
  refine z_ifb_ne (tgt := 13) cx dX7_write_7 (by decide) (fun c_7 => ?_) (fun c_7 => ?_)
  · refine z_aload_n cx 0 dX7_write_13 rfl rfl ?_
    refine gX7_10 cx dX7_write_14 ?_
    refine gX7_77 cx dX7_write_17 ?_
    refine z_sipush cx dX7_write_20 si_160 ?_
    refine z_icmp_lt (tgt := 29) cx dX7_write_23 (by decide) (fun c_23 => ?_) (fun c_23 => ?_)
    · have c23 : L < 160 := (nI_ltI (b := 160) (by omega) (by decide)).mp (by rw [← eL]; exact c_23)
      refine z_aload_n cx 0 dX7_write_29 rfl rfl ?_
      refine gX7_10 cx dX7_write_30 ?_
      refine z_iload_n cx 1 dX7_write_33 rfl rfl ?_
      refine z_V1v cx vX5_add kX7_81 (c_X5_add hg σ c23 eL _) (by decide) hC1 rfl rfl (Nat.le_of_ble_eq_true rfl) dX7_write_34 ?_
      refine z_aload_n cx 0 dX7_write_37 rfl rfl ?_
      refine gX7_10 cx dX7_write_38 ?_
      refine gX7_77 cx dX7_write_41 ?_
      have e9 : wrC σ c = 0 := by simp [wrC, c_7, c_23]
      exact z_iret cx hR ⟨_, rfl, fun _ => ⟨c23, rfl, rfl⟩, fun z => absurd e9 z⟩ dX7_write_44
    · refine z_bipush cx dX7_write_26 bi_m5 ?_
      have e9 : wrC σ c = -5 := by simp [wrC, c_7, c_23]
      exact z_iret cx hR ⟨_, rfl, fun z => absurd (e9.symm.trans z) (by decide), fun _ => ⟨e9.symm, rfl⟩⟩ dX7_write_28
  · refine z_bipush cx dX7_write_10 bi_m3 ?_
    have e9 : wrC σ c = -3 := by simp [wrC, c_7]
    exact z_iret cx hR ⟨_, rfl, fun z => absurd (e9.symm.trans z) (by decide), fun _ => ⟨e9.symm, rfl⟩⟩ dX7_write_12
set_option maxRecDepth 100000 in
set_option maxHeartbeats 4000000 in
theorem c_X7_erase {l : Launch} {g : Gx} (hg : ApG 123 g.ad) (σ : Mem) : Ct l (OC g) 0 mX7_erase [.ref (g.ad 0)] σ (some (.int (σ 1 1))) (up2 σ 1 1 0) := by
  refine ct_of (lv := [some (.ref (g.ad 0)), none]) (okC hg) (by decide +kernel) (Nat.le_of_ble_eq_true rfl) (fun ls h => lvh_entry h rfl 1) ?_
  intro κ hl hnL cx hR
  subst hl
  have cx : Cx κ (OC g) RX7 cX7_erase 0 := cx
  have hnL : κ.nL = 2 := hnL
  refine z_aload_n cx 0 dX7_erase_0 rfl rfl ?_
  refine gX7_10 cx dX7_erase_1 ?_
  refine gX7_77 cx dX7_erase_4 ?_
  refine z_istore_n cx 1 dX7_erase_7 rfl hnL (by decide) rfl ?_
  refine z_aload_n cx 0 dX7_erase_8 rfl rfl ?_
  refine gX7_10 cx dX7_erase_9 ?_
  refine z_iconst cx dX7_erase_12 ic_0 ?_
  refine pX7_77 cx dX7_erase_13 ?_
  refine z_iload_n cx 1 dX7_erase_16 rfl rfl ?_
  exact z_iret cx hR ⟨rfl, rfl⟩ dX7_erase_17
set_option maxRecDepth 100000 in
set_option maxHeartbeats 4000000 in
theorem c_X7_fault {l : Launch} {g : Gx} (hg : ApG 123 g.ad) (σ : Mem) {L E B : Nat} (hL : L ≤ 160) (eL : σ 1 1 = nI L) (hE : E ≤ 7) (hB : B ≤ 5) (eE : σ 6 3 = nI E) (eB : σ 6 4 = nI B) : CtI l (OC g) 8 mX7_fault [.ref (g.ad 0)] σ (fun v σ' => FfQ σ' σ (ffT (σ 2) L 14 0 E B) 0 v) := by
  refine ct_of (lv := [some (.ref (g.ad 0))]) (okC hg) (by decide +kernel) (Nat.le_of_ble_eq_true rfl) (fun ls h => lvh_entry h rfl 0) ?_
  intro κ hl hnL cx hR
  subst hl
  have cx : Cx κ (OC g) RX7 cX7_fault 8 := cx
  have hnL : κ.nL = 1 := hnL
  refine z_aload_n cx 0 dX7_fault_0 rfl rfl ?_
  refine gX7_10 cx dX7_fault_1 ?_
  refine z_aload_n cx 0 dX7_fault_4 rfl rfl ?_
  refine gX7_19 cx dX7_fault_5 ?_
  refine gX7_85 cx dX7_fault_8 ?_
  refine z_aload_n cx 0 dX7_fault_11 rfl rfl ?_
  refine gX7_19 cx dX7_fault_12 ?_
  refine gX7_88 cx dX7_fault_15 ?_
  rw [eE, eB]
  refine z_V2I cx vX5_findFault kX7_91 (c_X5_findFault hg σ hL eL hE (Nat.le_trans hB (by decide))) (by decide) hC1 rfl rfl (Nat.le_of_ble_eq_true rfl) dX7_fault_18 (fun v_18 σ_18 h_18 => ?_)
  exact z_iret cx hR ⟨_, rfl, h_18⟩ dX7_fault_21
set_option maxRecDepth 100000 in
set_option maxHeartbeats 4000000 in
theorem c_X7_evening {l : Launch} {g : Gx} (hg : ApG 123 g.ad) (σ : Mem) {E : Nat} (hE : E ≤ 7) (eE : σ 6 3 = nI E) (x w : Int32) : Ct l (OC g) 1 mX7_evening [.ref (g.ad 0), .int x, .int w] σ (some (.int (evA σ x w))) σ := by
  refine ct_of (lv := [some (.ref (g.ad 0)), some (.int x), some (.int w)]) (okC hg) (by decide +kernel) (Nat.le_of_ble_eq_true rfl) (fun ls h => lvh_entry h rfl 0) ?_
  intro κ hl hnL cx hR
  subst hl
  have cx : Cx κ (OC g) RX7 cX7_evening 1 := cx
  have hnL : κ.nL = 3 := hnL
  refine z_aload_n cx 0 dX7_evening_0 rfl rfl ?_
  refine gX7_19 cx dX7_evening_1 ?_
  refine z_iload_n cx 1 dX7_evening_4 rfl rfl ?_
  refine z_V1i cx vX6_isEvening kX7_116 (c_X6_isEvening hg σ _) (by decide) hC6 rfl rfl (Nat.le_of_ble_eq_true rfl) dX7_evening_5 ?_
  refine z_ifb_ne (tgt := 14) cx dX7_evening_8 (by decide) (fun c_8 => ?_) (fun c_8 => ?_)
  · obtain ⟨j, hj, rfl⟩ := inR_of (show inR x (nI E) = true by rw [← eE]; exact c_8) (by omega)
    refine z_iload_n cx 2 dX7_evening_14 rfl rfl ?_
    have c8 : ¬ inR (nI j) (σ 6 3) = false := by rw [c_8]; decide
    have ej : (nI j).toNatClampNeg = j := nI_clamp (by omega)
    rcases tsw w (n := 5) (by decide) with hout | ⟨i, hi, rfl⟩
    · refine z_tableOut (tgt := 112) cx dX7_evening_15 hout (by decide) ?_
      refine z_bipush cx dX7_evening_112 bi_m3 ?_
      refine z_iret cx hR ⟨?_, rfl⟩ dX7_evening_114
      have hne : ∀ k : Nat, k ≤ 5 → ¬ w = nI k := fun k hk z => by
        rw [z, nI_toInt (by omega)] at hout; omega
      rw [evA, if_neg c8, if_neg (show ¬ w = 0 from hne 0 (by decide)), if_neg (show ¬ w = 1 from hne 1 (by decide)), if_neg (show ¬ w = 2 from hne 2 (by decide)), if_neg (show ¬ w = 3 from hne 3 (by decide)), if_neg (show ¬ w = 4 from hne 4 (by decide)), if_neg (show ¬ w = 5 from hne 5 (by decide))]
    · rcases (show i = 0 ∨ i = 1 ∨ i = 2 ∨ i = 3 ∨ i = 4 ∨ i = 5 by omega) with rfl | rfl | rfl | rfl | rfl | rfl
      · refine z_tableIn (off := 37) (tgt := 52) cx dX7_evening_15 (by decide) (by decide) (by decide) (by decide) ?_
        refine z_aload_n cx 0 dX7_evening_52 rfl rfl ?_
        refine gX7_19 cx dX7_evening_53 ?_
        refine gX7_120 cx dX7_evening_56 ?_
        refine z_iload_n cx 1 dX7_evening_59 rfl rfl ?_
        refine g_ialdN cx j (by decide) (fun _ => rfl) rfl (by omega) (by decide) dX7_evening_60 ?_
        exact z_iret cx hR ⟨by rw [evA, if_neg c8, ej]; rfl, rfl⟩ dX7_evening_61
      · refine z_tableIn (off := 47) (tgt := 62) cx dX7_evening_15 (by decide) (by decide) (by decide) (by decide) ?_
        refine z_aload_n cx 0 dX7_evening_62 rfl rfl ?_
        refine gX7_19 cx dX7_evening_63 ?_
        refine gX7_123 cx dX7_evening_66 ?_
        refine z_iload_n cx 1 dX7_evening_69 rfl rfl ?_
        refine g_ialdN cx j (by decide) (fun _ => rfl) rfl (by omega) (by decide) dX7_evening_70 ?_
        exact z_iret cx hR ⟨by rw [evA, if_neg c8, ej]; rfl, rfl⟩ dX7_evening_71
      · refine z_tableIn (off := 57) (tgt := 72) cx dX7_evening_15 (by decide) (by decide) (by decide) (by decide) ?_
        refine z_aload_n cx 0 dX7_evening_72 rfl rfl ?_
        refine gX7_26 cx dX7_evening_73 ?_
        refine gX7_126 cx dX7_evening_76 ?_
        refine z_iload_n cx 1 dX7_evening_79 rfl rfl ?_
        refine g_ialdN cx j (by decide) (fun _ => rfl) rfl (by omega) (by decide) dX7_evening_80 ?_
        exact z_iret cx hR ⟨by rw [evA, if_neg c8, ej]; rfl, rfl⟩ dX7_evening_81
      · refine z_tableIn (off := 67) (tgt := 82) cx dX7_evening_15 (by decide) (by decide) (by decide) (by decide) ?_
        refine z_aload_n cx 0 dX7_evening_82 rfl rfl ?_
        refine gX7_26 cx dX7_evening_83 ?_
        refine gX7_129 cx dX7_evening_86 ?_
        refine z_iload_n cx 1 dX7_evening_89 rfl rfl ?_
        refine g_ialdN cx j (by decide) (fun _ => rfl) rfl (by omega) (by decide) dX7_evening_90 ?_
        exact z_iret cx hR ⟨by rw [evA, if_neg c8, ej]; rfl, rfl⟩ dX7_evening_91
      · refine z_tableIn (off := 77) (tgt := 92) cx dX7_evening_15 (by decide) (by decide) (by decide) (by decide) ?_
        refine z_aload_n cx 0 dX7_evening_92 rfl rfl ?_
        refine gX7_26 cx dX7_evening_93 ?_
        refine gX7_132 cx dX7_evening_96 ?_
        refine z_iload_n cx 1 dX7_evening_99 rfl rfl ?_
        refine g_ialdN cx j (by decide) (fun _ => rfl) rfl (by omega) (by decide) dX7_evening_100 ?_
        exact z_iret cx hR ⟨by rw [evA, if_neg c8, ej]; rfl, rfl⟩ dX7_evening_101
      · refine z_tableIn (off := 87) (tgt := 102) cx dX7_evening_15 (by decide) (by decide) (by decide) (by decide) ?_
        refine z_aload_n cx 0 dX7_evening_102 rfl rfl ?_
        refine gX7_26 cx dX7_evening_103 ?_
        refine gX7_135 cx dX7_evening_106 ?_
        refine z_iload_n cx 1 dX7_evening_109 rfl rfl ?_
        refine g_ialdN cx j (by decide) (fun _ => rfl) rfl (by omega) (by decide) dX7_evening_110 ?_
        exact z_iret cx hR ⟨by rw [evA, if_neg c8, ej]; rfl, rfl⟩ dX7_evening_111
  · refine z_bipush cx dX7_evening_11 bi_m2 ?_
    exact z_iret cx hR ⟨by simp [evA, c_8], rfl⟩ dX7_evening_13
set_option maxRecDepth 100000 in
set_option maxHeartbeats 4000000 in
theorem c_X7_bidder {l : Launch} {g : Gx} (hg : ApG 123 g.ad) (σ : Mem) {B : Nat} (hB : B ≤ 5) (eB : σ 6 4 = nI B) (x w : Int32) : Ct l (OC g) 1 mX7_bidder [.ref (g.ad 0), .int x, .int w] σ (some (.int (bdA σ x w))) σ := by
  refine ct_of (lv := [some (.ref (g.ad 0)), some (.int x), some (.int w)]) (okC hg) (by decide +kernel) (Nat.le_of_ble_eq_true rfl) (fun ls h => lvh_entry h rfl 0) ?_
  intro κ hl hnL cx hR
  subst hl
  have cx : Cx κ (OC g) RX7 cX7_bidder 1 := cx
  have hnL : κ.nL = 3 := hnL
  refine z_aload_n cx 0 dX7_bidder_0 rfl rfl ?_
  refine gX7_19 cx dX7_bidder_1 ?_
  refine z_iload_n cx 1 dX7_bidder_4 rfl rfl ?_
  refine z_V1i cx vX6_isBidder kX7_138 (c_X6_isBidder hg σ _) (by decide) hC6 rfl rfl (Nat.le_of_ble_eq_true rfl) dX7_bidder_5 ?_
  refine z_ifb_ne (tgt := 14) cx dX7_bidder_8 (by decide) (fun c_8 => ?_) (fun c_8 => ?_)
  · obtain ⟨j, hj, rfl⟩ := inR_of (show inR x (nI B) = true by rw [← eB]; exact c_8) (by omega)
    refine z_iload_n cx 2 dX7_bidder_14 rfl rfl ?_
    have c8 : ¬ inR (nI j) (σ 6 4) = false := by rw [c_8]; decide
    have ej : (nI j).toNatClampNeg = j := nI_clamp (by omega)
    rcases tsw w (n := 4) (by decide) with hout | ⟨i, hi, rfl⟩
    · refine z_tableOut (tgt := 98) cx dX7_bidder_15 hout (by decide) ?_
      refine z_bipush cx dX7_bidder_98 bi_m3 ?_
      refine z_iret cx hR ⟨?_, rfl⟩ dX7_bidder_100
      have hne : ∀ k : Nat, k ≤ 4 → ¬ w = nI k := fun k hk z => by
        rw [z, nI_toInt (by omega)] at hout; omega
      rw [bdA, if_neg c8, if_neg (show ¬ w = 0 from hne 0 (by decide)), if_neg (show ¬ w = 1 from hne 1 (by decide)), if_neg (show ¬ w = 2 from hne 2 (by decide)), if_neg (show ¬ w = 3 from hne 3 (by decide)), if_neg (show ¬ w = 4 from hne 4 (by decide))]
    · rcases (show i = 0 ∨ i = 1 ∨ i = 2 ∨ i = 3 ∨ i = 4 by omega) with rfl | rfl | rfl | rfl | rfl
      · refine z_tableIn (off := 33) (tgt := 48) cx dX7_bidder_15 (by decide) (by decide) (by decide) (by decide) ?_
        refine z_aload_n cx 0 dX7_bidder_48 rfl rfl ?_
        refine gX7_19 cx dX7_bidder_49 ?_
        refine gX7_141 cx dX7_bidder_52 ?_
        refine z_iload_n cx 1 dX7_bidder_55 rfl rfl ?_
        refine g_ialdN cx j (by decide) (fun _ => rfl) rfl (by omega) (by decide) dX7_bidder_56 ?_
        exact z_iret cx hR ⟨by rw [bdA, if_neg c8, ej]; rfl, rfl⟩ dX7_bidder_57
      · refine z_tableIn (off := 43) (tgt := 58) cx dX7_bidder_15 (by decide) (by decide) (by decide) (by decide) ?_
        refine z_aload_n cx 0 dX7_bidder_58 rfl rfl ?_
        refine gX7_19 cx dX7_bidder_59 ?_
        refine gX7_144 cx dX7_bidder_62 ?_
        refine z_iload_n cx 1 dX7_bidder_65 rfl rfl ?_
        refine g_ialdN cx j (by decide) (fun _ => rfl) rfl (by omega) (by decide) dX7_bidder_66 ?_
        exact z_iret cx hR ⟨by rw [bdA, if_neg c8, ej]; rfl, rfl⟩ dX7_bidder_67
      · refine z_tableIn (off := 53) (tgt := 68) cx dX7_bidder_15 (by decide) (by decide) (by decide) (by decide) ?_
        refine z_aload_n cx 0 dX7_bidder_68 rfl rfl ?_
        refine gX7_26 cx dX7_bidder_69 ?_
        refine gX7_147 cx dX7_bidder_72 ?_
        refine z_iload_n cx 1 dX7_bidder_75 rfl rfl ?_
        refine g_ialdN cx j (by decide) (fun _ => rfl) rfl (by omega) (by decide) dX7_bidder_76 ?_
        exact z_iret cx hR ⟨by rw [bdA, if_neg c8, ej]; rfl, rfl⟩ dX7_bidder_77
      · refine z_tableIn (off := 63) (tgt := 78) cx dX7_bidder_15 (by decide) (by decide) (by decide) (by decide) ?_
        refine z_aload_n cx 0 dX7_bidder_78 rfl rfl ?_
        refine gX7_26 cx dX7_bidder_79 ?_
        refine gX7_150 cx dX7_bidder_82 ?_
        refine z_iload_n cx 1 dX7_bidder_85 rfl rfl ?_
        refine g_ialdN cx j (by decide) (fun _ => rfl) rfl (by omega) (by decide) dX7_bidder_86 ?_
        exact z_iret cx hR ⟨by rw [bdA, if_neg c8, ej]; rfl, rfl⟩ dX7_bidder_87
      · refine z_tableIn (off := 73) (tgt := 88) cx dX7_bidder_15 (by decide) (by decide) (by decide) (by decide) ?_
        refine z_aload_n cx 0 dX7_bidder_88 rfl rfl ?_
        refine gX7_26 cx dX7_bidder_89 ?_
        refine gX7_153 cx dX7_bidder_92 ?_
        refine z_iload_n cx 1 dX7_bidder_95 rfl rfl ?_
        refine g_ialdN cx j (by decide) (fun _ => rfl) rfl (by omega) (by decide) dX7_bidder_96 ?_
        exact z_iret cx hR ⟨by rw [bdA, if_neg c8, ej]; rfl, rfl⟩ dX7_bidder_97
  · refine z_bipush cx dX7_bidder_11 bi_m2 ?_
    exact z_iret cx hR ⟨by simp [bdA, c_8], rfl⟩ dX7_bidder_13
set_option maxRecDepth 100000 in
set_option maxHeartbeats 4000000 in
theorem c_X7_as {l : Launch} {g : Gx} (hg : ApG 123 g.ad) (σ : Mem) {B : Nat} (hB : B ≤ 5) (eB : σ 6 4 = nI B) (x w : Int32) : Ct l (OC g) 2 mX7_as [.ref (g.ad 0), .int x, .int w] σ (some (.int (asA σ x w))) σ := by
  refine ct_of (lv := [some (.ref (g.ad 0)), some (.int x), some (.int w)]) (okC hg) (by decide +kernel) (Nat.le_of_ble_eq_true rfl) (fun ls h => lvh_entry h rfl 0) ?_
  intro κ hl hnL cx hR
  subst hl
  have cx : Cx κ (OC g) RX7 cX7_as 2 := cx
  have hnL : κ.nL = 3 := hnL
  refine z_aload_n cx 0 dX7_as_0 rfl rfl ?_
  refine gX7_19 cx dX7_as_1 ?_
  refine z_iload_n cx 1 dX7_as_4 rfl rfl ?_
  refine z_V1i cx vX6_isBidder kX7_138 (c_X6_isBidder hg σ _) (by decide) hC6 rfl rfl (Nat.le_of_ble_eq_true rfl) dX7_as_5 ?_
  refine z_ifb_ne (tgt := 14) cx dX7_as_8 (by decide) (fun c_8 => ?_) (fun c_8 => ?_)
  · obtain ⟨j, hj, rfl⟩ := inR_of (show inR x (nI B) = true by rw [← eB]; exact c_8) (by omega)
    have ej : (nI j).toNatClampNeg = j := nI_clamp (by omega)
    refine z_iload_n cx 2 dX7_as_14 rfl rfl ?_
    refine z_gets cx cx.2.2.2.2.2.2.2.1.1.1 fX7_156 dX7_as_15 ?_
    refine z_tlen (v := 5) cx cx.2.2.2.2.2.2.2.1.1.2 rfl dX7_as_18 ?_
    refine z_iconst cx dX7_as_19 ic_1 ?_
    refine z_isub cx dX7_as_20 ?_
    rw [show (5 : Int32) - 1 = 4 by decide]
    refine z_S2i cx sX7_isWithin kX7_73 (c_X7_isWithin hg σ _ _) (by decide) (Nat.le_of_ble_eq_true rfl) dX7_as_21 ?_
    refine z_ifb_ne (tgt := 30) cx dX7_as_24 (by decide) (fun c_24 => ?_) (fun c_24 => ?_)
    · refine z_aload_n cx 0 dX7_as_30 rfl rfl ?_
      refine gX7_19 cx dX7_as_31 ?_
      refine gX7_141 cx dX7_as_34 ?_
      refine z_iload_n cx 1 dX7_as_37 rfl rfl ?_
      refine g_ialdN cx j (by decide) (fun _ => rfl) rfl (by omega) (by decide) dX7_as_38 ?_
      refine z_iconst cx dX7_as_39 ic_1 ?_
      refine z_iadd cx dX7_as_40 ?_
      refine z_iload_n cx 2 dX7_as_41 rfl rfl ?_
      refine z_gets cx cx.2.2.2.2.2.2.2.1.1.1 fX7_156 dX7_as_42 ?_
      refine z_S3i cx sX7_isUnder kX7_159 (c_X7_isUnder (N := 5) (f := ovB) hg σ (by decide) (by decide) (fun U h => h.1.2) _ _) (by decide) (Nat.le_of_ble_eq_true rfl) dX7_as_45 ?_
      refine z_ifb_ne (tgt := 54) cx dX7_as_48 (by decide) (fun c_48 => ?_) (fun c_48 => ?_)
      · refine z_bipush cx dX7_as_54 bi_100 ?_
        refine z_aload_n cx 0 dX7_as_56 rfl rfl ?_
        refine gX7_19 cx dX7_as_57 ?_
        refine z_iload_n cx 1 dX7_as_60 rfl rfl ?_
        refine z_V1i cx vX6_worthBright kX7_163 (c_X6_worthBright hg σ (j := j) (by omega)) (by decide) hC6 rfl rfl (Nat.le_of_ble_eq_true rfl) dX7_as_61 ?_
        refine z_imul cx dX7_as_64 ?_
        refine z_aload_n cx 0 dX7_as_65 rfl rfl ?_
        refine gX7_19 cx dX7_as_66 ?_
        refine z_iload_n cx 1 dX7_as_69 rfl rfl ?_
        refine z_V1i cx vX6_worthDull kX7_167 (c_X6_worthDull hg σ (j := j) (by omega)) (by decide) hC6 rfl rfl (Nat.le_of_ble_eq_true rfl) dX7_as_70 ?_
        refine z_iadd cx dX7_as_73 ?_
        exact z_iret cx hR ⟨by simp [asA, c_8, c_24, c_48, ej], rfl⟩ dX7_as_74
      · refine z_bipush cx dX7_as_51 bi_m4 ?_
        exact z_iret cx hR ⟨by simp [asA, c_8, c_24, c_48, ej], rfl⟩ dX7_as_53
    · refine z_bipush cx dX7_as_27 bi_m3 ?_
      exact z_iret cx hR ⟨by simp [asA, c_8, c_24], rfl⟩ dX7_as_29
  · refine z_bipush cx dX7_as_11 bi_m2 ?_
    exact z_iret cx hR ⟨by simp [asA, c_8], rfl⟩ dX7_as_13
set_option maxRecDepth 100000 in
set_option maxHeartbeats 4000000 in
theorem c_X7_eveningAs {l : Launch} {g : Gx} (hg : ApG 123 g.ad) (σ : Mem) {E : Nat} (hE : E ≤ 7) (eE : σ 6 3 = nI E) (x w : Int32) : Ct l (OC g) 2 mX7_eveningAs [.ref (g.ad 0), .int x, .int w] σ (some (.int (eaA σ x w))) σ := by
  refine ct_of (lv := [some (.ref (g.ad 0)), some (.int x), some (.int w)]) (okC hg) (by decide +kernel) (Nat.le_of_ble_eq_true rfl) (fun ls h => lvh_entry h rfl 0) ?_
  intro κ hl hnL cx hR
  subst hl
  have cx : Cx κ (OC g) RX7 cX7_eveningAs 2 := cx
  have hnL : κ.nL = 3 := hnL
  refine z_aload_n cx 0 dX7_eveningAs_0 rfl rfl ?_
  refine gX7_19 cx dX7_eveningAs_1 ?_
  refine z_iload_n cx 1 dX7_eveningAs_4 rfl rfl ?_
  refine z_V1i cx vX6_isEvening kX7_116 (c_X6_isEvening hg σ _) (by decide) hC6 rfl rfl (Nat.le_of_ble_eq_true rfl) dX7_eveningAs_5 ?_
  refine z_ifb_ne (tgt := 14) cx dX7_eveningAs_8 (by decide) (fun c_8 => ?_) (fun c_8 => ?_)
  · obtain ⟨j, hj, rfl⟩ := inR_of (show inR x (nI E) = true by rw [← eE]; exact c_8) (by omega)
    have ej : (nI j).toNatClampNeg = j := nI_clamp (by omega)
    refine z_iload_n cx 2 dX7_eveningAs_14 rfl rfl ?_
    refine z_gets cx cx.2.2.2.2.2.2.2.1.2.1.1 fX7_170 dX7_eveningAs_15 ?_
    refine z_tlen (v := 4) cx cx.2.2.2.2.2.2.2.1.2.1.2 rfl dX7_eveningAs_18 ?_
    refine z_iconst cx dX7_eveningAs_19 ic_1 ?_
    refine z_isub cx dX7_eveningAs_20 ?_
    rw [show (4 : Int32) - 1 = 3 by decide]
    refine z_S2i cx sX7_isWithin kX7_73 (c_X7_isWithin hg σ _ _) (by decide) (Nat.le_of_ble_eq_true rfl) dX7_eveningAs_21 ?_
    refine z_ifb_ne (tgt := 30) cx dX7_eveningAs_24 (by decide) (fun c_24 => ?_) (fun c_24 => ?_)
    · refine z_aload_n cx 0 dX7_eveningAs_30 rfl rfl ?_
      refine gX7_19 cx dX7_eveningAs_31 ?_
      refine gX7_120 cx dX7_eveningAs_34 ?_
      refine z_iload_n cx 1 dX7_eveningAs_37 rfl rfl ?_
      refine g_ialdN cx j (by decide) (fun _ => rfl) rfl (by omega) (by decide) dX7_eveningAs_38 ?_
      refine z_iconst cx dX7_eveningAs_39 ic_1 ?_
      refine z_iadd cx dX7_eveningAs_40 ?_
      refine z_iload_n cx 2 dX7_eveningAs_41 rfl rfl ?_
      refine z_gets cx cx.2.2.2.2.2.2.2.1.2.1.1 fX7_170 dX7_eveningAs_42 ?_
      refine z_S3i cx sX7_isUnder kX7_159 (c_X7_isUnder (N := 4) (f := ovE) hg σ (by decide) (by decide) (fun U h => h.2.1.2) _ _) (by decide) (Nat.le_of_ble_eq_true rfl) dX7_eveningAs_45 ?_
      refine z_ifb_ne (tgt := 54) cx dX7_eveningAs_48 (by decide) (fun c_48 => ?_) (fun c_48 => ?_)
      · refine z_aload_n cx 0 dX7_eveningAs_54 rfl rfl ?_
        refine gX7_19 cx dX7_eveningAs_55 ?_
        refine z_iload_n cx 1 dX7_eveningAs_58 rfl rfl ?_
        refine z_bipush cx dX7_eveningAs_59 bi_50 ?_
        refine z_V2i cx vX6_refundOf kX7_173 (c_X6_refundOf hg σ (i := j) (by omega) _) (by decide) hC6 rfl rfl (Nat.le_of_ble_eq_true rfl) dX7_eveningAs_61 ?_
        exact z_iret cx hR ⟨by simp [eaA, c_8, c_24, c_48, ej], rfl⟩ dX7_eveningAs_64
      · refine z_bipush cx dX7_eveningAs_51 bi_m4 ?_
        exact z_iret cx hR ⟨by simp [eaA, c_8, c_24, c_48, ej], rfl⟩ dX7_eveningAs_53
    · refine z_bipush cx dX7_eveningAs_27 bi_m3 ?_
      exact z_iret cx hR ⟨by simp [eaA, c_8, c_24], rfl⟩ dX7_eveningAs_29
  · refine z_bipush cx dX7_eveningAs_11 bi_m2 ?_
    exact z_iret cx hR ⟨by simp [eaA, c_8], rfl⟩ dX7_eveningAs_13
set_option maxRecDepth 100000 in
set_option maxHeartbeats 4000000 in
theorem c_X7_bid {l : Launch} {g : Gx} (hg : ApG 123 g.ad) (σ : Mem) {E B t : Nat} (hE : E ≤ 7) (hB : B ≤ 5) (eE : σ 6 3 = nI E) (eB : σ 6 4 = nI B) {nu nx : Nat} (hP : PaH σ nu nx) (b n : Int32) : CtI l (OC g) 3 mX7_bid [.ref (g.ad 0), .int b, .int n] σ (fun v σ' => (bdC σ b n = 0 → ∃ (σ1 : Mem) (j : Nat), j < B ∧ b = nI j ∧ RemQ σ1 σ nx nu ∧ σ' = up2 σ1 15 j n ∧ v = nI (cnB (σ' 15) 5)) ∧ (¬ bdC σ b n = 0 → v = bdC σ b n ∧ σ' = σ)) := by
  refine ct_of (lv := [some (.ref (g.ad 0)), some (.int b), some (.int n)]) (okC hg) (by decide +kernel) (Nat.le_of_ble_eq_true rfl) (fun ls h => lvh_entry h rfl 0) ?_
  intro κ hl hnL cx hR
  subst hl
  have cx : Cx κ (OC g) RX7 cX7_bid 3 := cx
  have hnL : κ.nL = 3 := hnL
  refine z_aload_n cx 0 dX7_bid_0 rfl rfl ?_
  refine gX7_19 cx dX7_bid_1 ?_
  refine z_iload_n cx 1 dX7_bid_4 rfl rfl ?_
  refine z_V1i cx vX6_isBidder kX7_138 (c_X6_isBidder hg σ _) (by decide) hC6 rfl rfl (Nat.le_of_ble_eq_true rfl) dX7_bid_5 ?_
  refine z_ifb_ne (tgt := 14) cx dX7_bid_8 (by decide) (fun c_8 => ?_) (fun c_8 => ?_)
  · obtain ⟨j, hj, rfl⟩ := inR_of (show inR b (nI B) = true by rw [← eB]; exact c_8) (by omega)
    have ej : (nI j).toNatClampNeg = j := nI_clamp (by omega)
    refine z_iload_n cx 2 dX7_bid_14 rfl rfl ?_
    refine z_iconst cx dX7_bid_15 ic_m1 ?_
    refine z_icmp_eq (tgt := 31) cx dX7_bid_16 (by decide) (fun c_16 => ?_) (fun c_16 => ?_)
    · refine z_iload_n cx 2 dX7_bid_31 rfl rfl ?_
      refine z_aload_n cx 0 dX7_bid_32 rfl rfl ?_
      refine gX7_26 cx dX7_bid_33 ?_
      refine gX7_147 cx dX7_bid_36 ?_
      refine z_iload_n cx 1 dX7_bid_39 rfl rfl ?_
      refine g_ialdN cx j (by decide) (fun _ => rfl) rfl (by omega) (by decide) dX7_bid_40 ?_
      refine z_icmp_gt (tgt := 51) cx dX7_bid_41 (by decide) (fun c_41 => ?_) (fun c_41 => ?_)
      · refine z_bipush cx dX7_bid_51 bi_m4 ?_
        subst c_16
        have e9 : bdC σ (nI j) (-1) = -4 := by simp [bdC, c_8, ej, c_41]
        exact z_iret cx hR ⟨_, rfl, fun z => absurd (e9.symm.trans z) (by decide), fun _ => ⟨e9.symm, rfl⟩⟩ dX7_bid_53
      · refine z_aload_n cx 0 dX7_bid_44 rfl rfl ?_
        refine z_V0i cx vX7_isTonight kX7_176 (c_X7_isTonight hg σ) (by decide) hC0 rfl rfl (Nat.le_of_ble_eq_true rfl) dX7_bid_45 ?_
        refine z_ifb_ne (tgt := 54) cx dX7_bid_48 (by decide) (fun c_48 => ?_) (fun c_48 => ?_)
        · refine z_aload_n cx 0 dX7_bid_54 rfl rfl ?_
          refine gX7_33 cx dX7_bid_55 ?_
          refine z_aload_n cx 0 dX7_bid_58 rfl rfl ?_
          refine gX7_26 cx dX7_bid_59 ?_
          refine z_V1V cx vX3_remember kX7_180 (c_X3_remember hg σ hP.2.1 hP.1.1 hP.2.2 hP.1.2) (by decide) hC21 rfl rfl (Nat.le_of_ble_eq_true rfl) dX7_bid_62 (fun σ_62 h_62 => ?_)
          refine z_aload_n cx 0 dX7_bid_65 rfl rfl ?_
          refine gX7_26 cx dX7_bid_66 ?_
          refine gX7_153 cx dX7_bid_69 ?_
          refine z_iload_n cx 1 dX7_bid_72 rfl rfl ?_
          refine z_iload_n cx 2 dX7_bid_73 rfl rfl ?_
          refine g_iastN cx j (by decide) (fun _ => rfl) rfl (by omega) (by decide) dX7_bid_74 ?_
          refine z_aload_n cx 0 dX7_bid_75 rfl rfl ?_
          refine gX7_26 cx dX7_bid_76 ?_
          refine z_V0i cx vX1_countBids kX7_184 (c_X1_countBids hg _) (by decide) hC12 rfl rfl (Nat.le_of_ble_eq_true rfl) dX7_bid_79 ?_
          have e9 : bdC σ (nI j) n = 0 := by rw [bdC, if_neg (by rw [c_8]; decide), if_neg (fun z => z.1 c_16), ej, if_neg c_41, if_neg (by rw [c_48]; decide)]
          exact z_iret cx hR ⟨_, rfl, fun _ => ⟨σ_62, j, hj, rfl, h_62, rfl, rfl⟩, fun z => absurd e9 z⟩ dX7_bid_82
        · refine z_bipush cx dX7_bid_51 bi_m4 ?_
          subst c_16
          have e9 : bdC σ (nI j) (-1) = -4 := by simp [bdC, c_8, ej, c_41, c_48]
          exact z_iret cx hR ⟨_, rfl, fun z => absurd (e9.symm.trans z) (by decide), fun _ => ⟨e9.symm, rfl⟩⟩ dX7_bid_53
    · refine z_iload_n cx 2 dX7_bid_19 rfl rfl ?_
      refine z_bipush cx dX7_bid_20 bi_99 ?_
      refine z_S2i cx sX7_isWithin kX7_73 (c_X7_isWithin hg σ _ _) (by decide) (Nat.le_of_ble_eq_true rfl) dX7_bid_22 ?_
      refine z_ifb_ne (tgt := 31) cx dX7_bid_25 (by decide) (fun c_25 => ?_) (fun c_25 => ?_)
      · refine z_iload_n cx 2 dX7_bid_31 rfl rfl ?_
        refine z_aload_n cx 0 dX7_bid_32 rfl rfl ?_
        refine gX7_26 cx dX7_bid_33 ?_
        refine gX7_147 cx dX7_bid_36 ?_
        refine z_iload_n cx 1 dX7_bid_39 rfl rfl ?_
        refine g_ialdN cx j (by decide) (fun _ => rfl) rfl (by omega) (by decide) dX7_bid_40 ?_
        refine z_icmp_gt (tgt := 51) cx dX7_bid_41 (by decide) (fun c_41 => ?_) (fun c_41 => ?_)
        · refine z_bipush cx dX7_bid_51 bi_m4 ?_
          have e9 : bdC σ (nI j) n = -4 := by simp [bdC, c_8, ej, c_41, c_25]
          exact z_iret cx hR ⟨_, rfl, fun z => absurd (e9.symm.trans z) (by decide), fun _ => ⟨e9.symm, rfl⟩⟩ dX7_bid_53
        · refine z_aload_n cx 0 dX7_bid_44 rfl rfl ?_
          refine z_V0i cx vX7_isTonight kX7_176 (c_X7_isTonight hg σ) (by decide) hC0 rfl rfl (Nat.le_of_ble_eq_true rfl) dX7_bid_45 ?_
          refine z_ifb_ne (tgt := 54) cx dX7_bid_48 (by decide) (fun c_48 => ?_) (fun c_48 => ?_)
          · refine z_aload_n cx 0 dX7_bid_54 rfl rfl ?_
            refine gX7_33 cx dX7_bid_55 ?_
            refine z_aload_n cx 0 dX7_bid_58 rfl rfl ?_
            refine gX7_26 cx dX7_bid_59 ?_
            refine z_V1V cx vX3_remember kX7_180 (c_X3_remember hg σ hP.2.1 hP.1.1 hP.2.2 hP.1.2) (by decide) hC21 rfl rfl (Nat.le_of_ble_eq_true rfl) dX7_bid_62 (fun σ_62 h_62 => ?_)
            refine z_aload_n cx 0 dX7_bid_65 rfl rfl ?_
            refine gX7_26 cx dX7_bid_66 ?_
            refine gX7_153 cx dX7_bid_69 ?_
            refine z_iload_n cx 1 dX7_bid_72 rfl rfl ?_
            refine z_iload_n cx 2 dX7_bid_73 rfl rfl ?_
            refine g_iastN cx j (by decide) (fun _ => rfl) rfl (by omega) (by decide) dX7_bid_74 ?_
            refine z_aload_n cx 0 dX7_bid_75 rfl rfl ?_
            refine gX7_26 cx dX7_bid_76 ?_
            refine z_V0i cx vX1_countBids kX7_184 (c_X1_countBids hg _) (by decide) hC12 rfl rfl (Nat.le_of_ble_eq_true rfl) dX7_bid_79 ?_
            have e9 : bdC σ (nI j) n = 0 := by rw [bdC, if_neg (by rw [c_8]; decide), if_neg (fun z => absurd (c_25.symm.trans z.2) (by decide)), ej, if_neg c_41, if_neg (by rw [c_48]; decide)]
            exact z_iret cx hR ⟨_, rfl, fun _ => ⟨σ_62, j, hj, rfl, h_62, rfl, rfl⟩, fun z => absurd e9 z⟩ dX7_bid_82
          · refine z_bipush cx dX7_bid_51 bi_m4 ?_
            have e9 : bdC σ (nI j) n = -4 := by simp [bdC, c_8, ej, c_41, c_25, c_48]
            exact z_iret cx hR ⟨_, rfl, fun z => absurd (e9.symm.trans z) (by decide), fun _ => ⟨e9.symm, rfl⟩⟩ dX7_bid_53
      · refine z_bipush cx dX7_bid_28 bi_m3 ?_
        have e9 : bdC σ (nI j) n = -3 := by simp [bdC, c_8, c_16, c_25]
        exact z_iret cx hR ⟨_, rfl, fun z => absurd (e9.symm.trans z) (by decide), fun _ => ⟨e9.symm, rfl⟩⟩ dX7_bid_30
  · refine z_bipush cx dX7_bid_11 bi_m2 ?_
    have e9 : bdC σ b n = -2 := by simp [bdC, c_8]
    exact z_iret cx hR ⟨_, rfl, fun z => absurd (e9.symm.trans z) (by decide), fun _ => ⟨e9.symm, rfl⟩⟩ dX7_bid_13
set_option maxRecDepth 100000 in
set_option maxHeartbeats 4000000 in
theorem c_X7_sale {l : Launch} {g : Gx} (hg : ApG 123 g.ad) (σ : Mem) {E B : Nat} (hE : E ≤ 7) (hB : B ≤ 5) (eE : σ 6 3 = nI E) (eB : σ 6 4 = nI B) {nu nx : Nat} (hP : PaH σ nu nx) (z : Int32) : CtI l (OC g) 4 mX7_sale [.ref (g.ad 0), .int z] σ (fun v σ' => (slC σ z = 0 → ∃ (σ1 : Mem) (t : Nat), t < E ∧ σ 12 0 = nI t ∧ RemQ σ1 σ nx nu ∧ σ' = slM σ1 B t z ∧ v = slP σ1 B) ∧ (¬ slC σ z = 0 → v = slC σ z ∧ σ' = σ)) := by
  refine ct_of (lv := [some (.ref (g.ad 0)), some (.int z)]) (okC hg) (by decide +kernel) (Nat.le_of_ble_eq_true rfl) (fun ls h => lvh_entry h rfl 0) ?_
  intro κ hl hnL cx hR
  subst hl
  have cx : Cx κ (OC g) RX7 cX7_sale 4 := cx
  have hnL : κ.nL = 2 := hnL
  refine z_iload_n cx 1 dX7_sale_0 rfl rfl ?_
  refine z_sipush cx dX7_sale_1 si_9999 ?_
  refine z_S2i cx sX7_isWithin kX7_73 (c_X7_isWithin hg σ _ _) (by decide) (Nat.le_of_ble_eq_true rfl) dX7_sale_4 ?_
  refine z_ifb_ne (tgt := 13) cx dX7_sale_7 (by decide) (fun c_7 => ?_) (fun c_7 => ?_)
  · refine z_aload_n cx 0 dX7_sale_13 rfl rfl ?_
    refine z_V0i cx vX7_isTonight kX7_176 (c_X7_isTonight hg σ) (by decide) hC0 rfl rfl (Nat.le_of_ble_eq_true rfl) dX7_sale_14 ?_
    refine z_ifb_ne (tgt := 23) cx dX7_sale_17 (by decide) (fun c_17 => ?_) (fun c_17 => ?_)
    · obtain ⟨t, ht, et⟩ := inR_of (show inR (σ 12 0) (nI E) = true by rw [← eE]; exact c_17) (by omega)
      refine z_aload_n cx 0 dX7_sale_23 rfl rfl ?_
      refine gX7_33 cx dX7_sale_24 ?_
      refine z_aload_n cx 0 dX7_sale_27 rfl rfl ?_
      refine gX7_26 cx dX7_sale_28 ?_
      refine z_V1V cx vX3_remember kX7_180 (c_X3_remember hg σ hP.2.1 hP.1.1 hP.2.2 hP.1.2) (by decide) hC21 rfl rfl (Nat.le_of_ble_eq_true rfl) dX7_sale_31 (fun σ_31 h_31 => ?_)
      have hr := h_31.2.2.2
      have r6 : σ_31 6 = σ 6 := hr 6 (by decide) (by omega)
      have r12 : σ_31 12 = σ 12 := hr 12 (by decide) (by omega)
      refine z_aload_n cx 0 dX7_sale_34 rfl rfl ?_
      refine gX7_50 cx dX7_sale_35 ?_
      refine z_iload_n cx 1 dX7_sale_38 rfl rfl ?_
      refine z_V1i cx vX0_sell kX7_188 (c_X0_sell (n := B) (t := t) hg σ_31 ⟨hB, by rw [r6]; exact eB, by omega, by rw [r12]; exact et⟩ _) (by decide) hC115 rfl rfl (Nat.le_of_ble_eq_true rfl) dX7_sale_39 ?_
      have e9 : slC σ z = 0 := by simp [slC, c_7, c_17]
      exact z_iret cx hR ⟨_, rfl, fun _ => ⟨σ_31, t, ht, et, h_31, rfl, rfl⟩, fun q => absurd e9 q⟩ dX7_sale_42
    · refine z_bipush cx dX7_sale_20 bi_m4 ?_
      have e9 : slC σ z = -4 := by simp [slC, c_7, c_17]
      exact z_iret cx hR ⟨_, rfl, fun z => absurd (e9.symm.trans z) (by decide), fun _ => ⟨e9.symm, rfl⟩⟩ dX7_sale_22
  · refine z_bipush cx dX7_sale_10 bi_m3 ?_
    have e9 : slC σ z = -3 := by simp [slC, c_7]
    exact z_iret cx hR ⟨_, rfl, fun z => absurd (e9.symm.trans z) (by decide), fun _ => ⟨e9.symm, rfl⟩⟩ dX7_sale_12
set_option maxRecDepth 100000 in
set_option maxHeartbeats 4000000 in
theorem c_X7_price {l : Launch} {g : Gx} (hg : ApG 123 g.ad) (σ : Mem) {E : Nat} (hE : E ≤ 7) (eE : σ 6 3 = nI E) {nu nx : Nat} (hP : PaH σ nu nx) (e n : Int32) : CtI l (OC g) 3 mX7_price [.ref (g.ad 0), .int e, .int n] σ (fun v σ' => (prC σ e n = 0 → ∃ (σ1 : Mem) (j : Nat), j < E ∧ e = nI j ∧ RemQ σ1 σ nx nu ∧ σ' = up2 σ1 16 j n ∧ v = σ1 16 j) ∧ (¬ prC σ e n = 0 → v = prC σ e n ∧ σ' = σ)) := by
  refine ct_of (lv := [some (.ref (g.ad 0)), some (.int e), some (.int n), none]) (okC hg) (by decide +kernel) (Nat.le_of_ble_eq_true rfl) (fun ls h => lvh_entry h rfl 1) ?_
  intro κ hl hnL cx hR
  subst hl
  have cx : Cx κ (OC g) RX7 cX7_price 3 := cx
  have hnL : κ.nL = 4 := hnL
  refine z_aload_n cx 0 dX7_price_0 rfl rfl ?_
  refine gX7_19 cx dX7_price_1 ?_
  refine z_iload_n cx 1 dX7_price_4 rfl rfl ?_
  refine z_V1i cx vX6_isEvening kX7_116 (c_X6_isEvening hg σ _) (by decide) hC6 rfl rfl (Nat.le_of_ble_eq_true rfl) dX7_price_5 ?_
  refine z_ifb_ne (tgt := 14) cx dX7_price_8 (by decide) (fun c_8 => ?_) (fun c_8 => ?_)
  · obtain ⟨j, hj, rfl⟩ := inR_of (show inR e (nI E) = true by rw [← eE]; exact c_8) (by omega)
    refine z_iload_n cx 2 dX7_price_14 rfl rfl ?_
    refine z_bipush cx dX7_price_15 bi_99 ?_
    refine z_S2i cx sX7_isWithin kX7_73 (c_X7_isWithin hg σ _ _) (by decide) (Nat.le_of_ble_eq_true rfl) dX7_price_17 ?_
    refine z_ifb_ne (tgt := 26) cx dX7_price_20 (by decide) (fun c_20 => ?_) (fun c_20 => ?_)
    · refine z_aload_n cx 0 dX7_price_26 rfl rfl ?_
      refine gX7_33 cx dX7_price_27 ?_
      refine z_aload_n cx 0 dX7_price_30 rfl rfl ?_
      refine gX7_26 cx dX7_price_31 ?_
      refine z_V1V cx vX3_remember kX7_180 (c_X3_remember hg σ hP.2.1 hP.1.1 hP.2.2 hP.1.2) (by decide) hC21 rfl rfl (Nat.le_of_ble_eq_true rfl) dX7_price_34 (fun σ_34 h_34 => ?_)
      refine z_aload_n cx 0 dX7_price_37 rfl rfl ?_
      refine gX7_26 cx dX7_price_38 ?_
      refine gX7_126 cx dX7_price_41 ?_
      refine z_iload_n cx 1 dX7_price_44 rfl rfl ?_
      refine g_ialdN cx j (by decide) (fun _ => rfl) rfl (by omega) (by decide) dX7_price_45 ?_
      refine z_istore_n cx 3 dX7_price_46 rfl hnL (by decide) rfl ?_
      refine z_aload_n cx 0 dX7_price_47 rfl rfl ?_
      refine gX7_26 cx dX7_price_48 ?_
      refine gX7_126 cx dX7_price_51 ?_
      refine z_iload_n cx 1 dX7_price_54 rfl rfl ?_
      refine z_iload_n cx 2 dX7_price_55 rfl rfl ?_
      refine g_iastN cx j (by decide) (fun _ => rfl) rfl (by omega) (by decide) dX7_price_56 ?_
      refine z_iload_n cx 3 dX7_price_57 rfl rfl ?_
      have e9 : prC σ (nI j) n = 0 := by simp [prC, c_8, c_20]
      exact z_iret cx hR ⟨_, rfl, fun _ => ⟨σ_34, j, hj, rfl, h_34, rfl, rfl⟩, fun q => absurd e9 q⟩ dX7_price_58
    · refine z_bipush cx dX7_price_23 bi_m3 ?_
      have e9 : prC σ (nI j) n = -3 := by simp [prC, c_8, c_20]
      exact z_iret cx hR ⟨_, rfl, fun z => absurd (e9.symm.trans z) (by decide), fun _ => ⟨e9.symm, rfl⟩⟩ dX7_price_25
  · refine z_bipush cx dX7_price_11 bi_m2 ?_
    have e9 : prC σ e n = -2 := by simp [prC, c_8]
    exact z_iret cx hR ⟨_, rfl, fun z => absurd (e9.symm.trans z) (by decide), fun _ => ⟨e9.symm, rfl⟩⟩ dX7_price_13
set_option maxRecDepth 100000 in
set_option maxHeartbeats 4000000 in
theorem c_X7_says {l : Launch} {g : Gx} (hg : ApG 123 g.ad) (σ : Mem) {E : Nat} (hE : E ≤ 7) (eE : σ 6 3 = nI E) {nu nx : Nat} (hP : PaH σ nu nx) (t e n : Int32) : CtI l (OC g) 3 mX7_says [.ref (g.ad 0), .int t, .int e, .int n] σ (fun v σ' => (syC σ t e n = 0 → ∃ (σ1 : Mem) (i j : Nat), i < 3 ∧ t = nI i ∧ j < E ∧ e = nI j ∧ RemQ σ1 σ nx nu ∧ σ' = up2 σ1 20 (i * 7 + j) n ∧ v = σ1 20 (i * 7 + j)) ∧ (¬ syC σ t e n = 0 → v = syC σ t e n ∧ σ' = σ)) := by
  refine ct_of (lv := [some (.ref (g.ad 0)), some (.int t), some (.int e), some (.int n), none, none]) (okC hg) (by decide +kernel) (Nat.le_of_ble_eq_true rfl) (fun ls h => lvh_entry h rfl 2) ?_
  intro κ hl hnL cx hR
  subst hl
  have cx : Cx κ (OC g) RX7 cX7_says 3 := cx
  have hnL : κ.nL = 6 := hnL
  refine z_iload_n cx 1 dX7_says_0 rfl rfl ?_
  refine z_S1i cx sX7_isTeller kX7_191 (c_X7_isTeller hg σ _) (by decide) (Nat.le_of_ble_eq_true rfl) dX7_says_1 ?_
  refine z_ifb_eq (tgt := 18) cx dX7_says_4 (by decide) (fun c_4 => ?_) (fun c_4 => ?_)
  · refine z_bipush cx dX7_says_18 bi_m2 ?_
    have e9 : syC σ t e n = -2 := by simp [syC, c_4]
    exact z_iret cx hR ⟨_, rfl, fun z => absurd (e9.symm.trans z) (by decide), fun _ => ⟨e9.symm, rfl⟩⟩ dX7_says_20
  · obtain ⟨i, hi, rfl⟩ := inW_of (n := 2) c_4 (by decide)
    refine z_aload_n cx 0 dX7_says_7 rfl rfl ?_
    refine gX7_19 cx dX7_says_8 ?_
    refine z_iload_n cx 2 dX7_says_11 rfl rfl ?_
    refine z_V1i cx vX6_isEvening kX7_116 (c_X6_isEvening hg σ _) (by decide) hC6 rfl rfl (Nat.le_of_ble_eq_true rfl) dX7_says_12 ?_
    refine z_ifb_ne (tgt := 21) cx dX7_says_15 (by decide) (fun c_15 => ?_) (fun c_15 => ?_)
    · obtain ⟨j, hj, rfl⟩ := inR_of (show inR e (nI E) = true by rw [← eE]; exact c_15) (by omega)
      refine z_iload_n cx 3 dX7_says_21 rfl rfl ?_
      refine z_bipush cx dX7_says_22 bi_10 ?_
      refine z_S2i cx sX7_isWithin kX7_73 (c_X7_isWithin hg σ _ _) (by decide) (Nat.le_of_ble_eq_true rfl) dX7_says_24 ?_
      refine z_ifb_ne (tgt := 33) cx dX7_says_27 (by decide) (fun c_27 => ?_) (fun c_27 => ?_)
      · refine z_iload_n cx 2 dX7_says_33 rfl rfl ?_
        refine z_aload_n cx 0 dX7_says_34 rfl rfl ?_
        refine gX7_26 cx dX7_says_35 ?_
        refine gX7_194 cx dX7_says_38 ?_
        refine z_icmp_ge (tgt := 47) cx dX7_says_41 (by decide) (fun c_41 => ?_) (fun c_41 => ?_)
        · refine z_aload_n cx 0 dX7_says_47 rfl rfl ?_
          refine gX7_33 cx dX7_says_48 ?_
          refine z_aload_n cx 0 dX7_says_51 rfl rfl ?_
          refine gX7_26 cx dX7_says_52 ?_
          refine z_V1V cx vX3_remember kX7_180 (c_X3_remember hg σ hP.2.1 hP.1.1 hP.2.2 hP.1.2) (by decide) hC21 rfl rfl (Nat.le_of_ble_eq_true rfl) dX7_says_55 (fun σ_55 h_55 => ?_)
          refine z_iload_n cx 1 dX7_says_58 rfl rfl ?_
          refine z_iload_n cx 2 dX7_says_59 rfl rfl ?_
          refine z_S2i cx sX7_sayingPlace kX7_197 (c_X7_sayingPlace hg σ_55 _ _) (by decide) (Nat.le_of_ble_eq_true rfl) dX7_says_60 ?_
          refine z_istore cx dX7_says_63 hnL (by decide) rfl ?_
          refine z_aload_n cx 0 dX7_says_65 rfl rfl ?_
          refine gX7_26 cx dX7_says_66 ?_
          refine gX7_200 cx dX7_says_69 ?_
          refine z_iload cx dX7_says_72 rfl ?_
          refine g_ialdN cx (i * 7 + j) (by decide) (fun _ => rfl) (by rw [show (7 : Int32) = nI 7 from rfl, pk_mul, nI_add]) (by omega) (by decide) dX7_says_74 ?_
          refine z_istore cx dX7_says_75 hnL (by decide) rfl ?_
          refine z_aload_n cx 0 dX7_says_77 rfl rfl ?_
          refine gX7_26 cx dX7_says_78 ?_
          refine gX7_200 cx dX7_says_81 ?_
          refine z_iload cx dX7_says_84 rfl ?_
          refine z_iload_n cx 3 dX7_says_86 rfl rfl ?_
          refine g_iastN cx (i * 7 + j) (by decide) (fun _ => rfl) (by rw [show (7 : Int32) = nI 7 from rfl, pk_mul, nI_add]) (by omega) (by decide) dX7_says_87 ?_
          refine z_iload cx dX7_says_88 rfl ?_
          have e9 : syC σ (nI i) (nI j) n = 0 := by simp only [syC, c_4, c_15, c_27, if_pos c_41, Bool.true_eq_false, if_false]
          exact z_iret cx hR ⟨_, rfl, fun _ => ⟨σ_55, i, j, by omega, rfl, hj, rfl, h_55, rfl, rfl⟩, fun q => absurd e9 q⟩ dX7_says_90
        · refine z_bipush cx dX7_says_44 bi_m4 ?_
          have e9 : syC σ (nI i) (nI j) n = -4 := by simp only [syC, c_4, c_15, c_27, if_neg c_41, Bool.true_eq_false, if_false]
          exact z_iret cx hR ⟨_, rfl, fun z => absurd (e9.symm.trans z) (by decide), fun _ => ⟨e9.symm, rfl⟩⟩ dX7_says_46
      · refine z_bipush cx dX7_says_30 bi_m3 ?_
        have e9 : syC σ (nI i) (nI j) n = -3 := by simp [syC, c_4, c_15, c_27]
        exact z_iret cx hR ⟨_, rfl, fun z => absurd (e9.symm.trans z) (by decide), fun _ => ⟨e9.symm, rfl⟩⟩ dX7_says_32
    · refine z_bipush cx dX7_says_18 bi_m2 ?_
      have e9 : syC σ (nI i) e n = -2 := by simp [syC, c_4, c_15]
      exact z_iret cx hR ⟨_, rfl, fun z => absurd (e9.symm.trans z) (by decide), fun _ => ⟨e9.symm, rfl⟩⟩ dX7_says_20
set_option maxRecDepth 100000 in
set_option maxHeartbeats 4000000 in
theorem c_X7_undo {l : Launch} {g : Gx} (hg : ApG 123 g.ad) (σ : Mem) {nu nx : Nat} (hP : PaH σ nu nx) : CtI l (OC g) 3 mX7_undo [.ref (g.ad 0)] σ (fun v σ' => (nu = 0 → v = -4 ∧ σ' = σ) ∧ (¬ nu = 0 → v = nI (nu - 1) ∧ CoEq σ' 12 σ (23 + 9 * ((nx + 7) % 8)) ∧ σ' 21 1 = nI (nu - 1) ∧ σ' 21 2 = nI ((nx + 7) % 8) ∧ ∀ q, q ≠ 21 → q < 12 ∨ 21 ≤ q → σ' q = σ q)) := by
  refine ct_of (lv := [some (.ref (g.ad 0))]) (okC hg) (by decide +kernel) (Nat.le_of_ble_eq_true rfl) (fun ls h => lvh_entry h rfl 0) ?_
  intro κ hl hnL cx hR
  subst hl
  have cx : Cx κ (OC g) RX7 cX7_undo 3 := cx
  have hnL : κ.nL = 1 := hnL
  obtain ⟨⟨hn, eN⟩, hx, eX⟩ := hP
  refine z_aload_n cx 0 dX7_undo_0 rfl rfl ?_
  refine gX7_33 cx dX7_undo_1 ?_
  refine gX7_115 cx dX7_undo_4 ?_
  rw [eN]
  refine z_if_gt (tgt := 13) cx dX7_undo_7 (by decide) (fun c_7 => ?_) (fun c_7 => ?_)
  · have c7 : 0 < nu := (nI_ltI (a := 0) (by decide) (by omega)).mp c_7
    have hq := c_X3_recall (l := κ.l) hg σ hx (n := nu - 1) (by omega) eX (by rw [eN]; congr 1; omega)
    refine z_aload_n cx 0 dX7_undo_13 rfl rfl ?_
    refine gX7_33 cx dX7_undo_14 ?_
    refine z_aload_n cx 0 dX7_undo_17 rfl rfl ?_
    refine gX7_26 cx dX7_undo_18 ?_
    refine z_V1V cx vX3_recall kX7_203 hq (by decide) hC21 rfl rfl (Nat.le_of_ble_eq_true rfl) dX7_undo_21 (fun σ_21 h_21 => ?_)
    obtain ⟨k1, k2, k3, k4⟩ := h_21
    refine z_aload_n cx 0 dX7_undo_24 rfl rfl ?_
    refine gX7_33 cx dX7_undo_25 ?_
    refine gX7_115 cx dX7_undo_28 ?_
    rw [k2]
    exact z_iret cx hR ⟨_, rfl, fun z => absurd z (by omega), fun _ => ⟨rfl, k1, k2, k3, k4⟩⟩ dX7_undo_31
  · have c97 : ¬ 0 < nu := fun z => c_7 ((nI_ltI (a := 0) (by decide) (by omega)).mpr z)
    have c7 : nu = 0 := by omega
    refine z_bipush cx dX7_undo_10 bi_m4 ?_
    exact z_iret cx hR ⟨_, rfl, fun _ => ⟨rfl, rfl⟩, fun z => absurd c7 z⟩ dX7_undo_12
set_option maxRecDepth 100000 in
set_option maxHeartbeats 4000000 in
theorem c_X7_keep {l : Launch} {g : Gx} (hg : ApG 123 g.ad) (σ : Mem) (k : Int32) : CtI l (OC g) 2 mX7_keep [.ref (g.ad 0), .int k] σ (fun v σ' => (inW k 1 = false → v = -2 ∧ σ' = σ) ∧ (inW k 1 = true → ∃ j : Nat, j < 2 ∧ k = nI j ∧ v = σ 12 0 ∧ CoEq σ' (96 + 9 * j) σ 12 ∧ σ' 114 = upd (σ 114) j 1 ∧ ∀ q, q ≠ 114 → q < 96 + 9 * j ∨ 96 + 9 * j + 9 ≤ q → σ' q = σ q)) := by
  refine ct_of (lv := [some (.ref (g.ad 0)), some (.int k)]) (okC hg) (by decide +kernel) (Nat.le_of_ble_eq_true rfl) (fun ls h => lvh_entry h rfl 0) ?_
  intro κ hl hnL cx hR
  subst hl
  have cx : Cx κ (OC g) RX7 cX7_keep 2 := cx
  have hnL : κ.nL = 2 := hnL
  refine z_iload_n cx 1 dX7_keep_0 rfl rfl ?_
  refine z_iconst cx dX7_keep_1 ic_1 ?_
  refine z_S2i cx sX7_isWithin kX7_73 (c_X7_isWithin hg σ _ _) (by decide) (Nat.le_of_ble_eq_true rfl) dX7_keep_2 ?_
  refine z_ifb_ne (tgt := 11) cx dX7_keep_5 (by decide) (fun c_5 => ?_) (fun c_5 => ?_)
  · obtain ⟨j, hj, rfl⟩ := inW_of (n := 1) c_5 (by decide)
    have hA := coK g j (by omega)
    refine z_aload_n cx 0 dX7_keep_11 rfl rfl ?_
    refine gX7_37 cx dX7_keep_12 ?_
    refine z_iload_n cx 1 dX7_keep_15 rfl rfl ?_
    refine g_aald (b := g.ad (96 + 9 * j)) cx (by decide) (fun _ => rfl) (vp_in_nI (n := j) (by omega) (by decide)) (show some (g.ad (96 + 9 * (nI j).toNatClampNeg)) = _ by rw [nI_clamp (by omega)]) dX7_keep_16 ?_
    refine z_aload_n cx 0 dX7_keep_17 rfl rfl ?_
    refine gX7_26 cx dX7_keep_18 ?_
    refine z_V1V cx vX1_copyFrom kX7_206 (c_X1_copyFrom hg σ hA (co12 g) (by omega)) (by decide) (g_he (by omega) hA.2.1) rfl rfl (Nat.le_of_ble_eq_true rfl) dX7_keep_21 (fun σ_21 h_21 => ?_)
    obtain ⟨k1, k2⟩ := h_21
    refine z_aload_n cx 0 dX7_keep_24 rfl rfl ?_
    refine gX7_41 cx dX7_keep_25 ?_
    refine z_iload_n cx 1 dX7_keep_28 rfl rfl ?_
    refine z_iconst cx dX7_keep_29 ic_1 ?_
    refine g_zast cx (by decide) (fun _ => rfl) (vp_in_nI (n := j) (by omega) (by decide)) dX7_keep_30 ?_
    rw [nI_clamp (by omega)]
    refine z_aload_n cx 0 dX7_keep_31 rfl rfl ?_
    refine gX7_26 cx dX7_keep_32 ?_
    refine gX7_194 cx dX7_keep_35 ?_
    refine z_iret cx hR ⟨_, rfl, fun z => absurd (c_5.symm.trans z) (by decide), fun _ => ⟨j, by omega, rfl, ?_, ?_, ?_, ?_⟩⟩ dX7_keep_38
    · rw [up2_ne _ _ _ (by decide)]; exact congrFun (k2 12 (by omega)) 0
    · exact ⟨fun x hx => by rw [up2_ne _ _ _ (by omega)]; exact k1.1 x hx, fun i hi x hx => by rw [up2_ne _ _ _ (by omega)]; exact k1.2 i hi x hx⟩
    · rw [up2_at, k2 114 (by omega)]; rfl
    · intro q h1 h2; rw [up2_ne _ _ _ h1]; exact k2 q h2
  · refine z_bipush cx dX7_keep_8 bi_m2 ?_
    exact z_iret cx hR ⟨_, rfl, fun _ => ⟨rfl, rfl⟩, fun z => absurd (c_5.symm.trans z) (by decide)⟩ dX7_keep_10
set_option maxRecDepth 100000 in
set_option maxHeartbeats 4000000 in
theorem c_X7_back {l : Launch} {g : Gx} (hg : ApG 123 g.ad) (σ : Mem) (k : Int32) : CtI l (OC g) 2 mX7_back [.ref (g.ad 0), .int k] σ (fun v σ' => (inW k 1 = false → v = -2 ∧ σ' = σ) ∧ (inW k 1 = true → ∃ j : Nat, j < 2 ∧ k = nI j ∧ (σ 114 j = 0 → v = -4 ∧ σ' = σ) ∧ (¬ σ 114 j = 0 → v = σ' 12 0 ∧ CoEq σ' 12 σ (96 + 9 * j) ∧ σ' 21 = upd (σ 21) 1 0 ∧ ∀ q, q ≠ 21 → q < 12 ∨ 21 ≤ q → σ' q = σ q))) := by
  refine ct_of (lv := [some (.ref (g.ad 0)), some (.int k)]) (okC hg) (by decide +kernel) (Nat.le_of_ble_eq_true rfl) (fun ls h => lvh_entry h rfl 0) ?_
  intro κ hl hnL cx hR
  subst hl
  have cx : Cx κ (OC g) RX7 cX7_back 2 := cx
  have hnL : κ.nL = 2 := hnL
  refine z_iload_n cx 1 dX7_back_0 rfl rfl ?_
  refine z_iconst cx dX7_back_1 ic_1 ?_
  refine z_S2i cx sX7_isWithin kX7_73 (c_X7_isWithin hg σ _ _) (by decide) (Nat.le_of_ble_eq_true rfl) dX7_back_2 ?_
  refine z_ifb_ne (tgt := 11) cx dX7_back_5 (by decide) (fun c_5 => ?_) (fun c_5 => ?_)
  · obtain ⟨j, hj, rfl⟩ := inW_of (n := 1) c_5 (by decide)
    have hA := coK g j (by omega)
    refine z_aload_n cx 0 dX7_back_11 rfl rfl ?_
    refine gX7_41 cx dX7_back_12 ?_
    refine z_iload_n cx 1 dX7_back_15 rfl rfl ?_
    refine g_zald cx (by decide) (fun _ => rfl) (vp_in_nI (n := j) (by omega) (by decide)) dX7_back_16 ?_
    rw [nI_clamp (by omega)]
    refine z_if_ne (tgt := 23) cx dX7_back_17 (by decide) (fun c_17 => ?_) (fun c_17 => ?_)
    · refine z_aload_n cx 0 dX7_back_23 rfl rfl ?_
      refine gX7_26 cx dX7_back_24 ?_
      refine z_aload_n cx 0 dX7_back_27 rfl rfl ?_
      refine gX7_37 cx dX7_back_28 ?_
      refine z_iload_n cx 1 dX7_back_31 rfl rfl ?_
      refine g_aald (b := g.ad (96 + 9 * j)) cx (by decide) (fun _ => rfl) (vp_in_nI (n := j) (by omega) (by decide)) (show some (g.ad (96 + 9 * (nI j).toNatClampNeg)) = _ by rw [nI_clamp (by omega)]) dX7_back_32 ?_
      refine z_V1V cx vX1_copyFrom kX7_206 (c_X1_copyFrom hg σ (co12 g) hA (by omega)) (by decide) hC12 rfl rfl (Nat.le_of_ble_eq_true rfl) dX7_back_33 (fun σ_33 h_33 => ?_)
      obtain ⟨k1, k2⟩ := h_33
      refine z_aload_n cx 0 dX7_back_36 rfl rfl ?_
      refine gX7_33 cx dX7_back_37 ?_
      refine z_iconst cx dX7_back_40 ic_0 ?_
      refine pX7_115 cx dX7_back_41 ?_
      refine z_aload_n cx 0 dX7_back_44 rfl rfl ?_
      refine gX7_26 cx dX7_back_45 ?_
      refine gX7_194 cx dX7_back_48 ?_
      refine z_iret cx hR ⟨_, rfl, fun z => absurd (c_5.symm.trans z) (by decide), fun _ => ⟨j, by omega, rfl, fun z => absurd z c_17, fun _ => ⟨rfl, ?_, ?_, ?_⟩⟩⟩ dX7_back_51
      · exact ⟨fun x hx => by rw [up2_ne _ _ _ (by omega)]; exact k1.1 x hx, fun i hi x hx => by rw [up2_ne _ _ _ (by omega)]; exact k1.2 i hi x hx⟩
      · rw [up2_at, k2 21 (by omega)]
      · intro q h1 h2; rw [up2_ne _ _ _ h1]; exact k2 q (by omega)
    · refine z_bipush cx dX7_back_20 bi_m4 ?_
      exact z_iret cx hR ⟨_, rfl, fun z => absurd (c_5.symm.trans z) (by decide), fun _ => ⟨j, by omega, rfl, fun _ => ⟨rfl, rfl⟩, fun z => absurd c_17 z⟩⟩ dX7_back_22
  · refine z_bipush cx dX7_back_8 bi_m2 ?_
    exact z_iret cx hR ⟨_, rfl, fun _ => ⟨rfl, rfl⟩, fun z => absurd (c_5.symm.trans z) (by decide)⟩ dX7_back_10
