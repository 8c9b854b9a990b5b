theorem tsw3 (x : Int32) : (x.toInt < 1 ∨ 3 < x.toInt) ∨ x = 1 ∨ x = 2 ∨ x = 3 := by
  by_cases h : x.toInt < 1 ∨ 3 < x.toInt
  · exact Or.inl h
  · have : x.toInt = 1 ∨ x.toInt = 2 ∨ x.toInt = 3 := by omega
    rcases this with e | e | e
    · exact Or.inr (Or.inl (Int32.toInt_inj.mp e))
    · exact Or.inr (Or.inr (Or.inl (Int32.toInt_inj.mp e)))
    · exact Or.inr (Or.inr (Or.inr (Int32.toInt_inj.mp e)))
def evM (μ : Mem) (x w : Int32) : Int32 := if inR x (μ 1 0) = false then -2 else if inW w 5 = false then -3 else μ 1 (7 + 9 * toN x + toN w)
def bdN (μ : Mem) (x w : Int32) : Int32 := if inR x (μ 1 1) = false then -2 else if inW w 4 = false then -3 else μ 1 (70 + 6 * toN x + (if toN w < 2 then toN w else toN w + 1))
def isA (c its w : Int32) : Bool := decide (w = 0) || ((decide (w = 1) && !decide (its = c)) || decide (w = its + 1))
def asM (μ : Mem) (x w : Int32) : Int32 := if inR x (μ 1 1) = false then -2 else if inW w 4 = false then -3 else if isA 1 (μ 1 (70 + 6 * toN x)) w = true then 100 * wB (μ 1 (70 + 6 * toN x)) (μ 1 (70 + 6 * toN x + 1)) + wD (μ 1 (70 + 6 * toN x)) (μ 1 (70 + 6 * toN x + 1)) else -4
def eaM (μ : Mem) (x w : Int32) : Int32 := if inR x (μ 1 0) = false then -2 else if inW w 3 = false then -3 else if isA 2 (μ 1 (7 + 9 * toN x)) w = true then rfO (μ 1 (7 + 9 * toN x)) (μ 1 5) 50 else -4
/-- the bids that are looked at, of i bidders -/
def tkF (μ : Mem) (B i : Nat) : Nat → Int32 := fun k => if k < i then (if k < B then μ 1 (70 + 6 * k + 5) else -1) else μ 8 k
def gnM (μ : Mem) (j i : Nat) (p : Int32) : Int32 := gn (μ 1 (70 + 6 * j)) (μ 1 (70 + 6 * j + 1)) (μ 1 (7 + 9 * i + 1)) (μ 1 (7 + 9 * i)) (μ 1 5) p
set_option maxRecDepth 100000 in
set_option maxHeartbeats 4000000 in
theorem c_X8_evening {l : Launch} {g : Gx} (hg : ApG 9 g.ad) (σ : Mem) {E : Nat} (hE : E ≤ 7) (eE : σ 1 0 = nI E) (x w : Int32) : Ct l (OM g) 2 mX8_evening [.ref (g.ad 0), .int x, .int w] σ (some (.int (evM σ x w))) σ := by
  refine ct_of (lv := [some (.ref (g.ad 0)), some (.int x), some (.int w)]) (okM hg) (by decide +kernel) (Nat.le_of_ble_eq_true rfl) (fun ls h => lvh_entry h rfl 0) ?_
  intro κ hl hnL cx hR
  subst hl
  have cx : Cx κ (OM g) RX8 cX8_evening 2 := cx
  have hnL : κ.nL = 3 := hnL
  refine z_aload_n cx 0 dX8_evening_0 rfl rfl ?_
  refine z_iload_n cx 1 dX8_evening_1 rfl rfl ?_
  refine z_V1i cx vX8_isEvening kX8_128 (c_X8_isEvening hg σ (by omega) eE _) (by decide) hM0 rfl rfl (Nat.le_of_ble_eq_true rfl) dX8_evening_2 ?_
  refine z_ifb_ne (tgt := 11) cx dX8_evening_5 (by decide) (fun c_5 => ?_) (fun c_5 => ?_)
  · obtain ⟨j, hj, rfl⟩ := inR_of c_5 (by omega)
    have ej : toN (nI j) = j := toN_nI (by omega)
    have c5 : ¬ inR (nI j) (σ 1 0) = false := by rw [eE, c_5]; decide
    refine z_iload_n cx 2 dX8_evening_11 rfl rfl ?_
    refine z_iconst cx dX8_evening_12 ic_0 ?_
    refine z_iconst cx dX8_evening_13 ic_5 ?_
    refine z_S3i cx sX8_in kX8_35 (c_X8_in hg σ _ _ _) (by decide) (Nat.le_of_ble_eq_true rfl) dX8_evening_14 ?_
    refine z_ifb_eq (tgt := 34) cx dX8_evening_17 (by decide) (fun c_17 => ?_) (fun c_17 => ?_)
    · have c17 : inW w 5 = false := c_17
      refine z_bipush cx dX8_evening_34 bi_m3 ?_
      exact z_iret cx hR ⟨by rw [evM, if_neg c5, if_pos c17], rfl⟩ dX8_evening_36
    · have c17 : inW w 5 = true := c_17
      obtain ⟨i, hi, rfl⟩ := inW_of (n := 5) c17 (by decide)
      have ei : toN (nI i) = i := toN_nI (by omega)
      refine z_aload_n cx 0 dX8_evening_20 rfl rfl ?_
      refine gX8_7 cx dX8_evening_21 ?_
      refine z_iload_n cx 1 dX8_evening_24 rfl rfl ?_
      refine z_S1i cx sX8_eveningAt kX8_98 (c_X8_eveningAt hg σ j) (by decide) (Nat.le_of_ble_eq_true rfl) dX8_evening_25 ?_
      refine z_iload_n cx 2 dX8_evening_28 rfl rfl ?_
      refine z_iadd cx dX8_evening_29 ?_
      refine g_ialdN cx (7 + 9 * j + i) (by decide) (fun _ => rfl) (nI_add _ i) (by omega) (by decide) dX8_evening_30 ?_
      refine z_goto (tgt := 36) cx dX8_evening_31 (by decide) ?_
      exact z_iret cx hR ⟨by rw [evM, if_neg c5, if_neg (by rw [c17]; decide), ej, ei], rfl⟩ dX8_evening_36
  · refine z_bipush cx dX8_evening_8 bi_m2 ?_
    exact z_iret cx hR ⟨by rw [evM, eE, if_pos c_5], rfl⟩ dX8_evening_10
set_option maxRecDepth 100000 in
set_option maxHeartbeats 4000000 in
theorem c_X8_bidder {l : Launch} {g : Gx} (hg : ApG 9 g.ad) (σ : Mem) {B : Nat} (hB : B ≤ 5) (eB : σ 1 1 = nI B) (x w : Int32) : Ct l (OM g) 2 mX8_bidder [.ref (g.ad 0), .int x, .int w] σ (some (.int (bdN σ x w))) σ := by
  refine ct_of (lv := [some (.ref (g.ad 0)), some (.int x), some (.int w)]) (okM hg) (by decide +kernel) (Nat.le_of_ble_eq_true rfl) (fun ls h => lvh_entry h rfl 0) ?_
  intro κ hl hnL cx hR
  subst hl
  have cx : Cx κ (OM g) RX8 cX8_bidder 2 := cx
  have hnL : κ.nL = 3 := hnL
  refine z_aload_n cx 0 dX8_bidder_0 rfl rfl ?_
  refine z_iload_n cx 1 dX8_bidder_1 rfl rfl ?_
  refine z_V1i cx vX8_isBidder kX8_131 (c_X8_isBidder hg σ (by omega) eB _) (by decide) hM0 rfl rfl (Nat.le_of_ble_eq_true rfl) dX8_bidder_2 ?_
  refine z_ifb_ne (tgt := 11) cx dX8_bidder_5 (by decide) (fun c_5 => ?_) (fun c_5 => ?_)
  · obtain ⟨j, hj, rfl⟩ := inR_of c_5 (by omega)
    have ej : toN (nI j) = j := toN_nI (by omega)
    have c5 : ¬ inR (nI j) (σ 1 1) = false := by rw [eB, c_5]; decide
    refine z_iload_n cx 2 dX8_bidder_11 rfl rfl ?_
    refine z_iconst cx dX8_bidder_12 ic_0 ?_
    refine z_iconst cx dX8_bidder_13 ic_4 ?_
    refine z_S3i cx sX8_in kX8_35 (c_X8_in hg σ _ _ _) (by decide) (Nat.le_of_ble_eq_true rfl) dX8_bidder_14 ?_
    refine z_ifb_ne (tgt := 23) cx dX8_bidder_17 (by decide) (fun c_17 => ?_) (fun c_17 => ?_)
    · have c17 : inW w 4 = true := c_17
      obtain ⟨i, hi, rfl⟩ := inW_of (n := 4) c17 (by decide)
      have ei : toN (nI i) = i := toN_nI (by omega)
      refine z_aload_n cx 0 dX8_bidder_23 rfl rfl ?_
      refine gX8_7 cx dX8_bidder_24 ?_
      refine z_iload_n cx 1 dX8_bidder_27 rfl rfl ?_
      refine z_S1i cx sX8_bidderAt kX8_105 (c_X8_bidderAt hg σ j) (by decide) (Nat.le_of_ble_eq_true rfl) dX8_bidder_28 ?_
      refine z_iload_n cx 2 dX8_bidder_31 rfl rfl ?_
      refine z_iconst cx dX8_bidder_32 ic_2 ?_
      refine z_icmp_ge (tgt := 40) cx dX8_bidder_33 (by decide) (fun c_33 => ?_) (fun c_33 => ?_)
      · have c33 : ¬ i < 2 := Nat.not_lt.mpr ((nI_leI (a := 2) (by decide) (by omega)).mp c_33)
        refine z_iload_n cx 2 dX8_bidder_40 rfl rfl ?_
        refine z_iconst cx dX8_bidder_41 ic_1 ?_
        refine z_iadd cx dX8_bidder_42 ?_
        refine z_iadd cx dX8_bidder_43 ?_
        refine g_ialdN cx (70 + 6 * j + (i + 1)) (by decide) (fun _ => rfl) (by rw [nI_1, nI_add]) (by omega) (by decide) dX8_bidder_44 ?_
        exact z_iret cx hR ⟨by rw [bdN, if_neg c5, if_neg (by rw [c17]; decide), ej, ei, if_neg c33], rfl⟩ dX8_bidder_45
      · have c33 : i < 2 := Nat.not_le.mp (fun z => c_33 ((nI_leI (a := 2) (by decide) (by omega)).mpr z))
        refine z_iload_n cx 2 dX8_bidder_36 rfl rfl ?_
        refine z_goto (tgt := 43) cx dX8_bidder_37 (by decide) ?_
        refine z_iadd cx dX8_bidder_43 ?_
        refine g_ialdN cx (70 + 6 * j + i) (by decide) (fun _ => rfl) (nI_add _ i) (by omega) (by decide) dX8_bidder_44 ?_
        exact z_iret cx hR ⟨by rw [bdN, if_neg c5, if_neg (by rw [c17]; decide), ej, ei, if_pos c33], rfl⟩ dX8_bidder_45
    · have c17 : inW w 4 = false := c_17
      refine z_bipush cx dX8_bidder_20 bi_m3 ?_
      exact z_iret cx hR ⟨by rw [bdN, if_neg c5, if_pos c17], rfl⟩ dX8_bidder_22
  · refine z_bipush cx dX8_bidder_8 bi_m2 ?_
    exact z_iret cx hR ⟨by rw [bdN, eB, if_pos c_5], rfl⟩ dX8_bidder_10
set_option maxRecDepth 100000 in
set_option maxHeartbeats 4000000 in
theorem c_X8_worthOf {l : Launch} {g : Gx} (hg : ApG 9 g.ad) (σ : Mem) {j : Nat} (hj : j < 5) (br : Bool) : Ct l (OM g) 1 mX8_worthOf [.ref (g.ad 0), .int (nI j), .int (bI br)] σ (some (.int (if br = true then wB (σ 1 (70 + 6 * j)) (σ 1 (70 + 6 * j + 1)) else wD (σ 1 (70 + 6 * j)) (σ 1 (70 + 6 * j + 1))))) σ := by
  refine ct_of (lv := [some (.ref (g.ad 0)), some (.int (nI j)), some (.int (bI br)), none, none]) (okM hg) (by decide +kernel) (Nat.le_of_ble_eq_true rfl) (fun ls h => lvh_entry h rfl 2) ?_
  intro κ hl hnL cx hR
  subst hl
  have cx : Cx κ (OM g) RX8 cX8_worthOf 1 := cx
  have hnL : κ.nL = 5 := hnL
  refine z_iload_n cx 1 dX8_worthOf_0 rfl rfl ?_
  refine z_S1i cx sX8_bidderAt kX8_105 (c_X8_bidderAt hg σ j) (by decide) (Nat.le_of_ble_eq_true rfl) dX8_worthOf_1 ?_
  refine z_istore_n cx 3 dX8_worthOf_4 rfl hnL (by decide) rfl ?_
  refine z_aload_n cx 0 dX8_worthOf_5 rfl rfl ?_
  refine gX8_7 cx dX8_worthOf_6 ?_
  refine z_iload_n cx 3 dX8_worthOf_9 rfl rfl ?_
  refine z_iconst cx dX8_worthOf_10 ic_1 ?_
  refine z_iadd cx dX8_worthOf_11 ?_
  refine g_ialdN cx (70 + 6 * j + 1) (by decide) (fun _ => rfl) (nI_add _ 1) (by omega) (by decide) dX8_worthOf_12 ?_
  refine z_istore cx dX8_worthOf_13 hnL (by decide) rfl ?_
  refine z_aload_n cx 0 dX8_worthOf_15 rfl rfl ?_
  refine gX8_7 cx dX8_worthOf_16 ?_
  refine z_iload_n cx 3 dX8_worthOf_19 rfl rfl ?_
  refine z_iconst cx dX8_worthOf_20 ic_0 ?_
  refine z_iadd cx dX8_worthOf_21 ?_
  refine g_ialdN cx (70 + 6 * j) (by decide) (fun _ => rfl) (nI_add _ 0) (by omega) (by decide) dX8_worthOf_22 ?_
  generalize σ 1 (70 + 6 * j) = kd at *
  generalize σ 1 (70 + 6 * j + 1) = wo at *
  rcases tsw3 kd with hout | e1 | e1 | e1
  · have n1 : ¬ kd = 1 := fun z => by rw [z] at hout; revert hout; decide
    have n2 : ¬ kd = 2 := fun z => by rw [z] at hout; revert hout; decide
    have n3 : ¬ kd = 3 := fun z => by rw [z] at hout; revert hout; decide
    refine z_tableOut (tgt := 82) cx dX8_worthOf_23 hout (by decide) ?_
    refine z_iload_n cx 2 dX8_worthOf_82 rfl rfl ?_
    refine z_ifb_eq (tgt := 91) cx dX8_worthOf_83 (by decide) (fun c_83 => ?_) (fun c_83 => ?_)
    · refine z_iconst cx dX8_worthOf_91 ic_0 ?_
      exact z_iret cx hR ⟨by simp [wB, wD, n1, n2, n3, c_83], rfl⟩ dX8_worthOf_92
    · refine z_iload cx dX8_worthOf_86 rfl ?_
      refine z_goto (tgt := 92) cx dX8_worthOf_88 (by decide) ?_
      exact z_iret cx hR ⟨by simp [wB, wD, n1, n2, n3, c_83], rfl⟩ dX8_worthOf_92
  · subst e1
    refine z_tableIn (off := 25) (tgt := 48) cx dX8_worthOf_23 (by decide) (by decide) (by decide) (by decide) ?_
    refine z_iload cx dX8_worthOf_48 rfl ?_
    refine z_iconst cx dX8_worthOf_50 ic_2 ?_
    refine z_idiv cx dX8_worthOf_51 (by decide) ?_
    exact z_iret cx hR ⟨by cases br <;> simp [wB, wD, if_true], rfl⟩ dX8_worthOf_52
  · subst e1
    refine z_tableIn (off := 30) (tgt := 53) cx dX8_worthOf_23 (by decide) (by decide) (by decide) (by decide) ?_
    refine z_iload_n cx 2 dX8_worthOf_53 rfl rfl ?_
    refine z_ifb_eq (tgt := 62) cx dX8_worthOf_54 (by decide) (fun c_54 => ?_) (fun c_54 => ?_)
    · refine z_iconst cx dX8_worthOf_62 ic_5 ?_
      exact z_iret cx hR ⟨by simp [wB, wD, show ¬ (2 : Int32) = 1 by decide, c_54], rfl⟩ dX8_worthOf_63
    · refine z_iload cx dX8_worthOf_57 rfl ?_
      refine z_goto (tgt := 63) cx dX8_worthOf_59 (by decide) ?_
      exact z_iret cx hR ⟨by simp [wB, wD, show ¬ (2 : Int32) = 1 by decide, c_54], rfl⟩ dX8_worthOf_63
  · subst e1
    refine z_tableIn (off := 41) (tgt := 64) cx dX8_worthOf_23 (by decide) (by decide) (by decide) (by decide) ?_
    refine z_iload_n cx 2 dX8_worthOf_64 rfl rfl ?_
    refine z_ifb_eq (tgt := 80) cx dX8_worthOf_65 (by decide) (fun c_65 => ?_) (fun c_65 => ?_)
    · refine z_iconst cx dX8_worthOf_80 ic_0 ?_
      exact z_iret cx hR ⟨by simp [wB, wD, show ¬ (3 : Int32) = 1 by decide, show ¬ (3 : Int32) = 2 by decide, c_65], rfl⟩ dX8_worthOf_81
    · refine z_iconst cx dX8_worthOf_68 ic_0 ?_
      refine z_iload cx dX8_worthOf_69 rfl ?_
      refine z_bipush cx dX8_worthOf_71 bi_10 ?_
      refine z_isub cx dX8_worthOf_73 ?_
      refine z_S2i cx sX8_most kX8_101 (c_X8_most hg σ _ _) (by decide) (Nat.le_of_ble_eq_true rfl) dX8_worthOf_74 ?_
      refine z_goto (tgt := 81) cx dX8_worthOf_77 (by decide) ?_
      exact z_iret cx hR ⟨by simp [wB, wD, show ¬ (3 : Int32) = 1 by decide, show ¬ (3 : Int32) = 2 by decide, c_65, mxI_0], rfl⟩ dX8_worthOf_81
set_option maxRecDepth 100000 in
set_option maxHeartbeats 4000000 in
theorem c_X8_backOf {l : Launch} {g : Gx} (hg : ApG 9 g.ad) (σ : Mem) {i : Nat} (hi : i < 7) (p : Int32) : Ct l (OM g) 1 mX8_backOf [.ref (g.ad 0), .int (nI i), .int p] σ (some (.int (rfO (σ 1 (7 + 9 * i)) (σ 1 5) p))) σ := by
  refine ct_of (lv := [some (.ref (g.ad 0)), some (.int (nI i)), some (.int p)]) (okM hg) (by decide +kernel) (Nat.le_of_ble_eq_true rfl) (fun ls h => lvh_entry h rfl 0) ?_
  intro κ hl hnL cx hR
  subst hl
  have cx : Cx κ (OM g) RX8 cX8_backOf 1 := cx
  have hnL : κ.nL = 3 := hnL
  refine z_aload_n cx 0 dX8_backOf_0 rfl rfl ?_
  refine gX8_7 cx dX8_backOf_1 ?_
  refine z_iload_n cx 1 dX8_backOf_4 rfl rfl ?_
  refine z_S1i cx sX8_eveningAt kX8_98 (c_X8_eveningAt hg σ i) (by decide) (Nat.le_of_ble_eq_true rfl) dX8_backOf_5 ?_
  refine z_iconst cx dX8_backOf_8 ic_0 ?_
  refine z_iadd cx dX8_backOf_9 ?_
  refine g_ialdN cx (7 + 9 * i) (by decide) (fun _ => rfl) (nI_add _ 0) (by omega) (by decide) dX8_backOf_10 ?_
  refine z_iconst cx dX8_backOf_11 ic_2 ?_
  refine z_icmp_ne (tgt := 19) cx dX8_backOf_12 (by decide) (fun c_12 => ?_) (fun c_12 => ?_)
  · refine z_aload_n cx 0 dX8_backOf_19 rfl rfl ?_
    refine gX8_7 cx dX8_backOf_20 ?_
    refine z_iconst cx dX8_backOf_23 ic_5 ?_
    refine g_ialdN cx 5 (by decide) (fun _ => rfl) rfl (by omega) (by decide) dX8_backOf_24 ?_
    refine z_iload_n cx 2 dX8_backOf_25 rfl rfl ?_
    refine z_imul cx dX8_backOf_26 ?_
    refine z_bipush cx dX8_backOf_27 bi_10 ?_
    refine z_idiv cx dX8_backOf_29 (by decide) ?_
    exact z_iret cx hR ⟨by simp only [rfO, c_12, if_true, if_false], rfl⟩ dX8_backOf_30
  · refine z_iconst cx dX8_backOf_15 ic_0 ?_
    refine z_goto (tgt := 30) cx dX8_backOf_16 (by decide) ?_
    exact z_iret cx hR ⟨by simp only [rfO, c_12, if_true, if_false], rfl⟩ dX8_backOf_30
set_option maxRecDepth 100000 in
set_option maxHeartbeats 4000000 in
theorem c_X8_gainOf {l : Launch} {g : Gx} (hg : ApG 9 g.ad) (σ : Mem) {j i : Nat} (hj : j < 5) (hi : i < 7) (p : Int32) : Ct l (OM g) 2 mX8_gainOf [.ref (g.ad 0), .int (nI j), .int (nI i), .int p] σ (some (.int (gnM σ j i p))) σ := by
  refine ct_of (lv := [some (.ref (g.ad 0)), some (.int (nI j)), some (.int (nI i)), some (.int p), none]) (okM hg) (by decide +kernel) (Nat.le_of_ble_eq_true rfl) (fun ls h => lvh_entry h rfl 1) ?_
  intro κ hl hnL cx hR
  subst hl
  have cx : Cx κ (OM g) RX8 cX8_gainOf 2 := cx
  have hnL : κ.nL = 5 := hnL
  refine z_aload_n cx 0 dX8_gainOf_0 rfl rfl ?_
  refine gX8_7 cx dX8_gainOf_1 ?_
  refine z_iload_n cx 2 dX8_gainOf_4 rfl rfl ?_
  refine z_S1i cx sX8_eveningAt kX8_98 (c_X8_eveningAt hg σ i) (by decide) (Nat.le_of_ble_eq_true rfl) dX8_gainOf_5 ?_
  refine z_iconst cx dX8_gainOf_8 ic_1 ?_
  refine z_iadd cx dX8_gainOf_9 ?_
  refine g_ialdN cx (7 + 9 * i + 1) (by decide) (fun _ => rfl) (nI_add _ 1) (by omega) (by decide) dX8_gainOf_10 ?_
  refine z_istore cx dX8_gainOf_11 hnL (by decide) rfl ?_
  refine z_iload cx dX8_gainOf_13 rfl ?_
  refine z_aload_n cx 0 dX8_gainOf_15 rfl rfl ?_
  refine z_iload_n cx 1 dX8_gainOf_16 rfl rfl ?_
  refine z_iconst cx dX8_gainOf_17 ic_1 ?_
  refine z_V2i cx vX8_worthOf kX8_134 (c_X8_worthOf hg σ hj true) (by decide) hM0 rfl rfl (Nat.le_of_ble_eq_true rfl) dX8_gainOf_18 ?_
  refine z_imul cx dX8_gainOf_21 ?_
  refine z_bipush cx dX8_gainOf_22 bi_10 ?_
  refine z_iload cx dX8_gainOf_24 rfl ?_
  refine z_isub cx dX8_gainOf_26 ?_
  refine z_aload_n cx 0 dX8_gainOf_27 rfl rfl ?_
  refine z_iload_n cx 1 dX8_gainOf_28 rfl rfl ?_
  refine z_iconst cx dX8_gainOf_29 ic_0 ?_
  refine z_V2i cx vX8_worthOf kX8_134 (c_X8_worthOf hg σ hj false) (by decide) hM0 rfl rfl (Nat.le_of_ble_eq_true rfl) dX8_gainOf_30 ?_
  refine z_aload_n cx 0 dX8_gainOf_33 rfl rfl ?_
  refine z_iload_n cx 2 dX8_gainOf_34 rfl rfl ?_
  refine z_iload_n cx 3 dX8_gainOf_35 rfl rfl ?_
  refine z_V2i cx vX8_backOf kX8_138 (c_X8_backOf hg σ hi _) (by decide) hM0 rfl rfl (Nat.le_of_ble_eq_true rfl) dX8_gainOf_36 ?_
  refine z_iadd cx dX8_gainOf_39 ?_
  refine z_imul cx dX8_gainOf_40 ?_
  refine z_iadd cx dX8_gainOf_41 ?_
  refine z_bipush cx dX8_gainOf_42 bi_10 ?_
  refine z_iload_n cx 3 dX8_gainOf_44 rfl rfl ?_
  refine z_imul cx dX8_gainOf_45 ?_
  refine z_isub cx dX8_gainOf_46 ?_
  exact z_iret cx hR ⟨rfl, rfl⟩ dX8_gainOf_47
set_option maxRecDepth 100000 in
set_option maxHeartbeats 4000000 in
theorem c_X8_as {l : Launch} {g : Gx} (hg : ApG 9 g.ad) (σ : Mem) {B : Nat} (hB : B ≤ 5) (eB : σ 1 1 = nI B) (x w : Int32) : Ct l (OM g) 2 mX8_as [.ref (g.ad 0), .int x, .int w] σ (some (.int (asM σ x w))) σ := by
  refine ct_of (lv := [some (.ref (g.ad 0)), some (.int x), some (.int w), none, none]) (okM hg) (by decide +kernel) (Nat.le_of_ble_eq_true rfl) (fun ls h => lvh_entry h rfl 2) ?_
  intro κ hl hnL cx hR
  subst hl
  have cx : Cx κ (OM g) RX8 cX8_as 2 := cx
  have hnL : κ.nL = 5 := hnL
  refine z_aload_n cx 0 dX8_as_0 rfl rfl ?_
  refine z_iload_n cx 1 dX8_as_1 rfl rfl ?_
  refine z_V1i cx vX8_isBidder kX8_131 (c_X8_isBidder hg σ (by omega) eB _) (by decide) hM0 rfl rfl (Nat.le_of_ble_eq_true rfl) dX8_as_2 ?_
  refine z_ifb_ne (tgt := 11) cx dX8_as_5 (by decide) (fun c_5 => ?_) (fun c_5 => ?_)
  · obtain ⟨j, hj, rfl⟩ := inR_of c_5 (by omega)
    have ej : toN (nI j) = j := toN_nI (by omega)
    have c5 : ¬ inR (nI j) (σ 1 1) = false := by rw [eB, c_5]; decide
    refine z_iload_n cx 2 dX8_as_11 rfl rfl ?_
    refine z_iconst cx dX8_as_12 ic_0 ?_
    refine z_iconst cx dX8_as_13 ic_4 ?_
    refine z_S3i cx sX8_in kX8_35 (c_X8_in hg σ _ _ _) (by decide) (Nat.le_of_ble_eq_true rfl) dX8_as_14 ?_
    refine z_ifb_ne (tgt := 23) cx dX8_as_17 (by decide) (fun c_17 => ?_) (fun c_17 => ?_)
    · have c17 : inW w 4 = true := c_17
      refine z_aload_n cx 0 dX8_as_23 rfl rfl ?_
      refine gX8_7 cx dX8_as_24 ?_
      refine z_iload_n cx 1 dX8_as_27 rfl rfl ?_
      refine z_S1i cx sX8_bidderAt kX8_105 (c_X8_bidderAt hg σ j) (by decide) (Nat.le_of_ble_eq_true rfl) dX8_as_28 ?_
      refine z_iconst cx dX8_as_31 ic_0 ?_
      refine z_iadd cx dX8_as_32 ?_
      refine g_ialdN cx (70 + 6 * j) (by decide) (fun _ => rfl) (nI_add _ 0) (by omega) (by decide) dX8_as_33 ?_
      refine z_istore_n cx 3 dX8_as_34 rfl hnL (by decide) rfl ?_
      refine z_iload_n cx 2 dX8_as_35 rfl rfl ?_
      refine z_if_eq (tgt := 56) cx dX8_as_36 (by decide) (fun c_36 => ?_) (fun c_36 => ?_)
      · refine z_iconst cx dX8_as_56 ic_1 ?_
        refine z_goto (tgt := 61) cx dX8_as_57 (by decide) ?_
        refine z_istore cx dX8_as_61 hnL (by decide) rfl ?_
        refine z_iload cx dX8_as_63 rfl ?_
        refine z_if_eq (tgt := 87) cx dX8_as_65 (by decide) (fun c_65 => ?_) (fun c_65 => ?_)
        · exact absurd c_65 (by decide)
        · refine z_bipush cx dX8_as_68 bi_100 ?_
          refine z_aload_n cx 0 dX8_as_70 rfl rfl ?_
          refine z_iload_n cx 1 dX8_as_71 rfl rfl ?_
          refine z_iconst cx dX8_as_72 ic_1 ?_
          refine z_V2i cx vX8_worthOf kX8_134 (c_X8_worthOf hg σ (j := j) (by omega) true) (by decide) hM0 rfl rfl (Nat.le_of_ble_eq_true rfl) dX8_as_73 ?_
          refine z_imul cx dX8_as_76 ?_
          refine z_aload_n cx 0 dX8_as_77 rfl rfl ?_
          refine z_iload_n cx 1 dX8_as_78 rfl rfl ?_
          refine z_iconst cx dX8_as_79 ic_0 ?_
          refine z_V2i cx vX8_worthOf kX8_134 (c_X8_worthOf hg σ (j := j) (by omega) false) (by decide) hM0 rfl rfl (Nat.le_of_ble_eq_true rfl) dX8_as_80 ?_
          refine z_iadd cx dX8_as_83 ?_
          refine z_goto (tgt := 89) cx dX8_as_84 (by decide) ?_
          have q9 : isA 1 (σ 1 (70 + 6 * j)) w = true := by rw [isA, c_36]; rfl
          have e9 : asM σ (nI j) w = 100 * wB (σ 1 (70 + 6 * j)) (σ 1 (70 + 6 * j + 1)) + wD (σ 1 (70 + 6 * j)) (σ 1 (70 + 6 * j + 1)) := by rw [asM, if_neg c5, if_neg (by rw [c17]; decide), ej, if_pos q9]
          exact z_iret cx hR ⟨congrArg (fun x => some (Value.int x)) e9.symm, rfl⟩ dX8_as_89
      · refine z_iload_n cx 2 dX8_as_39 rfl rfl ?_
        refine z_iconst cx dX8_as_40 ic_1 ?_
        refine z_icmp_ne (tgt := 49) cx dX8_as_41 (by decide) (fun c_41 => ?_) (fun c_41 => ?_)
        · refine z_iload_n cx 2 dX8_as_49 rfl rfl ?_
          refine z_iload_n cx 3 dX8_as_50 rfl rfl ?_
          refine z_iconst cx dX8_as_51 ic_1 ?_
          refine z_iadd cx dX8_as_52 ?_
          refine z_icmp_ne (tgt := 60) cx dX8_as_53 (by decide) (fun c_53 => ?_) (fun c_53 => ?_)
          · refine z_iconst cx dX8_as_60 ic_0 ?_
            refine z_istore cx dX8_as_61 hnL (by decide) rfl ?_
            refine z_iload cx dX8_as_63 rfl ?_
            refine z_if_eq (tgt := 87) cx dX8_as_65 (by decide) (fun c_65 => ?_) (fun c_65 => ?_)
            · refine z_bipush cx dX8_as_87 bi_m4 ?_
              have q9 : ¬ isA 1 (σ 1 (70 + 6 * j)) w = true := by rw [isA, decide_eq_false c_36, decide_eq_false c_41, decide_eq_false c_53]; simp
              have e9 : asM σ (nI j) w = -4 := by rw [asM, if_neg c5, if_neg (by rw [c17]; decide), ej, if_neg q9]
              exact z_iret cx hR ⟨congrArg (fun x => some (Value.int x)) e9.symm, rfl⟩ dX8_as_89
            · exact absurd rfl c_65
          · refine z_iconst cx dX8_as_56 ic_1 ?_
            refine z_goto (tgt := 61) cx dX8_as_57 (by decide) ?_
            refine z_istore cx dX8_as_61 hnL (by decide) rfl ?_
            refine z_iload cx dX8_as_63 rfl ?_
            refine z_if_eq (tgt := 87) cx dX8_as_65 (by decide) (fun c_65 => ?_) (fun c_65 => ?_)
            · exact absurd c_65 (by decide)
            · refine z_bipush cx dX8_as_68 bi_100 ?_
              refine z_aload_n cx 0 dX8_as_70 rfl rfl ?_
              refine z_iload_n cx 1 dX8_as_71 rfl rfl ?_
              refine z_iconst cx dX8_as_72 ic_1 ?_
              refine z_V2i cx vX8_worthOf kX8_134 (c_X8_worthOf hg σ (j := j) (by omega) true) (by decide) hM0 rfl rfl (Nat.le_of_ble_eq_true rfl) dX8_as_73 ?_
              refine z_imul cx dX8_as_76 ?_
              refine z_aload_n cx 0 dX8_as_77 rfl rfl ?_
              refine z_iload_n cx 1 dX8_as_78 rfl rfl ?_
              refine z_iconst cx dX8_as_79 ic_0 ?_
              refine z_V2i cx vX8_worthOf kX8_134 (c_X8_worthOf hg σ (j := j) (by omega) false) (by decide) hM0 rfl rfl (Nat.le_of_ble_eq_true rfl) dX8_as_80 ?_
              refine z_iadd cx dX8_as_83 ?_
              refine z_goto (tgt := 89) cx dX8_as_84 (by decide) ?_
              have q9 : isA 1 (σ 1 (70 + 6 * j)) w = true := by rw [isA, decide_eq_true c_53]; simp
              have e9 : asM σ (nI j) w = 100 * wB (σ 1 (70 + 6 * j)) (σ 1 (70 + 6 * j + 1)) + wD (σ 1 (70 + 6 * j)) (σ 1 (70 + 6 * j + 1)) := by rw [asM, if_neg c5, if_neg (by rw [c17]; decide), ej, if_pos q9]
              exact z_iret cx hR ⟨congrArg (fun x => some (Value.int x)) e9.symm, rfl⟩ dX8_as_89
        · refine z_iload_n cx 3 dX8_as_44 rfl rfl ?_
          refine z_iconst cx dX8_as_45 ic_1 ?_
          refine z_icmp_ne (tgt := 56) cx dX8_as_46 (by decide) (fun c_46 => ?_) (fun c_46 => ?_)
          · refine z_iconst cx dX8_as_56 ic_1 ?_
            refine z_goto (tgt := 61) cx dX8_as_57 (by decide) ?_
            refine z_istore cx dX8_as_61 hnL (by decide) rfl ?_
            refine z_iload cx dX8_as_63 rfl ?_
            refine z_if_eq (tgt := 87) cx dX8_as_65 (by decide) (fun c_65 => ?_) (fun c_65 => ?_)
            · exact absurd c_65 (by decide)
            · refine z_bipush cx dX8_as_68 bi_100 ?_
              refine z_aload_n cx 0 dX8_as_70 rfl rfl ?_
              refine z_iload_n cx 1 dX8_as_71 rfl rfl ?_
              refine z_iconst cx dX8_as_72 ic_1 ?_
              refine z_V2i cx vX8_worthOf kX8_134 (c_X8_worthOf hg σ (j := j) (by omega) true) (by decide) hM0 rfl rfl (Nat.le_of_ble_eq_true rfl) dX8_as_73 ?_
              refine z_imul cx dX8_as_76 ?_
              refine z_aload_n cx 0 dX8_as_77 rfl rfl ?_
              refine z_iload_n cx 1 dX8_as_78 rfl rfl ?_
              refine z_iconst cx dX8_as_79 ic_0 ?_
              refine z_V2i cx vX8_worthOf kX8_134 (c_X8_worthOf hg σ (j := j) (by omega) false) (by decide) hM0 rfl rfl (Nat.le_of_ble_eq_true rfl) dX8_as_80 ?_
              refine z_iadd cx dX8_as_83 ?_
              refine z_goto (tgt := 89) cx dX8_as_84 (by decide) ?_
              have q9 : isA 1 (σ 1 (70 + 6 * j)) w = true := by rw [isA, decide_eq_true c_41, decide_eq_false c_46]; simp
              have e9 : asM σ (nI j) w = 100 * wB (σ 1 (70 + 6 * j)) (σ 1 (70 + 6 * j + 1)) + wD (σ 1 (70 + 6 * j)) (σ 1 (70 + 6 * j + 1)) := by rw [asM, if_neg c5, if_neg (by rw [c17]; decide), ej, if_pos q9]
              exact z_iret cx hR ⟨congrArg (fun x => some (Value.int x)) e9.symm, rfl⟩ dX8_as_89
          · refine z_iload_n cx 2 dX8_as_49 rfl rfl ?_
            refine z_iload_n cx 3 dX8_as_50 rfl rfl ?_
            refine z_iconst cx dX8_as_51 ic_1 ?_
            refine z_iadd cx dX8_as_52 ?_
            refine z_icmp_ne (tgt := 60) cx dX8_as_53 (by decide) (fun c_53 => ?_) (fun c_53 => ?_)
            · refine z_iconst cx dX8_as_60 ic_0 ?_
              refine z_istore cx dX8_as_61 hnL (by decide) rfl ?_
              refine z_iload cx dX8_as_63 rfl ?_
              refine z_if_eq (tgt := 87) cx dX8_as_65 (by decide) (fun c_65 => ?_) (fun c_65 => ?_)
              · refine z_bipush cx dX8_as_87 bi_m4 ?_
                have q9 : ¬ isA 1 (σ 1 (70 + 6 * j)) w = true := by rw [isA, decide_eq_false c_36, decide_eq_true c_41, decide_eq_true c_46, decide_eq_false c_53]; simp
                have e9 : asM σ (nI j) w = -4 := by rw [asM, if_neg c5, if_neg (by rw [c17]; decide), ej, if_neg q9]
                exact z_iret cx hR ⟨congrArg (fun x => some (Value.int x)) e9.symm, rfl⟩ dX8_as_89
              · exact absurd rfl c_65
            · refine z_iconst cx dX8_as_56 ic_1 ?_
              refine z_goto (tgt := 61) cx dX8_as_57 (by decide) ?_
              refine z_istore cx dX8_as_61 hnL (by decide) rfl ?_
              refine z_iload cx dX8_as_63 rfl ?_
              refine z_if_eq (tgt := 87) cx dX8_as_65 (by decide) (fun c_65 => ?_) (fun c_65 => ?_)
              · exact absurd c_65 (by decide)
              · refine z_bipush cx dX8_as_68 bi_100 ?_
                refine z_aload_n cx 0 dX8_as_70 rfl rfl ?_
                refine z_iload_n cx 1 dX8_as_71 rfl rfl ?_
                refine z_iconst cx dX8_as_72 ic_1 ?_
                refine z_V2i cx vX8_worthOf kX8_134 (c_X8_worthOf hg σ (j := j) (by omega) true) (by decide) hM0 rfl rfl (Nat.le_of_ble_eq_true rfl) dX8_as_73 ?_
                refine z_imul cx dX8_as_76 ?_
                refine z_aload_n cx 0 dX8_as_77 rfl rfl ?_
                refine z_iload_n cx 1 dX8_as_78 rfl rfl ?_
                refine z_iconst cx dX8_as_79 ic_0 ?_
                refine z_V2i cx vX8_worthOf kX8_134 (c_X8_worthOf hg σ (j := j) (by omega) false) (by decide) hM0 rfl rfl (Nat.le_of_ble_eq_true rfl) dX8_as_80 ?_
                refine z_iadd cx dX8_as_83 ?_
                refine z_goto (tgt := 89) cx dX8_as_84 (by decide) ?_
                have q9 : isA 1 (σ 1 (70 + 6 * j)) w = true := by rw [isA, decide_eq_true c_53]; simp
                have e9 : asM σ (nI j) w = 100 * wB (σ 1 (70 + 6 * j)) (σ 1 (70 + 6 * j + 1)) + wD (σ 1 (70 + 6 * j)) (σ 1 (70 + 6 * j + 1)) := by rw [asM, if_neg c5, if_neg (by rw [c17]; decide), ej, if_pos q9]
                exact z_iret cx hR ⟨congrArg (fun x => some (Value.int x)) e9.symm, rfl⟩ dX8_as_89
    · have c17 : inW w 4 = false := c_17
      refine z_bipush cx dX8_as_20 bi_m3 ?_
      exact z_iret cx hR ⟨by rw [asM, if_neg c5, if_pos c17], rfl⟩ dX8_as_22
  · refine z_bipush cx dX8_as_8 bi_m2 ?_
    exact z_iret cx hR ⟨by rw [asM, eB, if_pos c_5], rfl⟩ dX8_as_10
set_option maxRecDepth 100000 in
set_option maxHeartbeats 4000000 in
theorem c_X8_eveningAs {l : Launch} {g : Gx} (hg : ApG 9 g.ad) (σ : Mem) {E : Nat} (hE : E ≤ 7) (eE : σ 1 0 = nI E) (x w : Int32) : Ct l (OM g) 2 mX8_eveningAs [.ref (g.ad 0), .int x, .int w] σ (some (.int (eaM σ x w))) σ := by
  refine ct_of (lv := [some (.ref (g.ad 0)), some (.int x), some (.int w), none, none]) (okM hg) (by decide +kernel) (Nat.le_of_ble_eq_true rfl) (fun ls h => lvh_entry h rfl 2) ?_
  intro κ hl hnL cx hR
  subst hl
  have cx : Cx κ (OM g) RX8 cX8_eveningAs 2 := cx
  have hnL : κ.nL = 5 := hnL
  refine z_aload_n cx 0 dX8_eveningAs_0 rfl rfl ?_
  refine z_iload_n cx 1 dX8_eveningAs_1 rfl rfl ?_
  refine z_V1i cx vX8_isEvening kX8_128 (c_X8_isEvening hg σ (by omega) eE _) (by decide) hM0 rfl rfl (Nat.le_of_ble_eq_true rfl) dX8_eveningAs_2 ?_
  refine z_ifb_ne (tgt := 11) cx dX8_eveningAs_5 (by decide) (fun c_5 => ?_) (fun c_5 => ?_)
  · obtain ⟨j, hj, rfl⟩ := inR_of c_5 (by omega)
    have ej : toN (nI j) = j := toN_nI (by omega)
    have c5 : ¬ inR (nI j) (σ 1 0) = false := by rw [eE, c_5]; decide
    refine z_iload_n cx 2 dX8_eveningAs_11 rfl rfl ?_
    refine z_iconst cx dX8_eveningAs_12 ic_0 ?_
    refine z_iconst cx dX8_eveningAs_13 ic_3 ?_
    refine z_S3i cx sX8_in kX8_35 (c_X8_in hg σ _ _ _) (by decide) (Nat.le_of_ble_eq_true rfl) dX8_eveningAs_14 ?_
    refine z_ifb_ne (tgt := 23) cx dX8_eveningAs_17 (by decide) (fun c_17 => ?_) (fun c_17 => ?_)
    · have c17 : inW w 3 = true := c_17
      refine z_aload_n cx 0 dX8_eveningAs_23 rfl rfl ?_
      refine gX8_7 cx dX8_eveningAs_24 ?_
      refine z_iload_n cx 1 dX8_eveningAs_27 rfl rfl ?_
      refine z_S1i cx sX8_eveningAt kX8_98 (c_X8_eveningAt hg σ j) (by decide) (Nat.le_of_ble_eq_true rfl) dX8_eveningAs_28 ?_
      refine z_iconst cx dX8_eveningAs_31 ic_0 ?_
      refine z_iadd cx dX8_eveningAs_32 ?_
      refine g_ialdN cx (7 + 9 * j) (by decide) (fun _ => rfl) (nI_add _ 0) (by omega) (by decide) dX8_eveningAs_33 ?_
      refine z_istore_n cx 3 dX8_eveningAs_34 rfl hnL (by decide) rfl ?_
      refine z_iload_n cx 2 dX8_eveningAs_35 rfl rfl ?_
      refine z_if_eq (tgt := 56) cx dX8_eveningAs_36 (by decide) (fun c_36 => ?_) (fun c_36 => ?_)
      · refine z_iconst cx dX8_eveningAs_56 ic_1 ?_
        refine z_goto (tgt := 61) cx dX8_eveningAs_57 (by decide) ?_
        refine z_istore cx dX8_eveningAs_61 hnL (by decide) rfl ?_
        refine z_iload cx dX8_eveningAs_63 rfl ?_
        refine z_if_eq (tgt := 78) cx dX8_eveningAs_65 (by decide) (fun c_65 => ?_) (fun c_65 => ?_)
        · exact absurd c_65 (by decide)
        · refine z_aload_n cx 0 dX8_eveningAs_68 rfl rfl ?_
          refine z_iload_n cx 1 dX8_eveningAs_69 rfl rfl ?_
          refine z_bipush cx dX8_eveningAs_70 bi_50 ?_
          refine z_V2i cx vX8_backOf kX8_138 (c_X8_backOf hg σ (i := j) (by omega) _) (by decide) hM0 rfl rfl (Nat.le_of_ble_eq_true rfl) dX8_eveningAs_72 ?_
          refine z_goto (tgt := 80) cx dX8_eveningAs_75 (by decide) ?_
          have q9 : isA 2 (σ 1 (7 + 9 * j)) w = true := by rw [isA, c_36]; rfl
          have e9 : eaM σ (nI j) w = rfO (σ 1 (7 + 9 * j)) (σ 1 5) 50 := by rw [eaM, if_neg c5, if_neg (by rw [c17]; decide), ej, if_pos q9]
          exact z_iret cx hR ⟨congrArg (fun x => some (Value.int x)) e9.symm, rfl⟩ dX8_eveningAs_80
      · refine z_iload_n cx 2 dX8_eveningAs_39 rfl rfl ?_
        refine z_iconst cx dX8_eveningAs_40 ic_1 ?_
        refine z_icmp_ne (tgt := 49) cx dX8_eveningAs_41 (by decide) (fun c_41 => ?_) (fun c_41 => ?_)
        · refine z_iload_n cx 2 dX8_eveningAs_49 rfl rfl ?_
          refine z_iload_n cx 3 dX8_eveningAs_50 rfl rfl ?_
          refine z_iconst cx dX8_eveningAs_51 ic_1 ?_
          refine z_iadd cx dX8_eveningAs_52 ?_
          refine z_icmp_ne (tgt := 60) cx dX8_eveningAs_53 (by decide) (fun c_53 => ?_) (fun c_53 => ?_)
          · refine z_iconst cx dX8_eveningAs_60 ic_0 ?_
            refine z_istore cx dX8_eveningAs_61 hnL (by decide) rfl ?_
            refine z_iload cx dX8_eveningAs_63 rfl ?_
            refine z_if_eq (tgt := 78) cx dX8_eveningAs_65 (by decide) (fun c_65 => ?_) (fun c_65 => ?_)
            · refine z_bipush cx dX8_eveningAs_78 bi_m4 ?_
              have q9 : ¬ isA 2 (σ 1 (7 + 9 * j)) w = true := by rw [isA, decide_eq_false c_36, decide_eq_false c_41, decide_eq_false c_53]; simp
              have e9 : eaM σ (nI j) w = -4 := by rw [eaM, if_neg c5, if_neg (by rw [c17]; decide), ej, if_neg q9]
              exact z_iret cx hR ⟨congrArg (fun x => some (Value.int x)) e9.symm, rfl⟩ dX8_eveningAs_80
            · exact absurd rfl c_65
          · refine z_iconst cx dX8_eveningAs_56 ic_1 ?_
            refine z_goto (tgt := 61) cx dX8_eveningAs_57 (by decide) ?_
            refine z_istore cx dX8_eveningAs_61 hnL (by decide) rfl ?_
            refine z_iload cx dX8_eveningAs_63 rfl ?_
            refine z_if_eq (tgt := 78) cx dX8_eveningAs_65 (by decide) (fun c_65 => ?_) (fun c_65 => ?_)
            · exact absurd c_65 (by decide)
            · refine z_aload_n cx 0 dX8_eveningAs_68 rfl rfl ?_
              refine z_iload_n cx 1 dX8_eveningAs_69 rfl rfl ?_
              refine z_bipush cx dX8_eveningAs_70 bi_50 ?_
              refine z_V2i cx vX8_backOf kX8_138 (c_X8_backOf hg σ (i := j) (by omega) _) (by decide) hM0 rfl rfl (Nat.le_of_ble_eq_true rfl) dX8_eveningAs_72 ?_
              refine z_goto (tgt := 80) cx dX8_eveningAs_75 (by decide) ?_
              have q9 : isA 2 (σ 1 (7 + 9 * j)) w = true := by rw [isA, decide_eq_true c_53]; simp
              have e9 : eaM σ (nI j) w = rfO (σ 1 (7 + 9 * j)) (σ 1 5) 50 := by rw [eaM, if_neg c5, if_neg (by rw [c17]; decide), ej, if_pos q9]
              exact z_iret cx hR ⟨congrArg (fun x => some (Value.int x)) e9.symm, rfl⟩ dX8_eveningAs_80
        · refine z_iload_n cx 3 dX8_eveningAs_44 rfl rfl ?_
          refine z_iconst cx dX8_eveningAs_45 ic_2 ?_
          refine z_icmp_ne (tgt := 56) cx dX8_eveningAs_46 (by decide) (fun c_46 => ?_) (fun c_46 => ?_)
          · refine z_iconst cx dX8_eveningAs_56 ic_1 ?_
            refine z_goto (tgt := 61) cx dX8_eveningAs_57 (by decide) ?_
            refine z_istore cx dX8_eveningAs_61 hnL (by decide) rfl ?_
            refine z_iload cx dX8_eveningAs_63 rfl ?_
            refine z_if_eq (tgt := 78) cx dX8_eveningAs_65 (by decide) (fun c_65 => ?_) (fun c_65 => ?_)
            · exact absurd c_65 (by decide)
            · refine z_aload_n cx 0 dX8_eveningAs_68 rfl rfl ?_
              refine z_iload_n cx 1 dX8_eveningAs_69 rfl rfl ?_
              refine z_bipush cx dX8_eveningAs_70 bi_50 ?_
              refine z_V2i cx vX8_backOf kX8_138 (c_X8_backOf hg σ (i := j) (by omega) _) (by decide) hM0 rfl rfl (Nat.le_of_ble_eq_true rfl) dX8_eveningAs_72 ?_
              refine z_goto (tgt := 80) cx dX8_eveningAs_75 (by decide) ?_
              have q9 : isA 2 (σ 1 (7 + 9 * j)) w = true := by rw [isA, decide_eq_true c_41, decide_eq_false c_46]; simp
              have e9 : eaM σ (nI j) w = rfO (σ 1 (7 + 9 * j)) (σ 1 5) 50 := by rw [eaM, if_neg c5, if_neg (by rw [c17]; decide), ej, if_pos q9]
              exact z_iret cx hR ⟨congrArg (fun x => some (Value.int x)) e9.symm, rfl⟩ dX8_eveningAs_80
          · refine z_iload_n cx 2 dX8_eveningAs_49 rfl rfl ?_
            refine z_iload_n cx 3 dX8_eveningAs_50 rfl rfl ?_
            refine z_iconst cx dX8_eveningAs_51 ic_1 ?_
            refine z_iadd cx dX8_eveningAs_52 ?_
            refine z_icmp_ne (tgt := 60) cx dX8_eveningAs_53 (by decide) (fun c_53 => ?_) (fun c_53 => ?_)
            · refine z_iconst cx dX8_eveningAs_60 ic_0 ?_
              refine z_istore cx dX8_eveningAs_61 hnL (by decide) rfl ?_
              refine z_iload cx dX8_eveningAs_63 rfl ?_
              refine z_if_eq (tgt := 78) cx dX8_eveningAs_65 (by decide) (fun c_65 => ?_) (fun c_65 => ?_)
              · refine z_bipush cx dX8_eveningAs_78 bi_m4 ?_
                have q9 : ¬ isA 2 (σ 1 (7 + 9 * j)) w = true := by rw [isA, decide_eq_false c_36, decide_eq_true c_41, decide_eq_true c_46, decide_eq_false c_53]; simp
                have e9 : eaM σ (nI j) w = -4 := by rw [eaM, if_neg c5, if_neg (by rw [c17]; decide), ej, if_neg q9]
                exact z_iret cx hR ⟨congrArg (fun x => some (Value.int x)) e9.symm, rfl⟩ dX8_eveningAs_80
              · exact absurd rfl c_65
            · refine z_iconst cx dX8_eveningAs_56 ic_1 ?_
              refine z_goto (tgt := 61) cx dX8_eveningAs_57 (by decide) ?_
              refine z_istore cx dX8_eveningAs_61 hnL (by decide) rfl ?_
              refine z_iload cx dX8_eveningAs_63 rfl ?_
              refine z_if_eq (tgt := 78) cx dX8_eveningAs_65 (by decide) (fun c_65 => ?_) (fun c_65 => ?_)
              · exact absurd c_65 (by decide)
              · refine z_aload_n cx 0 dX8_eveningAs_68 rfl rfl ?_
                refine z_iload_n cx 1 dX8_eveningAs_69 rfl rfl ?_
                refine z_bipush cx dX8_eveningAs_70 bi_50 ?_
                refine z_V2i cx vX8_backOf kX8_138 (c_X8_backOf hg σ (i := j) (by omega) _) (by decide) hM0 rfl rfl (Nat.le_of_ble_eq_true rfl) dX8_eveningAs_72 ?_
                refine z_goto (tgt := 80) cx dX8_eveningAs_75 (by decide) ?_
                have q9 : isA 2 (σ 1 (7 + 9 * j)) w = true := by rw [isA, decide_eq_true c_53]; simp
                have e9 : eaM σ (nI j) w = rfO (σ 1 (7 + 9 * j)) (σ 1 5) 50 := by rw [eaM, if_neg c5, if_neg (by rw [c17]; decide), ej, if_pos q9]
                exact z_iret cx hR ⟨congrArg (fun x => some (Value.int x)) e9.symm, rfl⟩ dX8_eveningAs_80
    · have c17 : inW w 3 = false := c_17
      refine z_bipush cx dX8_eveningAs_20 bi_m3 ?_
      exact z_iret cx hR ⟨by rw [eaM, if_neg c5, if_pos c17], rfl⟩ dX8_eveningAs_22
  · refine z_bipush cx dX8_eveningAs_8 bi_m2 ?_
    exact z_iret cx hR ⟨by rw [eaM, eE, if_pos c_5], rfl⟩ dX8_eveningAs_10
theorem tkF_0 (μ : Mem) (B : Nat) : tkF μ B 0 = μ 8 := by funext k; simp only [tkF]; rw [if_neg (by omega)]
theorem tkF_s (μ : Mem) (B i : Nat) : upd (tkF μ B i) i (if i < B then μ 1 (70 + 6 * i + 5) else -1) = tkF μ B (i + 1) := by
  funext k
  by_cases q : k = i
  · subst q; rw [upd_at]; simp only [tkF]; rw [if_pos (show k < k + 1 by omega)]
  · rw [upd_ne _ _ q]; simp only [tkF]
    by_cases q2 : k < i
    · rw [if_pos q2, if_pos (show k < i + 1 by omega)]
    · rw [if_neg q2, if_neg (show ¬ k < i + 1 by omega)]
set_option maxRecDepth 100000 in
set_option maxHeartbeats 4000000 in
theorem c_X8_takesBids {l : Launch} {g : Gx} (hg : ApG 9 g.ad) (σ : Mem) {B : Nat} (hB : B ≤ 5) (eB : σ 1 1 = nI B) : Ct l (OM g) 1 mX8_takesBids [.ref (g.ad 0)] σ none (upA σ 8 (tkF σ B 5)) := by
  refine ct_of (lv := [some (.ref (g.ad 0)), none]) (okM hg) (by decide +kernel) (Nat.le_of_ble_eq_true rfl) (fun ls h => lvh_entry h rfl 1) ?_
  intro κ hl hnL cx hR
  subst hl
  have cx : Cx κ (OM g) RX8 cX8_takesBids 1 := cx
  have hnL : κ.nL = 2 := hnL
  have loop : ∀ (k i : Nat), 5 + 1 ≤ i + k → i ≤ 5 → Z κ (OM g) (upA σ 8 (tkF σ B i)) 2 [some (.ref (g.ad 0)), some (.int (nI i))] [] := by
    intro k
    induction k with
    | zero => intro i h1 h2; exact absurd h1 (by omega)
    | succ k ih =>
      intro i h1 h2
      refine z_iload_n cx 1 dX8_takesBids_2 rfl rfl ?_
      refine z_iconst cx dX8_takesBids_3 ic_5 ?_
      refine z_icmp_ge (tgt := 44) cx dX8_takesBids_4 (by decide) (fun c_4 => ?_) (fun c_4 => ?_)
      · have c6 := (nI_leI (a := 5) (by omega) (by omega)).mp c_4
        have e9 : i = 5 := by omega
        subst e9
        exact z_vret cx hR ⟨rfl, rfl⟩ dX8_takesBids_44
      · have c6 : ¬ 5 ≤ i := fun q => c_4 ((nI_leI (a := 5) (by omega) (by omega)).mpr q)
        refine z_aload_n cx 0 dX8_takesBids_7 rfl rfl ?_
        refine gX8_32 cx dX8_takesBids_8 ?_
        refine z_iload_n cx 1 dX8_takesBids_11 rfl rfl ?_
        refine z_iload_n cx 1 dX8_takesBids_12 rfl rfl ?_
        refine z_aload_n cx 0 dX8_takesBids_13 rfl rfl ?_
        refine gX8_7 cx dX8_takesBids_14 ?_
        refine z_iconst cx dX8_takesBids_17 ic_1 ?_
        refine g_ialdN cx 1 (by decide) (fun _ => rfl) rfl (by omega) (by decide) dX8_takesBids_18 ?_
        rw [show upA σ 8 (tkF σ B i) 1 1 = nI B from eB]
        refine z_icmp_ge (tgt := 36) cx dX8_takesBids_19 (by decide) (fun c_19 => ?_) (fun c_19 => ?_)
        · have c19 : ¬ i < B := Nat.not_lt.mpr ((nI_leI (by omega) (by omega)).mp c_19)
          refine z_iconst cx dX8_takesBids_36 ic_m1 ?_
          refine g_iastN cx i (by decide) (fun _ => rfl) rfl (by omega) (by decide) dX8_takesBids_37 ?_
          refine z_iinc cx dX8_takesBids_38 rfl ic_1 (nI_1 i) hnL (by decide) rfl ?_
          refine z_goto (tgt := 2) cx dX8_takesBids_41 (by decide) ?_
          exact z_eq (by rw [up2_upA, ← tkF_s, if_neg c19]) rfl rfl (ih (i + 1) (by omega) (by omega))
        · have c19 : i < B := Nat.not_le.mp (fun z => c_19 ((nI_leI (by omega) (by omega)).mpr z))
          refine z_aload_n cx 0 dX8_takesBids_22 rfl rfl ?_
          refine gX8_7 cx dX8_takesBids_23 ?_
          refine z_iload_n cx 1 dX8_takesBids_26 rfl rfl ?_
          refine z_S1i cx sX8_bidderAt kX8_105 (c_X8_bidderAt hg _ i) (by decide) (Nat.le_of_ble_eq_true rfl) dX8_takesBids_27 ?_
          refine z_iconst cx dX8_takesBids_30 ic_5 ?_
          refine z_iadd cx dX8_takesBids_31 ?_
          refine g_ialdN cx (70 + 6 * i + 5) (by decide) (fun _ => rfl) (nI_add _ 5) (by omega) (by decide) dX8_takesBids_32 ?_
          refine z_goto (tgt := 37) cx dX8_takesBids_33 (by decide) ?_
          refine g_iastN cx i (by decide) (fun _ => rfl) rfl (by omega) (by decide) dX8_takesBids_37 ?_
          refine z_iinc cx dX8_takesBids_38 rfl ic_1 (nI_1 i) hnL (by decide) rfl ?_
          refine z_goto (tgt := 2) cx dX8_takesBids_41 (by decide) ?_
          exact z_eq (by rw [up2_upA, ← tkF_s, if_pos c19]; rfl) rfl rfl (ih (i + 1) (by omega) (by omega))
  refine z_iconst cx dX8_takesBids_0 ic_0 ?_
  refine z_istore_n cx 1 dX8_takesBids_1 rfl hnL (by decide) rfl ?_
  exact z_eq (by rw [tkF_0, upA_self]) rfl rfl (loop 6 0 (by omega) (by omega))
set_option maxRecDepth 100000 in
set_option maxHeartbeats 4000000 in
theorem c_X8_buyer {l : Launch} {g : Gx} (hg : ApG 9 g.ad) (σ : Mem) (hr : (-1 : Int32) < σ 1 4) : Ct l (OM g) 0 mX8_buyer [.ref (g.ad 0)] σ (some (.int (ow (σ 1 4) (σ 8) 5))) σ := by
  refine ct_of (lv := [some (.ref (g.ad 0)), none, none]) (okM hg) (by decide +kernel) (Nat.le_of_ble_eq_true rfl) (fun ls h => lvh_entry h rfl 2) ?_
  intro κ hl hnL cx hR
  subst hl
  have cx : Cx κ (OM g) RX8 cX8_buyer 0 := cx
  have hnL : κ.nL = 3 := hnL
  have loop : ∀ (k i : Nat), 5 + 1 ≤ i + k → i ≤ 5 → Z κ (OM g) σ 4 [some (.ref (g.ad 0)), some (.int (ow (σ 1 4) (σ 8) i)), some (.int (nI i))] [] := by
    intro k
    induction k with
    | zero => intro i h1 h2; exact absurd h1 (by omega)
    | succ k ih =>
      intro i h1 h2
      refine z_iload_n cx 2 dX8_buyer_4 rfl rfl ?_
      refine z_iconst cx dX8_buyer_5 ic_5 ?_
      refine z_icmp_ge (tgt := 62) cx dX8_buyer_6 (by decide) (fun c_6 => ?_) (fun c_6 => ?_)
      · have c6 := (nI_leI (a := 5) (by omega) (by omega)).mp c_6
        have e9 : i = 5 := by omega
        subst e9
        refine z_iload_n cx 1 dX8_buyer_62 rfl rfl ?_
        exact z_iret cx hR ⟨rfl, rfl⟩ dX8_buyer_63
      · have c6 : ¬ 5 ≤ i := fun q => c_6 ((nI_leI (a := 5) (by omega) (by omega)).mpr q)
        refine z_aload_n cx 0 dX8_buyer_9 rfl rfl ?_
        refine gX8_32 cx dX8_buyer_10 ?_
        refine z_iload_n cx 2 dX8_buyer_13 rfl rfl ?_
        refine g_ialdN cx i (by decide) (fun _ => rfl) rfl (by omega) (by decide) dX8_buyer_14 ?_
        refine z_iconst cx dX8_buyer_15 ic_m1 ?_
        refine z_icmp_eq (tgt := 56) cx dX8_buyer_16 (by decide) (fun c_16 => ?_) (fun c_16 => ?_)
        · refine z_iinc cx dX8_buyer_56 rfl ic_1 (nI_1 i) hnL (by decide) rfl ?_
          refine z_goto (tgt := 4) cx dX8_buyer_59 (by decide) ?_
          exact z_eq rfl (by rw [ow, if_pos (by rw [c_16]; exact hr)]; rfl) rfl (ih (i + 1) (by omega) (by omega))
        · refine z_aload_n cx 0 dX8_buyer_19 rfl rfl ?_
          refine gX8_32 cx dX8_buyer_20 ?_
          refine z_iload_n cx 2 dX8_buyer_23 rfl rfl ?_
          refine g_ialdN cx i (by decide) (fun _ => rfl) rfl (by omega) (by decide) dX8_buyer_24 ?_
          refine z_aload_n cx 0 dX8_buyer_25 rfl rfl ?_
          refine gX8_7 cx dX8_buyer_26 ?_
          refine z_iconst cx dX8_buyer_29 ic_4 ?_
          refine g_ialdN cx 4 (by decide) (fun _ => rfl) rfl (by omega) (by decide) dX8_buyer_30 ?_
          refine z_icmp_lt (tgt := 56) cx dX8_buyer_31 (by decide) (fun c_31 => ?_) (fun c_31 => ?_)
          · refine z_iinc cx dX8_buyer_56 rfl ic_1 (nI_1 i) hnL (by decide) rfl ?_
            refine z_goto (tgt := 4) cx dX8_buyer_59 (by decide) ?_
            exact z_eq rfl (by rw [ow, if_pos c_31]; rfl) rfl (ih (i + 1) (by omega) (by omega))
          · refine z_iload_n cx 1 dX8_buyer_34 rfl rfl ?_
            refine z_iconst cx dX8_buyer_35 ic_m1 ?_
            refine z_icmp_eq (tgt := 54) cx dX8_buyer_36 (by decide) (fun c_36 => ?_) (fun c_36 => ?_)
            · refine z_iload_n cx 2 dX8_buyer_54 rfl rfl ?_
              refine z_istore_n cx 1 dX8_buyer_55 rfl hnL (by decide) rfl ?_
              refine z_iinc cx dX8_buyer_56 rfl ic_1 (nI_1 i) hnL (by decide) rfl ?_
              refine z_goto (tgt := 4) cx dX8_buyer_59 (by decide) ?_
              exact z_eq rfl (by rw [ow, if_neg c_31, if_pos c_36]; rfl) rfl (ih (i + 1) (by omega) (by omega))
            · refine z_aload_n cx 0 dX8_buyer_39 rfl rfl ?_
              refine gX8_32 cx dX8_buyer_40 ?_
              refine z_iload_n cx 2 dX8_buyer_43 rfl rfl ?_
              obtain ⟨j9, hj9, ej9⟩ := (ow_rng (σ 1 4) (σ 8) i).resolve_left c_36
              refine g_ialdN cx i (by decide) (fun _ => rfl) rfl (by omega) (by decide) dX8_buyer_44 ?_
              refine z_aload_n cx 0 dX8_buyer_45 rfl rfl ?_
              refine gX8_32 cx dX8_buyer_46 ?_
              refine z_iload_n cx 1 dX8_buyer_49 rfl rfl ?_
              refine g_ialdN cx j9 (by decide) (fun _ => rfl) ej9 (by omega) (by decide) dX8_buyer_50 ?_
              refine z_icmp_le (tgt := 56) cx dX8_buyer_51 (by decide) (fun c_51 => ?_) (fun c_51 => ?_)
              · refine z_iinc cx dX8_buyer_56 rfl ic_1 (nI_1 i) hnL (by decide) rfl ?_
                refine z_goto (tgt := 4) cx dX8_buyer_59 (by decide) ?_
                exact z_eq rfl (by rw [ow, if_neg c_31, if_neg c_36, ej9, nI_clamp (show j9 < 2 ^ 31 by omega), if_pos c_51]; rfl) rfl (ih (i + 1) (by omega) (by omega))
              · refine z_iload_n cx 2 dX8_buyer_54 rfl rfl ?_
                refine z_istore_n cx 1 dX8_buyer_55 rfl hnL (by decide) rfl ?_
                refine z_iinc cx dX8_buyer_56 rfl ic_1 (nI_1 i) hnL (by decide) rfl ?_
                refine z_goto (tgt := 4) cx dX8_buyer_59 (by decide) ?_
                exact z_eq rfl (by rw [ow, if_neg c_31, if_neg c_36, ej9, nI_clamp (show j9 < 2 ^ 31 by omega), if_neg c_51]; rfl) rfl (ih (i + 1) (by omega) (by omega))
  refine z_iconst cx dX8_buyer_0 ic_m1 ?_
  refine z_istore_n cx 1 dX8_buyer_1 rfl hnL (by decide) rfl ?_
  refine z_iconst cx dX8_buyer_2 ic_0 ?_
  refine z_istore_n cx 2 dX8_buyer_3 rfl hnL (by decide) rfl ?_
  exact loop 6 0 (by omega) (by omega)
set_option maxRecDepth 100000 in
set_option maxHeartbeats 4000000 in
theorem c_X8_costOf {l : Launch} {g : Gx} (hg : ApG 9 g.ad) (σ : Mem) {w : Nat} (hw : w < 5) (ru : Int32) : Ct l (OM g) 0 mX8_costOf [.ref (g.ad 0), .int (nI w), .int ru] σ (some (.int (pay ru (σ 1 4) (σ 8) w 5))) σ := by
  refine ct_of (lv := [some (.ref (g.ad 0)), some (.int (nI w)), some (.int ru), none, none]) (okM hg) (by decide +kernel) (Nat.le_of_ble_eq_true rfl) (fun ls h => lvh_entry h rfl 2) ?_
  intro κ hl hnL cx hR
  subst hl
  have cx : Cx κ (OM g) RX8 cX8_costOf 0 := cx
  have hnL : κ.nL = 5 := hnL
  have loop : ∀ (k i : Nat), 5 + 1 ≤ i + k → i ≤ 5 → Z κ (OM g) σ 10 [some (.ref (g.ad 0)), some (.int (nI w)), some (.int ru), some (.int (pm (σ 1 4) (σ 8) w i)), some (.int (nI i))] [] := by
    intro k
    induction k with
    | zero => intro i h1 h2; exact absurd h1 (by omega)
    | succ k ih =>
      intro i h1 h2
      refine z_iload cx dX8_costOf_10 rfl ?_
      refine z_iconst cx dX8_costOf_12 ic_5 ?_
      refine z_icmp_ge (tgt := 51) cx dX8_costOf_13 (by decide) (fun c_13 => ?_) (fun c_13 => ?_)
      · have c6 := (nI_leI (a := 5) (by omega) (by omega)).mp c_13
        have e9 : i = 5 := by omega
        subst e9
        refine z_iload_n cx 2 dX8_costOf_51 rfl rfl ?_
        refine z_if_ne (tgt := 64) cx dX8_costOf_52 (by decide) (fun c_52 => ?_) (fun c_52 => ?_)
        · refine z_iload_n cx 3 dX8_costOf_64 rfl rfl ?_
          exact z_iret cx hR ⟨by rw [pay, if_neg c_52], rfl⟩ dX8_costOf_65
        · refine z_aload_n cx 0 dX8_costOf_55 rfl rfl ?_
          refine gX8_32 cx dX8_costOf_56 ?_
          refine z_iload_n cx 1 dX8_costOf_59 rfl rfl ?_
          refine g_ialdN cx w (by decide) (fun _ => rfl) rfl (by omega) (by decide) dX8_costOf_60 ?_
          refine z_goto (tgt := 65) cx dX8_costOf_61 (by decide) ?_
          exact z_iret cx hR ⟨by rw [pay, if_pos c_52], rfl⟩ dX8_costOf_65
      · have c6 : ¬ 5 ≤ i := fun q => c_13 ((nI_leI (a := 5) (by omega) (by omega)).mpr q)
        refine z_iload cx dX8_costOf_16 rfl ?_
        refine z_iload_n cx 1 dX8_costOf_18 rfl rfl ?_
        refine z_icmp_eq (tgt := 43) cx dX8_costOf_19 (by decide) (fun c_19 => ?_) (fun c_19 => ?_)
        · have c19 : i = w := (nI_eq (by omega) (by omega)).mp c_19
          refine z_iload_n cx 3 dX8_costOf_43 rfl rfl ?_
          refine z_istore_n cx 3 dX8_costOf_44 rfl hnL (by decide) rfl ?_
          refine z_iinc cx dX8_costOf_45 rfl ic_1 (nI_1 i) hnL (by decide) rfl ?_
          refine z_goto (tgt := 10) cx dX8_costOf_48 (by decide) ?_
          exact z_eq rfl (by rw [pm, if_pos c19]; rfl) rfl (ih (i + 1) (by omega) (by omega))
        · have c19 : ¬ i = w := fun z => c_19 (by rw [z])
          refine z_aload_n cx 0 dX8_costOf_22 rfl rfl ?_
          refine gX8_32 cx dX8_costOf_23 ?_
          refine z_iload cx dX8_costOf_26 rfl ?_
          refine g_ialdN cx i (by decide) (fun _ => rfl) rfl (by omega) (by decide) dX8_costOf_28 ?_
          refine z_iload_n cx 3 dX8_costOf_29 rfl rfl ?_
          refine z_icmp_le (tgt := 43) cx dX8_costOf_30 (by decide) (fun c_30 => ?_) (fun c_30 => ?_)
          · refine z_iload_n cx 3 dX8_costOf_43 rfl rfl ?_
            refine z_istore_n cx 3 dX8_costOf_44 rfl hnL (by decide) rfl ?_
            refine z_iinc cx dX8_costOf_45 rfl ic_1 (nI_1 i) hnL (by decide) rfl ?_
            refine z_goto (tgt := 10) cx dX8_costOf_48 (by decide) ?_
            exact z_eq rfl (by rw [pm, if_neg c19, if_neg (Int32.not_lt.mpr c_30)]; rfl) rfl (ih (i + 1) (by omega) (by omega))
          · refine z_aload_n cx 0 dX8_costOf_33 rfl rfl ?_
            refine gX8_32 cx dX8_costOf_34 ?_
            refine z_iload cx dX8_costOf_37 rfl ?_
            refine g_ialdN cx i (by decide) (fun _ => rfl) rfl (by omega) (by decide) dX8_costOf_39 ?_
            refine z_goto (tgt := 44) cx dX8_costOf_40 (by decide) ?_
            refine z_istore_n cx 3 dX8_costOf_44 rfl hnL (by decide) rfl ?_
            refine z_iinc cx dX8_costOf_45 rfl ic_1 (nI_1 i) hnL (by decide) rfl ?_
            refine z_goto (tgt := 10) cx dX8_costOf_48 (by decide) ?_
            exact z_eq rfl (by rw [pm, if_neg c19, if_pos (Int32.not_le.mp c_30)]; rfl) rfl (ih (i + 1) (by omega) (by omega))
  refine z_aload_n cx 0 dX8_costOf_0 rfl rfl ?_
  refine gX8_7 cx dX8_costOf_1 ?_
  refine z_iconst cx dX8_costOf_4 ic_4 ?_
  refine g_ialdN cx 4 (by decide) (fun _ => rfl) rfl (by omega) (by decide) dX8_costOf_5 ?_
  refine z_istore_n cx 3 dX8_costOf_6 rfl hnL (by decide) rfl ?_
  refine z_iconst cx dX8_costOf_7 ic_0 ?_
  refine z_istore cx dX8_costOf_8 hnL (by decide) rfl ?_
  exact loop 6 0 (by omega) (by omega)
def mBd (μ : Mem) : Nat → Int32 := fun b => μ 1 (70 + 6 * b + 5)
set_option maxRecDepth 100000 in
set_option maxHeartbeats 4000000 in
theorem c_X8_manyBid {l : Launch} {g : Gx} (hg : ApG 9 g.ad) (σ : Mem) {B : Nat} (hB : B ≤ 5) (eB : σ 1 1 = nI B) : Ct l (OM g) 1 mX8_manyBid [.ref (g.ad 0)] σ (some (.int (nI (cnB (mBd σ) B)))) σ := by
  refine ct_of (lv := [some (.ref (g.ad 0)), none, none]) (okM hg) (by decide +kernel) (Nat.le_of_ble_eq_true rfl) (fun ls h => lvh_entry h rfl 2) ?_
  intro κ hl hnL cx hR
  subst hl
  have cx : Cx κ (OM g) RX8 cX8_manyBid 1 := cx
  have hnL : κ.nL = 3 := hnL
  have loop : ∀ (k i : Nat), B + 1 ≤ i + k → i ≤ B → Z κ (OM g) σ 4 [some (.ref (g.ad 0)), some (.int (nI (cnB (mBd σ) i))), some (.int (nI i))] [] := by
    intro k
    induction k with
    | zero => intro i h1 h2; exact absurd h1 (by omega)
    | succ k ih =>
      intro i h1 h2
      refine z_iload_n cx 2 dX8_manyBid_4 rfl rfl ?_
      refine z_aload_n cx 0 dX8_manyBid_5 rfl rfl ?_
      refine gX8_7 cx dX8_manyBid_6 ?_
      refine z_iconst cx dX8_manyBid_9 ic_1 ?_
      refine g_ialdN cx 1 (by decide) (fun _ => rfl) rfl (by omega) (by decide) dX8_manyBid_10 ?_
      refine z_icmp_ge (tgt := 43) cx dX8_manyBid_11 (by decide) (fun c_11 => ?_) (fun c_11 => ?_)
      · rw [eB, nI_leI (by omega) (by omega)] at c_11
        have e9 : i = B := by omega
        subst e9
        refine z_iload_n cx 1 dX8_manyBid_43 rfl rfl ?_
        exact z_iret cx hR ⟨rfl, rfl⟩ dX8_manyBid_44
      · rw [eB, nI_leI (by omega) (by omega)] at c_11
        refine z_iload_n cx 1 dX8_manyBid_14 rfl rfl ?_
        refine z_aload_n cx 0 dX8_manyBid_15 rfl rfl ?_
        refine gX8_7 cx dX8_manyBid_16 ?_
        refine z_iload_n cx 2 dX8_manyBid_19 rfl rfl ?_
        refine z_S1i cx sX8_bidderAt kX8_105 (c_X8_bidderAt hg σ i) (by decide) (Nat.le_of_ble_eq_true rfl) dX8_manyBid_20 ?_
        refine z_iconst cx dX8_manyBid_23 ic_5 ?_
        refine z_iadd cx dX8_manyBid_24 ?_
        refine g_ialdN cx (70 + 6 * i + 5) (by decide) (fun _ => rfl) (nI_add _ 5) (by omega) (by decide) dX8_manyBid_25 ?_
        refine z_iconst cx dX8_manyBid_26 ic_m1 ?_
        refine z_icmp_ne (tgt := 34) cx dX8_manyBid_27 (by decide) (fun c_27 => ?_) (fun c_27 => ?_)
        · refine z_iconst cx dX8_manyBid_34 ic_1 ?_
          refine z_iadd cx dX8_manyBid_35 ?_
          rw [nI_1]
          refine z_istore_n cx 1 dX8_manyBid_36 rfl hnL (by decide) rfl ?_
          refine z_iinc cx dX8_manyBid_37 rfl ic_1 (nI_1 i) hnL (by decide) rfl ?_
          refine z_goto (tgt := 4) cx dX8_manyBid_40 (by decide) ?_
          exact z_eq rfl (by rw [cnB, if_neg (show ¬ mBd σ i = -1 from c_27)]; rfl) rfl (ih (i + 1) (by omega) (by omega))
        · refine z_iconst cx dX8_manyBid_30 ic_0 ?_
          refine z_goto (tgt := 35) cx dX8_manyBid_31 (by decide) ?_
          refine z_iadd cx dX8_manyBid_35 ?_
          rw [show nI (cnB (mBd σ) i) + 0 = nI (cnB (mBd σ) i) from nI_add _ 0]
          refine z_istore_n cx 1 dX8_manyBid_36 rfl hnL (by decide) rfl ?_
          refine z_iinc cx dX8_manyBid_37 rfl ic_1 (nI_1 i) hnL (by decide) rfl ?_
          refine z_goto (tgt := 4) cx dX8_manyBid_40 (by decide) ?_
          exact z_eq rfl (by rw [cnB, if_pos (show mBd σ i = -1 from c_27)]; rfl) rfl (ih (i + 1) (by omega) (by omega))
  refine z_iconst cx dX8_manyBid_0 ic_0 ?_
  refine z_istore_n cx 1 dX8_manyBid_1 rfl hnL (by decide) rfl ?_
  refine z_iconst cx dX8_manyBid_2 ic_0 ?_
  refine z_istore_n cx 2 dX8_manyBid_3 rfl hnL (by decide) rfl ?_
  exact loop (B + 1) 0 (by omega) (by omega)
set_option maxRecDepth 100000 in
set_option maxHeartbeats 4000000 in
theorem c_X8_isTeller {l : Launch} {g : Gx} (hg : ApG 9 g.ad) (σ : Mem) (t : Int32) : Ct l (OM g) 1 mX8_isTeller [.int t] σ (some (.int (bI (inW t 2)))) σ := by
  refine ct_of (lv := [some (.int t)]) (okM hg) (by decide +kernel) (Nat.le_of_ble_eq_true rfl) (fun ls h => lvh_entry h rfl 0) ?_
  intro κ hl hnL cx hR
  subst hl
  have cx : Cx κ (OM g) RX8 cX8_isTeller 1 := cx
  have hnL : κ.nL = 1 := hnL
  refine z_iload_n cx 0 dX8_isTeller_0 rfl rfl ?_
  refine z_iconst cx dX8_isTeller_1 ic_0 ?_
  refine z_iconst cx dX8_isTeller_2 ic_2 ?_
  refine z_S3i cx sX8_in kX8_35 (c_X8_in hg σ _ _ _) (by decide) (Nat.le_of_ble_eq_true rfl) dX8_isTeller_3 ?_
  exact z_zret cx hR (nar_b _) ⟨rfl, rfl⟩ dX8_isTeller_6
set_option maxRecDepth 100000 in
set_option maxHeartbeats 4000000 in
theorem c_X8_isBright {l : Launch} {g : Gx} (hg : ApG 9 g.ad) (σ : Mem) (z : Int32) {e : Nat} (he : e < 7) (eT : σ 1 2 = nI e) : Ct l (OM g) 1 mX8_isBright [.ref (g.ad 0), .int z] σ (some (.int (bI (brt z (nI e) (σ 1 (7 + 9 * e + 1)))))) σ := by
  refine ct_of (lv := [some (.ref (g.ad 0)), some (.int z), none, none, none]) (okM hg) (by decide +kernel) (Nat.le_of_ble_eq_true rfl) (fun ls h => lvh_entry h rfl 3) ?_
  intro κ hl hnL cx hR
  subst hl
  have cx : Cx κ (OM g) RX8 cX8_isBright 1 := cx
  have hnL : κ.nL = 5 := hnL
  refine z_aload_n cx 0 dX8_isBright_0 rfl rfl ?_
  refine gX8_7 cx dX8_isBright_1 ?_
  refine z_iconst cx dX8_isBright_4 ic_2 ?_
  refine g_ialdN cx 2 (by decide) (fun _ => rfl) rfl (by omega) (by decide) dX8_isBright_5 ?_
  rw [eT]
  refine z_istore_n cx 2 dX8_isBright_6 rfl hnL (by decide) rfl ?_
  refine z_ldc2 cx qX8_150 dX8_isBright_7 ?_
  refine z_iload_n cx 1 dX8_isBright_10 rfl rfl ?_
  refine z_i2l cx dX8_isBright_11 ?_
  refine z_lmul cx dX8_isBright_12 ?_
  refine z_ldc2 cx qX8_152 dX8_isBright_13 ?_
  refine z_iload_n cx 2 dX8_isBright_16 rfl rfl ?_
  refine z_i2l cx dX8_isBright_17 ?_
  refine z_lmul cx dX8_isBright_18 ?_
  refine z_ladd cx dX8_isBright_19 ?_
  refine z_lconst (v := 1) cx dX8_isBright_20 rfl ?_
  refine z_ladd cx dX8_isBright_21 ?_
  refine z_lstore_n cx 3 dX8_isBright_22 rfl hnL (by decide) rfl ?_
  refine z_lload_n cx 3 dX8_isBright_23 rfl rfl ?_
  refine z_lload_n cx 3 dX8_isBright_24 rfl rfl ?_
  refine z_lmul cx dX8_isBright_25 ?_
  refine z_ldc2 cx qX8_154 dX8_isBright_26 ?_
  refine z_lrem cx dX8_isBright_29 (by decide) ?_
  refine z_ldc2 cx qX8_156 dX8_isBright_30 ?_
  refine z_lrem cx dX8_isBright_33 (by decide) ?_
  refine z_aload_n cx 0 dX8_isBright_34 rfl rfl ?_
  refine gX8_7 cx dX8_isBright_35 ?_
  refine z_iload_n cx 2 dX8_isBright_38 rfl rfl ?_
  refine z_S1i cx sX8_eveningAt kX8_98 (c_X8_eveningAt hg σ e) (by decide) (Nat.le_of_ble_eq_true rfl) dX8_isBright_39 ?_
  refine z_iconst cx dX8_isBright_42 ic_1 ?_
  refine z_iadd cx dX8_isBright_43 ?_
  refine g_ialdN cx (7 + 9 * e + 1) (by decide) (fun _ => rfl) (nI_add _ 1) (by omega) (by decide) dX8_isBright_44 ?_
  refine z_i2l cx dX8_isBright_45 ?_
  refine z_lcmp cx dX8_isBright_46 ?_
  refine z_if_ge (tgt := 54) cx dX8_isBright_47 (by decide) (fun c_47 => ?_) (fun c_47 => ?_)
  · rw [lg_cmp_ge] at c_47
    refine z_iconst cx dX8_isBright_54 ic_0 ?_
    exact z_zret cx hR rfl ⟨by have c47 : (σ 1 (7 + 9 * e + 1)).toInt64 ≤ brX z (nI e) := c_47; simp [brt, bI, c47], rfl⟩ dX8_isBright_55
  · rw [lg_cmp_ge] at c_47
    refine z_iconst cx dX8_isBright_50 ic_1 ?_
    refine z_goto (tgt := 55) cx dX8_isBright_51 (by decide) ?_
    exact z_zret cx hR rfl ⟨by have c47 : ¬ (σ 1 (7 + 9 * e + 1)).toInt64 ≤ brX z (nI e) := c_47; simp [brt, bI, c47], rfl⟩ dX8_isBright_55
