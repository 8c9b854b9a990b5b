def cnB (bd : Nat → Int32) : Nat → Nat
  | 0 => 0
  | n + 1 => if bd n = -1 then cnB bd n else cnB bd n + 1
theorem cnB_le (bd : Nat → Int32) : ∀ n, cnB bd n ≤ n
  | 0 => Nat.le_refl 0
  | n + 1 => by have := cnB_le bd n; simp only [cnB]; split <;> omega
def smI (f : Nat → Int32) : Nat → Int32
  | 0 => 0
  | n + 1 => smI f n + f n
def scT (sy ou : Nat → Int32) (t : Nat) : Nat → Int32
  | 0 => 0
  | e + 1 => scT sy ou t e + (sy (t * 7 + e) - (if ou e = 1 then 10 else 0)) * (sy (t * 7 + e) - (if ou e = 1 then 10 else 0))
set_option maxRecDepth 100000 in
set_option maxHeartbeats 4000000 in
theorem c_X1_countBids {l : Launch} {g : Gx} (hg : ApG 123 g.ad) (σ : Mem) : Ct l (OC g) 0 mX1_countBids [.ref (g.ad 12)] σ (some (.int (nI (cnB (σ 15) 5)))) σ := by
  refine ct_of (lv := [some (.ref (g.ad 12)), none, none]) (okC hg) (by decide +kernel) (Nat.le_of_ble_eq_true rfl) (fun ls h => lvh_entry h rfl 2) ?_
  intro κ hl hnL cx hR
  subst hl
  have cx : Cx κ (OC g) RX1 cX1_countBids 0 := cx
  have hnL : κ.nL = 3 := hnL
  have loop : ∀ (k i : Nat), 5 + 1 ≤ i + k → i ≤ 5 → Z κ (OC g) σ 4 [some (.ref (g.ad 12)), some (.int (nI (cnB (σ 15) i))), some (.int (nI i))] [] := by
    intro k
    induction k with
    | zero => intro i h1 h2; exact absurd h1 (by omega)
    | succ k ih =>
      intro i h1 h2
      refine z_iload_n cx 2 dX1_countBids_4 rfl rfl ?_
      refine z_iconst cx dX1_countBids_5 ic_5 ?_
      refine z_icmp_ge (tgt := 28) cx dX1_countBids_6 (by decide) (fun c_6 => ?_) (fun c_6 => ?_)
      · have c6 := (nI_leI (a := 5) (by omega) (by omega)).mp c_6
        have e9 : i = 5 := by omega
        subst e9
        refine z_iload_n cx 1 dX1_countBids_28 rfl rfl ?_
        exact z_iret cx hR ⟨rfl, rfl⟩ dX1_countBids_29
      · have c6 : ¬ 5 ≤ i := fun q => c_6 ((nI_leI (a := 5) (by omega) (by omega)).mpr q)
        refine z_aload_n cx 0 dX1_countBids_9 rfl rfl ?_
        refine gX1_18 cx dX1_countBids_10 ?_
        refine z_iload_n cx 2 dX1_countBids_13 rfl rfl ?_
        refine g_ialdN cx i (by decide) (fun _ => rfl) rfl (by omega) (by decide) dX1_countBids_14 ?_
        refine z_iconst cx dX1_countBids_15 ic_m1 ?_
        refine z_icmp_eq (tgt := 22) cx dX1_countBids_16 (by decide) (fun c_16 => ?_) (fun c_16 => ?_)
        · refine z_iinc cx dX1_countBids_22 rfl ic_1 (nI_1 i) hnL (by decide) rfl ?_
          refine z_goto (tgt := 4) cx dX1_countBids_25 (by decide) ?_
          exact z_eq rfl (by simp [cnB, c_16]) rfl (ih (i + 1) (by omega) (by omega))
        · refine z_iinc cx dX1_countBids_19 rfl ic_1 (nI_1 _) hnL (by decide) rfl ?_
          refine z_iinc cx dX1_countBids_22 rfl ic_1 (nI_1 i) hnL (by decide) rfl ?_
          refine z_goto (tgt := 4) cx dX1_countBids_25 (by decide) ?_
          exact z_eq rfl (by simp [cnB, c_16]) rfl (ih (i + 1) (by omega) (by omega))
  refine z_iconst cx dX1_countBids_0 ic_0 ?_
  refine z_istore_n cx 1 dX1_countBids_1 rfl hnL (by decide) rfl ?_
  refine z_iconst cx dX1_countBids_2 ic_0 ?_
  refine z_istore_n cx 2 dX1_countBids_3 rfl hnL (by decide) rfl ?_
  exact loop 6 0 (by omega) (by omega)
set_option maxRecDepth 100000 in
set_option maxHeartbeats 4000000 in
theorem c_X1_joyOfAll {l : Launch} {g : Gx} (hg : ApG 123 g.ad) (σ : Mem) : Ct l (OC g) 0 mX1_joyOfAll [.ref (g.ad 12)] σ (some (.int (smI (σ 14) 5))) σ := by
  refine ct_of (lv := [some (.ref (g.ad 12)), none, none]) (okC hg) (by decide +kernel) (Nat.le_of_ble_eq_true rfl) (fun ls h => lvh_entry h rfl 2) ?_
  intro κ hl hnL cx hR
  subst hl
  have cx : Cx κ (OC g) RX1 cX1_joyOfAll 0 := cx
  have hnL : κ.nL = 3 := hnL
  have loop : ∀ (k i : Nat), 5 + 1 ≤ i + k → i ≤ 5 → Z κ (OC g) σ 4 [some (.ref (g.ad 12)), some (.int (smI (σ 14) i)), some (.int (nI i))] [] := by
    intro k
    induction k with
    | zero => intro i h1 h2; exact absurd h1 (by omega)
    | succ k ih =>
      intro i h1 h2
      refine z_iload_n cx 2 dX1_joyOfAll_4 rfl rfl ?_
      refine z_iconst cx dX1_joyOfAll_5 ic_5 ?_
      refine z_icmp_ge (tgt := 24) cx dX1_joyOfAll_6 (by decide) (fun c_6 => ?_) (fun c_6 => ?_)
      · have c6 := (nI_leI (a := 5) (by omega) (by omega)).mp c_6
        have e9 : i = 5 := by omega
        subst e9
        refine z_iload_n cx 1 dX1_joyOfAll_24 rfl rfl ?_
        exact z_iret cx hR ⟨rfl, rfl⟩ dX1_joyOfAll_25
      · have c6 : ¬ 5 ≤ i := fun q => c_6 ((nI_leI (a := 5) (by omega) (by omega)).mpr q)
        refine z_iload_n cx 1 dX1_joyOfAll_9 rfl rfl ?_
        refine z_aload_n cx 0 dX1_joyOfAll_10 rfl rfl ?_
        refine gX1_15 cx dX1_joyOfAll_11 ?_
        refine z_iload_n cx 2 dX1_joyOfAll_14 rfl rfl ?_
        refine g_ialdN cx i (by decide) (fun _ => rfl) rfl (by omega) (by decide) dX1_joyOfAll_15 ?_
        refine z_iadd cx dX1_joyOfAll_16 ?_
        refine z_istore_n cx 1 dX1_joyOfAll_17 rfl hnL (by decide) rfl ?_
        refine z_iinc cx dX1_joyOfAll_18 rfl ic_1 (nI_1 i) hnL (by decide) rfl ?_
        refine z_goto (tgt := 4) cx dX1_joyOfAll_21 (by decide) ?_
        exact ih (i + 1) (by omega) (by omega)
  refine z_iconst cx dX1_joyOfAll_0 ic_0 ?_
  refine z_istore_n cx 1 dX1_joyOfAll_1 rfl hnL (by decide) rfl ?_
  refine z_iconst cx dX1_joyOfAll_2 ic_0 ?_
  refine z_istore_n cx 2 dX1_joyOfAll_3 rfl hnL (by decide) rfl ?_
  exact loop 6 0 (by omega) (by omega)
set_option maxRecDepth 100000 in
set_option maxHeartbeats 4000000 in
theorem c_X1_scoreOf {l : Launch} {g : Gx} (hg : ApG 123 g.ad) (σ : Mem) {t n : Nat} (ht : t < 3) (hn : n ≤ 7) (hT : σ 12 0 = nI n) : Ct l (OC g) 1 mX1_scoreOf [.ref (g.ad 12), .int (nI t)] σ (some (.int (scT (σ 20) (σ 19) t n))) σ := by
  refine ct_of (lv := [some (.ref (g.ad 12)), some (.int (nI t)), none, none, none, none]) (okC hg) (by decide +kernel) (Nat.le_of_ble_eq_true rfl) (fun ls h => lvh_entry h rfl 4) ?_
  intro κ hl hnL cx hR
  subst hl
  have cx : Cx κ (OC g) RX1 cX1_scoreOf 1 := cx
  have hnL : κ.nL = 6 := hnL
  have loop : ∀ (k i : Nat), n + 1 ≤ i + k → i ≤ n → ∀ x y, Z κ (OC g) σ 4 [some (.ref (g.ad 12)), some (.int (nI t)), some (.int (scT (σ 20) (σ 19) t i)), some (.int (nI i)), x, y] [] := by
    intro k
    induction k with
    | zero => intro i h1 h2; exact absurd h1 (by omega)
    | succ k ih =>
      intro i h1 h2 x y
      have hj : ∀ w : Int32, Z κ (OC g) σ 34 [some (.ref (g.ad 12)), some (.int (nI t)), some (.int (scT (σ 20) (σ 19) t i)), some (.int (nI i)), x, y] [.int w] → True := fun _ _ => trivial
      refine z_iload_n cx 3 dX1_scoreOf_4 rfl rfl ?_
      refine z_aload_n cx 0 dX1_scoreOf_5 rfl rfl ?_
      refine gX1_36 cx dX1_scoreOf_6 ?_
      refine z_icmp_ge (tgt := 65) cx dX1_scoreOf_9 (by decide) (fun c_9 => ?_) (fun c_9 => ?_)
      · rw [hT, nI_leI (by omega) (by omega)] at c_9
        have e9 : i = n := by omega
        subst e9
        refine z_iload_n cx 2 dX1_scoreOf_65 rfl rfl ?_
        exact z_iret cx hR ⟨rfl, rfl⟩ dX1_scoreOf_66
      · rw [hT, nI_leI (by omega) (by omega)] at c_9
        refine z_iload_n cx 3 dX1_scoreOf_12 rfl rfl ?_
        refine z_bipush cx dX1_scoreOf_13 bi_7 ?_
        refine z_icmp_ge (tgt := 65) cx dX1_scoreOf_15 (by decide) (fun c_15 => ?_) (fun c_15 => ?_)
        · exact absurd ((nI_leI (a := 7) (by omega) (by omega)).mp c_15) (by omega)
        · refine z_aload_n cx 0 dX1_scoreOf_18 rfl rfl ?_
          refine gX1_30 cx dX1_scoreOf_19 ?_
          refine z_iload_n cx 3 dX1_scoreOf_22 rfl rfl ?_
          refine g_ialdN cx i (by decide) (fun _ => rfl) rfl (by omega) (by decide) dX1_scoreOf_23 ?_
          refine z_iconst cx dX1_scoreOf_24 ic_1 ?_
          refine z_icmp_ne (tgt := 33) cx dX1_scoreOf_25 (by decide) (fun c_25 => ?_) (fun c_25 => ?_)
          · refine z_iconst cx dX1_scoreOf_33 ic_0 ?_
            refine z_istore cx dX1_scoreOf_34 hnL (by decide) rfl ?_
            refine z_aload_n cx 0 dX1_scoreOf_36 rfl rfl ?_
            refine gX1_33 cx dX1_scoreOf_37 ?_
            refine z_iload_n cx 1 dX1_scoreOf_40 rfl rfl ?_
            refine z_iload_n cx 3 dX1_scoreOf_41 rfl rfl ?_
            refine z_N2i cx sX7_sayingPlace cx.2.2.2.2.2.2.2.1.2.2.2.2.2.2.2.2.2.2.2.2 (c_X7_sayingPlace hg σ _ _) (by decide) (Nat.le_of_ble_eq_true rfl) dX1_scoreOf_42 ?_
            refine g_ialdN cx (t * 7 + i) (by decide) (fun _ => rfl) (by rw [show (7 : Int32) = nI 7 from rfl, pk_mul, nI_add]) (by omega) (by decide) dX1_scoreOf_45 ?_
            refine z_iload cx dX1_scoreOf_46 rfl ?_
            refine z_isub cx dX1_scoreOf_48 ?_
            refine z_istore cx dX1_scoreOf_49 hnL (by decide) rfl ?_
            refine z_iload_n cx 2 dX1_scoreOf_51 rfl rfl ?_
            refine z_iload cx dX1_scoreOf_52 rfl ?_
            refine z_iload cx dX1_scoreOf_54 rfl ?_
            refine z_imul cx dX1_scoreOf_56 ?_
            refine z_iadd cx dX1_scoreOf_57 ?_
            refine z_istore_n cx 2 dX1_scoreOf_58 rfl hnL (by decide) rfl ?_
            refine z_iinc cx dX1_scoreOf_59 rfl ic_1 (nI_1 i) hnL (by decide) rfl ?_
            refine z_goto (tgt := 4) cx dX1_scoreOf_62 (by decide) ?_
            exact z_eq rfl (by simp only [scT, c_25, if_true, if_false]; rfl) rfl (ih (i + 1) (by omega) (by omega) _ _)
          · refine z_bipush cx dX1_scoreOf_28 bi_10 ?_
            refine z_goto (tgt := 34) cx dX1_scoreOf_30 (by decide) ?_
            refine z_istore cx dX1_scoreOf_34 hnL (by decide) rfl ?_
            refine z_aload_n cx 0 dX1_scoreOf_36 rfl rfl ?_
            refine gX1_33 cx dX1_scoreOf_37 ?_
            refine z_iload_n cx 1 dX1_scoreOf_40 rfl rfl ?_
            refine z_iload_n cx 3 dX1_scoreOf_41 rfl rfl ?_
            refine z_N2i cx sX7_sayingPlace cx.2.2.2.2.2.2.2.1.2.2.2.2.2.2.2.2.2.2.2.2 (c_X7_sayingPlace hg σ _ _) (by decide) (Nat.le_of_ble_eq_true rfl) dX1_scoreOf_42 ?_
            refine g_ialdN cx (t * 7 + i) (by decide) (fun _ => rfl) (by rw [show (7 : Int32) = nI 7 from rfl, pk_mul, nI_add]) (by omega) (by decide) dX1_scoreOf_45 ?_
            refine z_iload cx dX1_scoreOf_46 rfl ?_
            refine z_isub cx dX1_scoreOf_48 ?_
            refine z_istore cx dX1_scoreOf_49 hnL (by decide) rfl ?_
            refine z_iload_n cx 2 dX1_scoreOf_51 rfl rfl ?_
            refine z_iload cx dX1_scoreOf_52 rfl ?_
            refine z_iload cx dX1_scoreOf_54 rfl ?_
            refine z_imul cx dX1_scoreOf_56 ?_
            refine z_iadd cx dX1_scoreOf_57 ?_
            refine z_istore_n cx 2 dX1_scoreOf_58 rfl hnL (by decide) rfl ?_
            refine z_iinc cx dX1_scoreOf_59 rfl ic_1 (nI_1 i) hnL (by decide) rfl ?_
            refine z_goto (tgt := 4) cx dX1_scoreOf_62 (by decide) ?_
            exact z_eq rfl (by simp only [scT, c_25, if_true, if_false]; rfl) rfl (ih (i + 1) (by omega) (by omega) _ _)
  refine z_iconst cx dX1_scoreOf_0 ic_0 ?_
  refine z_istore_n cx 2 dX1_scoreOf_1 rfl hnL (by decide) rfl ?_
  refine z_iconst cx dX1_scoreOf_2 ic_0 ?_
  refine z_istore_n cx 3 dX1_scoreOf_3 rfl hnL (by decide) rfl ?_
  exact loop (n + 1) 0 (by omega) (by omega) _ _
set_option maxRecDepth 100000 in
set_option maxHeartbeats 4000000 in
theorem c_X3_remember {l : Launch} {g : Gx} (hg : ApG 123 g.ad) (σ : Mem) {x n : Nat} (hx : x < 8) (hn : n ≤ 8) (eX : σ 21 2 = nI x) (eN : σ 21 1 = nI n) : CtV l (OC g) 2 mX3_remember [.ref (g.ad 21), .ref (g.ad 12)] σ (fun σ' => CoEq σ' (23 + 9 * x) σ 12 ∧ σ' 21 1 = nI (if n < 8 then n + 1 else 8) ∧ σ' 21 2 = nI ((x + 1) % 8) ∧ ∀ q, q ≠ 21 → q < 23 + 9 * x ∨ 23 + 9 * x + 9 ≤ q → σ' q = σ q) := by
  refine ct_of (lv := [some (.ref (g.ad 21)), some (.ref (g.ad 12))]) (okC hg) (by decide +kernel) (Nat.le_of_ble_eq_true rfl) (fun ls h => lvh_entry h rfl 0) ?_
  intro κ hl hnL cx hR
  subst hl
  have cx : Cx κ (OC g) RX3 cX3_remember 2 := cx
  have hnL : κ.nL = 2 := hnL
  have hA := coR g x hx
  refine z_aload_n cx 0 dX3_remember_0 rfl rfl ?_
  refine gX3_11 cx dX3_remember_1 ?_
  refine z_aload_n cx 0 dX3_remember_4 rfl rfl ?_
  refine gX3_18 cx dX3_remember_5 ?_
  refine g_aald (b := g.ad (23 + 9 * x)) cx (by decide) (fun _ => rfl) (by rw [eX]; exact vp_in_nI hx (by decide)) (by rw [eX, nI_clamp (by omega)]) dX3_remember_8 ?_
  refine z_aload_n cx 1 dX3_remember_9 rfl rfl ?_
  refine z_V1V cx vX1_copyFrom kX3_22 (c_X1_copyFrom hg σ hA (co12 g) (by omega)) (by decide) (g_he (by omega) hA.2.1) rfl rfl (Nat.le_of_ble_eq_true rfl) dX3_remember_10 (fun σ_10 h_10 => ?_)
  obtain ⟨h1, h2⟩ := h_10
  have e1 : σ_10 21 = σ 21 := h2 21 (by omega)
  refine z_aload_n cx 0 dX3_remember_13 rfl rfl ?_
  refine z_aload_n cx 0 dX3_remember_14 rfl rfl ?_
  refine gX3_18 cx dX3_remember_15 ?_
  refine z_iconst cx dX3_remember_18 ic_1 ?_
  refine z_iadd cx dX3_remember_19 ?_
  refine z_bipush cx dX3_remember_20 bi_8 ?_
  refine z_irem cx dX3_remember_22 (by decide) ?_
  rw [show σ_10 21 2 + 1 - (σ_10 21 2 + 1) / 8 * 8 = nI ((x + 1) % 8) by rw [e1, eX, nI_1]; exact pk_rem (d := 8) (by omega) (by omega) (by omega)]
  refine pX3_18 cx dX3_remember_23 ?_
  refine z_aload_n cx 0 dX3_remember_26 rfl rfl ?_
  refine z_aload_n cx 0 dX3_remember_27 rfl rfl ?_
  refine gX3_26 cx dX3_remember_28 ?_
  refine z_iconst cx dX3_remember_31 ic_1 ?_
  refine z_iadd cx dX3_remember_32 ?_
  refine z_bipush cx dX3_remember_33 bi_8 ?_
  rw [show up2 σ_10 21 2 (nI ((x + 1) % 8)) 21 1 + 1 = nI (n + 1) by rw [show up2 σ_10 21 2 (nI ((x + 1) % 8)) 21 1 = σ_10 21 1 from rfl, e1, eN, nI_1]]
  refine z_mmin cx kX3_29 sM_min iM_math cM_min (by decide) (Nat.le_of_ble_eq_true rfl) dX3_remember_35 ?_
  refine pX3_26 cx dX3_remember_38 ?_
  refine z_vret cx hR ⟨rfl, ⟨fun k hk => ?_, fun j hj k hk => ?_⟩, ?_, ?_, fun q hq hq2 => ?_⟩ dX3_remember_41
  · rw [up2_ne _ _ _ (by omega), up2_ne _ _ _ (by omega)]; exact h1.1 k hk
  · rw [up2_ne _ _ _ (by omega), up2_ne _ _ _ (by omega)]; exact h1.2 j hj k hk
  · rw [up2_at, upd_at]
    by_cases c : n < 8
    · rw [if_neg (fun z => by have := (nI_ltI (a := 8) (b := n + 1) (by omega) (by omega)).mp z; omega), if_pos c]
    · have z8 : (8 : Int32) < nI (n + 1) := (nI_ltI (a := 8) (b := n + 1) (by omega) (by omega)).mpr (by omega)
      rw [if_pos z8, if_neg c]; rfl
  · rfl
  · rw [up2_ne _ _ _ hq, up2_ne _ _ _ hq]; exact h2 q hq2
set_option maxRecDepth 100000 in
set_option maxHeartbeats 4000000 in
theorem c_X3_recall {l : Launch} {g : Gx} (hg : ApG 123 g.ad) (σ : Mem) {x n : Nat} (hx : x < 8) (hn : n < 8) (eX : σ 21 2 = nI x) (eN : σ 21 1 = nI (n + 1)) : CtV l (OC g) 2 mX3_recall [.ref (g.ad 21), .ref (g.ad 12)] σ (fun σ' => CoEq σ' 12 σ (23 + 9 * ((x + 7) % 8)) ∧ σ' 21 1 = nI n ∧ σ' 21 2 = nI ((x + 7) % 8) ∧ ∀ q, q ≠ 21 → q < 12 ∨ 21 ≤ q → σ' q = σ q) := by
  refine ct_of (lv := [some (.ref (g.ad 21)), some (.ref (g.ad 12))]) (okC hg) (by decide +kernel) (Nat.le_of_ble_eq_true rfl) (fun ls h => lvh_entry h rfl 0) ?_
  intro κ hl hnL cx hR
  subst hl
  have cx : Cx κ (OC g) RX3 cX3_recall 2 := cx
  have hnL : κ.nL = 2 := hnL
  have hy : (x + 7) % 8 < 8 := Nat.mod_lt _ (by decide)
  have eY : σ 21 2 + 8 - 1 - (σ 21 2 + 8 - 1) / 8 * 8 = nI ((x + 7) % 8) := by
    rw [eX, show nI x + 8 = nI (x + 8) from nI_add x 8, show nI (x + 8) - 1 = nI (x + 7) from pk_sub (a := x + 8) (b := 1) (by omega)]
    exact pk_rem (d := 8) (by omega) (by omega) (by omega)
  generalize hyy : (x + 7) % 8 = y at *
  have hA := coR g y hy
  refine z_aload_n cx 0 dX3_recall_0 rfl rfl ?_
  refine z_aload_n cx 0 dX3_recall_1 rfl rfl ?_
  refine gX3_18 cx dX3_recall_2 ?_
  refine z_bipush cx dX3_recall_5 bi_8 ?_
  refine z_iadd cx dX3_recall_7 ?_
  refine z_iconst cx dX3_recall_8 ic_1 ?_
  refine z_isub cx dX3_recall_9 ?_
  refine z_bipush cx dX3_recall_10 bi_8 ?_
  refine z_irem cx dX3_recall_12 (by decide) ?_
  rw [eY]
  refine pX3_18 cx dX3_recall_13 ?_
  refine z_aload_n cx 1 dX3_recall_16 rfl rfl ?_
  refine z_aload_n cx 0 dX3_recall_17 rfl rfl ?_
  refine gX3_11 cx dX3_recall_18 ?_
  refine z_aload_n cx 0 dX3_recall_21 rfl rfl ?_
  refine gX3_18 cx dX3_recall_22 ?_
  refine g_aald (b := g.ad (23 + 9 * y)) cx (by decide) (fun _ => rfl) (vp_in_nI (n := y) hy (by decide)) (show some (g.ad (23 + 9 * (nI y).toNatClampNeg)) = _ by rw [nI_clamp (by omega)]) dX3_recall_25 ?_
  refine z_V1V cx vX1_copyFrom kX3_22 (c_X1_copyFrom hg _ (co12 g) hA (by omega)) (by decide) hC12 rfl rfl (Nat.le_of_ble_eq_true rfl) dX3_recall_26 (fun σ_26 h_26 => ?_)
  obtain ⟨h1, h2⟩ := h_26
  have e1 : σ_26 21 = upd (σ 21) 2 (nI y) := (h2 21 (by omega)).trans (up2_at _ _ _ _)
  refine z_aload_n cx 0 dX3_recall_29 rfl rfl ?_
  refine z_dup cx dX3_recall_30 rfl ?_
  refine gX3_26 cx dX3_recall_31 ?_
  refine z_iconst cx dX3_recall_34 ic_1 ?_
  refine z_isub cx dX3_recall_35 ?_
  rw [show σ_26 21 1 - 1 = nI n by rw [e1, upd_ne _ _ (by decide), eN]; exact nI_pred n]
  refine pX3_26 cx dX3_recall_36 ?_
  refine z_vret cx hR ⟨rfl, ⟨fun k hk => ?_, fun j hj k hk => ?_⟩, ?_, ?_, fun q hq hq2 => ?_⟩ dX3_recall_39
  · rw [up2_ne _ _ _ (by omega), h1.1 k hk, up2_ne _ _ _ (by omega)]
  · rw [up2_ne _ _ _ (by omega), h1.2 j hj k hk, up2_ne _ _ _ (by omega)]
  · rfl
  · rw [up2_at, upd_ne _ _ (by decide), e1, upd_at]
  · rw [up2_ne _ _ _ hq, h2 q (by omega), up2_ne _ _ _ hq]
