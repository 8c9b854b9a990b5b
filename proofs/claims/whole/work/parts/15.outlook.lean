def svS (k : Nat) (row : Nat → Int32) (t : Nat) : Nat → Int32
  | 0 => 0
  | m + 1 => if bt5 k (t + m) = true then svS k row t m + row (t + m) else svS k row t m
theorem svS_congr (k : Nat) {row row2 : Nat → Int32} (t : Nat) : ∀ {m : Nat}, (∀ i, i < m → row (t + i) = row2 (t + i)) → svS k row t m = svS k row2 t m
  | 0, _ => rfl
  | m + 1, h => by simp only [svS, svS_congr k t (m := m) (fun i hi => h i (by omega)), h m (by omega)]
def seG (G C : Nat → Int32) (pu : Int32) (st : Nat) : Nat → Int32 × Int32
  | 0 => (0, 0)
  | m + 1 => if G ((m + 1) * st) ≤ (seG G C pu st m).1 then seG G C pu st m else if pu < C ((m + 1) * st) then seG G C pu st m else (G ((m + 1) * st), nI ((m + 1) * st))
def wyS (w : Nat → Int32) (c : Int32) : Nat → Int32 := fun m => if m = 0 then w 0 * (10 - c) else w m * (10 - c) + w (m - 1) * c
def wyN (ch : Nat → Int32) (t : Nat) : Nat → Nat → Int32
  | 0 => fun x => if x = 0 then 1 else 0
  | m + 1 => wyS (wyN ch t m) (ch (t + m))
def suF (w : Nat → Int32) (k : Nat) : Nat → Int32
  | 0 => 0
  | m + 1 => suF w k m + w (k + m)
theorem suF_congr {w w2 : Nat → Int32} (k : Nat) : ∀ {m : Nat}, (∀ i, i < m → w (k + i) = w2 (k + i)) → suF w k m = suF w2 k m
  | 0, _ => rfl
  | m + 1, h => by simp only [suF, suF_congr k (m := m) (fun i hi => h i (by omega)), h m (by omega)]
/-- Euclid's steps -/
def euc : Nat → Nat → Nat → Nat × Nat
  | 0, a, b => (a, b)
  | n + 1, a, b => if b = 0 then (a, b) else euc n b (a % b)
theorem euc_gcd : ∀ (n a b : Nat), b < 2 ^ n → euc (2 * n) a b = (Nat.gcd a b, 0)
  | 0, a, b, h => by
    have e : b = 0 := by simpa using h
    subst e; simp [euc]
  | n + 1, a, b, h => by
    rw [show 2 * (n + 1) = (2 * n + 1) + 1 by omega, euc]
    by_cases hb : b = 0
    · subst hb; simp
    · rw [if_neg hb, euc]
      have hr : a % b < b := Nat.mod_lt _ (by omega)
      by_cases hr0 : a % b = 0
      · rw [if_pos hr0, hr0]
        have : Nat.gcd a b = b := by rw [Nat.gcd_comm, Nat.gcd_rec, hr0]; simp
        rw [this]
      · rw [if_neg hr0]
        have h2 : b % (a % b) < 2 ^ n := by
          have h3 : b % (a % b) < a % b := Nat.mod_lt _ (by omega)
          have h4 := Nat.div_add_mod b (a % b)
          have h5 : 1 ≤ b / (a % b) := Nat.div_pos (Nat.le_of_lt hr) (by omega)
          have h6 : a % b ≤ (a % b) * (b / (a % b)) := Nat.le_mul_of_pos_right _ h5
          have h7 : 2 ^ (n + 1) = 2 * 2 ^ n := by rw [Nat.pow_succ]; omega
          omega
        rw [euc_gcd n _ _ h2]
        have e1 : Nat.gcd a b = Nat.gcd (a % b) (b % (a % b)) := by
          rw [Nat.gcd_comm a b, Nat.gcd_rec b a, Nat.gcd_rec (a % b) b, Nat.gcd_comm]
        rw [e1]
def OuH (σ : Mem) (t e : Nat) : Prop := t ≤ e ∧ e ≤ 7 ∧ σ 12 0 = nI t ∧ σ 6 3 = nI e
def OffO (σ' σ : Mem) : Prop := ∀ q, q ≠ 117 → q ≠ 118 → q ≠ 119 → σ' q = σ q
theorem OuH_off {τ σ : Mem} (h : OffO τ σ) {t e : Nat} (hA : OuH σ t e) : OuH τ t e := ⟨hA.1, hA.2.1, (congrFun (h 12 (by decide) (by decide) (by decide)) 0).trans hA.2.2.1, (congrFun (h 6 (by decide) (by decide) (by decide)) 3).trans hA.2.2.2⟩
set_option maxRecDepth 100000 in
set_option maxHeartbeats 4000000 in
theorem c_X2_sumOver {l : Launch} {g : Gx} (hg : ApG 123 g.ad) (σ : Mem) {q : Nat} (hq : q < 123) (hE : ∀ f, cE g q f = .inl (g.cI, 7, .inl f)) {t e : Nat} (hA : OuH σ t e) (k : Nat) : Ct l (OC g) 0 mX2_sumOver [.ref (g.ad 117), .int (nI k), .ref (g.ad q)] σ (some (.int (svS k (σ q) t (e - t)))) σ := by
  refine ct_of (lv := [some (.ref (g.ad 117)), some (.int (nI k)), some (.ref (g.ad q)), none, none]) (okC hg) (by decide +kernel) (Nat.le_of_ble_eq_true rfl) (fun ls h => lvh_entry h rfl 2) ?_
  intro κ hl hnL cx hR
  subst hl
  have cx : Cx κ (OC g) RX2 cX2_sumOver 0 := cx
  have hnL : κ.nL = 5 := hnL
  obtain ⟨hte, he, eT, eE⟩ := hA
  have loop : ∀ (c m : Nat), (e - t) + 1 ≤ m + c → m ≤ e - t → Z κ (OC g) σ 11 [some (.ref (g.ad 117)), some (.int (nI k)), some (.ref (g.ad q)), some (.int (svS k (σ q) t m)), some (.int (nI (t + m)))] [] := by
    intro c
    induction c with
    | zero => intro m h1 h2; exact absurd h1 (by omega)
    | succ c ih =>
      intro m h1 h2
      refine z_iload cx dX2_sumOver_11 rfl ?_
      refine z_aload_n cx 0 dX2_sumOver_13 rfl rfl ?_
      refine gX2_18 cx dX2_sumOver_14 ?_
      refine gX2_32 cx dX2_sumOver_17 ?_
      rw [eE]
      refine z_icmp_ge (tgt := 46) cx dX2_sumOver_20 (by decide) (fun c_20 => ?_) (fun c_20 => ?_)
      · rw [nI_leI (by omega) (by omega)] at c_20
        have e9 : m = e - t := by omega
        subst e9
        refine z_iload_n cx 3 dX2_sumOver_46 rfl rfl ?_
        exact z_iret cx hR ⟨rfl, rfl⟩ dX2_sumOver_47
      · rw [nI_leI (by omega) (by omega)] at c_20
        refine z_iload_n cx 1 dX2_sumOver_23 rfl rfl ?_
        refine z_iload cx dX2_sumOver_24 rfl ?_
        refine z_ishr cx dX2_sumOver_26 ?_
        refine z_iconst cx dX2_sumOver_27 ic_1 ?_
        refine z_iand cx dX2_sumOver_28 ?_
        refine z_iconst cx dX2_sumOver_29 ic_1 ?_
        refine z_icmp_ne (tgt := 40) cx dX2_sumOver_30 (by decide) (fun c_30 => ?_) (fun c_30 => ?_)
        · refine z_iinc cx dX2_sumOver_40 rfl ic_1 (nI_1 _) hnL (by decide) rfl ?_
          refine z_goto (tgt := 11) cx dX2_sumOver_43 (by decide) ?_
          have b9 : ¬ bt5 k (t + m) = true := by rw [bt5]; simpa using c_30
          exact z_eq rfl (by simp only [svS, if_neg b9]; rfl) rfl (ih (m + 1) (by omega) (by omega))
        · refine z_iload_n cx 3 dX2_sumOver_33 rfl rfl ?_
          refine z_aload_n cx 2 dX2_sumOver_34 rfl rfl ?_
          refine z_iload cx dX2_sumOver_35 rfl ?_
          refine g_ialdN cx (t + m) hq hE rfl (by omega) (by decide) dX2_sumOver_37 ?_
          refine z_iadd cx dX2_sumOver_38 ?_
          refine z_istore_n cx 3 dX2_sumOver_39 rfl hnL (by decide) rfl ?_
          refine z_iinc cx dX2_sumOver_40 rfl ic_1 (nI_1 _) hnL (by decide) rfl ?_
          refine z_goto (tgt := 11) cx dX2_sumOver_43 (by decide) ?_
          have b9 : bt5 k (t + m) = true := by rw [bt5]; exact decide_eq_true c_30
          exact z_eq rfl (by simp only [svS, if_pos b9]; rfl) rfl (ih (m + 1) (by omega) (by omega))
  refine z_iconst cx dX2_sumOver_0 ic_0 ?_
  refine z_istore_n cx 3 dX2_sumOver_1 rfl hnL (by decide) rfl ?_
  refine z_aload_n cx 0 dX2_sumOver_2 rfl rfl ?_
  refine gX2_22 cx dX2_sumOver_3 ?_
  refine gX2_26 cx dX2_sumOver_6 ?_
  rw [eT]
  refine z_istore cx dX2_sumOver_9 hnL (by decide) rfl ?_
  exact loop (e - t + 1) 0 (by omega) (by omega)
/-- one's gains by the evenings, for their prices -/
def sgF (σ : Mem) (j : Nat) : Nat → Int32 := fun i => gn (σ 9 j) (σ 10 j) (σ 8 i) (σ 7 i) (σ 6 2) (σ 16 i)
def seF (σ : Mem) (j t e : Nat) : Int32 × Int32 := seG (fun k => svS k (sgF σ j) t (e - t)) (fun k => svS k (σ 16) t (e - t)) (σ 13 j) (2 ^ t) (2 ^ (e - t) - 1)
theorem shl7 : ∀ n, n ≤ 7 → (1 : Int32) <<< (nI n &&& 31) = nI (2 ^ n) := by decide +kernel
theorem two7 {n : Nat} (h : n ≤ 7) : 2 ^ n ≤ 128 := by rcases (show n = 0 ∨ n = 1 ∨ n = 2 ∨ n = 3 ∨ n = 4 ∨ n = 5 ∨ n = 6 ∨ n = 7 by omega) with rfl | rfl | rfl | rfl | rfl | rfl | rfl | rfl <;> decide
set_option maxRecDepth 100000 in
set_option maxHeartbeats 4000000 in
theorem c_X2_findSeason {l : Launch} {g : Gx} (hg : ApG 123 g.ad) (σ : Mem) {t e j : Nat} (hA : OuH σ t e) (hj : j < 5) : CtV l (OC g) 3 mX2_findSeason [.ref (g.ad 117), .int (nI j)] σ (fun σ' => (σ' 117 4 = (seF σ j t e).1 ∧ σ' 117 5 = (seF σ j t e).2) ∧ OffO σ' σ) := by
  refine ct_of (lv := [some (.ref (g.ad 117)), some (.int (nI j)), none, none, none]) (okC hg) (by decide +kernel) (Nat.le_of_ble_eq_true rfl) (fun ls h => lvh_entry h rfl 3) ?_
  intro κ hl hnL cx hR
  subst hl
  have cx : Cx κ (OC g) RX2 cX2_findSeason 3 := cx
  have hnL : κ.nL = 5 := hnL
  have hte := hA.1
  have he := hA.2.1
  have h128 := two7 he
  have hst : 2 ^ t * 2 ^ (e - t) = 2 ^ e := by rw [← Nat.pow_add]; congr 1; omega
  have hp1 : 1 ≤ 2 ^ t := Nat.one_le_two_pow
  have hp2 : 1 ≤ 2 ^ (e - t) := Nat.one_le_two_pow
  have loop2 : ∀ (c m : Nat), 2 ^ (e - t) ≤ m + c → m + 1 ≤ 2 ^ (e - t) → ∀ (τ : Mem) (x : Option Value), OffO τ σ → (∀ i, i < e - t → τ 119 (t + i) = sgF σ j (t + i)) → τ 117 4 = (seG (fun k => svS k (sgF σ j) t (e - t)) (fun k => svS k (σ 16) t (e - t)) (σ 13 j) (2 ^ t) m).1 → τ 117 5 = (seG (fun k => svS k (sgF σ j) t (e - t)) (fun k => svS k (σ 16) t (e - t)) (σ 13 j) (2 ^ t) m).2 → Z κ (OC g) τ 71 [some (.ref (g.ad 117)), some (.int (nI j)), some (.int (nI (2 ^ t))), some (.int (nI ((m + 1) * 2 ^ t))), x] [] := by
    intro c
    induction c with
    | zero => intro m h1 h2; exact absurd h1 (by omega)
    | succ c ih =>
      intro m h1 h2 τ x hO hg9 e4 e5
      have hmul : (m + 1) * 2 ^ t ≤ 128 := Nat.le_trans (Nat.mul_le_mul_right _ h2) (by rw [Nat.mul_comm, hst]; exact h128)
      have hmul2 : (m + 1) * 2 ^ t + 2 ^ t = (m + 1 + 1) * 2 ^ t := by rw [Nat.succ_mul (m + 1)]
      generalize hSe : seG (fun k => svS k (sgF σ j) t (e - t)) (fun k => svS k (σ 16) t (e - t)) (σ 13 j) (2 ^ t) = SE at *
      refine z_iload_n cx 3 dX2_findSeason_71 rfl rfl ?_
      refine z_iconst cx dX2_findSeason_72 ic_1 ?_
      refine z_aload_n cx 0 dX2_findSeason_73 rfl rfl ?_
      refine gX2_18 cx dX2_findSeason_74 ?_
      refine gX2_32 cx dX2_findSeason_77 ?_
      rw [show τ 6 3 = nI e from (OuH_off hO hA).2.2.2]
      refine z_ishl cx dX2_findSeason_80 ?_
      rw [shl7 e he]
      refine z_icmp_ge (tgt := 146) cx dX2_findSeason_81 (by decide) (fun c_81 => ?_) (fun c_81 => ?_)
      · rw [nI_leI (by omega) (by omega), ← hst, Nat.mul_comm] at c_81
        have e9 : m + 1 = 2 ^ (e - t) := by have := Nat.le_of_mul_le_mul_right c_81 (by omega); omega
        refine z_vret cx hR ⟨rfl, ?_, hO⟩ dX2_findSeason_146
        rw [seF, hSe, show 2 ^ (e - t) - 1 = m by omega]
        exact ⟨e4, e5⟩
      · rw [nI_leI (by omega) (by omega), ← hst, Nat.mul_comm] at c_81
        have e9 : m + 2 ≤ 2 ^ (e - t) := by have : ¬ 2 ^ (e - t) ≤ m + 1 := fun z => c_81 (Nat.mul_le_mul_right _ z)
                                            omega
        refine z_aload_n cx 0 dX2_findSeason_84 rfl rfl ?_
        refine z_iload_n cx 3 dX2_findSeason_85 rfl rfl ?_
        refine z_aload_n cx 0 dX2_findSeason_86 rfl rfl ?_
        refine gX2_15 cx dX2_findSeason_87 ?_
        refine z_V2i cx vX2_sumOver kX2_50 (c_X2_sumOver hg τ (by decide) (fun _ => rfl) (OuH_off hO hA) _) (by decide) hC117 rfl rfl (Nat.le_of_ble_eq_true rfl) dX2_findSeason_90 ?_
        rw [show svS ((m + 1) * 2 ^ t) (τ 119) t (e - t) = svS ((m + 1) * 2 ^ t) (sgF σ j) t (e - t) from svS_congr _ _ hg9]
        refine z_istore cx dX2_findSeason_93 hnL (by decide) rfl ?_
        refine z_iload cx dX2_findSeason_95 rfl ?_
        refine z_aload_n cx 0 dX2_findSeason_97 rfl rfl ?_
        refine gX2_44 cx dX2_findSeason_98 ?_
        rw [e4]
        refine z_icmp_le (tgt := 139) cx dX2_findSeason_101 (by decide) (fun c_101 => ?_) (fun c_101 => ?_)
        · refine z_iload_n cx 3 dX2_findSeason_139 rfl rfl ?_
          refine z_iload_n cx 2 dX2_findSeason_140 rfl rfl ?_
          refine z_iadd cx dX2_findSeason_141 ?_
          rw [nI_add, hmul2]
          refine z_istore_n cx 3 dX2_findSeason_142 rfl hnL (by decide) rfl ?_
          refine z_goto (tgt := 71) cx dX2_findSeason_143 (by decide) ?_
          rw [← hSe] at e4 e5 c_101
          refine ih (m + 1) (by omega) (by omega) τ _ hO hg9 ?_ ?_
          · rw [← hSe, seG, if_pos c_101]; exact e4
          · rw [← hSe, seG, if_pos c_101]; exact e5
        · refine z_aload_n cx 0 dX2_findSeason_104 rfl rfl ?_
          refine z_iload_n cx 3 dX2_findSeason_105 rfl rfl ?_
          refine z_aload_n cx 0 dX2_findSeason_106 rfl rfl ?_
          refine gX2_22 cx dX2_findSeason_107 ?_
          refine gX2_37 cx dX2_findSeason_110 ?_
          refine z_V2i cx vX2_sumOver kX2_50 (c_X2_sumOver hg τ (by decide) (fun _ => rfl) (OuH_off hO hA) _) (by decide) hC117 rfl rfl (Nat.le_of_ble_eq_true rfl) dX2_findSeason_113 ?_
          rw [show svS ((m + 1) * 2 ^ t) (τ 16) t (e - t) = svS ((m + 1) * 2 ^ t) (σ 16) t (e - t) by rw [hO 16 (by decide) (by decide) (by decide)]]
          refine z_aload_n cx 0 dX2_findSeason_116 rfl rfl ?_
          refine gX2_22 cx dX2_findSeason_117 ?_
          refine gX2_54 cx dX2_findSeason_120 ?_
          refine z_iload_n cx 1 dX2_findSeason_123 rfl rfl ?_
          refine g_ialdN cx j (by decide) (fun _ => rfl) rfl (by omega) (by decide) dX2_findSeason_124 ?_
          rw [show τ 13 j = σ 13 j from congrFun (hO 13 (by decide) (by decide) (by decide)) j]
          refine z_icmp_gt (tgt := 139) cx dX2_findSeason_125 (by decide) (fun c_125 => ?_) (fun c_125 => ?_)
          · refine z_iload_n cx 3 dX2_findSeason_139 rfl rfl ?_
            refine z_iload_n cx 2 dX2_findSeason_140 rfl rfl ?_
            refine z_iadd cx dX2_findSeason_141 ?_
            rw [nI_add, hmul2]
            refine z_istore_n cx 3 dX2_findSeason_142 rfl hnL (by decide) rfl ?_
            refine z_goto (tgt := 71) cx dX2_findSeason_143 (by decide) ?_
            rw [← hSe] at e4 e5 c_101
            refine ih (m + 1) (by omega) (by omega) τ _ hO hg9 ?_ ?_
            · rw [← hSe, seG, if_neg c_101, if_pos c_125]; exact e4
            · rw [← hSe, seG, if_neg c_101, if_pos c_125]; exact e5
          · refine z_aload_n cx 0 dX2_findSeason_128 rfl rfl ?_
            refine z_iload cx dX2_findSeason_129 rfl ?_
            refine pX2_44 cx dX2_findSeason_131 ?_
            refine z_aload_n cx 0 dX2_findSeason_134 rfl rfl ?_
            refine z_iload_n cx 3 dX2_findSeason_135 rfl rfl ?_
            refine pX2_47 cx dX2_findSeason_136 ?_
            refine z_iload_n cx 3 dX2_findSeason_139 rfl rfl ?_
            refine z_iload_n cx 2 dX2_findSeason_140 rfl rfl ?_
            refine z_iadd cx dX2_findSeason_141 ?_
            rw [nI_add, hmul2]
            refine z_istore_n cx 3 dX2_findSeason_142 rfl hnL (by decide) rfl ?_
            refine z_goto (tgt := 71) cx dX2_findSeason_143 (by decide) ?_
            rw [← hSe] at e4 e5 c_101
            refine ih (m + 1) (by omega) (by omega) _ _ (fun q h3 h4 h5 => by rw [up2_ne _ _ _ h3, up2_ne _ _ _ h3]; exact hO q h3 h4 h5) hg9 ?_ ?_
            · rw [← hSe, seG, if_neg c_101, if_neg c_125]; rfl
            · rw [← hSe, seG, if_neg c_101, if_neg c_125]; rfl
  have loop1 : ∀ (c m : Nat), (e - t) + 1 ≤ m + c → m ≤ e - t → ∀ (τ : Mem), OffO τ σ → (∀ i, i < m → τ 119 (t + i) = sgF σ j (t + i)) → Z κ (OC g) τ 8 [some (.ref (g.ad 117)), some (.int (nI j)), some (.int (nI (t + m))), none, none] [] := by
    intro c
    induction c with
    | zero => intro m h1 h2; exact absurd h1 (by omega)
    | succ c ih =>
      intro m h1 h2 τ hO hg9
      refine z_iload_n cx 2 dX2_findSeason_8 rfl rfl ?_
      refine z_aload_n cx 0 dX2_findSeason_9 rfl rfl ?_
      refine gX2_18 cx dX2_findSeason_10 ?_
      refine gX2_32 cx dX2_findSeason_13 ?_
      rw [show τ 6 3 = nI e from (OuH_off hO hA).2.2.2]
      refine z_icmp_ge (tgt := 49) cx dX2_findSeason_16 (by decide) (fun c_16 => ?_) (fun c_16 => ?_)
      · rw [nI_leI (by omega) (by omega)] at c_16
        have e9 : m = e - t := by omega
        subst e9
        refine z_aload_n cx 0 dX2_findSeason_49 rfl rfl ?_
        refine z_iconst cx dX2_findSeason_50 ic_0 ?_
        refine pX2_44 cx dX2_findSeason_51 ?_
        refine z_aload_n cx 0 dX2_findSeason_54 rfl rfl ?_
        refine z_iconst cx dX2_findSeason_55 ic_0 ?_
        refine pX2_47 cx dX2_findSeason_56 ?_
        refine z_iconst cx dX2_findSeason_59 ic_1 ?_
        refine z_aload_n cx 0 dX2_findSeason_60 rfl rfl ?_
        refine gX2_22 cx dX2_findSeason_61 ?_
        refine gX2_26 cx dX2_findSeason_64 ?_
        rw [show (up2 (up2 τ 117 4 0) 117 5 0) 12 0 = nI t from (OuH_off hO hA).2.2.1]
        refine z_ishl cx dX2_findSeason_67 ?_
        rw [shl7 t (by omega)]
        refine z_istore_n cx 2 dX2_findSeason_68 rfl hnL (by decide) rfl ?_
        refine z_iload_n cx 2 dX2_findSeason_69 rfl rfl ?_
        refine z_istore_n cx 3 dX2_findSeason_70 rfl hnL (by decide) rfl ?_
        refine z_eq rfl ?_ rfl (loop2 (2 ^ (e - t)) 0 (by omega) (by omega) (up2 (up2 τ 117 4 0) 117 5 0) none (fun q h3 h4 h5 => by rw [up2_ne _ _ _ h3, up2_ne _ _ _ h3]; exact hO q h3 h4 h5) hg9 rfl rfl)
        simp
      · rw [nI_leI (by omega) (by omega)] at c_16
        refine z_aload_n cx 0 dX2_findSeason_19 rfl rfl ?_
        refine gX2_15 cx dX2_findSeason_20 ?_
        refine z_iload_n cx 2 dX2_findSeason_23 rfl rfl ?_
        refine z_aload_n cx 0 dX2_findSeason_24 rfl rfl ?_
        refine gX2_18 cx dX2_findSeason_25 ?_
        refine z_iload_n cx 1 dX2_findSeason_28 rfl rfl ?_
        refine z_iload_n cx 2 dX2_findSeason_29 rfl rfl ?_
        refine z_aload_n cx 0 dX2_findSeason_30 rfl rfl ?_
        refine gX2_22 cx dX2_findSeason_31 ?_
        refine gX2_37 cx dX2_findSeason_34 ?_
        refine z_iload_n cx 2 dX2_findSeason_37 rfl rfl ?_
        refine g_ialdN cx (t + m) (by decide) (fun _ => rfl) rfl (by omega) (by decide) dX2_findSeason_38 ?_
        refine z_V3i cx vX6_gainOf kX2_40 (c_X6_gainOf hg τ (j := j) (i := t + m) hj (by omega) _) (by decide) hC6 rfl rfl (Nat.le_of_ble_eq_true rfl) dX2_findSeason_39 ?_
        have e8 : gn (τ 9 j) (τ 10 j) (τ 8 (t + m)) (τ 7 (t + m)) (τ 6 2) (τ 16 (t + m)) = sgF σ j (t + m) := by
          simp only [sgF, hO 6 (by decide) (by decide) (by decide), hO 9 (by decide) (by decide) (by decide), hO 10 (by decide) (by decide) (by decide), hO 8 (by decide) (by decide) (by decide), hO 7 (by decide) (by decide) (by decide), hO 16 (by decide) (by decide) (by decide)]
        rw [e8]
        refine g_iastN cx (t + m) (by decide) (fun _ => rfl) rfl (by omega) (by decide) dX2_findSeason_42 ?_
        refine z_iinc cx dX2_findSeason_43 rfl ic_1 (nI_1 _) hnL (by decide) rfl ?_
        refine z_goto (tgt := 8) cx dX2_findSeason_46 (by decide) ?_
        refine ih (m + 1) (by omega) (by omega) _ (fun q h3 h4 h5 => by rw [up2_ne _ _ _ h5]; exact hO q h3 h4 h5) (fun i h3 => ?_)
        rw [up2_at]
        by_cases z : i = m
        · subst z; rw [upd_at]
        · rw [upd_ne _ _ (by omega)]; exact hg9 i (by omega)
  refine z_aload_n cx 0 dX2_findSeason_0 rfl rfl ?_
  refine gX2_22 cx dX2_findSeason_1 ?_
  refine gX2_26 cx dX2_findSeason_4 ?_
  rw [hA.2.2.1]
  refine z_istore_n cx 2 dX2_findSeason_7 rfl hnL (by decide) rfl ?_
  exact loop1 (e - t + 1) 0 (by omega) (by omega) σ (fun _ _ _ _ => rfl) (fun i h => absurd h (by omega))
set_option maxRecDepth 100000 in
set_option maxHeartbeats 4000000 in
theorem c_X2_addEvening {l : Launch} {g : Gx} (hg : ApG 123 g.ad) (σ : Mem) (c : Int32) : CtV l (OC g) 0 mX2_addEvening [.ref (g.ad 117), .int c] σ (fun σ' => (∀ x, x < 8 → σ' 118 x = wyS (σ 118) c x) ∧ ∀ q, q ≠ 118 → σ' q = σ q) := by
  refine ct_of (lv := [some (.ref (g.ad 117)), some (.int c), none]) (okC hg) (by decide +kernel) (Nat.le_of_ble_eq_true rfl) (fun ls h => lvh_entry h rfl 1) ?_
  intro κ hl hnL cx hR
  subst hl
  have cx : Cx κ (OC g) RX2 cX2_addEvening 0 := cx
  have hnL : κ.nL = 3 := hnL
  have loop : ∀ (p : Nat), p ≤ 7 → ∀ τ : Mem, (∀ q, q ≠ 118 → τ q = σ q) → (∀ x, p < x → x < 8 → τ 118 x = wyS (σ 118) c x) → (∀ x, x ≤ p → τ 118 x = σ 118 x) → Z κ (OC g) τ 3 [some (.ref (g.ad 117)), some (.int c), some (.int (nI p))] [] := by
    intro p
    induction p with
    | zero =>
      intro _ τ hO h1 h2
      refine z_iload_n cx 2 dX2_addEvening_3 rfl rfl ?_
      refine z_if_le (tgt := 41) cx dX2_addEvening_4 (by decide) (fun c_4 => ?_) (fun c_4 => ?_)
      · refine z_aload_n cx 0 dX2_addEvening_41 rfl rfl ?_
        refine gX2_9 cx dX2_addEvening_42 ?_
        refine z_iconst cx dX2_addEvening_45 ic_0 ?_
        refine z_dup2 cx dX2_addEvening_46 rfl rfl ?_
        refine g_ialdN cx 0 (by decide) (fun _ => rfl) rfl (by omega) (by decide) dX2_addEvening_47 ?_
        refine z_bipush cx dX2_addEvening_48 bi_10 ?_
        refine z_iload_n cx 1 dX2_addEvening_50 rfl rfl ?_
        refine z_isub cx dX2_addEvening_51 ?_
        refine z_imul cx dX2_addEvening_52 ?_
        refine g_iastN cx 0 (by decide) (fun _ => rfl) rfl (by omega) (by decide) dX2_addEvening_53 ?_
        refine z_vret cx hR ⟨rfl, fun x hx => ?_, fun q hq => by rw [up2_ne _ _ _ hq]; exact hO q hq⟩ dX2_addEvening_54
        rw [up2_at]
        by_cases z : x = 0
        · subst z; rw [upd_at, h2 0 (by omega)]; simp [wyS]
        · rw [upd_ne _ _ z]; exact h1 x (by omega) hx
      · exact absurd (show nI 0 ≤ 0 by decide) c_4
    | succ p ih =>
      intro hp τ hO h1 h2
      refine z_iload_n cx 2 dX2_addEvening_3 rfl rfl ?_
      refine z_if_le (tgt := 41) cx dX2_addEvening_4 (by decide) (fun c_4 => ?_) (fun c_4 => ?_)
      · exact absurd c_4 (nI_nle (by omega) (by omega))
      · refine z_aload_n cx 0 dX2_addEvening_7 rfl rfl ?_
        refine gX2_9 cx dX2_addEvening_8 ?_
        refine z_iload_n cx 2 dX2_addEvening_11 rfl rfl ?_
        refine z_aload_n cx 0 dX2_addEvening_12 rfl rfl ?_
        refine gX2_9 cx dX2_addEvening_13 ?_
        refine z_iload_n cx 2 dX2_addEvening_16 rfl rfl ?_
        refine g_ialdN cx (p + 1) (by decide) (fun _ => rfl) rfl (by omega) (by decide) dX2_addEvening_17 ?_
        refine z_bipush cx dX2_addEvening_18 bi_10 ?_
        refine z_iload_n cx 1 dX2_addEvening_20 rfl rfl ?_
        refine z_isub cx dX2_addEvening_21 ?_
        refine z_imul cx dX2_addEvening_22 ?_
        refine z_aload_n cx 0 dX2_addEvening_23 rfl rfl ?_
        refine gX2_9 cx dX2_addEvening_24 ?_
        refine z_iload_n cx 2 dX2_addEvening_27 rfl rfl ?_
        refine z_iconst cx dX2_addEvening_28 ic_1 ?_
        refine z_isub cx dX2_addEvening_29 ?_
        refine g_ialdN cx p (by decide) (fun _ => rfl) (nI_pred p) (by omega) (by decide) dX2_addEvening_30 ?_
        refine z_iload_n cx 1 dX2_addEvening_31 rfl rfl ?_
        refine z_imul cx dX2_addEvening_32 ?_
        refine z_iadd cx dX2_addEvening_33 ?_
        refine g_iastN cx (p + 1) (by decide) (fun _ => rfl) rfl (by omega) (by decide) dX2_addEvening_34 ?_
        refine z_iinc cx dX2_addEvening_35 rfl ic_m1 (pk_m1 p) hnL (by decide) rfl ?_
        refine z_goto (tgt := 3) cx dX2_addEvening_38 (by decide) ?_
        refine ih (by omega) _ (fun q hq => by rw [up2_ne _ _ _ hq]; exact hO q hq) (fun x hx hx2 => ?_) (fun x hx => ?_)
        · rw [up2_at]
          by_cases z : x = p + 1
          · subst z; rw [upd_at, h2 (p + 1) (by omega), h2 p (by omega)]; simp [wyS]
          · rw [upd_ne _ _ z]; exact h1 x (by omega) hx2
        · rw [up2_at, upd_ne _ _ (by omega)]; exact h2 x (by omega)
  refine z_bipush cx dX2_addEvening_0 bi_7 ?_
  refine z_istore_n cx 2 dX2_addEvening_2 rfl hnL (by decide) rfl ?_
  exact loop 7 (by omega) σ (fun _ _ => rfl) (fun x h1 h2 => absurd h1 (by omega)) (fun _ _ => rfl)
set_option maxRecDepth 100000 in
set_option maxHeartbeats 4000000 in
theorem c_X2_commonDivisor {l : Launch} {g : Gx} (hg : ApG 123 g.ad) (σ : Mem) {a b : Nat} (ha : 1 ≤ a) (ha2 : a < 2 ^ 31) (hb : b < 2 ^ 31) : Ct l (OC g) 1 mX2_commonDivisor [.int (nI a), .int (nI b)] σ (some (.int (nI (Nat.gcd a b)))) σ := by
  refine ct_of (lv := [some (.int (nI a)), some (.int (nI b)), none, none, none, none]) (okC hg) (by decide +kernel) (Nat.le_of_ble_eq_true rfl) (fun ls h => lvh_entry h rfl 4) ?_
  intro κ hl hnL cx hR
  subst hl
  have cx : Cx κ (OC g) RX2 cX2_commonDivisor 1 := cx
  have hnL : κ.nL = 6 := hnL
  have hE : euc 100 a b = (Nat.gcd a b, 0) := euc_gcd 50 a b (Nat.lt_of_lt_of_le hb (Nat.pow_le_pow_right (by decide) (by decide)))
  have hG : 1 ≤ Nat.gcd a b := Nat.gcd_pos_of_pos_left b ha
  have hG2 : Nat.gcd a b ≤ a := Nat.gcd_le_left b ha
  have tail : ∀ (w v u y : Option Value), Z κ (OC g) σ 34 [w, v, some (.int (nI (Nat.gcd a b))), u, y, none] [] → True := fun _ _ _ _ _ => trivial
  have loop : ∀ (c s x y : Nat), s + c = 100 → x < 2 ^ 31 → y < 2 ^ 31 → euc c x y = (Nat.gcd a b, 0) → ∀ z : Option Value, Z κ (OC g) σ 7 [some (.int (nI a)), some (.int (nI b)), some (.int (nI x)), some (.int (nI y)), some (.int (nI s)), z] [] := by
    intro c
    induction c with
    | zero =>
      intro s x y h1 h2 h3 h4 z
      have e1 : x = Nat.gcd a b := congrArg Prod.fst h4
      subst e1
      refine z_iload cx dX2_commonDivisor_7 rfl ?_
      refine z_bipush cx dX2_commonDivisor_9 bi_100 ?_
      refine z_icmp_ge (tgt := 34) cx dX2_commonDivisor_11 (by decide) (fun c_11 => ?_) (fun c_11 => ?_)
      · refine z_iconst cx dX2_commonDivisor_34 ic_1 ?_
        refine z_iload_n cx 2 dX2_commonDivisor_35 rfl rfl ?_
        refine z_mmax cx kX2_80 sM_max iM_math cM_max (by decide) (Nat.le_of_ble_eq_true rfl) dX2_commonDivisor_36 ?_
        refine z_iret cx hR ⟨?_, rfl⟩ dX2_commonDivisor_39
        by_cases q : (1 : Int32) < nI (Nat.gcd a b)
        · rw [if_pos q]
        · rw [if_neg q]
          have : ¬ 1 < Nat.gcd a b := fun w => q ((nI_ltI (a := 1) (by decide) (by omega)).mpr w)
          rw [show Nat.gcd a b = 1 by omega]; rfl
      · exact absurd (show nI 100 ≤ nI s by rw [show s = 100 by omega]; exact Int32.le_refl _) c_11
    | succ c ih =>
      intro s x y h1 h2 h3 h4 z
      refine z_iload cx dX2_commonDivisor_7 rfl ?_
      refine z_bipush cx dX2_commonDivisor_9 bi_100 ?_
      refine z_icmp_ge (tgt := 34) cx dX2_commonDivisor_11 (by decide) (fun c_11 => ?_) (fun c_11 => ?_)
      · exact absurd ((nI_leI (a := 100) (by decide) (by omega)).mp c_11) (by omega)
      · refine z_iload_n cx 3 dX2_commonDivisor_14 rfl rfl ?_
        refine z_if_eq (tgt := 34) cx dX2_commonDivisor_15 (by decide) (fun c_15 => ?_) (fun c_15 => ?_)
        · have y0 : y = 0 := (nI_eq (b := 0) h3 (by decide)).mp c_15
          rw [euc, if_pos y0] at h4
          have e1 : x = Nat.gcd a b := congrArg Prod.fst h4
          subst e1
          refine z_iconst cx dX2_commonDivisor_34 ic_1 ?_
          refine z_iload_n cx 2 dX2_commonDivisor_35 rfl rfl ?_
          refine z_mmax cx kX2_80 sM_max iM_math cM_max (by decide) (Nat.le_of_ble_eq_true rfl) dX2_commonDivisor_36 ?_
          refine z_iret cx hR ⟨?_, rfl⟩ dX2_commonDivisor_39
          by_cases q : (1 : Int32) < nI (Nat.gcd a b)
          · rw [if_pos q]
          · rw [if_neg q]
            have : ¬ 1 < Nat.gcd a b := fun w => q ((nI_ltI (a := 1) (by decide) (by omega)).mpr w)
            rw [show Nat.gcd a b = 1 by omega]; rfl
        · have y0 : ¬ y = 0 := fun w => c_15 (by rw [w]; rfl)
          refine z_iload_n cx 2 dX2_commonDivisor_18 rfl rfl ?_
          refine z_iload_n cx 3 dX2_commonDivisor_19 rfl rfl ?_
          refine z_irem cx dX2_commonDivisor_20 c_15 ?_
          rw [pk_rem h2 (by omega) h3]
          refine z_istore cx dX2_commonDivisor_21 hnL (by decide) rfl ?_
          refine z_iload_n cx 3 dX2_commonDivisor_23 rfl rfl ?_
          refine z_istore_n cx 2 dX2_commonDivisor_24 rfl hnL (by decide) rfl ?_
          refine z_iload cx dX2_commonDivisor_25 rfl ?_
          refine z_istore_n cx 3 dX2_commonDivisor_27 rfl hnL (by decide) rfl ?_
          refine z_iinc cx dX2_commonDivisor_28 rfl ic_1 (nI_1 s) hnL (by decide) rfl ?_
          refine z_goto (tgt := 7) cx dX2_commonDivisor_31 (by decide) ?_
          exact ih (s + 1) y (x % y) (by omega) h3 (Nat.lt_trans (Nat.mod_lt _ (by omega)) h3) (by rw [euc, if_neg y0] at h4; exact h4) _
  refine z_iload_n cx 0 dX2_commonDivisor_0 rfl rfl ?_
  refine z_istore_n cx 2 dX2_commonDivisor_1 rfl hnL (by decide) rfl ?_
  refine z_iload_n cx 1 dX2_commonDivisor_2 rfl rfl ?_
  refine z_istore_n cx 3 dX2_commonDivisor_3 rfl hnL (by decide) rfl ?_
  refine z_iconst cx dX2_commonDivisor_4 ic_0 ?_
  refine z_istore cx dX2_commonDivisor_5 hnL (by decide) rfl ?_
  exact loop 100 0 a b (by omega) ha2 hb hE none
set_option maxRecDepth 100000 in
set_option maxHeartbeats 4000000 in
theorem c_X2_findOdds {l : Launch} {g : Gx} (hg : ApG 123 g.ad) (σ : Mem) {t e k gd : Nat} (hA : OuH σ t e) (hk : k ≤ 7) (hG : suF (wyN (σ 8) t (e - t)) k (8 - k) = nI gd) (hG2 : gd < 2 ^ 31) : CtV l (OC g) 2 mX2_findOdds [.ref (g.ad 117), .int (nI k)] σ (fun σ' => (σ' 117 6 = nI (gd / Nat.gcd (10 ^ (e - t)) gd) ∧ σ' 117 7 = nI (10 ^ (e - t) / Nat.gcd (10 ^ (e - t)) gd)) ∧ OffO σ' σ) := by
  refine ct_of (lv := [some (.ref (g.ad 117)), some (.int (nI k)), none, none, none]) (okC hg) (by decide +kernel) (Nat.le_of_ble_eq_true rfl) (fun ls h => lvh_entry h rfl 3) ?_
  intro κ hl hnL cx hR
  subst hl
  have cx : Cx κ (OC g) RX2 cX2_findOdds 2 := cx
  have hnL : κ.nL = 5 := hnL
  have hte := hA.1
  have he := hA.2.1
  have h10 : ∀ m, m ≤ 7 → 1 ≤ 10 ^ m ∧ 10 ^ m ≤ 10000000 := by decide
  have loop2 : ∀ (c m : Nat), 8 - k + 1 ≤ m + c → m ≤ 8 - k → ∀ τ : Mem, OffO τ σ → (∀ x, x < 8 → τ 118 x = wyN (σ 8) t (e - t) x) → Z κ (OC g) τ 65 [some (.ref (g.ad 117)), some (.int (nI k)), some (.int (nI (10 ^ (e - t)))), some (.int (suF (wyN (σ 8) t (e - t)) k m)), some (.int (nI (k + m)))] [] := by
    intro c
    induction c with
    | zero => intro m h1 h2; exact absurd h1 (by omega)
    | succ c ih =>
      intro m h1 h2 τ hO hw
      refine z_iload cx dX2_findOdds_65 rfl ?_
      refine z_bipush cx dX2_findOdds_67 bi_7 ?_
      refine z_icmp_gt (tgt := 88) cx dX2_findOdds_69 (by decide) (fun c_69 => ?_) (fun c_69 => ?_)
      · have c69 := (nI_ltI (a := 7) (by decide) (by omega)).mp c_69
        have e9 : m = 8 - k := by omega
        subst e9
        have h10e := h10 (e - t) (by omega)
        have hG1 : 1 ≤ Nat.gcd (10 ^ (e - t)) gd := Nat.gcd_pos_of_pos_left _ h10e.1
        have hG3 : Nat.gcd (10 ^ (e - t)) gd ≤ 10 ^ (e - t) := Nat.gcd_le_left _ h10e.1
        rw [hG]
        refine z_iload_n cx 2 dX2_findOdds_88 rfl rfl ?_
        refine z_iload_n cx 3 dX2_findOdds_89 rfl rfl ?_
        refine z_S2i cx sX2_commonDivisor kX2_70 (c_X2_commonDivisor hg τ (a := 10 ^ (e - t)) (b := gd) h10e.1 (by omega) hG2) (by decide) (Nat.le_of_ble_eq_true rfl) dX2_findOdds_90 ?_
        refine z_istore cx dX2_findOdds_93 hnL (by decide) rfl ?_
        refine z_aload_n cx 0 dX2_findOdds_95 rfl rfl ?_
        refine z_iload_n cx 3 dX2_findOdds_96 rfl rfl ?_
        refine z_iload cx dX2_findOdds_97 rfl ?_
        refine z_idiv cx dX2_findOdds_99 (nI_ne0 (by omega) (by omega)) ?_
        rw [pk_div hG2 (by omega) (by omega)]
        refine pX2_74 cx dX2_findOdds_100 ?_
        refine z_aload_n cx 0 dX2_findOdds_103 rfl rfl ?_
        refine z_iload_n cx 2 dX2_findOdds_104 rfl rfl ?_
        refine z_iload cx dX2_findOdds_105 rfl ?_
        refine z_idiv cx dX2_findOdds_107 (nI_ne0 (by omega) (by omega)) ?_
        rw [pk_div (by omega) (by omega) (by omega)]
        refine pX2_77 cx dX2_findOdds_108 ?_
        exact z_vret cx hR ⟨rfl, ⟨rfl, rfl⟩, fun q h3 h4 h5 => by rw [up2_ne _ _ _ h3, up2_ne _ _ _ h3]; exact hO q h3 h4 h5⟩ dX2_findOdds_111
      · have c69 : ¬ 7 < k + m := fun z => c_69 ((nI_ltI (a := 7) (by decide) (by omega)).mpr z)
        refine z_iload_n cx 3 dX2_findOdds_72 rfl rfl ?_
        refine z_aload_n cx 0 dX2_findOdds_73 rfl rfl ?_
        refine gX2_9 cx dX2_findOdds_74 ?_
        refine z_iload cx dX2_findOdds_77 rfl ?_
        refine g_ialdN cx (k + m) (by decide) (fun _ => rfl) rfl (by omega) (by decide) dX2_findOdds_79 ?_
        rw [hw (k + m) (by omega)]
        refine z_iadd cx dX2_findOdds_80 ?_
        refine z_istore_n cx 3 dX2_findOdds_81 rfl hnL (by decide) rfl ?_
        refine z_iinc cx dX2_findOdds_82 rfl ic_1 (nI_1 _) hnL (by decide) rfl ?_
        refine z_goto (tgt := 65) cx dX2_findOdds_85 (by decide) ?_
        exact ih (m + 1) (by omega) (by omega) τ hO hw
  have loop1 : ∀ (c m : Nat), (e - t) + 1 ≤ m + c → m ≤ e - t → ∀ τ : Mem, OffO τ σ → (∀ x, x < 8 → τ 118 x = wyN (σ 8) t m x) → Z κ (OC g) τ 25 [some (.ref (g.ad 117)), some (.int (nI k)), some (.int (nI (10 ^ m))), some (.int (nI (t + m))), none] [] := by
    intro c
    induction c with
    | zero => intro m h1 h2; exact absurd h1 (by omega)
    | succ c ih =>
      intro m h1 h2 τ hO hw
      refine z_iload_n cx 3 dX2_findOdds_25 rfl rfl ?_
      refine z_aload_n cx 0 dX2_findOdds_26 rfl rfl ?_
      refine gX2_18 cx dX2_findOdds_27 ?_
      refine gX2_32 cx dX2_findOdds_30 ?_
      rw [show τ 6 3 = nI e from (OuH_off hO hA).2.2.2]
      refine z_icmp_ge (tgt := 60) cx dX2_findOdds_33 (by decide) (fun c_33 => ?_) (fun c_33 => ?_)
      · rw [nI_leI (by omega) (by omega)] at c_33
        have e9 : m = e - t := by omega
        subst e9
        refine z_iconst cx dX2_findOdds_60 ic_0 ?_
        refine z_istore_n cx 3 dX2_findOdds_61 rfl hnL (by decide) rfl ?_
        refine z_iload_n cx 1 dX2_findOdds_62 rfl rfl ?_
        refine z_istore cx dX2_findOdds_63 hnL (by decide) rfl ?_
        exact loop2 (8 - k + 1) 0 (by omega) (by omega) τ hO hw
      · rw [nI_leI (by omega) (by omega)] at c_33
        refine z_aload_n cx 0 dX2_findOdds_36 rfl rfl ?_
        refine z_aload_n cx 0 dX2_findOdds_37 rfl rfl ?_
        refine gX2_18 cx dX2_findOdds_38 ?_
        refine gX2_63 cx dX2_findOdds_41 ?_
        refine z_iload_n cx 3 dX2_findOdds_44 rfl rfl ?_
        refine g_ialdN cx (t + m) (by decide) (fun _ => rfl) rfl (by omega) (by decide) dX2_findOdds_45 ?_
        refine z_V1V cx vX2_addEvening kX2_66 (c_X2_addEvening hg τ _) (by decide) hC117 rfl rfl (Nat.le_of_ble_eq_true rfl) dX2_findOdds_46 (fun σ_46 h_46 => ?_)
        obtain ⟨w1, w2⟩ := h_46
        refine z_iload_n cx 2 dX2_findOdds_49 rfl rfl ?_
        refine z_bipush cx dX2_findOdds_50 bi_10 ?_
        refine z_imul cx dX2_findOdds_52 ?_
        rw [show nI (10 ^ m) * 10 = nI (10 ^ (m + 1)) by rw [Nat.pow_succ]; exact pk_mul (10 ^ m) 10]
        refine z_istore_n cx 2 dX2_findOdds_53 rfl hnL (by decide) rfl ?_
        refine z_iinc cx dX2_findOdds_54 rfl ic_1 (nI_1 _) hnL (by decide) rfl ?_
        refine z_goto (tgt := 25) cx dX2_findOdds_57 (by decide) ?_
        refine ih (m + 1) (by omega) (by omega) σ_46 (fun q h3 h4 h5 => (w2 q h4).trans (hO q h3 h4 h5)) (fun x hx => ?_)
        rw [w1 x hx, wyN, show τ 8 (t + m) = σ 8 (t + m) from congrFun (hO 8 (by decide) (by decide) (by decide)) _]
        unfold wyS
        by_cases z : x = 0
        · rw [if_pos z, if_pos z, hw 0 (by omega)]
        · rw [if_neg z, if_neg z, hw x hx, hw (x - 1) (by omega)]
  refine z_aload_n cx 0 dX2_findOdds_0 rfl rfl ?_
  refine gX2_9 cx dX2_findOdds_1 ?_
  refine z_iconst cx dX2_findOdds_4 ic_0 ?_
  refine z_S2v cx sJ7_fill_53178 kX2_57 (c_J7_fill_53178 hg σ (by decide) (fun _ => rfl) (by decide) _) (by decide) (Nat.le_of_ble_eq_true rfl) dX2_findOdds_5 ?_
  refine z_aload_n cx 0 dX2_findOdds_8 rfl rfl ?_
  refine gX2_9 cx dX2_findOdds_9 ?_
  refine z_iconst cx dX2_findOdds_12 ic_0 ?_
  refine z_iconst cx dX2_findOdds_13 ic_1 ?_
  refine g_iastN cx 0 (by decide) (fun _ => rfl) rfl (by omega) (by decide) dX2_findOdds_14 ?_
  refine z_iconst cx dX2_findOdds_15 ic_1 ?_
  refine z_istore_n cx 2 dX2_findOdds_16 rfl hnL (by decide) rfl ?_
  refine z_aload_n cx 0 dX2_findOdds_17 rfl rfl ?_
  refine gX2_22 cx dX2_findOdds_18 ?_
  refine gX2_26 cx dX2_findOdds_21 ?_
  rw [show (up2 (upA σ 118 (flF 8 0 (σ 118))) 118 0 1) 12 0 = nI t from hA.2.2.1]
  refine z_istore_n cx 3 dX2_findOdds_24 rfl hnL (by decide) rfl ?_
  refine loop1 (e - t + 1) 0 (by omega) (by omega) _ (fun q h3 h4 h5 => by rw [up2_ne _ _ _ h4, upA_ne _ _ h4]) (fun x hx => ?_)
  rw [up2_at, wyN]
  by_cases z : x = 0
  · subst z; rw [upd_at]; rfl
  · rw [upd_ne _ _ z, upA_at, flF_in _ _ hx]; simp [z]
