def srt (c : Int32) : Int32 := if ¬ c < 97 ∧ ¬ 122 < c then 1 else if ¬ c < 48 ∧ ¬ 57 < c then 2 else 0
theorem srt_3 (c : Int32) : srt c = 0 ∨ srt c = 1 ∨ srt c = 2 := by unfold srt; split; exact Or.inr (Or.inl rfl); split; exact Or.inr (Or.inr rfl); exact Or.inl rfl
/-- behind the blanks -/
def skp (tx : Nat → Int32) (L : Nat) : Nat → Nat → Nat
  | 0, p => p
  | f + 1, p => if p < L ∧ tx p = 32 then skp tx L f (p + 1) else p
/-- behind a row of one sort -/
def exT (tx : Nat → Int32) (L : Nat) (s : Int32) : Nat → Nat → Nat
  | 0, p => p
  | f + 1, p => if p < L ∧ srt (tx p) = s then exT tx L s f (p + 1) else p
def tkB (tx : Nat → Int32) (L p : Nat) : Nat := skp tx L (L - p) p
def tkE (tx : Nat → Int32) (L b : Nat) : Nat := if b < L then (if srt (tx b) = 0 then b + 1 else exT tx L (srt (tx b)) (L - (b + 1)) (b + 1)) else b
theorem skp_le {tx : Nat → Int32} {L : Nat} : ∀ (f p : Nat), p + f ≤ L → p ≤ skp tx L f p ∧ skp tx L f p ≤ p + f
  | 0, p, _ => ⟨Nat.le_refl _, Nat.le_refl _⟩
  | f + 1, p, h => by
    rw [skp]; split
    · have := skp_le (tx := tx) (L := L) f (p + 1) (by omega); omega
    · omega
theorem exT_le {tx : Nat → Int32} {L : Nat} {s : Int32} : ∀ (f p : Nat), p + f ≤ L → p ≤ exT tx L s f p ∧ exT tx L s f p ≤ p + f
  | 0, p, _ => ⟨Nat.le_refl _, Nat.le_refl _⟩
  | f + 1, p, h => by
    rw [exT]; split
    · have := exT_le (tx := tx) (L := L) (s := s) f (p + 1) (by omega); omega
    · omega
theorem tkB_in {tx : Nat → Int32} {L p : Nat} (h : p ≤ L) : p ≤ tkB tx L p ∧ tkB tx L p ≤ L := by
  have := skp_le (tx := tx) (L := L) (L - p) p (by omega)
  unfold tkB; omega
theorem tkE_in {tx : Nat → Int32} {L b : Nat} (h : b ≤ L) : b ≤ tkE tx L b ∧ tkE tx L b ≤ L ∧ (b < L → b < tkE tx L b) := by
  unfold tkE
  split
  · split
    · omega
    · have := exT_le (tx := tx) (L := L) (s := srt (tx b)) (L - (b + 1)) (b + 1) (by omega); omega
  · omega
/-- nothing but the text's reading place has changed -/
def OffT (σ' σ : Mem) : Prop := (∀ k, k ≠ 6 → k ≠ 7 → σ' 1 k = σ 1 k) ∧ ∀ q, q ≠ 1 → σ' q = σ q
def nbh (w : Nat) : Nat := if 4 ≤ w ∧ w ≤ 7 then 2 else if (1 ≤ w ∧ w ≤ 3) ∨ w = 10 ∨ w = 11 then 1 else 0
def tpb (w : Nat) : Nat := if (1 ≤ w ∧ w ≤ 3) ∨ w = 11 then 10 else 99
def rmF (w E B : Nat) : Bool := if 1 ≤ w ∧ w ≤ 3 then decide (E < 7) else if 4 ≤ w ∧ w ≤ 7 then decide (B < 5) else true
def alE (w E : Nat) : Nat := if 1 ≤ w ∧ w ≤ 3 then E + 1 else if w = 12 ∨ w = 0 then 0 else E
def alB (w B : Nat) : Nat := if 4 ≤ w ∧ w ≤ 7 then B + 1 else if w = 0 then 0 else B
/-- the token from b to e as a number from 0 up to top; -1: it is none -/
def nmT (tx : Nat → Int32) (b e : Nat) (top : Int32) : Int32 := if e - b < 1 ∨ 2 < e - b ∨ ¬ srt (tx b) = 2 then -1 else if e - b = 2 then (if top < 10 * (tx b - 48) + tx (b + 1) - 48 then -1 else 10 * (tx b - 48) + tx (b + 1) - 48) else (if top < tx b - 48 then -1 else tx b - 48)
theorem evW_nI {w : Nat} (hw : w ≤ 13) : evW (nI w) = decide (1 ≤ w ∧ w ≤ 3) := by
  have e1 : (nI w < 1) ↔ w < 1 := nI_ltI (b := 1) (by omega) (by decide)
  have e2 : (3 < nI w) ↔ 3 < w := nI_ltI (a := 3) (by decide) (by omega)
  simp only [evW, e1, e2]
  by_cases h1 : w < 1 <;> by_cases h2 : 3 < w <;> simp [h1, h2] <;> omega
theorem biW_nI {w : Nat} (hw : w ≤ 13) : biW (nI w) = decide (4 ≤ w ∧ w ≤ 7) := by
  have e1 : (nI w < 4) ↔ w < 4 := nI_ltI (b := 4) (by omega) (by decide)
  have e2 : (7 < nI w) ↔ 7 < w := nI_ltI (a := 7) (by decide) (by omega)
  simp only [biW, e1, e2]
  by_cases h1 : w < 4 <;> by_cases h2 : 7 < w <;> simp [h1, h2] <;> omega
set_option maxRecDepth 100000 in
set_option maxHeartbeats 4000000 in
theorem c_X5_add {l : Launch} {g : Gx} (hg : ApG 123 g.ad) (σ : Mem) {n : Nat} (hn : n < 160) (eN : σ 1 1 = nI n) (c : Int32) : Ct l (OC g) 0 mX5_add [.ref (g.ad 1), .int c] σ none (up2 (up2 σ 2 n c) 1 1 (nI (n + 1))) := by
  refine ct_of (lv := [some (.ref (g.ad 1)), some (.int c)]) (okC hg) (by decide +kernel) (Nat.le_of_ble_eq_true rfl) (fun ls h => lvh_entry h rfl 0) ?_
  intro κ hl hnL cx hR
  subst hl
  have cx : Cx κ (OC g) RX5 cX5_add 0 := cx
  have hnL : κ.nL = 2 := hnL
  refine z_aload_n cx 0 dX5_add_0 rfl rfl ?_
  refine gX5_24 cx dX5_add_1 ?_
  refine z_sipush cx dX5_add_4 si_160 ?_
  refine z_icmp_ge (tgt := 30) cx dX5_add_7 (by decide) (fun c_7 => ?_) (fun c_7 => ?_)
  · rw [eN] at c_7
    exact absurd c_7 (nI_ge hn (by decide))
  · refine z_aload_n cx 0 dX5_add_10 rfl rfl ?_
    refine gX5_9 cx dX5_add_11 ?_
    refine z_aload_n cx 0 dX5_add_14 rfl rfl ?_
    refine gX5_24 cx dX5_add_15 ?_
    refine z_iload_n cx 1 dX5_add_18 rfl rfl ?_
    refine g_iastN cx n (by decide) (fun _ => rfl) eN (by omega) (by decide) dX5_add_19 ?_
    refine z_aload_n cx 0 dX5_add_20 rfl rfl ?_
    refine z_dup cx dX5_add_21 rfl ?_
    refine gX5_24 cx dX5_add_22 ?_
    refine z_iconst cx dX5_add_25 ic_1 ?_
    refine z_iadd cx dX5_add_26 ?_
    rw [show (up2 σ 2 n c) 1 1 + 1 = nI (n + 1) from (congrArg (· + 1) eN).trans (nI_1 n)]
    refine pX5_24 cx dX5_add_27 ?_
    exact z_vret cx hR ⟨rfl, rfl⟩ dX5_add_30
set_option maxRecDepth 100000 in
set_option maxHeartbeats 4000000 in
theorem c_X5_sortOf {l : Launch} {g : Gx} (hg : ApG 123 g.ad) (σ : Mem) (c : Int32) : Ct l (OC g) 0 mX5_sortOf [.int c] σ (some (.int (srt c))) σ := by
  refine ct_of (lv := [some (.int c)]) (okC hg) (by decide +kernel) (Nat.le_of_ble_eq_true rfl) (fun ls h => lvh_entry h rfl 0) ?_
  intro κ hl hnL cx hR
  subst hl
  have cx : Cx κ (OC g) RX5 cX5_sortOf 0 := cx
  have hnL : κ.nL = 1 := hnL
  refine z_iload_n cx 0 dX5_sortOf_0 rfl rfl ?_
  refine z_bipush cx dX5_sortOf_1 bi_97 ?_
  refine z_icmp_lt (tgt := 14) cx dX5_sortOf_3 (by decide) (fun c_3 => ?_) (fun c_3 => ?_)
  · refine z_iload_n cx 0 dX5_sortOf_14 rfl rfl ?_
    refine z_bipush cx dX5_sortOf_15 bi_48 ?_
    refine z_icmp_lt (tgt := 30) cx dX5_sortOf_17 (by decide) (fun c_17 => ?_) (fun c_17 => ?_)
    · refine z_iconst cx dX5_sortOf_30 ic_0 ?_
      exact z_iret cx hR ⟨by simp [srt, -Int32.not_lt, c_3, c_17], rfl⟩ dX5_sortOf_31
    · refine z_iload_n cx 0 dX5_sortOf_20 rfl rfl ?_
      refine z_bipush cx dX5_sortOf_21 bi_57 ?_
      refine z_icmp_gt (tgt := 30) cx dX5_sortOf_23 (by decide) (fun c_23 => ?_) (fun c_23 => ?_)
      · refine z_iconst cx dX5_sortOf_30 ic_0 ?_
        exact z_iret cx hR ⟨by simp [srt, -Int32.not_lt, c_3, c_17, c_23], rfl⟩ dX5_sortOf_31
      · refine z_iconst cx dX5_sortOf_26 ic_2 ?_
        refine z_goto (tgt := 31) cx dX5_sortOf_27 (by decide) ?_
        exact z_iret cx hR ⟨by simp [srt, -Int32.not_lt, c_3, c_17, c_23], rfl⟩ dX5_sortOf_31
  · refine z_iload_n cx 0 dX5_sortOf_6 rfl rfl ?_
    refine z_bipush cx dX5_sortOf_7 bi_122 ?_
    refine z_icmp_gt (tgt := 14) cx dX5_sortOf_9 (by decide) (fun c_9 => ?_) (fun c_9 => ?_)
    · refine z_iload_n cx 0 dX5_sortOf_14 rfl rfl ?_
      refine z_bipush cx dX5_sortOf_15 bi_48 ?_
      refine z_icmp_lt (tgt := 30) cx dX5_sortOf_17 (by decide) (fun c_17 => ?_) (fun c_17 => ?_)
      · refine z_iconst cx dX5_sortOf_30 ic_0 ?_
        exact z_iret cx hR ⟨by simp [srt, -Int32.not_lt, c_3, c_9, c_17], rfl⟩ dX5_sortOf_31
      · refine z_iload_n cx 0 dX5_sortOf_20 rfl rfl ?_
        refine z_bipush cx dX5_sortOf_21 bi_57 ?_
        refine z_icmp_gt (tgt := 30) cx dX5_sortOf_23 (by decide) (fun c_23 => ?_) (fun c_23 => ?_)
        · refine z_iconst cx dX5_sortOf_30 ic_0 ?_
          exact z_iret cx hR ⟨by simp [srt, -Int32.not_lt, c_3, c_9, c_17, c_23], rfl⟩ dX5_sortOf_31
        · refine z_iconst cx dX5_sortOf_26 ic_2 ?_
          refine z_goto (tgt := 31) cx dX5_sortOf_27 (by decide) ?_
          exact z_iret cx hR ⟨by simp [srt, -Int32.not_lt, c_3, c_9, c_17, c_23], rfl⟩ dX5_sortOf_31
    · refine z_iconst cx dX5_sortOf_12 ic_1 ?_
      exact z_iret cx hR ⟨by simp [srt, -Int32.not_lt, c_3, c_9], rfl⟩ dX5_sortOf_13
set_option maxRecDepth 100000 in
set_option maxHeartbeats 4000000 in
theorem c_X5_readToken {l : Launch} {g : Gx} (hg : ApG 123 g.ad) (σ : Mem) {L p : Nat} (hL : L ≤ 160) (eL : σ 1 1 = nI L) (hp : p ≤ L) (eP : σ 1 7 = nI p) : CtV l (OC g) 1 mX5_readToken [.ref (g.ad 1)] σ (fun σ' => (σ' 1 6 = nI (tkB (σ 2) L p) ∧ σ' 1 7 = nI (tkE (σ 2) L (tkB (σ 2) L p))) ∧ OffT σ' σ) := by
  refine ct_of (lv := [some (.ref (g.ad 1)), none]) (okC hg) (by decide +kernel) (Nat.le_of_ble_eq_true rfl) (fun ls h => lvh_entry h rfl 1) ?_
  intro κ hl hnL cx hR
  subst hl
  have cx : Cx κ (OC g) RX5 cX5_readToken 1 := cx
  have hnL : κ.nL = 2 := hnL
  have hB := tkB_in (tx := σ 2) hp
  have hE := tkE_in (tx := σ 2) hB.2
  generalize hb : tkB (σ 2) L p = b at *
  have loop2 : ∀ (f x : Nat), x + f = L → b < x → srt (σ 2 b) ≠ 0 → exT (σ 2) L (srt (σ 2 b)) f x = tkE (σ 2) L b → ∀ τ : Mem, OffT τ σ → τ 1 6 = nI b → τ 1 7 = nI x → Z κ (OC g) τ 89 [some (.ref (g.ad 1)), some (.int (srt (σ 2 b)))] [] := by
    intro f
    induction f with
    | zero =>
      intro x h1 h2 h3 h4 τ hO e6 e7
      have eL9 : τ 1 1 = nI L := (hO.1 1 (by decide) (by decide)).trans eL
      refine z_iload_n cx 1 dX5_readToken_89 rfl rfl ?_
      refine z_if_eq (tgt := 133) cx dX5_readToken_90 (by decide) (fun c_90 => ?_) (fun c_90 => ?_)
      · exact absurd c_90 h3
      · refine z_aload_n cx 0 dX5_readToken_93 rfl rfl ?_
        refine gX5_37 cx dX5_readToken_94 ?_
        refine z_aload_n cx 0 dX5_readToken_97 rfl rfl ?_
        refine gX5_24 cx dX5_readToken_98 ?_
        rw [e7, eL9]
        refine z_icmp_ge (tgt := 133) cx dX5_readToken_101 (by decide) (fun c_101 => ?_) (fun c_101 => ?_)
        · exact z_vret cx hR ⟨rfl, ⟨e6, by rw [e7, ← h4, exT]⟩, hO⟩ dX5_readToken_133
        · exact absurd (by rw [show x = L by omega]; exact Int32.le_refl _) c_101
    | succ f ih =>
      intro x h1 h2 h3 h4 τ hO e6 e7
      have eL9 : τ 1 1 = nI L := (hO.1 1 (by decide) (by decide)).trans eL
      have e29 : τ 2 = σ 2 := hO.2 2 (by decide)
      refine z_iload_n cx 1 dX5_readToken_89 rfl rfl ?_
      refine z_if_eq (tgt := 133) cx dX5_readToken_90 (by decide) (fun c_90 => ?_) (fun c_90 => ?_)
      · exact absurd c_90 h3
      · refine z_aload_n cx 0 dX5_readToken_93 rfl rfl ?_
        refine gX5_37 cx dX5_readToken_94 ?_
        refine z_aload_n cx 0 dX5_readToken_97 rfl rfl ?_
        refine gX5_24 cx dX5_readToken_98 ?_
        rw [e7, eL9]
        refine z_icmp_ge (tgt := 133) cx dX5_readToken_101 (by decide) (fun c_101 => ?_) (fun c_101 => ?_)
        · exact absurd c_101 (nI_ge (by omega) (by omega))
        · refine z_aload_n cx 0 dX5_readToken_104 rfl rfl ?_
          refine gX5_9 cx dX5_readToken_105 ?_
          refine z_aload_n cx 0 dX5_readToken_108 rfl rfl ?_
          refine gX5_37 cx dX5_readToken_109 ?_
          refine g_ialdN cx x (by decide) (fun _ => rfl) e7 (by omega) (by decide) dX5_readToken_112 ?_
          rw [e29]
          refine z_S1i cx sX5_sortOf kX5_71 (c_X5_sortOf hg τ _) (by decide) (Nat.le_of_ble_eq_true rfl) dX5_readToken_113 ?_
          refine z_iload_n cx 1 dX5_readToken_116 rfl rfl ?_
          refine z_icmp_ne (tgt := 133) cx dX5_readToken_117 (by decide) (fun c_117 => ?_) (fun c_117 => ?_)
          · exact z_vret cx hR ⟨rfl, ⟨e6, by rw [e7, ← h4, exT, if_neg (fun z => c_117 z.2)]⟩, hO⟩ dX5_readToken_133
          · refine z_aload_n cx 0 dX5_readToken_120 rfl rfl ?_
            refine z_dup cx dX5_readToken_121 rfl ?_
            refine gX5_37 cx dX5_readToken_122 ?_
            refine z_iconst cx dX5_readToken_125 ic_1 ?_
            refine z_iadd cx dX5_readToken_126 ?_
            rw [show τ 1 7 + 1 = nI (x + 1) by rw [e7, nI_1]]
            refine pX5_37 cx dX5_readToken_127 ?_
            refine z_goto (tgt := 89) cx dX5_readToken_130 (by decide) ?_
            exact ih (x + 1) (by omega) (by omega) h3 (by rw [← h4, exT, if_pos ⟨by omega, c_117⟩]) _ ⟨fun k h8 h9 => by rw [up2_at, upd_ne _ _ h9]; exact hO.1 k h8 h9, fun q hq => by rw [up2_ne _ _ _ hq]; exact hO.2 q hq⟩ (by rw [up2_at, upd_ne _ _ (by decide)]; exact e6) rfl
  have loop1 : ∀ (f x : Nat), x + f = L → skp (σ 2) L f x = b → ∀ τ : Mem, OffT τ σ → τ 1 6 = nI x → Z κ (OC g) τ 8 [some (.ref (g.ad 1)), none] [] := by
    have tail : ∀ τ : Mem, OffT τ σ → τ 1 6 = nI b → Z κ (OC g) τ 46 [some (.ref (g.ad 1)), none] [] := by
      intro τ hO e6
      have eL9 : τ 1 1 = nI L := (hO.1 1 (by decide) (by decide)).trans eL
      have e29 : τ 2 = σ 2 := hO.2 2 (by decide)
      have hO1 : OffT (up2 τ 1 7 (τ 1 6)) σ := ⟨fun k h8 h9 => by rw [up2_at, upd_ne _ _ h9]; exact hO.1 k h8 h9, fun q hq => by rw [up2_ne _ _ _ hq]; exact hO.2 q hq⟩
      refine z_aload_n cx 0 dX5_readToken_46 rfl rfl ?_
      refine z_aload_n cx 0 dX5_readToken_47 rfl rfl ?_
      refine gX5_44 cx dX5_readToken_48 ?_
      refine pX5_37 cx dX5_readToken_51 ?_
      refine z_aload_n cx 0 dX5_readToken_54 rfl rfl ?_
      refine gX5_44 cx dX5_readToken_55 ?_
      refine z_aload_n cx 0 dX5_readToken_58 rfl rfl ?_
      refine gX5_24 cx dX5_readToken_59 ?_
      rw [show (up2 τ 1 7 (τ 1 6)) 1 6 = nI b from e6, show (up2 τ 1 7 (τ 1 6)) 1 1 = nI L from eL9]
      refine z_icmp_lt (tgt := 66) cx dX5_readToken_62 (by decide) (fun c_62 => ?_) (fun c_62 => ?_)
      · have c62 : b < L := (nI_ltI (by omega) (by omega)).mp c_62
        refine z_aload_n cx 0 dX5_readToken_66 rfl rfl ?_
        refine gX5_9 cx dX5_readToken_67 ?_
        refine z_aload_n cx 0 dX5_readToken_70 rfl rfl ?_
        refine gX5_44 cx dX5_readToken_71 ?_
        refine g_ialdN cx b (by decide) (fun _ => rfl) e6 (by omega) (by decide) dX5_readToken_74 ?_
        rw [show (up2 τ 1 7 (τ 1 6)) 2 b = σ 2 b from congrFun e29 b]
        refine z_S1i cx sX5_sortOf kX5_71 (c_X5_sortOf hg (up2 τ 1 7 (τ 1 6)) _) (by decide) (Nat.le_of_ble_eq_true rfl) dX5_readToken_75 ?_
        refine z_istore_n cx 1 dX5_readToken_78 rfl hnL (by decide) rfl ?_
        refine z_aload_n cx 0 dX5_readToken_79 rfl rfl ?_
        refine z_dup cx dX5_readToken_80 rfl ?_
        refine gX5_37 cx dX5_readToken_81 ?_
        refine z_iconst cx dX5_readToken_84 ic_1 ?_
        refine z_iadd cx dX5_readToken_85 ?_
        rw [show (up2 τ 1 7 (τ 1 6)) 1 7 + 1 = nI (b + 1) by rw [show (up2 τ 1 7 (τ 1 6)) 1 7 = τ 1 6 from rfl, e6, nI_1]]
        refine pX5_37 cx dX5_readToken_86 ?_
        have hO2 : OffT (up2 (up2 τ 1 7 (τ 1 6)) 1 7 (nI (b + 1))) σ := ⟨fun k h8 h9 => by rw [up2_at, upd_ne _ _ h9]; exact hO1.1 k h8 h9, fun q hq => by rw [up2_ne _ _ _ hq]; exact hO1.2 q hq⟩
        by_cases c0 : srt (σ 2 b) = 0
        · have e8 : tkE (σ 2) L b = b + 1 := by rw [tkE, if_pos c62, if_pos c0]
          rw [c0]
          refine z_iload_n cx 1 dX5_readToken_89 rfl rfl ?_
          refine z_if_eq (tgt := 133) cx dX5_readToken_90 (by decide) (fun _ => ?_) (fun z => absurd rfl z)
          exact z_vret cx hR ⟨rfl, ⟨e6, by rw [e8]; rfl⟩, hO2⟩ dX5_readToken_133
        · exact loop2 (L - (b + 1)) (b + 1) (by omega) (by omega) c0 (by rw [tkE, if_pos c62, if_neg c0]) _ hO2 e6 rfl
      · have c62 : b = L := by
          have : ¬ b < L := fun z => c_62 (nI_lt z (by omega))
          omega
        exact z_vret cx hR ⟨rfl, ⟨e6, show τ 1 6 = _ by rw [e6, tkE, if_neg (by omega)]⟩, hO1⟩ dX5_readToken_65
    intro f
    induction f with
    | zero =>
      intro x h1 h2 τ hO e6
      have eL9 : τ 1 1 = nI L := (hO.1 1 (by decide) (by decide)).trans eL
      refine z_aload_n cx 0 dX5_readToken_8 rfl rfl ?_
      refine gX5_44 cx dX5_readToken_9 ?_
      refine z_aload_n cx 0 dX5_readToken_12 rfl rfl ?_
      refine gX5_24 cx dX5_readToken_13 ?_
      rw [e6, eL9]
      refine z_icmp_ge (tgt := 46) cx dX5_readToken_16 (by decide) (fun c_16 => ?_) (fun c_16 => ?_)
      · exact tail τ hO (by rw [e6, ← h2, skp])
      · exact absurd (by rw [show x = L by omega]; exact Int32.le_refl _) c_16
    | succ f ih =>
      intro x h1 h2 τ hO e6
      have eL9 : τ 1 1 = nI L := (hO.1 1 (by decide) (by decide)).trans eL
      have e29 : τ 2 = σ 2 := hO.2 2 (by decide)
      refine z_aload_n cx 0 dX5_readToken_8 rfl rfl ?_
      refine gX5_44 cx dX5_readToken_9 ?_
      refine z_aload_n cx 0 dX5_readToken_12 rfl rfl ?_
      refine gX5_24 cx dX5_readToken_13 ?_
      rw [e6, eL9]
      refine z_icmp_ge (tgt := 46) cx dX5_readToken_16 (by decide) (fun c_16 => ?_) (fun c_16 => ?_)
      · exact absurd c_16 (nI_ge (by omega) (by omega))
      · refine z_aload_n cx 0 dX5_readToken_19 rfl rfl ?_
        refine gX5_9 cx dX5_readToken_20 ?_
        refine z_aload_n cx 0 dX5_readToken_23 rfl rfl ?_
        refine gX5_44 cx dX5_readToken_24 ?_
        refine g_ialdN cx x (by decide) (fun _ => rfl) e6 (by omega) (by decide) dX5_readToken_27 ?_
        rw [e29]
        refine z_bipush cx dX5_readToken_28 bi_32 ?_
        refine z_icmp_ne (tgt := 46) cx dX5_readToken_30 (by decide) (fun c_30 => ?_) (fun c_30 => ?_)
        · exact tail τ hO (by rw [e6, ← h2, skp, if_neg (fun z => c_30 z.2)])
        · refine z_aload_n cx 0 dX5_readToken_33 rfl rfl ?_
          refine z_dup cx dX5_readToken_34 rfl ?_
          refine gX5_44 cx dX5_readToken_35 ?_
          refine z_iconst cx dX5_readToken_38 ic_1 ?_
          refine z_iadd cx dX5_readToken_39 ?_
          rw [show τ 1 6 + 1 = nI (x + 1) by rw [e6, nI_1]]
          refine pX5_44 cx dX5_readToken_40 ?_
          refine z_goto (tgt := 8) cx dX5_readToken_43 (by decide) ?_
          exact ih (x + 1) (by omega) (by rw [← h2, skp, if_pos ⟨by omega, c_30⟩]) _ ⟨fun k h8 h9 => by rw [up2_at, upd_ne _ _ h8]; exact hO.1 k h8 h9, fun q hq => by rw [up2_ne _ _ _ hq]; exact hO.2 q hq⟩ rfl
  refine z_aload_n cx 0 dX5_readToken_0 rfl rfl ?_
  refine z_aload_n cx 0 dX5_readToken_1 rfl rfl ?_
  refine gX5_37 cx dX5_readToken_2 ?_
  refine pX5_44 cx dX5_readToken_5 ?_
  exact loop1 (L - p) p (by omega) (by rw [← hb, tkB]) _ ⟨fun k h8 h9 => by rw [up2_at, upd_ne _ _ h8], fun q hq => by rw [up2_ne _ _ _ hq]⟩ eP
set_option maxRecDepth 100000 in
set_option maxHeartbeats 4000000 in
theorem c_X5_hasRoomFor {l : Launch} {g : Gx} (hg : ApG 123 g.ad) (σ : Mem) {w E B : Nat} (hw : w ≤ 13) (hE : E < 2 ^ 31) (hB : B < 2 ^ 31) (eE : σ 1 8 = nI E) (eB : σ 1 9 = nI B) : Ct l (OC g) 1 mX5_hasRoomFor [.ref (g.ad 1), .int (nI w)] σ (some (.int (bI (rmF w E B)))) σ := by
  refine ct_of (lv := [some (.ref (g.ad 1)), some (.int (nI w))]) (okC hg) (by decide +kernel) (Nat.le_of_ble_eq_true rfl) (fun ls h => lvh_entry h rfl 0) ?_
  intro κ hl hnL cx hR
  subst hl
  have cx : Cx κ (OC g) RX5 cX5_hasRoomFor 1 := cx
  have hnL : κ.nL = 2 := hnL
  refine z_iload_n cx 1 dX5_hasRoomFor_0 rfl rfl ?_
  refine z_N1i cx sX7_isEveningWord cx.2.2.2.2.2.2.2.1.2.2.2.2.2.2.2.2.1 (c_X7_isEveningWord hg σ _) (by decide) (Nat.le_of_ble_eq_true rfl) dX5_hasRoomFor_1 ?_
  refine z_ifb_eq (tgt := 22) cx dX5_hasRoomFor_4 (by decide) (fun c_4 => ?_) (fun c_4 => ?_)
  · have c4 : ¬ (1 ≤ w ∧ w ≤ 3) := by rw [evW_nI hw] at c_4; simpa using c_4
    refine z_iload_n cx 1 dX5_hasRoomFor_22 rfl rfl ?_
    refine z_N1i cx sX7_isBidderWord cx.2.2.2.2.2.2.2.1.2.2.2.2.2.2.2.2.2.1 (c_X7_isBidderWord hg σ _) (by decide) (Nat.le_of_ble_eq_true rfl) dX5_hasRoomFor_23 ?_
    refine z_ifb_eq (tgt := 37) cx dX5_hasRoomFor_26 (by decide) (fun c_26 => ?_) (fun c_26 => ?_)
    · have c26 : ¬ (4 ≤ w ∧ w ≤ 7) := by rw [biW_nI hw] at c_26; simpa using c_26
      refine z_iconst cx dX5_hasRoomFor_37 ic_1 ?_
      refine z_goto (tgt := 42) cx dX5_hasRoomFor_38 (by decide) ?_
      exact z_zret cx hR rfl ⟨by rw [rmF, if_neg c4, if_neg c26]; rfl, rfl⟩ dX5_hasRoomFor_42
    · have c26 : (4 ≤ w ∧ w ≤ 7) := by rw [biW_nI hw] at c_26; simpa using c_26
      refine z_aload_n cx 0 dX5_hasRoomFor_29 rfl rfl ?_
      refine gX5_31 cx dX5_hasRoomFor_30 ?_
      refine z_iconst cx dX5_hasRoomFor_33 ic_5 ?_
      rw [eB]
      refine z_icmp_ge (tgt := 41) cx dX5_hasRoomFor_34 (by decide) (fun c_34 => ?_) (fun c_34 => ?_)
      · have c34 : 5 ≤ B := (nI_leI (a := 5) (by decide) hB).mp c_34
        refine z_iconst cx dX5_hasRoomFor_41 ic_0 ?_
        exact z_zret cx hR rfl ⟨by rw [rmF, if_neg c4, if_pos c26]; simp [bI, c34], rfl⟩ dX5_hasRoomFor_42
      · have c34 : B < 5 := Nat.not_le.mp (fun z => c_34 ((nI_leI (a := 5) (by decide) hB).mpr z))
        refine z_iconst cx dX5_hasRoomFor_37 ic_1 ?_
        refine z_goto (tgt := 42) cx dX5_hasRoomFor_38 (by decide) ?_
        exact z_zret cx hR rfl ⟨by rw [rmF, if_neg c4, if_pos c26]; simp [bI, c34], rfl⟩ dX5_hasRoomFor_42
  · have c4 : (1 ≤ w ∧ w ≤ 3) := by rw [evW_nI hw] at c_4; simpa using c_4
    refine z_aload_n cx 0 dX5_hasRoomFor_7 rfl rfl ?_
    refine gX5_28 cx dX5_hasRoomFor_8 ?_
    refine z_bipush cx dX5_hasRoomFor_11 bi_7 ?_
    rw [eE]
    refine z_icmp_ge (tgt := 20) cx dX5_hasRoomFor_13 (by decide) (fun c_13 => ?_) (fun c_13 => ?_)
    · have c13 : 7 ≤ E := (nI_leI (a := 7) (by decide) hE).mp c_13
      refine z_iconst cx dX5_hasRoomFor_20 ic_0 ?_
      exact z_zret cx hR rfl ⟨by rw [rmF, if_pos c4]; simp [bI, c13], rfl⟩ dX5_hasRoomFor_21
    · have c13 : E < 7 := Nat.not_le.mp (fun z => c_13 ((nI_leI (a := 7) (by decide) hE).mpr z))
      refine z_iconst cx dX5_hasRoomFor_16 ic_1 ?_
      refine z_goto (tgt := 21) cx dX5_hasRoomFor_17 (by decide) ?_
      exact z_zret cx hR rfl ⟨by rw [rmF, if_pos c4]; simp [bI, c13], rfl⟩ dX5_hasRoomFor_21
set_option maxRecDepth 100000 in
set_option maxHeartbeats 4000000 in
theorem c_X5_numbersBehind {l : Launch} {g : Gx} (hg : ApG 123 g.ad) (σ : Mem) {w : Nat} (hw : w < 13) : Ct l (OC g) 1 mX5_numbersBehind [.int (nI w)] σ (some (.int (nI (nbh w)))) σ := by
  refine ct_of (lv := [some (.int (nI w))]) (okC hg) (by decide +kernel) (Nat.le_of_ble_eq_true rfl) (fun ls h => lvh_entry h rfl 0) ?_
  intro κ hl hnL cx hR
  subst hl
  have cx : Cx κ (OC g) RX5 cX5_numbersBehind 1 := cx
  have hnL : κ.nL = 1 := hnL
  refine z_iload_n cx 0 dX5_numbersBehind_0 rfl rfl ?_
  refine z_N1i cx sX7_isBidderWord cx.2.2.2.2.2.2.2.1.2.2.2.2.2.2.2.2.2.1 (c_X7_isBidderWord hg σ _) (by decide) (Nat.le_of_ble_eq_true rfl) dX5_numbersBehind_1 ?_
  refine z_ifb_eq (tgt := 9) cx dX5_numbersBehind_4 (by decide) (fun c_4 => ?_) (fun c_4 => ?_)
  · have c4 : ¬ (4 ≤ w ∧ w ≤ 7) := by rw [biW_nI (Nat.le_of_lt hw)] at c_4; simpa using c_4
    refine z_iload_n cx 0 dX5_numbersBehind_9 rfl rfl ?_
    refine z_N1i cx sX7_isEveningWord cx.2.2.2.2.2.2.2.1.2.2.2.2.2.2.2.2.1 (c_X7_isEveningWord hg σ _) (by decide) (Nat.le_of_ble_eq_true rfl) dX5_numbersBehind_10 ?_
    refine z_ifb_ne (tgt := 28) cx dX5_numbersBehind_13 (by decide) (fun c_13 => ?_) (fun c_13 => ?_)
    · have c13 : (1 ≤ w ∧ w ≤ 3) := by rw [evW_nI (Nat.le_of_lt hw)] at c_13; simpa using c_13
      refine z_iconst cx dX5_numbersBehind_28 ic_1 ?_
      refine z_goto (tgt := 33) cx dX5_numbersBehind_29 (by decide) ?_
      exact z_iret cx hR ⟨by rw [nbh, if_neg c4, if_pos (by omega)]; rfl, rfl⟩ dX5_numbersBehind_33
    · have c13 : ¬ (1 ≤ w ∧ w ≤ 3) := by rw [evW_nI (Nat.le_of_lt hw)] at c_13; simpa using c_13
      refine z_iload_n cx 0 dX5_numbersBehind_16 rfl rfl ?_
      refine z_bipush cx dX5_numbersBehind_17 bi_10 ?_
      refine z_icmp_eq (tgt := 28) cx dX5_numbersBehind_19 (by decide) (fun c_19 => ?_) (fun c_19 => ?_)
      · have c19 : w = 10 := (nI_eq (b := 10) (by omega) (by decide)).mp c_19
        refine z_iconst cx dX5_numbersBehind_28 ic_1 ?_
        refine z_goto (tgt := 33) cx dX5_numbersBehind_29 (by decide) ?_
        exact z_iret cx hR ⟨by rw [nbh, if_neg c4, if_pos (by omega)]; rfl, rfl⟩ dX5_numbersBehind_33
      · have c19 : ¬ w = 10 := fun z => c_19 (by rw [z]; rfl)
        refine z_iload_n cx 0 dX5_numbersBehind_22 rfl rfl ?_
        refine z_bipush cx dX5_numbersBehind_23 bi_11 ?_
        refine z_icmp_ne (tgt := 32) cx dX5_numbersBehind_25 (by decide) (fun c_25 => ?_) (fun c_25 => ?_)
        · have c25 : ¬ w = 11 := fun z => c_25 (by rw [z]; rfl)
          refine z_iconst cx dX5_numbersBehind_32 ic_0 ?_
          exact z_iret cx hR ⟨by rw [nbh, if_neg c4, if_neg (by omega)]; rfl, rfl⟩ dX5_numbersBehind_33
        · have c25 : w = 11 := (nI_eq (b := 11) (by omega) (by decide)).mp c_25
          refine z_iconst cx dX5_numbersBehind_28 ic_1 ?_
          refine z_goto (tgt := 33) cx dX5_numbersBehind_29 (by decide) ?_
          exact z_iret cx hR ⟨by rw [nbh, if_neg c4, if_pos (by omega)]; rfl, rfl⟩ dX5_numbersBehind_33
  · have c4 : (4 ≤ w ∧ w ≤ 7) := by rw [biW_nI (Nat.le_of_lt hw)] at c_4; simpa using c_4
    refine z_iconst cx dX5_numbersBehind_7 ic_2 ?_
    exact z_iret cx hR ⟨by rw [nbh, if_pos c4]; rfl, rfl⟩ dX5_numbersBehind_8
set_option maxRecDepth 100000 in
set_option maxHeartbeats 4000000 in
theorem c_X5_topBehind {l : Launch} {g : Gx} (hg : ApG 123 g.ad) (σ : Mem) {w : Nat} (hw : w < 13) : Ct l (OC g) 1 mX5_topBehind [.int (nI w)] σ (some (.int (nI (tpb w)))) σ := by
  refine ct_of (lv := [some (.int (nI w))]) (okC hg) (by decide +kernel) (Nat.le_of_ble_eq_true rfl) (fun ls h => lvh_entry h rfl 0) ?_
  intro κ hl hnL cx hR
  subst hl
  have cx : Cx κ (OC g) RX5 cX5_topBehind 1 := cx
  have hnL : κ.nL = 1 := hnL
  refine z_iload_n cx 0 dX5_topBehind_0 rfl rfl ?_
  refine z_N1i cx sX7_isEveningWord cx.2.2.2.2.2.2.2.1.2.2.2.2.2.2.2.2.1 (c_X7_isEveningWord hg σ _) (by decide) (Nat.le_of_ble_eq_true rfl) dX5_topBehind_1 ?_
  refine z_ifb_ne (tgt := 13) cx dX5_topBehind_4 (by decide) (fun c_4 => ?_) (fun c_4 => ?_)
  · have c4 : (1 ≤ w ∧ w ≤ 3) := by rw [evW_nI (Nat.le_of_lt hw)] at c_4; simpa using c_4
    refine z_bipush cx dX5_topBehind_13 bi_10 ?_
    refine z_goto (tgt := 20) cx dX5_topBehind_15 (by decide) ?_
    exact z_iret cx hR ⟨by rw [tpb, if_pos (by omega)]; rfl, rfl⟩ dX5_topBehind_20
  · have c4 : ¬ (1 ≤ w ∧ w ≤ 3) := by rw [evW_nI (Nat.le_of_lt hw)] at c_4; simpa using c_4
    refine z_iload_n cx 0 dX5_topBehind_7 rfl rfl ?_
    refine z_bipush cx dX5_topBehind_8 bi_11 ?_
    refine z_icmp_ne (tgt := 18) cx dX5_topBehind_10 (by decide) (fun c_10 => ?_) (fun c_10 => ?_)
    · have c10 : ¬ w = 11 := fun z => c_10 (by rw [z]; rfl)
      refine z_bipush cx dX5_topBehind_18 bi_99 ?_
      exact z_iret cx hR ⟨by rw [tpb, if_neg (by omega)]; rfl, rfl⟩ dX5_topBehind_20
    · have c10 : w = 11 := (nI_eq (b := 11) (by omega) (by decide)).mp c_10
      refine z_bipush cx dX5_topBehind_13 bi_10 ?_
      refine z_goto (tgt := 20) cx dX5_topBehind_15 (by decide) ?_
      exact z_iret cx hR ⟨by rw [tpb, if_pos (by omega)]; rfl, rfl⟩ dX5_topBehind_20
set_option maxRecDepth 100000 in
set_option maxHeartbeats 4000000 in
theorem c_X5_countAlong {l : Launch} {g : Gx} (hg : ApG 123 g.ad) (σ : Mem) {w E B : Nat} (hw : w < 13) (eE : σ 1 8 = nI E) (eB : σ 1 9 = nI B) : CtV l (OC g) 1 mX5_countAlong [.ref (g.ad 1), .int (nI w)] σ (fun σ' => (σ' 1 8 = nI (alE w E) ∧ σ' 1 9 = nI (alB w B)) ∧ (∀ k, k ≠ 8 → k ≠ 9 → σ' 1 k = σ 1 k) ∧ ∀ q, q ≠ 1 → σ' q = σ q) := by
  refine ct_of (lv := [some (.ref (g.ad 1)), some (.int (nI w))]) (okC hg) (by decide +kernel) (Nat.le_of_ble_eq_true rfl) (fun ls h => lvh_entry h rfl 0) ?_
  intro κ hl hnL cx hR
  subst hl
  have cx : Cx κ (OC g) RX5 cX5_countAlong 1 := cx
  have hnL : κ.nL = 2 := hnL
  refine z_iload_n cx 1 dX5_countAlong_0 rfl rfl ?_
  refine z_N1i cx sX7_isEveningWord cx.2.2.2.2.2.2.2.1.2.2.2.2.2.2.2.2.1 (c_X7_isEveningWord hg σ _) (by decide) (Nat.le_of_ble_eq_true rfl) dX5_countAlong_1 ?_
  refine z_ifb_eq (tgt := 20) cx dX5_countAlong_4 (by decide) (fun c_4 => ?_) (fun c_4 => ?_)
  · have c4 : ¬ (1 ≤ w ∧ w ≤ 3) := by rw [evW_nI (Nat.le_of_lt hw)] at c_4; simpa using c_4
    refine z_iload_n cx 1 dX5_countAlong_20 rfl rfl ?_
    refine z_N1i cx sX7_isBidderWord cx.2.2.2.2.2.2.2.1.2.2.2.2.2.2.2.2.2.1 (c_X7_isBidderWord hg σ _) (by decide) (Nat.le_of_ble_eq_true rfl) dX5_countAlong_21 ?_
    refine z_ifb_eq (tgt := 40) cx dX5_countAlong_24 (by decide) (fun c_24 => ?_) (fun c_24 => ?_)
    · have c24 : ¬ (4 ≤ w ∧ w ≤ 7) := by rw [biW_nI (Nat.le_of_lt hw)] at c_24; simpa using c_24
      refine z_iload_n cx 1 dX5_countAlong_40 rfl rfl ?_
      refine z_bipush cx dX5_countAlong_41 bi_12 ?_
      refine z_icmp_ne (tgt := 54) cx dX5_countAlong_43 (by decide) (fun c_43 => ?_) (fun c_43 => ?_)
      · have c43 : ¬ w = 12 := fun z => c_43 (by rw [z]; rfl)
        refine z_iload_n cx 1 dX5_countAlong_54 rfl rfl ?_
        refine z_if_ne (tgt := 68) cx dX5_countAlong_55 (by decide) (fun c_55 => ?_) (fun c_55 => ?_)
        · have c55 : ¬ w = 0 := fun z => c_55 (by rw [z]; rfl)
          exact z_vret cx hR ⟨rfl, ⟨show σ 1 8 = _ by rw [eE, alE, if_neg (by omega), if_neg (by omega)], show σ 1 9 = _ by rw [eB, alB, if_neg (by omega), if_neg (by omega)]⟩, fun _ _ _ => rfl, fun _ _ => rfl⟩ dX5_countAlong_68
        · have c55 : w = 0 := (nI_eq (b := 0) (by omega) (by decide)).mp c_55
          refine z_aload_n cx 0 dX5_countAlong_58 rfl rfl ?_
          refine z_iconst cx dX5_countAlong_59 ic_0 ?_
          refine pX5_28 cx dX5_countAlong_60 ?_
          refine z_aload_n cx 0 dX5_countAlong_63 rfl rfl ?_
          refine z_iconst cx dX5_countAlong_64 ic_0 ?_
          refine pX5_31 cx dX5_countAlong_65 ?_
          exact z_vret cx hR ⟨rfl, ⟨show (0 : Int32) = _ by rw [alE, if_neg (by omega), if_pos (by omega)]; rfl, show (0 : Int32) = _ by rw [alB, if_neg (by omega), if_pos (by omega)]; rfl⟩, fun k h8 h9 => by rw [up2_at, upd_ne _ _ h9, up2_at, upd_ne _ _ h8], fun q hq => by rw [up2_ne _ _ _ hq, up2_ne _ _ _ hq]⟩ dX5_countAlong_68
      · have c43 : w = 12 := (nI_eq (b := 12) (by omega) (by decide)).mp c_43
        refine z_aload_n cx 0 dX5_countAlong_46 rfl rfl ?_
        refine z_iconst cx dX5_countAlong_47 ic_0 ?_
        refine pX5_28 cx dX5_countAlong_48 ?_
        refine z_goto (tgt := 68) cx dX5_countAlong_51 (by decide) ?_
        exact z_vret cx hR ⟨rfl, ⟨show (0 : Int32) = _ by rw [alE, if_neg (by omega), if_pos (by omega)]; rfl, show σ 1 9 = _ by rw [eB, alB, if_neg (by omega), if_neg (by omega)]⟩, fun k h8 h9 => by rw [up2_at, upd_ne _ _ (by first | exact h8 | exact h9)], fun q hq => by rw [up2_ne _ _ _ hq]⟩ dX5_countAlong_68
    · have c24 : (4 ≤ w ∧ w ≤ 7) := by rw [biW_nI (Nat.le_of_lt hw)] at c_24; simpa using c_24
      refine z_aload_n cx 0 dX5_countAlong_27 rfl rfl ?_
      refine z_dup cx dX5_countAlong_28 rfl ?_
      refine gX5_31 cx dX5_countAlong_29 ?_
      refine z_iconst cx dX5_countAlong_32 ic_1 ?_
      refine z_iadd cx dX5_countAlong_33 ?_
      refine pX5_31 cx dX5_countAlong_34 ?_
      refine z_goto (tgt := 68) cx dX5_countAlong_37 (by decide) ?_
      exact z_vret cx hR ⟨rfl, ⟨show σ 1 8 = _ by rw [eE, alE, if_neg (by omega), if_neg (by omega)], show σ 1 9 + 1 = _ by rw [eB, nI_1, alB, if_pos c24]⟩, fun k h8 h9 => by rw [up2_at, upd_ne _ _ (by first | exact h8 | exact h9)], fun q hq => by rw [up2_ne _ _ _ hq]⟩ dX5_countAlong_68
  · have c4 : (1 ≤ w ∧ w ≤ 3) := by rw [evW_nI (Nat.le_of_lt hw)] at c_4; simpa using c_4
    refine z_aload_n cx 0 dX5_countAlong_7 rfl rfl ?_
    refine z_dup cx dX5_countAlong_8 rfl ?_
    refine gX5_28 cx dX5_countAlong_9 ?_
    refine z_iconst cx dX5_countAlong_12 ic_1 ?_
    refine z_iadd cx dX5_countAlong_13 ?_
    refine pX5_28 cx dX5_countAlong_14 ?_
    refine z_goto (tgt := 68) cx dX5_countAlong_17 (by decide) ?_
    exact z_vret cx hR ⟨rfl, ⟨show σ 1 8 + 1 = _ by rw [eE, nI_1, alE, if_pos c4], show σ 1 9 = _ by rw [eB, alB, if_neg (by omega), if_neg (by omega)]⟩, fun k h8 h9 => by rw [up2_at, upd_ne _ _ (by first | exact h8 | exact h9)], fun q hq => by rw [up2_ne _ _ _ hq]⟩ dX5_countAlong_68
set_option maxRecDepth 100000 in
set_option maxHeartbeats 4000000 in
theorem c_X5_numberUpTo {l : Launch} {g : Gx} (hg : ApG 123 g.ad) (σ : Mem) {b e : Nat} (hT : TkH σ b e) (top : Int32) : Ct l (OC g) 1 mX5_numberUpTo [.ref (g.ad 1), .int top] σ (some (.int (nmT (σ 2) b e top))) σ := by
  refine ct_of (lv := [some (.ref (g.ad 1)), some (.int top), none, none]) (okC hg) (by decide +kernel) (Nat.le_of_ble_eq_true rfl) (fun ls h => lvh_entry h rfl 2) ?_
  intro κ hl hnL cx hR
  subst hl
  have cx : Cx κ (OC g) RX5 cX5_numberUpTo 1 := cx
  have hnL : κ.nL = 4 := hnL
  obtain ⟨hbe, he, eB, eE⟩ := hT
  refine z_aload_n cx 0 dX5_numberUpTo_0 rfl rfl ?_
  refine gX5_37 cx dX5_numberUpTo_1 ?_
  refine z_aload_n cx 0 dX5_numberUpTo_4 rfl rfl ?_
  refine gX5_44 cx dX5_numberUpTo_5 ?_
  refine z_isub cx dX5_numberUpTo_8 ?_
  rw [show σ 1 7 - σ 1 6 = nI (e - b) by rw [eB, eE]; exact pk_sub hbe]
  refine z_istore_n cx 2 dX5_numberUpTo_9 rfl hnL (by decide) rfl ?_
  refine z_iload_n cx 2 dX5_numberUpTo_10 rfl rfl ?_
  refine z_iconst cx dX5_numberUpTo_11 ic_1 ?_
  refine z_icmp_lt (tgt := 36) cx dX5_numberUpTo_12 (by decide) (fun c_12 => ?_) (fun c_12 => ?_)
  · have c12 : e - b < 1 := (nI_ltI (b := 1) (by omega) (by decide)).mp c_12
    refine z_iconst cx dX5_numberUpTo_36 ic_m1 ?_
    exact z_iret cx hR ⟨by rw [nmT, if_pos (Or.inl c12)], rfl⟩ dX5_numberUpTo_37
  · have c12 : ¬ e - b < 1 := fun z => c_12 ((nI_ltI (b := 1) (by omega) (by decide)).mpr z)
    refine z_iload_n cx 2 dX5_numberUpTo_15 rfl rfl ?_
    refine z_iconst cx dX5_numberUpTo_16 ic_2 ?_
    refine z_icmp_gt (tgt := 36) cx dX5_numberUpTo_17 (by decide) (fun c_17 => ?_) (fun c_17 => ?_)
    · have c17 : 2 < e - b := (nI_ltI (a := 2) (by decide) (by omega)).mp c_17
      refine z_iconst cx dX5_numberUpTo_36 ic_m1 ?_
      exact z_iret cx hR ⟨by rw [nmT, if_pos (Or.inr (Or.inl c17))], rfl⟩ dX5_numberUpTo_37
    · have c17 : ¬ 2 < e - b := fun z => c_17 ((nI_ltI (a := 2) (by decide) (by omega)).mpr z)
      refine z_aload_n cx 0 dX5_numberUpTo_20 rfl rfl ?_
      refine gX5_9 cx dX5_numberUpTo_21 ?_
      refine z_aload_n cx 0 dX5_numberUpTo_24 rfl rfl ?_
      refine gX5_44 cx dX5_numberUpTo_25 ?_
      refine g_ialdN cx b (by decide) (fun _ => rfl) eB (by omega) (by decide) dX5_numberUpTo_28 ?_
      refine z_S1i cx sX5_sortOf kX5_71 (c_X5_sortOf hg σ _) (by decide) (Nat.le_of_ble_eq_true rfl) dX5_numberUpTo_29 ?_
      refine z_iconst cx dX5_numberUpTo_32 ic_2 ?_
      refine z_icmp_eq (tgt := 38) cx dX5_numberUpTo_33 (by decide) (fun c_33 => ?_) (fun c_33 => ?_)
      · refine z_aload_n cx 0 dX5_numberUpTo_38 rfl rfl ?_
        refine gX5_9 cx dX5_numberUpTo_39 ?_
        refine z_aload_n cx 0 dX5_numberUpTo_42 rfl rfl ?_
        refine gX5_44 cx dX5_numberUpTo_43 ?_
        refine g_ialdN cx b (by decide) (fun _ => rfl) eB (by omega) (by decide) dX5_numberUpTo_46 ?_
        refine z_bipush cx dX5_numberUpTo_47 bi_48 ?_
        refine z_isub cx dX5_numberUpTo_49 ?_
        refine z_istore_n cx 3 dX5_numberUpTo_50 rfl hnL (by decide) rfl ?_
        refine z_iload_n cx 2 dX5_numberUpTo_51 rfl rfl ?_
        refine z_iconst cx dX5_numberUpTo_52 ic_2 ?_
        refine z_icmp_ne (tgt := 76) cx dX5_numberUpTo_53 (by decide) (fun c_53 => ?_) (fun c_53 => ?_)
        · have c53 : ¬ e - b = 2 := fun z => c_53 (by rw [z]; rfl)
          refine z_iload_n cx 3 dX5_numberUpTo_76 rfl rfl ?_
          refine z_iload_n cx 1 dX5_numberUpTo_77 rfl rfl ?_
          refine z_icmp_gt (tgt := 85) cx dX5_numberUpTo_78 (by decide) (fun c_78 => ?_) (fun c_78 => ?_)
          · refine z_iconst cx dX5_numberUpTo_85 ic_m1 ?_
            exact z_iret cx hR ⟨by rw [nmT, if_neg (by rintro (z | z | z); exact c12 z; exact c17 z; exact z c_33), if_neg c53, if_pos c_78], rfl⟩ dX5_numberUpTo_86
          · refine z_iload_n cx 3 dX5_numberUpTo_81 rfl rfl ?_
            refine z_goto (tgt := 86) cx dX5_numberUpTo_82 (by decide) ?_
            exact z_iret cx hR ⟨by rw [nmT, if_neg (by rintro (z | z | z); exact c12 z; exact c17 z; exact z c_33), if_neg c53, if_neg c_78], rfl⟩ dX5_numberUpTo_86
        · have c53 : e - b = 2 := (nI_eq (b := 2) (by omega) (by decide)).mp c_53
          refine z_bipush cx dX5_numberUpTo_56 bi_10 ?_
          refine z_iload_n cx 3 dX5_numberUpTo_58 rfl rfl ?_
          refine z_imul cx dX5_numberUpTo_59 ?_
          refine z_aload_n cx 0 dX5_numberUpTo_60 rfl rfl ?_
          refine gX5_9 cx dX5_numberUpTo_61 ?_
          refine z_aload_n cx 0 dX5_numberUpTo_64 rfl rfl ?_
          refine gX5_44 cx dX5_numberUpTo_65 ?_
          refine z_iconst cx dX5_numberUpTo_68 ic_1 ?_
          refine z_iadd cx dX5_numberUpTo_69 ?_
          refine g_ialdN cx (b + 1) (by decide) (fun _ => rfl) (by rw [eB, nI_1]) (by omega) (by decide) dX5_numberUpTo_70 ?_
          refine z_iadd cx dX5_numberUpTo_71 ?_
          refine z_bipush cx dX5_numberUpTo_72 bi_48 ?_
          refine z_isub cx dX5_numberUpTo_74 ?_
          refine z_istore_n cx 3 dX5_numberUpTo_75 rfl hnL (by decide) rfl ?_
          refine z_iload_n cx 3 dX5_numberUpTo_76 rfl rfl ?_
          refine z_iload_n cx 1 dX5_numberUpTo_77 rfl rfl ?_
          refine z_icmp_gt (tgt := 85) cx dX5_numberUpTo_78 (by decide) (fun c_78 => ?_) (fun c_78 => ?_)
          · refine z_iconst cx dX5_numberUpTo_85 ic_m1 ?_
            exact z_iret cx hR ⟨by rw [nmT, if_neg (by rintro (z | z | z); exact c12 z; exact c17 z; exact z c_33), if_pos c53, if_pos c_78], rfl⟩ dX5_numberUpTo_86
          · refine z_iload_n cx 3 dX5_numberUpTo_81 rfl rfl ?_
            refine z_goto (tgt := 86) cx dX5_numberUpTo_82 (by decide) ?_
            exact z_iret cx hR ⟨by rw [nmT, if_neg (by rintro (z | z | z); exact c12 z; exact c17 z; exact z c_33), if_pos c53, if_neg c_78], rfl⟩ dX5_numberUpTo_86
      · refine z_iconst cx dX5_numberUpTo_36 ic_m1 ?_
        exact z_iret cx hR ⟨by rw [nmT, if_pos (Or.inr (Or.inr c_33))], rfl⟩ dX5_numberUpTo_37
