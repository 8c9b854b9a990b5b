section PURE
variable {σ μ : Mem} {E B t L n x s : Nat}
theorem m1_lt {r : Nat} (h : r < 2 ^ 31) : (-1 : Int32) < nI r := by
  rw [Int32.lt_iff_toInt_lt, nI_toInt h]
  exact Int.lt_of_lt_of_le (by decide) (Int.natCast_nonneg r)
theorem nI_sub9 {a p : Nat} (h : p ≤ a) : nI a - nI p = nI (a - p) := by
  have e1 : nI a = nI (a - p) + nI p := by rw [nI_add]; congr 1; omega
  rw [e1, Int32.add_sub_cancel]
theorem ow_ext (rs : Int32) (bd : Nat → Int32) (n : Nat) : ∀ m, (∀ b, n ≤ b → b < n + m → bd b < rs) → ow rs bd (n + m) = ow rs bd n
  | 0, _ => rfl
  | m + 1, h => by
    rw [← Nat.add_assoc, ow, if_pos (h (n + m) (by omega) (by omega))]
    exact ow_ext rs bd n m (fun b h1 h2 => h b h1 (by omega))
theorem pm_ge (rs : Int32) (bd : Nat → Int32) (who : Nat) : ∀ n, rs ≤ pm rs bd who n
  | 0 => Int32.le_refl _
  | n + 1 => by
    have ih := pm_ge rs bd who n
    rw [pm]
    split
    · exact ih
    · split
      · rename_i h; exact Int32.le_trans ih (Int32.le_of_lt h)
      · exact ih
theorem pm_ext (rs : Int32) (bd : Nat → Int32) (who n : Nat) : ∀ m, (∀ b, n ≤ b → b < n + m → bd b < rs) → pm rs bd who (n + m) = pm rs bd who n
  | 0, _ => rfl
  | m + 1, h => by
    have h1 := h (n + m) (by omega) (by omega)
    have ih := pm_ext rs bd who n m (fun b h1 h2 => h b h1 (by omega))
    rw [← Nat.add_assoc, pm, ih]
    split
    · rfl
    · rw [if_neg (Int32.not_lt.mpr (Int32.le_trans (Int32.le_of_lt h1) (pm_ge rs bd who n)))]
theorem ow_no {rs : Int32} {bd : Nat → Int32} {j : Nat} (hj : bd j < rs) : ∀ {n : Nat}, n < 2 ^ 31 → j < 2 ^ 31 → ¬ ow rs bd n = nI j
  | 0, _, h2, e => nI_nm1_big h2 e.symm
  | n + 1, h1, h2, e => by
    have ih := ow_no hj (n := n) (by omega) h2
    rw [ow] at e
    split at e
    · exact ih e
    · rename_i hn
      have hne : ¬ nI n = nI j := fun z => hn (by rw [(nI_eq (by omega) h2).mp z]; exact hj)
      split at e
      · exact hne e
      · split at e
        · exact ih e
        · exact hne e
theorem ow_lt {rs : Int32} {bd : Nat → Int32} {n : Nat} (h : ¬ ow rs bd n = -1) : ∃ j, j < n ∧ ow rs bd n = nI j := (ow_rng rs bd n).resolve_left h
/-- the bids of those who aren't there are none -/
def NoB (bd : Nat → Int32) (B : Nat) : Prop := ∀ b, B ≤ b → b < 5 → bd b = -1
theorem IV.noB (h : IV σ μ E B t L n x s) : NoB (σ 15) B := fun b h1 h2 => (h.cok.no b h1 h2).2
theorem NoB.upd {bd : Nat → Int32} (h : NoB bd B) {j : Nat} (hj : j < B) (v : Int32) : NoB (upd bd j v) B := fun b h1 h2 => by rw [upd_ne _ _ (by omega)]; exact h b h1 h2
theorem IV.rs1 (h : IV σ μ E B t L n x s) : (-1 : Int32) < σ 6 1 := by
  obtain ⟨r, hr, er⟩ := h.tok.rs
  rw [er]; exact m1_lt (by omega)
theorem IV.ow5 (h : IV σ μ E B t L n x s) {bd : Nat → Int32} (hb : NoB bd B) : ow (μ 1 4) bd 5 = ow (σ 6 1) bd B := by
  have hB := h.tok.b.1
  rw [h.tol.rs]
  have e1 := ow_ext (σ 6 1) bd B (5 - B) (fun b h1 h2 => by rw [hb b h1 (by omega)]; exact h.rs1)
  rw [show B + (5 - B) = 5 by omega] at e1
  exact e1
theorem IV.pay5 (h : IV σ μ E B t L n x s) {bd : Nat → Int32} (hb : NoB bd B) (ru : Int32) (w : Nat) : pay ru (μ 1 4) bd w 5 = pay ru (σ 6 1) bd w B := by
  have hB := h.tok.b.1
  rw [h.tol.rs]
  have e1 := pm_ext (σ 6 1) bd w B (5 - B) (fun b h1 h2 => by rw [hb b h1 (by omega)]; exact h.rs1)
  rw [show B + (5 - B) = 5 by omega] at e1
  simp only [pay, e1]
theorem IV.eW (h : IV σ μ E B t L n x s) : saW μ B = slW σ B := by
  unfold saW slW
  rw [ow_congr (μ 1 4) (n := 5) (by decide) (fun b hb => h.bd hb)]
  exact h.ow5 h.noB
theorem IV.eP (h : IV σ μ E B t L n x s) (ru : Int32) {w : Nat} (hw : w < 5) : pay ru (μ 1 4) (tbF μ B) w 5 = pay ru (σ 6 1) (σ 15) w B := by
  rw [pay_congr ru (μ 1 4) (bd2 := σ 15) (h.bd hw) (fun b hb => h.bd hb)]
  exact h.pay5 h.noB ru w
theorem IV.hs (h : IV σ μ E B t L n x s) (ht : t < E) {bd : Nat → Int32} (hb : NoB bd B) {j : Nat} (hj : j < B) : hsM μ t bd j = hsG (σ 6 0) (σ 6 1) (σ 6 2) (σ 9) (σ 10) (σ 8 t) (σ 7 t) bd B j := by
  unfold hsM hsG
  rw [h.ow5 hb, h.pay5 hb, h.tol.ru, h.tol.rf, (h.tol.ev t ht).1, (h.tol.ev t ht).2]
  rw [show mBk μ j = σ 9 j from (h.tol.bi j hj).1, show mWo μ j = σ 10 j from (h.tol.bi j hj).2.1]
theorem uP_dP (gf : Int32 → Int32) : ∀ n, uP gf (n + 1) = dP gf n
  | 0 => by simp only [uP, dP]; split <;> rfl
  | n + 1 => by rw [uP, uP_dP gf n, dP]
theorem uP_congr {gf gf2 : Int32 → Int32} (h : ∀ p, gf p = gf2 p) (n : Nat) : uP gf n = uP gf2 n := by rw [show gf = gf2 from funext h]
theorem op_limit (h : IV σ μ E B t L n x s) (b : Int32) : liA σ t b = liM μ t b := by
  unfold liA liM nit
  rw [(h.inB b).1, (h.inB b).2, h.nit.1, h.nit.2]
  have hB := h.tok.b.1
  by_cases q : inR b (nI B) = false
  · rw [if_pos q, if_pos q]
  · rw [if_neg q, if_neg q]
    by_cases q2 : decide (t < E) = false
    · rw [if_pos q2, if_pos q2]
    · rw [if_neg q2, if_neg q2]
      have ht : t < E := of_decide_eq_true (by simpa using q2)
      obtain ⟨j, hj, rfl⟩ := inR_of (x := b) (n := B) (by simpa using q) (by omega)
      rw [toN_nI (by omega), uP_dP, (h.cor.bi j hj).1]
      rw [show (fun p => gnM μ j t p) = (fun pr => gn (σ 9 j) (σ 10 j) (σ 8 t) (σ 7 t) (σ 6 2) pr) from funext fun p => h.gn hj ht p]
theorem op_has (h : IV σ μ E B t L n x s) (b : Int32) : haA σ B t b = haM μ B t b := by
  unfold haA haM nit
  rw [(h.inB b).1, (h.inB b).2, h.nit.1, h.nit.2]
  have hB := h.tok.b.1
  by_cases q : inR b (nI B) = false
  · rw [if_pos q, if_pos q]
  · rw [if_neg q, if_neg q]
    by_cases q2 : decide (t < E) = false
    · rw [if_pos q2, if_pos q2]
    · rw [if_neg q2, if_neg q2]
      have ht : t < E := of_decide_eq_true (by simpa using q2)
      obtain ⟨j, hj, rfl⟩ := inR_of (x := b) (n := B) (by simpa using q) (by omega)
      rw [toN_nI (by omega), hsM_congr μ t (bd2 := σ 15) (by omega) (fun b hb => h.bd hb), h.hs ht h.noB hj, Int32.add_comm]
theorem rpN_rpG {G G2 : Nat → Int32} {x0 : Int32} (h0 : x0 = 0) (h : ∀ k, G k = G2 k) : ∀ n, rpN G x0 n = rpG G2 n
  | 0 => by rw [rpN, rpG, h0]
  | n + 1 => by rw [rpN, rpG, rpN_rpG h0 h n, h n]
theorem IV.rp (h : IV σ μ E B t L n x s) (ht : t < E) {j : Nat} (hj : j < B) (pu : Nat) : rpR μ B t j pu = rpG (rpF σ B t j) (tpN pu + 1) := by
  have hB := h.tok.b.1
  have e1 : ∀ v : Int32, hsM μ t (upd (tbF μ B) j v) j = hsG (σ 6 0) (σ 6 1) (σ 6 2) (σ 9) (σ 10) (σ 8 t) (σ 7 t) (upd (σ 15) j v) B j := by
    intro v
    rw [hsM_congr μ t (bd2 := upd (σ 15) j v) (by omega) (fun b hb => ?_), h.hs ht (h.noB.upd hj v) hj]
    by_cases q : b = j
    · subst q; rw [upd_at, upd_at]
    · rw [upd_ne _ _ q, upd_ne _ _ q]; exact h.bd hb
  unfold rpR
  refine rpN_rpG ?_ (fun k => ?_) _
  · rw [e1, hsG, if_neg (ow_no (by rw [upd_at]; exact h.rs1) (by omega) (by omega))]
  · rw [e1]; rfl
theorem op_reply (h : IV σ μ E B t L n x s) (b w : Int32) : rpA σ B t b w = rpM μ B t b w := by
  unfold rpA rpM nit
  rw [(h.inB b).1, (h.inB b).2, h.nit.1, h.nit.2]
  have hB := h.tok.b.1
  by_cases q : inR b (nI B) = false
  · rw [if_pos q, if_pos q]
  · rw [if_neg q, if_neg q]
    by_cases q1 : inW w 1 = false
    · rw [if_pos q1, if_pos q1]
    · rw [if_neg q1, if_neg q1]
      by_cases q2 : decide (t < E) = false
      · rw [if_pos q2, if_pos q2]
      · rw [if_neg q2, if_neg q2]
        have ht : t < E := of_decide_eq_true (by simpa using q2)
        obtain ⟨j, hj, rfl⟩ := inR_of (x := b) (n := B) (by simpa using q) (by omega)
        rw [toN_nI (by omega), (h.cor.bi j hj).1, h.rp ht hj]
        by_cases q3 : w = 0
        · rw [if_pos q3, if_pos q3]
        · rw [if_neg q3, if_neg q3, Int32.add_comm]
theorem tpS_congr {T T2 : Nat → Bool} : ∀ {n : Nat}, (∀ b, b < n → T b = T2 b) → tpS T n = tpS T2 n
  | 0, _ => rfl
  | n + 1, h => by rw [tpS, tpS, h n (by omega), tpS_congr (n := n) (fun b hb => h b (by omega))]
theorem op_tempted (h : IV σ μ E B t L n x s) : tmA σ B t = teM μ B t := by
  unfold tmA teM nit
  rw [h.nit.1, h.nit.2]
  have hB := h.tok.b.1
  by_cases q2 : decide (t < E) = false
  · rw [if_pos q2, if_pos q2]
  · rw [if_neg q2, if_neg q2]
    have ht : t < E := of_decide_eq_true (by simpa using q2)
    refine tpS_congr (fun b hb => ?_)
    unfold tmT tmM
    rw [(h.cor.bi b hb).1, h.rp ht hb, hsM_congr μ t (bd2 := σ 15) (by omega) (fun b hb => h.bd hb), h.hs ht h.noB hb]
    rfl
theorem op_otherwise (h : IV σ μ E B t L n x s) : otA σ B = otM μ B := by
  unfold otA otM nit
  rw [h.nit.1, h.nit.2, h.eW]
  have hB := h.tok.b.1
  by_cases q2 : decide (t < E) = false
  · rw [if_pos q2, if_pos q2]
  · rw [if_neg q2, if_neg q2]
    by_cases q3 : slW σ B = -1
    · rw [if_pos q3, if_pos q3]
    · rw [if_neg q3, if_neg q3]
      obtain ⟨j, hj, ej⟩ := ow_lt (show ¬ ow (σ 6 1) (σ 15) B = -1 from q3)
      rw [show slW σ B = nI j from ej, toN_nI (by omega), nI_clamp (by omega), h.eP _ (by omega), h.tol.ru]
      rcases h.tok.ru with e | e
      · rw [e]; rfl
      · rw [e]; rfl
-- cartel
theorem bc_and : ∀ k, k < 32 → ((nI k &&& (nI k - 1)) = 0 ↔ bcN k < 2) := by decide +kernel
theorem full_bc : ∀ B, B ≤ 5 → 2 ≤ B → ∀ w, w < B → bt5 (2 ^ B - 1) w = true ∧ 2 ≤ bcN (2 ^ B - 1) := by decide +kernel
theorem few_bc : ∀ k, k < 2 → bcN k < 2 := by decide
theorem ca_cl {S P : Nat → Int32} {who a : Nat} {p : Nat → Nat} (ha : a ≤ 99) (hp : ∀ k, p k ≤ a) (eP : ∀ k, P k = nI (p k)) (eS : ∀ k, S k = nI (a - p k)) : ∀ n, n ≤ 32 →
    (clG P who n = (0, -1) ∧ caG S who n = (-1, -1)) ∨ ∃ l j, l ≤ a ∧ j < n ∧ clG P who n = (nI l, nI j) ∧ caG S who n = (nI (a - l), nI j)
  | 0, _ => Or.inl ⟨rfl, rfl⟩
  | n + 1, hn => by
    have ih := ca_cl (who := who) ha hp eP eS n (by omega)
    have hc := bc_and n (by omega)
    rw [clG, caG]
    by_cases q : bt5 n who = true ∧ 2 ≤ bcN n
    · rw [if_pos q, if_pos ⟨q.1, fun z => absurd (hc.mp z) (by omega)⟩, eP, eS]
      have hpn := hp n
      rcases ih with ⟨i1, i2⟩ | ⟨l, j, h1, h2, i1, i2⟩
      · rw [i1, i2, if_pos (Or.inl rfl), if_neg (fun z => absurd (Int32.lt_of_le_of_lt z (show (-1 : Int32) < 0 by decide)) (nI_pos (by omega)))]
        exact Or.inr ⟨p n, n, hpn, by omega, rfl, rfl⟩
      · rw [i1, i2]
        have e1 : nI (a - p n) ≤ nI (a - l) ↔ a - p n ≤ a - l := nI_leI (by omega) (by omega)
        have e2 : nI (p n) < nI l ↔ p n < l := nI_ltI (by omega) (by omega)
        by_cases q2 : p n < l
        · rw [if_pos (Or.inr (e2.mpr q2)), if_neg (fun z => absurd (e1.mp z) (by omega))]
          exact Or.inr ⟨p n, n, hpn, by omega, rfl, rfl⟩
        · rw [if_neg (fun z => z.elim (fun y => nI_nm1_big (by omega) y) (fun y => q2 (e2.mp y))), if_pos (e1.mpr (by omega))]
          exact Or.inr ⟨l, j, h1, by omega, rfl, rfl⟩
    · rw [if_neg q, if_neg (fun z => q ⟨z.1, Nat.not_lt.mp (fun y => z.2 (hc.mpr y))⟩)]
      rcases ih with ⟨i1, i2⟩ | ⟨l, j, h1, h2, i1, i2⟩
      · exact Or.inl ⟨i1, i2⟩
      · exact Or.inr ⟨l, j, h1, by omega, i1, i2⟩
theorem caG_few (S : Nat → Int32) (who : Nat) : ∀ n, n ≤ 2 → caG S who n = (-1, -1)
  | 0, _ => rfl
  | n + 1, h => by rw [caG, if_neg (fun z => absurd z.2 (by have := few_bc n (by omega); omega)), caG_few S who n (by omega)]
/-- each bid is none or a number -/
def NuB (bd : Nat → Int32) (B : Nat) : Prop := ∀ b, b < B → bd b = -1 ∨ ∃ v, v ≤ 99 ∧ bd b = nI v
theorem IV.nuB (h : IV σ μ E B t L n x s) : NuB (σ 15) B := fun b hb => by
  obtain ⟨pu, _, _, h3⟩ := h.cok.bi b hb
  exact h3.imp id (fun ⟨v, h1, _, h4⟩ => ⟨v, h1, h4⟩)
theorem pm_nat {bd : Nat → Int32} {r : Nat} (hr : r ≤ 99) (who : Nat) : ∀ n, NuB bd n → ∃ a, r ≤ a ∧ a ≤ 99 ∧ pm (nI r) bd who n = nI a
  | 0, _ => ⟨r, Nat.le_refl _, hr, rfl⟩
  | n + 1, h => by
    obtain ⟨a, h1, h2, e⟩ := pm_nat hr who n (fun b hb => h b (by omega))
    rw [pm, e]
    split
    · exact ⟨a, h1, h2, rfl⟩
    · rcases h n (by omega) with q | ⟨v, hv, q⟩
      · rw [q, if_neg (Int32.not_lt.mpr (Int32.le_of_lt (m1_lt (by omega))))]; exact ⟨a, h1, h2, rfl⟩
      · rw [q]
        have e2 : nI a < nI v ↔ a < v := nI_ltI (by omega) (by omega)
        by_cases q2 : a < v
        · rw [if_pos (e2.mpr q2)]; exact ⟨v, by omega, hv, rfl⟩
        · rw [if_neg (fun z => q2 (e2.mp z))]; exact ⟨a, h1, h2, rfl⟩
theorem pm_mono {bd bd2 : Nat → Int32} {rs : Int32} (who : Nat) : ∀ n, (∀ b, b < n → bd2 b ≤ bd b) → pm rs bd2 who n ≤ pm rs bd who n
  | 0, _ => Int32.le_refl _
  | n + 1, h => by
    have ih := pm_mono (bd := bd) (bd2 := bd2) (rs := rs) who n (fun b hb => h b (by omega))
    have hn := h n (by omega)
    rw [pm, pm]
    split
    · exact ih
    · by_cases q : pm rs bd2 who n < bd2 n
      · rw [if_pos q]
        by_cases q2 : pm rs bd who n < bd n
        · rw [if_pos q2]; exact hn
        · rw [if_neg q2]; exact Int32.le_trans hn (Int32.not_lt.mp q2)
      · rw [if_neg q]
        by_cases q2 : pm rs bd who n < bd n
        · rw [if_pos q2]; exact Int32.le_trans ih (Int32.le_of_lt q2)
        · rw [if_neg q2]; exact ih
theorem ow_max {rs : Int32} {bd : Nat → Int32} : ∀ {n j : Nat}, n < 2 ^ 31 → j < n → ow rs bd n = nI j → rs ≤ bd j ∧ ∀ b, b < n → bd b < rs ∨ bd b ≤ bd j
  | 0, j, _, hj, _ => absurd hj (by omega)
  | n + 1, j, hn, hj, e => by
    rw [ow] at e
    by_cases q : bd n < rs
    · rw [if_pos q] at e
      obtain ⟨i, hi, ei⟩ := ow_lt (fun z => nI_nm1_big (by omega) (e.symm.trans z))
      have hij : i = j := (nI_eq (by omega) (by omega)).mp (ei.symm.trans e)
      subst hij
      obtain ⟨g1, g2⟩ := ow_max (by omega) hi e
      refine ⟨g1, fun b hb => ?_⟩
      by_cases z : b = n
      · subst z; exact Or.inl q
      · exact g2 b (by omega)
    · rw [if_neg q] at e
      by_cases q2 : ow rs bd n = -1
      · rw [if_pos q2] at e
        have hij : n = j := (nI_eq (by omega) (by omega)).mp e
        subst hij
        refine ⟨Int32.not_lt.mp q, fun b hb => ?_⟩
        by_cases z : b = n
        · subst z; exact Or.inr (Int32.le_refl _)
        · exact Or.inl (ow_none (by omega) q2 (by omega))
      · rw [if_neg q2] at e
        obtain ⟨i, hi, ei⟩ := ow_lt q2
        rw [ei, nI_clamp (by omega)] at e
        obtain ⟨g1, g2⟩ := ow_max (by omega) hi ei
        by_cases q3 : bd n ≤ bd i
        · rw [if_pos q3] at e
          have hij : i = j := (nI_eq (by omega) (by omega)).mp e
          subst hij
          refine ⟨g1, fun b hb => ?_⟩
          by_cases z : b = n
          · subst z; exact Or.inr q3
          · exact g2 b (by omega)
        · rw [if_neg q3] at e
          have hij : n = j := (nI_eq (by omega) (by omega)).mp e
          subst hij
          refine ⟨Int32.not_lt.mp q, fun b hb => ?_⟩
          by_cases z : b = n
          · subst z; exact Or.inr (Int32.le_refl _)
          · exact (g2 b (by omega)).imp id (fun y => Int32.le_trans y (Int32.le_of_lt (Int32.not_le.mp q3)))
where
  ow_none {rs : Int32} {bd : Nat → Int32} : ∀ {n b : Nat}, n < 2 ^ 31 → ow rs bd n = -1 → b < n → bd b < rs
  | 0, b, _, _, hb => absurd hb (by omega)
  | n + 1, b, hn, e, hb => by
    rw [ow] at e
    by_cases q : bd n < rs
    · rw [if_pos q] at e
      by_cases z : b = n
      · subst z; exact q
      · exact ow_none (by omega) e (by omega)
    · rw [if_neg q] at e
      by_cases q2 : ow rs bd n = -1
      · rw [if_pos q2] at e; exact absurd e (nI_nm1_big (by omega))
      · rw [if_neg q2] at e
        split at e
        · exact absurd e q2
        · exact absurd e (nI_nm1_big (by omega))
/-- who has it pays a number, at most his bid -/
theorem pay_nat {ru : Int32} {bd : Nat → Int32} {r B j : Nat} (hr : r ≤ 99) (hB : B ≤ 5) (hb : NuB bd B) (hj : j < B) (e : ow (nI r) bd B = nI j) : ∃ v, v ≤ 99 ∧ bd j = nI v ∧ ∃ a, a ≤ v ∧ pay ru (nI r) bd j B = nI a := by
  obtain ⟨g1, g2⟩ := ow_max (by omega) hj e
  rcases hb j hj with q | ⟨v, hv, q⟩
  · rw [q] at g1; exact absurd (m1_lt (r := r) (by omega)) (Int32.not_lt.mpr g1)
  · refine ⟨v, hv, q, ?_⟩
    unfold pay
    by_cases z : ru = 0
    · rw [if_pos z]; exact ⟨v, Nat.le_refl _, q⟩
    · rw [if_neg z]
      obtain ⟨a, h1, h2, ea⟩ := pm_nat (bd := bd) hr j B hb
      refine ⟨a, ?_, ea⟩
      have h3 : ∀ n, n ≤ B → pm (nI r) bd j n ≤ bd j := by
        intro n
        induction n with
        | zero => intro _; exact g1
        | succ n ih =>
          intro hn
          rw [pm]
          split
          · exact ih (by omega)
          · split
            · rename_i h5
              rcases g2 n (by omega) with y | y
              · exact Int32.le_trans (Int32.le_of_lt y) g1
              · exact y
            · exact ih (by omega)
      have h4 := h3 B (Nat.le_refl _)
      rw [ea, q] at h4
      exact (nI_leI (by omega) (by omega)).mp h4
theorem op_cartel (h : IV σ μ E B t L n x s) (w : Int32) : caA σ B w = caM μ B w := by
  unfold caA caM nit caX
  rw [h.nit.1, h.nit.2, h.eW]
  have hB := h.tok.b.1
  by_cases q1 : inW w 1 = false
  · rw [if_pos q1, if_pos q1]
  · rw [if_neg q1, if_neg q1]
    by_cases q2 : decide (t < E) = false
    · rw [if_pos q2, if_pos q2]
    · rw [if_neg q2, if_neg q2]
      by_cases q3 : slW σ B = -1
      · rw [if_pos q3, if_pos q3]; split <;> rfl
      · rw [if_neg q3, if_neg q3]
        obtain ⟨j, hj, ej⟩ := ow_lt (show ¬ ow (σ 6 1) (σ 15) B = -1 from q3)
        rw [show slW σ B = nI j from ej, toN_nI (by omega), nI_clamp (by omega)]
        by_cases q4 : B < 2
        · rw [if_pos q4, caG_few _ _ _ (by rcases (show B = 0 ∨ B = 1 by omega) with rfl | rfl <;> decide)]; split <;> rfl
        · rw [if_neg q4]
          obtain ⟨r, hr, er⟩ := h.tok.rs
          obtain ⟨v, hv, ev, a, hav, ea⟩ := pay_nat (ru := σ 6 0) hr hB h.nuB hj (by rw [← er]; exact ej)
          have key : ∀ k, ∃ p, p ≤ a ∧ caP μ B j k = nI p ∧ caS σ B j k = nI (a - p) := by
            intro k
            have hno : NoB (siB (σ 15) k j) B := fun b h1 h2 => by simp only [siB]; split; rfl; exact h.noB b h1 h2
            have e1 : caP μ B j k = pay (σ 6 0) (σ 6 1) (siB (σ 15) k j) j B := by
              unfold caP
              rw [pay_congr (bd2 := siB (σ 15) k j) _ _ (by simp only [siB]; rw [if_neg (fun z => z.1 rfl), if_neg (fun z => z.1 rfl)]; exact h.bd (by omega)) (fun b hb => by simp only [siB]; split; rfl; exact h.bd hb), h.pay5 hno, h.tol.ru]
            have hnu : NuB (siB (σ 15) k j) B := fun b hb => by
              simp only [siB]; split
              · exact Or.inl rfl
              · exact h.nuB b hb
            have e2 : ∃ p, p ≤ a ∧ pay (σ 6 0) (σ 6 1) (siB (σ 15) k j) j B = nI p := by
              unfold pay at ea
              unfold pay
              by_cases z : σ 6 0 = 0
              · rw [if_pos z] at ea
                rw [if_pos z]
                exact ⟨a, Nat.le_refl _, by simp only [siB]; rw [if_neg (fun z => z.1 rfl)]; exact ea⟩
              · rw [if_neg z] at ea
                rw [if_neg z]
                obtain ⟨p, h1, h2, ep⟩ := pm_nat (bd := siB (σ 15) k j) hr j B hnu
                rw [er]
                refine ⟨p, ?_, ep⟩
                have h3 := pm_mono (bd := σ 15) (bd2 := siB (σ 15) k j) (rs := nI r) j B (fun b hb => by
                  simp only [siB]; split
                  · rcases h.nuB b hb with y | ⟨y, h5, h6⟩
                    · rw [y]; exact Int32.le_refl _
                    · rw [h6]; exact Int32.le_of_lt (m1_lt (by omega))
                  · exact Int32.le_refl _)
                rw [ep, ea] at h3
                exact (nI_leI (by omega) (by omega)).mp h3
            obtain ⟨p, h1, ep⟩ := e2
            refine ⟨p, h1, e1.trans ep, ?_⟩
            unfold caS
            rw [er, ea, ← er, ep]
            exact nI_sub9 h1
          have hp : ∀ k, (Classical.choose (key k)) ≤ a ∧ caP μ B j k = nI (Classical.choose (key k)) ∧ caS σ B j k = nI (a - Classical.choose (key k)) := fun k => Classical.choose_spec (key k)
          have h2B := two5 hB
          have pr : pay (μ 1 3) (μ 1 4) (tbF μ B) j 5 = nI a := by rw [h.eP _ (by omega), h.tol.ru, er]; exact ea
          rw [pr]
          rcases ca_cl (S := caS σ B j) (P := caP μ B j) (who := j) (a := a) (p := fun k => Classical.choose (key k)) (by omega) (fun k => (hp k).1) (fun k => (hp k).2.1) (fun k => (hp k).2.2) (2 ^ B) h2B with ⟨i1, i2⟩ | ⟨l, i, h1, h2, i1, i2⟩
          · exfalso
            have hf := full_bc B hB (by omega) j hj
            have h2p : 2 ^ B = (2 ^ B - 1) + 1 := by have := Nat.two_pow_pos B; omega
            rw [h2p, caG, if_pos hf] at i2
            split at i2
            · rename_i h9
              rw [i2, (hp _).2.2] at h9
              exact absurd (Int32.lt_of_le_of_lt h9 (show (-1 : Int32) < 0 by decide)) (nI_pos (by omega))
            · have := congrArg Prod.snd i2
              exact absurd this (nI_nm1_big (by omega))
          · rw [i1, i2]
            by_cases q5 : w = 0
            · rw [if_pos q5, if_pos q5]; exact (nI_sub9 h1).symm
            · rw [if_neg q5, if_neg q5]
end PURE
