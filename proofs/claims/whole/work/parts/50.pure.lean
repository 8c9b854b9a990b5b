/-! THE TWO MEMORIES BELONG TOGETHER -/
def TolR (σ : Mem) (f : Nat → Int32) (E B : Nat) : Prop :=
  (f 0 = nI E) ∧
  (f 1 = nI B) ∧
  (f 3 = σ 6 0) ∧
  (f 4 = σ 6 1) ∧
  (f 5 = σ 6 2) ∧
  (∀ i, i < E → f (7 + 9 * i) = σ 7 i ∧ f (7 + 9 * i + 1) = σ 8 i) ∧
  (∀ j, j < B → f (70 + 6 * j) = σ 9 j ∧ f (70 + 6 * j + 1) = σ 10 j ∧ f (70 + 6 * j + 2) = σ 11 j)
theorem TolR.e {σ : Mem} {f : Nat → Int32} {E B : Nat} (h : TolR σ f E B) : f 0 = nI E := h.1
theorem TolR.b {σ : Mem} {f : Nat → Int32} {E B : Nat} (h : TolR σ f E B) : f 1 = nI B := h.2.1
theorem TolR.ru {σ : Mem} {f : Nat → Int32} {E B : Nat} (h : TolR σ f E B) : f 3 = σ 6 0 := h.2.2.1
theorem TolR.rs {σ : Mem} {f : Nat → Int32} {E B : Nat} (h : TolR σ f E B) : f 4 = σ 6 1 := h.2.2.2.1
theorem TolR.rf {σ : Mem} {f : Nat → Int32} {E B : Nat} (h : TolR σ f E B) : f 5 = σ 6 2 := h.2.2.2.2.1
theorem TolR.ev {σ : Mem} {f : Nat → Int32} {E B : Nat} (h : TolR σ f E B) : ∀ i, i < E → f (7 + 9 * i) = σ 7 i ∧ f (7 + 9 * i + 1) = σ 8 i := h.2.2.2.2.2.1
theorem TolR.bi {σ : Mem} {f : Nat → Int32} {E B : Nat} (h : TolR σ f E B) : ∀ j, j < B → f (70 + 6 * j) = σ 9 j ∧ f (70 + 6 * j + 1) = σ 10 j ∧ f (70 + 6 * j + 2) = σ 11 j := h.2.2.2.2.2.2
def TolOk (σ : Mem) (E B : Nat) : Prop :=
  (E ≤ 7 ∧ σ 6 3 = nI E) ∧
  (B ≤ 5 ∧ σ 6 4 = nI B) ∧
  (σ 6 0 = 0 ∨ σ 6 0 = 1) ∧
  (∃ r, r ≤ 99 ∧ σ 6 1 = nI r) ∧
  (∃ r, r ≤ 10 ∧ σ 6 2 = nI r) ∧
  (∀ i, i < E → (∃ k, k ≤ 2 ∧ σ 7 i = nI k) ∧ ∃ c, c ≤ 10 ∧ σ 8 i = nI c) ∧
  (∀ j, j < B → (∃ k, k ≤ 3 ∧ σ 9 j = nI k) ∧ (∃ c, c ≤ 99 ∧ σ 10 j = nI c) ∧ ∃ c, c ≤ 99 ∧ σ 11 j = nI c)
theorem TolOk.e {σ : Mem} {E B : Nat} (h : TolOk σ E B) : E ≤ 7 ∧ σ 6 3 = nI E := h.1
theorem TolOk.b {σ : Mem} {E B : Nat} (h : TolOk σ E B) : B ≤ 5 ∧ σ 6 4 = nI B := h.2.1
theorem TolOk.ru {σ : Mem} {E B : Nat} (h : TolOk σ E B) : σ 6 0 = 0 ∨ σ 6 0 = 1 := h.2.2.1
theorem TolOk.rs {σ : Mem} {E B : Nat} (h : TolOk σ E B) : ∃ r, r ≤ 99 ∧ σ 6 1 = nI r := h.2.2.2.1
theorem TolOk.rf {σ : Mem} {E B : Nat} (h : TolOk σ E B) : ∃ r, r ≤ 10 ∧ σ 6 2 = nI r := h.2.2.2.2.1
theorem TolOk.ev {σ : Mem} {E B : Nat} (h : TolOk σ E B) : ∀ i, i < E → (∃ k, k ≤ 2 ∧ σ 7 i = nI k) ∧ ∃ c, c ≤ 10 ∧ σ 8 i = nI c := h.2.2.2.2.2.1
theorem TolOk.bi {σ : Mem} {E B : Nat} (h : TolOk σ E B) : ∀ j, j < B → (∃ k, k ≤ 3 ∧ σ 9 j = nI k) ∧ (∃ c, c ≤ 99 ∧ σ 10 j = nI c) ∧ ∃ c, c ≤ 99 ∧ σ 11 j = nI c := h.2.2.2.2.2.2
def CoR (σ : Mem) (a : Nat) (f : Nat → Int32) (E B : Nat) : Prop :=
  (f 2 = σ a 0) ∧
  (f 6 = σ a 1) ∧
  (∀ j, j < B → f (70 + 6 * j + 3) = σ (a + 1) j ∧ f (70 + 6 * j + 4) = σ (a + 2) j ∧ f (70 + 6 * j + 5) = σ (a + 3) j) ∧
  (∀ i, i < E → f (7 + 9 * i + 2) = σ (a + 4) i ∧ f (7 + 9 * i + 3) = σ (a + 5) i ∧ f (7 + 9 * i + 4) = σ (a + 6) i ∧ f (7 + 9 * i + 5) = σ (a + 7) i ∧ ∀ k, k < 3 → f (7 + 9 * i + 6 + k) = σ (a + 8) (k * 7 + i))
theorem CoR.t {σ : Mem} {a : Nat} {f : Nat → Int32} {E B : Nat} (h : CoR σ a f E B) : f 2 = σ a 0 := h.1
theorem CoR.p {σ : Mem} {a : Nat} {f : Nat → Int32} {E B : Nat} (h : CoR σ a f E B) : f 6 = σ a 1 := h.2.1
theorem CoR.bi {σ : Mem} {a : Nat} {f : Nat → Int32} {E B : Nat} (h : CoR σ a f E B) : ∀ j, j < B → f (70 + 6 * j + 3) = σ (a + 1) j ∧ f (70 + 6 * j + 4) = σ (a + 2) j ∧ f (70 + 6 * j + 5) = σ (a + 3) j := h.2.2.1
theorem CoR.ev {σ : Mem} {a : Nat} {f : Nat → Int32} {E B : Nat} (h : CoR σ a f E B) : ∀ i, i < E → f (7 + 9 * i + 2) = σ (a + 4) i ∧ f (7 + 9 * i + 3) = σ (a + 5) i ∧ f (7 + 9 * i + 4) = σ (a + 6) i ∧ f (7 + 9 * i + 5) = σ (a + 7) i ∧ ∀ k, k < 3 → f (7 + 9 * i + 6 + k) = σ (a + 8) (k * 7 + i) := h.2.2.2
def CoOk (σ : Mem) (a E B t : Nat) : Prop :=
  (t ≤ E ∧ σ a 0 = nI t) ∧
  (∀ j, j < B → ∃ pu, pu < 2 ^ 31 ∧ σ (a + 1) j = nI pu ∧ (σ (a + 3) j = -1 ∨ ∃ x, x ≤ 99 ∧ x ≤ pu ∧ σ (a + 3) j = nI x)) ∧
  (∀ j, B ≤ j → j < 5 → σ (a + 2) j = 0 ∧ σ (a + 3) j = -1) ∧
  (∀ i, i < t → σ (a + 7) i = 0 ∨ σ (a + 7) i = 1) ∧
  (∀ i, t ≤ i → i < 7 → σ (a + 5) i = -1)
theorem CoOk.t {σ : Mem} {a E B t : Nat} (h : CoOk σ a E B t) : t ≤ E ∧ σ a 0 = nI t := h.1
theorem CoOk.bi {σ : Mem} {a E B t : Nat} (h : CoOk σ a E B t) : ∀ j, j < B → ∃ pu, pu < 2 ^ 31 ∧ σ (a + 1) j = nI pu ∧ (σ (a + 3) j = -1 ∨ ∃ x, x ≤ 99 ∧ x ≤ pu ∧ σ (a + 3) j = nI x) := h.2.1
theorem CoOk.no {σ : Mem} {a E B t : Nat} (h : CoOk σ a E B t) : ∀ j, B ≤ j → j < 5 → σ (a + 2) j = 0 ∧ σ (a + 3) j = -1 := h.2.2.1
theorem CoOk.ou {σ : Mem} {a E B t : Nat} (h : CoOk σ a E B t) : ∀ i, i < t → σ (a + 7) i = 0 ∨ σ (a + 7) i = 1 := h.2.2.2.1
theorem CoOk.fu {σ : Mem} {a E B t : Nat} (h : CoOk σ a E B t) : ∀ i, t ≤ i → i < 7 → σ (a + 5) i = -1 := h.2.2.2.2
def RowR (σ : Mem) (a : Nat) (f : Nat → Int32) (E B : Nat) : Prop := ∃ t, TolR σ f E B ∧ CoR σ a f E B ∧ CoOk σ a E B t
def IV (σ μ : Mem) (E B t L n x s : Nat) : Prop :=
  (TolOk σ E B) ∧
  (TolR σ (μ 1) E B) ∧
  (CoR σ 12 (μ 1) E B) ∧
  (CoOk σ 12 E B t) ∧
  (L ≤ 160 ∧ σ 1 1 = nI L ∧ μ 0 7 = nI L) ∧
  (σ 2 = μ 6) ∧
  (∀ i, i < L → ¬ μ 6 i < 0) ∧
  (n ≤ 8 ∧ σ 21 1 = nI n ∧ μ 0 3 = nI n) ∧
  (x < 8 ∧ σ 21 2 = nI x) ∧
  (∀ i, i < n → RowR σ (23 + 9 * ((x + (8 - n) + i) % 8)) (fun k => μ 3 (100 * i + k)) E B) ∧
  (∀ j, j < 2 → σ 114 j = μ 5 j ∧ (¬ μ 5 j = 0 → RowR σ (96 + 9 * j) (fun k => μ 4 (100 * j + k)) E B)) ∧
  (s ≤ 6 ∧ σ 120 3 = nI s ∧ μ 0 9 = nI s) ∧
  (∀ i, i < s → (∃ b, b < B ∧ σ 121 i = nI b ∧ μ 7 (2 * i) = nI b) ∧ ∃ d, d ≤ 1 ∧ σ 122 i = nI d ∧ μ 7 (2 * i + 1) = nI d)
theorem IV.tok {σ μ : Mem} {E B t L n x s : Nat} (h : IV σ μ E B t L n x s) : TolOk σ E B := h.1
theorem IV.tol {σ μ : Mem} {E B t L n x s : Nat} (h : IV σ μ E B t L n x s) : TolR σ (μ 1) E B := h.2.1
theorem IV.cor {σ μ : Mem} {E B t L n x s : Nat} (h : IV σ μ E B t L n x s) : CoR σ 12 (μ 1) E B := h.2.2.1
theorem IV.cok {σ μ : Mem} {E B t L n x s : Nat} (h : IV σ μ E B t L n x s) : CoOk σ 12 E B t := h.2.2.2.1
theorem IV.tx {σ μ : Mem} {E B t L n x s : Nat} (h : IV σ μ E B t L n x s) : L ≤ 160 ∧ σ 1 1 = nI L ∧ μ 0 7 = nI L := h.2.2.2.2.1
theorem IV.tl {σ μ : Mem} {E B t L n x s : Nat} (h : IV σ μ E B t L n x s) : σ 2 = μ 6 := h.2.2.2.2.2.1
theorem IV.tp {σ μ : Mem} {E B t L n x s : Nat} (h : IV σ μ E B t L n x s) : ∀ i, i < L → ¬ μ 6 i < 0 := h.2.2.2.2.2.2.1
theorem IV.un {σ μ : Mem} {E B t L n x s : Nat} (h : IV σ μ E B t L n x s) : n ≤ 8 ∧ σ 21 1 = nI n ∧ μ 0 3 = nI n := h.2.2.2.2.2.2.2.1
theorem IV.ne {σ μ : Mem} {E B t L n x s : Nat} (h : IV σ μ E B t L n x s) : x < 8 ∧ σ 21 2 = nI x := h.2.2.2.2.2.2.2.2.1
theorem IV.pa {σ μ : Mem} {E B t L n x s : Nat} (h : IV σ μ E B t L n x s) : ∀ i, i < n → RowR σ (23 + 9 * ((x + (8 - n) + i) % 8)) (fun k => μ 3 (100 * i + k)) E B := h.2.2.2.2.2.2.2.2.2.1
theorem IV.ke {σ μ : Mem} {E B t L n x s : Nat} (h : IV σ μ E B t L n x s) : ∀ j, j < 2 → σ 114 j = μ 5 j ∧ (¬ μ 5 j = 0 → RowR σ (96 + 9 * j) (fun k => μ 4 (100 * j + k)) E B) := h.2.2.2.2.2.2.2.2.2.2.1
theorem IV.si {σ μ : Mem} {E B t L n x s : Nat} (h : IV σ μ E B t L n x s) : s ≤ 6 ∧ σ 120 3 = nI s ∧ μ 0 9 = nI s := h.2.2.2.2.2.2.2.2.2.2.2.1
theorem IV.sg {σ μ : Mem} {E B t L n x s : Nat} (h : IV σ μ E B t L n x s) : ∀ i, i < s → (∃ b, b < B ∧ σ 121 i = nI b ∧ μ 7 (2 * i) = nI b) ∧ ∃ d, d ≤ 1 ∧ σ 122 i = nI d ∧ μ 7 (2 * i + 1) = nI d := h.2.2.2.2.2.2.2.2.2.2.2.2
def Inv (σ μ : Mem) : Prop := ∃ E B t L n x s, IV σ μ E B t L n x s
theorem TolR.cg {σ σ' : Mem} {f f' : Nat → Int32} {E B : Nat} (h : TolR σ f E B) (hE : E ≤ 7) (hB : B ≤ 5) (h1 : ∀ q, 6 ≤ q → q ≤ 11 → σ' q = σ q) (h2 : ∀ k, k < 100 → f' k = f k) : TolR σ' f' E B := by
  have h6 := h1 6 (by decide) (by decide)
  refine ⟨(h2 0 (by decide)).trans h.e, (h2 1 (by decide)).trans h.b, ?_, ?_, ?_, fun i hi => ?_, fun j hj => ?_⟩
  · rw [h2 3 (by decide), h6]; exact h.ru
  · rw [h2 4 (by decide), h6]; exact h.rs
  · rw [h2 5 (by decide), h6]; exact h.rf
  · rw [h2 _ (by omega), h2 _ (by omega), h1 7 (by decide) (by decide), h1 8 (by decide) (by decide)]; exact h.ev i hi
  · rw [h2 _ (by omega), h2 _ (by omega), h2 _ (by omega), h1 9 (by decide) (by decide), h1 10 (by decide) (by decide), h1 11 (by decide) (by decide)]; exact h.bi j hj
theorem TolOk.cg {σ σ' : Mem} {E B : Nat} (h : TolOk σ E B) (h1 : ∀ q, 6 ≤ q → q ≤ 11 → σ' q = σ q) : TolOk σ' E B := by
  have h6 := h1 6 (by decide) (by decide)
  have h7 := h1 7 (by decide) (by decide)
  have h8 := h1 8 (by decide) (by decide)
  have h9 := h1 9 (by decide) (by decide)
  have h10 := h1 10 (by decide) (by decide)
  have h11 := h1 11 (by decide) (by decide)
  exact ⟨by rw [h6]; exact h.e, by rw [h6]; exact h.b, by rw [h6]; exact h.ru, by rw [h6]; exact h.rs, by rw [h6]; exact h.rf, by rw [h7, h8]; exact h.ev, by rw [h9, h10, h11]; exact h.bi⟩
theorem CoR.cg {σ σ' : Mem} {a a' : Nat} {f f' : Nat → Int32} {E B : Nat} (h : CoR σ a f E B) (hE : E ≤ 7) (hB : B ≤ 5) (h1 : CoEq σ' a' σ a) (h2 : ∀ k, k < 100 → f' k = f k) : CoR σ' a' f' E B := by
  obtain ⟨c1, c2⟩ := h1
  refine ⟨?_, ?_, fun j hj => ?_, fun i hi => ?_⟩
  · rw [h2 2 (by decide), c1 0 (by decide)]; exact h.t
  · rw [h2 6 (by decide), c1 1 (by decide)]; exact h.p
  · have q0 : σ' (a' + 1) j = σ (a + 1) j := c2 0 (by decide) j (by simp [coLen]; omega)
    have q1 : σ' (a' + 2) j = σ (a + 2) j := c2 1 (by decide) j (by simp [coLen]; omega)
    have q2 : σ' (a' + 3) j = σ (a + 3) j := c2 2 (by decide) j (by simp [coLen]; omega)
    rw [h2 _ (by omega), h2 _ (by omega), h2 _ (by omega), q0, q1, q2]; exact h.bi j hj
  · have q0 : σ' (a' + 4) i = σ (a + 4) i := c2 3 (by decide) i (by simp [coLen]; omega)
    have q1 : σ' (a' + 5) i = σ (a + 5) i := c2 4 (by decide) i (by simp [coLen]; omega)
    have q2 : σ' (a' + 6) i = σ (a + 6) i := c2 5 (by decide) i (by simp [coLen]; omega)
    have q3 : σ' (a' + 7) i = σ (a + 7) i := c2 6 (by decide) i (by simp [coLen]; omega)
    obtain ⟨g1, g2, g3, g4, g5⟩ := h.ev i hi
    refine ⟨?_, ?_, ?_, ?_, fun k hk => ?_⟩
    · rw [h2 _ (by omega), q0]; exact g1
    · rw [h2 _ (by omega), q1]; exact g2
    · rw [h2 _ (by omega), q2]; exact g3
    · rw [h2 _ (by omega), q3]; exact g4
    · have q8 : σ' (a' + 8) (k * 7 + i) = σ (a + 8) (k * 7 + i) := c2 7 (by decide) _ (by simp [coLen]; omega)
      rw [h2 _ (by omega), q8]; exact g5 k hk
theorem CoOk.cg {σ σ' : Mem} {a a' E B t : Nat} (h : CoOk σ a E B t) (hE : E ≤ 7) (hB : B ≤ 5) (h1 : CoEq σ' a' σ a) : CoOk σ' a' E B t := by
  obtain ⟨c1, c2⟩ := h1
  have ht := h.t.1
  refine ⟨⟨ht, (c1 0 (by decide)).trans h.t.2⟩, fun j hj => ?_, fun j h1 h2 => ?_, fun i hi => ?_, fun i hi h7 => ?_⟩
  · have q0 : σ' (a' + 1) j = σ (a + 1) j := c2 0 (by decide) j (by simp [coLen]; omega)
    have q2 : σ' (a' + 3) j = σ (a + 3) j := c2 2 (by decide) j (by simp [coLen]; omega)
    rw [q0, q2]; exact h.bi j hj
  · have q1 : σ' (a' + 2) j = σ (a + 2) j := c2 1 (by decide) j (by simp [coLen]; omega)
    have q2 : σ' (a' + 3) j = σ (a + 3) j := c2 2 (by decide) j (by simp [coLen]; omega)
    rw [q1, q2]; exact h.no j h1 h2
  · have q3 : σ' (a' + 7) i = σ (a + 7) i := c2 6 (by decide) i (by simp [coLen]; omega)
    rw [q3]; exact h.ou i hi
  · have q4 : σ' (a' + 5) i = σ (a + 5) i := c2 4 (by decide) i (by simp [coLen]; omega)
    rw [q4]; exact h.fu i hi h7
theorem RowR.cg {σ σ' : Mem} {a a' : Nat} {f f' : Nat → Int32} {E B : Nat} (h : RowR σ a f E B) (hE : E ≤ 7) (hB : B ≤ 5) (h0 : ∀ q, 6 ≤ q → q ≤ 11 → σ' q = σ q) (h1 : CoEq σ' a' σ a) (h2 : ∀ k, k < 100 → f' k = f k) : RowR σ' a' f' E B :=
  h.elim fun t ht => ⟨t, ht.1.cg hE hB h0 h2, ht.2.1.cg hE hB h1 h2, ht.2.2.cg hE hB h1⟩
theorem CoEq_of {σ σ' : Mem} {a : Nat} (h : ∀ q, a ≤ q → q < a + 9 → σ' q = σ q) : CoEq σ' a σ a :=
  ⟨fun k _ => by rw [h a (by omega) (by omega)], fun j hj k _ => by rw [h (a + 1 + j) (by omega) (by omega)]⟩
/-- but for the class's own rooms nothing has changed -/
def SameC (σ' σ : Mem) : Prop := σ' 1 1 = σ 1 1 ∧ ∀ q, q = 2 ∨ (6 ≤ q ∧ q ≤ 114) ∨ 120 ≤ q → σ' q = σ q
def SameM (μ' μ : Mem) : Prop := (∀ k, k < 11 → μ' 0 k = μ 0 k) ∧ ∀ q, q ≠ 0 → q ≠ 2 → q ≠ 8 → μ' q = μ q
theorem SameC.rf (σ : Mem) : SameC σ σ := ⟨rfl, fun _ _ => rfl⟩
theorem SameM.rf (μ : Mem) : SameM μ μ := ⟨fun _ _ => rfl, fun _ _ _ _ => rfl⟩
theorem SameC.ofA {σ' σ : Mem} (h : OffA σ' σ) : SameC σ' σ := ⟨by rw [h 1 (by decide) (by decide)], fun q hq => h q (by omega) (by omega)⟩
theorem SameC.ofO {σ' σ : Mem} (h : OffO σ' σ) : SameC σ' σ := ⟨by rw [h 1 (by decide) (by decide) (by decide)], fun q hq => h q (by omega) (by omega) (by omega)⟩
theorem SameM.ofR {σ' σ : Mem} (h : OffR σ' σ) : SameM σ' σ := ⟨fun k hk => h.1 k (by omega), fun q q1 _ q3 => h.2 q q1 q3⟩
theorem IV.same {σ σ' μ μ' : Mem} {E B t L n x s : Nat} (h : IV σ μ E B t L n x s) (hc : SameC σ' σ) (hm : SameM μ' μ) : IV σ' μ' E B t L n x s := by
  have hE := h.tok.e.1
  have hB := h.tok.b.1
  have t6 : ∀ q, 6 ≤ q → q ≤ 11 → σ' q = σ q := fun q _ _ => hc.2 q (by omega)
  have m1 : μ' 1 = μ 1 := hm.2 1 (by decide) (by decide) (by decide)
  have c12 : CoEq σ' 12 σ 12 := CoEq_of fun q _ _ => hc.2 q (by omega)
  refine ⟨h.tok.cg t6, h.tol.cg hE hB t6 (fun k _ => by rw [m1]), h.cor.cg hE hB c12 (fun k _ => by rw [m1]), h.cok.cg hE hB c12, ⟨h.tx.1, hc.1.trans h.tx.2.1, (hm.1 7 (by decide)).trans h.tx.2.2⟩, ?_, ?_, ?_, ?_, fun i hi => ?_, fun j hj => ?_, ?_, ?_⟩
  · rw [hc.2 2 (by omega), hm.2 6 (by decide) (by decide) (by decide)]; exact h.tl
  · rw [hm.2 6 (by decide) (by decide) (by decide)]; exact h.tp
  · rw [hc.2 21 (by omega), hm.1 3 (by decide)]; exact h.un
  · rw [hc.2 21 (by omega)]; exact h.ne
  · exact (h.pa i hi).cg hE hB t6 (CoEq_of fun q _ _ => hc.2 q (by omega)) (fun k _ => by rw [hm.2 3 (by decide) (by decide) (by decide)])
  · rw [hc.2 114 (by omega), hm.2 5 (by decide) (by decide) (by decide)]
    exact ⟨(h.ke j hj).1, fun z => ((h.ke j hj).2 z).cg hE hB t6 (CoEq_of fun q _ _ => hc.2 q (by omega)) (fun k _ => by rw [hm.2 4 (by decide) (by decide) (by decide)])⟩
  · rw [hc.2 120 (by omega), hm.1 9 (by decide)]; exact h.si
  · rw [hc.2 121 (by omega), hc.2 122 (by omega), hm.2 7 (by decide) (by decide) (by decide)]; exact h.sg
section PURE
variable {σ μ : Mem} {E B t L n x s : Nat}
theorem IV.inv (h : IV σ μ E B t L n x s) : Inv σ μ := ⟨E, B, t, L, n, x, s, h⟩
theorem IV.ch (h : IV σ μ E B t L n x s) : CH σ E B t := ⟨h.tok.e, h.tok.b, h.cok.t.1, h.cok.t.2⟩
theorem IV.mh (h : IV σ μ E B t L n x s) : MH μ E B t := ⟨⟨h.tok.e.1, h.tol.e⟩, ⟨h.tok.b.1, h.tol.b⟩, h.cok.t.1, h.cor.t.trans h.cok.t.2⟩
theorem IV.paH (h : IV σ μ E B t L n x s) : PaH σ n x := ⟨⟨h.un.1, h.un.2.1⟩, h.ne.1, h.ne.2⟩
theorem IV.txH (h : IV σ μ E B t L n x s) : TxH μ L := ⟨h.tx.1, h.tx.2.2, h.tp⟩
theorem IV.rsH (h : IV σ μ E B t L n x s) : RsH μ := by
  obtain ⟨r, hr, er⟩ := h.tok.rs
  unfold RsH
  rw [h.tol.rs, er, Int32.lt_iff_toInt_lt, nI_toInt (by omega)]
  exact Int.lt_of_lt_of_le (by decide) (Int.natCast_nonneg r)
theorem IV.puC (h : IV σ μ E B t L n x s) : ∀ b, b < B → ∃ pu, pu < 2 ^ 31 ∧ σ 13 b = nI pu := fun b hb => (h.cok.bi b hb).elim fun pu q => ⟨pu, q.1, q.2.1⟩
theorem IV.puM (h : IV σ μ E B t L n x s) : ∀ b, b < B → ∃ pu, pu < 2 ^ 31 ∧ μ 1 (70 + 6 * b + 3) = nI pu := fun b hb => (h.cok.bi b hb).elim fun pu q => ⟨pu, q.1, (h.cor.bi b hb).1.trans q.2.1⟩
theorem IV.siH (h : IV σ μ E B t L n x s) : SiH σ s := ⟨h.si.1, h.si.2.1, fun i hi => (h.sg i hi).1.elim fun b q => ⟨b, by have := h.tok.b.1; omega, q.2.1⟩⟩
theorem IV.smH (h : IV σ μ E B t L n x s) : SmH μ s := ⟨h.si.1, h.si.2.2, fun i hi => (h.sg i hi).1.elim fun b q => ⟨b, by have := h.tok.b.1; omega, q.2.2⟩⟩
theorem IV.nit (h : IV σ μ E B t L n x s) : inR (σ 12 0) (σ 6 3) = decide (t < E) ∧ inR (μ 1 2) (μ 1 0) = decide (t < E) := by
  have h1 := h.tok.e
  have h2 := h.cok.t
  exact ⟨by rw [h2.2, h1.2, inR_nI (by omega) (by omega)], nit_of h.mh⟩
theorem IV.inE (h : IV σ μ E B t L n x s) (e : Int32) : inR e (σ 6 3) = inR e (nI E) ∧ inR e (μ 1 0) = inR e (nI E) := ⟨by rw [h.tok.e.2], by rw [h.tol.e]⟩
theorem IV.inB (h : IV σ μ E B t L n x s) (e : Int32) : inR e (σ 6 4) = inR e (nI B) ∧ inR e (μ 1 1) = inR e (nI B) := ⟨by rw [h.tok.b.2], by rw [h.tol.b]⟩
theorem IV.gn (h : IV σ μ E B t L n x s) {j i : Nat} (hj : j < B) (hi : i < E) (p : Int32) : gnM μ j i p = gn (σ 9 j) (σ 10 j) (σ 8 i) (σ 7 i) (σ 6 2) p := by
  rw [gnM, (h.tol.bi j hj).1, (h.tol.bi j hj).2.1, (h.tol.ev i hi).1, (h.tol.ev i hi).2, h.tol.rf]
theorem IV.bd (h : IV σ μ E B t L n x s) {b : Nat} (hb : b < 5) : tbF μ B b = σ 15 b := by
  unfold tbF
  by_cases q : b < B
  · rw [if_pos q]; exact (h.cor.bi b q).2.2
  · rw [if_neg q]; exact (h.cok.no b (by omega) hb).2.symm
-- write, erase, fault
theorem op_write (h : IV σ μ E B t L n x s) {c v v2 : Int32} {σ' μ' : Mem} (hc : (wrC σ c = 0 → L < 160 ∧ v = nI (L + 1) ∧ σ' = up2 (up2 σ 2 L c) 1 1 (nI (L + 1))) ∧ (¬ wrC σ c = 0 → v = wrC σ c ∧ σ' = σ))
    (hm : (wrM c L = 0 → v2 = nI (L + 1) ∧ μ' = up2 (up2 μ 6 L c) 0 7 (nI (L + 1))) ∧ (¬ wrM c L = 0 → v2 = wrM c L ∧ μ' = μ)) : v = v2 ∧ Inv σ' μ' := by
  have hL := h.tx.1
  have e1 : wrC σ c = wrM c L := by
    unfold wrC wrM
    by_cases q : inW c 255 = false
    · rw [if_pos q, if_pos q]
    · rw [if_neg q, if_neg q, h.tx.2.1]
      have e9 : nI L < 160 ↔ L < 160 := nI_ltI (b := 160) (by omega) (by decide)
      by_cases q2 : L = 160
      · rw [if_pos q2, if_neg (fun z => absurd (e9.mp z) (by omega))]
      · rw [if_neg q2, if_pos (e9.mpr (by omega))]
  by_cases q : wrM c L = 0
  · obtain ⟨g1, rfl, rfl⟩ := hc.1 (e1.trans q)
    obtain ⟨rfl, rfl⟩ := hm.1 q
    have hw : inW c 255 = true := by
      cases z : inW c 255 with
      | true => rfl
      | false => rw [wrM, if_pos z] at q; exact absurd q (by decide)
    have h0 : ¬ c < 0 := by
      unfold inW at hw
      intro z
      rw [decide_eq_true z] at hw; cases hw
    refine ⟨rfl, E, B, t, L + 1, n, x, s, ?_⟩
    have hE := h.tok.e.1
    have hB := h.tok.b.1
    have cq : ∀ q, q ≠ 1 → q ≠ 2 → up2 (up2 σ 2 L c) 1 1 (nI (L + 1)) q = σ q := fun q q1 q2 => by rw [up2_ne _ _ _ q1, up2_ne _ _ _ q2]
    have mq : ∀ q, q ≠ 0 → q ≠ 6 → up2 (up2 μ 6 L c) 0 7 (nI (L + 1)) q = μ q := fun q q1 q2 => by rw [up2_ne _ _ _ q1, up2_ne _ _ _ q2]
    have mk : ∀ k, k ≠ 7 → up2 (up2 μ 6 L c) 0 7 (nI (L + 1)) 0 k = μ 0 k := fun k hk => by rw [up2_at, upd_ne _ _ hk, up2_ne _ _ _ (by decide)]
    have t6 : ∀ q, 6 ≤ q → q ≤ 11 → up2 (up2 σ 2 L c) 1 1 (nI (L + 1)) q = σ q := fun q _ _ => cq q (by omega) (by omega)
    have co : ∀ a, 3 ≤ a → CoEq (up2 (up2 σ 2 L c) 1 1 (nI (L + 1))) a σ a := fun a ha => CoEq_of fun q _ _ => cq q (by omega) (by omega)
    have m1 := mq 1 (by decide) (by decide)
    refine ⟨h.tok.cg t6, h.tol.cg hE hB t6 (fun k _ => by rw [m1]), h.cor.cg hE hB (co 12 (by decide)) (fun k _ => by rw [m1]), h.cok.cg hE hB (co 12 (by decide)), ⟨by omega, rfl, rfl⟩, ?_, fun i hi => ?_, ?_, ?_, fun i hi => ?_, fun j hj => ?_, ?_, ?_⟩
    · rw [up2_ne _ _ _ (by decide), up2_at, up2_ne _ _ _ (by decide), up2_at, h.tl]
    · rw [up2_ne _ _ _ (by decide), up2_at]
      by_cases z : i = L
      · subst z; rw [upd_at]; exact h0
      · rw [upd_ne _ _ z]; exact h.tp i (by omega)
    · rw [cq 21 (by decide) (by decide), mk 3 (by decide)]; exact h.un
    · rw [cq 21 (by decide) (by decide)]; exact h.ne
    · exact (h.pa i hi).cg hE hB t6 (co _ (by omega)) (fun k _ => by rw [mq 3 (by decide) (by decide)])
    · rw [cq 114 (by decide) (by decide), mq 5 (by decide) (by decide)]
      exact ⟨(h.ke j hj).1, fun z => ((h.ke j hj).2 z).cg hE hB t6 (co _ (by omega)) (fun k _ => by rw [mq 4 (by decide) (by decide)])⟩
    · rw [cq 120 (by decide) (by decide), mk 9 (by decide)]; exact h.si
    · rw [cq 121 (by decide) (by decide), cq 122 (by decide) (by decide), mq 7 (by decide) (by decide)]; exact h.sg
  · obtain ⟨rfl, rfl⟩ := hc.2 (fun z => q (e1.symm.trans z))
    obtain ⟨rfl, rfl⟩ := hm.2 q
    exact ⟨e1, h.inv⟩
theorem op_erase (h : IV σ μ E B t L n x s) : σ 1 1 = μ 0 7 ∧ Inv (up2 σ 1 1 0) (up2 μ 0 7 0) := by
  refine ⟨h.tx.2.1.trans h.tx.2.2.symm, E, B, t, 0, n, x, s, ?_⟩
  have hE := h.tok.e.1
  have hB := h.tok.b.1
  have cq : ∀ q, q ≠ 1 → up2 σ 1 1 0 q = σ q := fun q q1 => up2_ne _ _ _ q1
  have mq : ∀ q, q ≠ 0 → up2 μ 0 7 0 q = μ q := fun q q1 => up2_ne _ _ _ q1
  have mk : ∀ k, k ≠ 7 → up2 μ 0 7 0 0 k = μ 0 k := fun k hk => by rw [up2_at, upd_ne _ _ hk]
  have t6 : ∀ q, 6 ≤ q → q ≤ 11 → up2 σ 1 1 0 q = σ q := fun q _ _ => cq q (by omega)
  have co : ∀ a, 3 ≤ a → CoEq (up2 σ 1 1 0) a σ a := fun a ha => CoEq_of fun q _ _ => cq q (by omega)
  have m1 := mq 1 (by decide)
  refine ⟨h.tok.cg t6, h.tol.cg hE hB t6 (fun k _ => by rw [m1]), h.cor.cg hE hB (co 12 (by decide)) (fun k _ => by rw [m1]), h.cok.cg hE hB (co 12 (by decide)), ⟨by omega, rfl, rfl⟩, ?_, fun i hi => absurd hi (by omega), ?_, ?_, fun i hi => ?_, fun j hj => ?_, ?_, ?_⟩
  · rw [cq 2 (by decide), mq 6 (by decide)]; exact h.tl
  · rw [cq 21 (by decide), mk 3 (by decide)]; exact h.un
  · rw [cq 21 (by decide)]; exact h.ne
  · exact (h.pa i hi).cg hE hB t6 (co _ (by omega)) (fun k _ => by rw [mq 3 (by decide)])
  · rw [cq 114 (by decide), mq 5 (by decide)]
    exact ⟨(h.ke j hj).1, fun z => ((h.ke j hj).2 z).cg hE hB t6 (co _ (by omega)) (fun k _ => by rw [mq 4 (by decide)])⟩
  · rw [cq 120 (by decide), mk 9 (by decide)]; exact h.si
  · rw [cq 121 (by decide), cq 122 (by decide), mq 7 (by decide)]; exact h.sg
theorem op_fault (h : IV σ μ E B t L n x s) {v v2 : Int32} {σ' μ' : Mem} (hc : FfQ σ' σ (ffT (σ 2) L 14 0 E B) 0 v) (hm : FaQ μ' μ (ffT (μ 6) L 14 0 E B) (va_cpy (μ 1) (μ 2) 0 0 100) E B 0 v2) : v = v2 ∧ Inv σ' μ' := by
  refine ⟨by rw [hc.1, hm.1, h.tl], (h.same ⟨hc.2.2.1, fun q hq => hc.2.2.2.2 q (by omega) (by omega) (by omega) (by omega)⟩ ⟨fun k hk => hm.2.2.1 k (by omega), fun q q1 q2 _ => hm.2.2.2 q q1 q2⟩).inv⟩
-- what is told
theorem tsw_inW {w : Int32} {m : Nat} (hm : m < 2 ^ 31 - 1) : inW w (nI m) = false ∨ ∃ i, i ≤ m ∧ w = nI i := by
  cases q : inW w (nI m) with
  | false => exact Or.inl rfl
  | true => exact Or.inr (inW_of q hm)
theorem op_evening (h : IV σ μ E B t L n x s) (e w : Int32) : evA σ e w = evM μ e w := by
  unfold evA evM
  rw [(h.inE e).1, (h.inE e).2]
  have hE := h.tok.e.1
  by_cases q : inR e (nI E) = false
  · rw [if_pos q, if_pos q]
  · rw [if_neg q, if_neg q]
    obtain ⟨i, hi, rfl⟩ := inR_of (by simpa using q) (by omega)
    rw [toN_nI (by omega), nI_clamp (by omega)]
    have e1 := h.tol.ev i hi
    have e2 := h.cor.ev i (by omega)
    rcases tsw_inW (w := w) (m := 5) (by decide) with q2 | ⟨j, hj, rfl⟩
    · have hne : ∀ k : Nat, k ≤ 5 → ¬ w = nI k := fun k hk z => by
        rw [z, inW_nI (by omega) (by omega)] at q2; exact absurd (of_decide_eq_false q2) (by omega)
      rw [if_neg (show ¬ w = 0 from hne 0 (by decide)), if_neg (show ¬ w = 1 from hne 1 (by decide)), if_neg (show ¬ w = 2 from hne 2 (by decide)), if_neg (show ¬ w = 3 from hne 3 (by decide)), if_neg (show ¬ w = 4 from hne 4 (by decide)), if_neg (show ¬ w = 5 from hne 5 (by decide)), if_pos (show inW w 5 = false from q2)]
    · rcases (show j = 0 ∨ j = 1 ∨ j = 2 ∨ j = 3 ∨ j = 4 ∨ j = 5 by omega) with rfl | rfl | rfl | rfl | rfl | rfl
      · exact e1.1.symm
      · exact e1.2.symm
      · exact e2.1.symm
      · exact e2.2.1.symm
      · exact e2.2.2.1.symm
      · exact e2.2.2.2.1.symm
theorem op_bidder (h : IV σ μ E B t L n x s) (e w : Int32) : bdA σ e w = bdN μ e w := by
  unfold bdA bdN
  rw [(h.inB e).1, (h.inB e).2]
  have hB := h.tok.b.1
  by_cases q : inR e (nI B) = false
  · rw [if_pos q, if_pos q]
  · rw [if_neg q, if_neg q]
    obtain ⟨i, hi, rfl⟩ := inR_of (by simpa using q) (by omega)
    rw [toN_nI (by omega), nI_clamp (by omega)]
    have e1 := h.tol.bi i hi
    have e2 := h.cor.bi i hi
    rcases tsw_inW (w := w) (m := 4) (by decide) with q2 | ⟨j, hj, rfl⟩
    · have hne : ∀ k : Nat, k ≤ 4 → ¬ w = nI k := fun k hk z => by
        rw [z, inW_nI (by omega) (by omega)] at q2; exact absurd (of_decide_eq_false q2) (by omega)
      rw [if_neg (show ¬ w = 0 from hne 0 (by decide)), if_neg (show ¬ w = 1 from hne 1 (by decide)), if_neg (show ¬ w = 2 from hne 2 (by decide)), if_neg (show ¬ w = 3 from hne 3 (by decide)), if_neg (show ¬ w = 4 from hne 4 (by decide)), if_pos (show inW w 4 = false from q2)]
    · rcases (show j = 0 ∨ j = 1 ∨ j = 2 ∨ j = 3 ∨ j = 4 by omega) with rfl | rfl | rfl | rfl | rfl
      · exact e1.1.symm
      · exact e1.2.1.symm
      · exact e2.1.symm
      · exact e2.2.1.symm
      · exact e2.2.2.symm
theorem und_B : ∀ k, k ≤ 3 → ∀ w, w ≤ 4 → und ovB 5 (nI w) 5 (nI k + 1) = isA 1 (nI k) (nI w) := by decide +kernel
theorem und_E : ∀ k, k ≤ 2 → ∀ w, w ≤ 3 → und ovE 4 (nI w) 4 (nI k + 1) = isA 2 (nI k) (nI w) := by decide +kernel
theorem op_as (h : IV σ μ E B t L n x s) (e w : Int32) : asA σ e w = asM μ e w := by
  unfold asA asM
  rw [(h.inB e).1, (h.inB e).2]
  have hB := h.tok.b.1
  by_cases q : inR e (nI B) = false
  · rw [if_pos q, if_pos q]
  · rw [if_neg q, if_neg q]
    obtain ⟨i, hi, rfl⟩ := inR_of (by simpa using q) (by omega)
    rw [toN_nI (by omega), nI_clamp (by omega), (h.tol.bi i hi).1, (h.tol.bi i hi).2.1]
    rcases tsw_inW (w := w) (m := 4) (by decide) with q2 | ⟨j, hj, rfl⟩
    · rw [if_pos (show inW w 4 = false from q2), if_pos (show inW w 4 = false from q2)]
    · have q3 : ¬ inW (nI j) 4 = false := by
        have : inW (nI j) 4 = true := (inW_nI (n := 4) (by omega) (by decide)).trans (decide_eq_true hj)
        rw [this]; decide
      rw [if_neg q3, if_neg q3]
      obtain ⟨k, hk, ek⟩ := (h.tok.bi i hi).1
      rw [ek, und_B k hk j hj]
      cases isA 1 (nI k) (nI j) with
      | true => rw [if_neg (by decide), if_pos rfl]
      | false => rw [if_pos rfl, if_neg (by decide)]
theorem op_eveningAs (h : IV σ μ E B t L n x s) (e w : Int32) : eaA σ e w = eaM μ e w := by
  unfold eaA eaM
  rw [(h.inE e).1, (h.inE e).2]
  have hE := h.tok.e.1
  by_cases q : inR e (nI E) = false
  · rw [if_pos q, if_pos q]
  · rw [if_neg q, if_neg q]
    obtain ⟨i, hi, rfl⟩ := inR_of (by simpa using q) (by omega)
    rw [toN_nI (by omega), nI_clamp (by omega), (h.tol.ev i hi).1, h.tol.rf]
    rcases tsw_inW (w := w) (m := 3) (by decide) with q2 | ⟨j, hj, rfl⟩
    · rw [if_pos (show inW w 3 = false from q2), if_pos (show inW w 3 = false from q2)]
    · have q3 : ¬ inW (nI j) 3 = false := by
        have : inW (nI j) 3 = true := (inW_nI (n := 3) (by omega) (by decide)).trans (decide_eq_true hj)
        rw [this]; decide
      rw [if_neg q3, if_neg q3]
      obtain ⟨k, hk, ek⟩ := (h.tok.ev i hi).1
      rw [ek, und_E k hk j hj]
      cases isA 2 (nI k) (nI j) with
      | true => rw [if_neg (by decide), if_pos rfl]
      | false => rw [if_pos rfl, if_neg (by decide)]
theorem op_gain (h : IV σ μ E B t L n x s) (b e p : Int32) : gaA σ b e p = gaM μ b e p := by
  unfold gaA gaM
  rw [(h.inB b).1, (h.inB b).2, (h.inE e).1, (h.inE e).2]
  have hE := h.tok.e.1
  have hB := h.tok.b.1
  by_cases q : inR b (nI B) = false
  · rw [if_pos q, if_pos q]
  · rw [if_neg q, if_neg q]
    by_cases q2 : inR e (nI E) = false
    · rw [if_pos q2, if_pos q2]
    · rw [if_neg q2, if_neg q2]
      obtain ⟨j, hj, rfl⟩ := inR_of (x := b) (n := B) (by simpa using q) (by omega)
      obtain ⟨i, hi, rfl⟩ := inR_of (x := e) (n := E) (by simpa using q2) (by omega)
      rw [toN_nI (by omega), toN_nI (by omega), h.gn hj hi, Int32.add_comm 99999]
end PURE
