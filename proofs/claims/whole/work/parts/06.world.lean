abbrev Gx : Type := va_G × (ClassId × ClassId × ClassId) × (Nat → Nat) × (Nat × Nat) × (Nat → Nat) × (Nat → Nat)
abbrev Gx.D (g : Gx) : va_G := g.1
abbrev Gx.cI (g : Gx) : ClassId := g.2.1.1
abbrev Gx.cZ (g : Gx) : ClassId := g.2.1.2.1
abbrev Gx.cQ (g : Gx) : ClassId := g.2.1.2.2
abbrev Gx.ad (g : Gx) : Nat → Nat := g.2.2.1
abbrev Gx.t1 (g : Gx) : Nat := g.2.2.2.1.1
abbrev Gx.t2 (g : Gx) : Nat := g.2.2.2.1.2
abbrev Gx.aK (g : Gx) : Nat → Nat := g.2.2.2.2.1
abbrev Gx.aV (g : Gx) : Nat → Nat := g.2.2.2.2.2
def wdG (n : Nat) (ad : Nat → Nat) (E : Nat → (Nat → Int32) → va_E) (σ : Mem) : va_W := (List.range n).map (fun i => (ad i, E i (σ i)))
def inG (n : Nat) (ad : Nat → Nat) : Nat → Prop := fun q => ∃ i, i < n ∧ q = ad i
def tysG (g : Gx) : List (ClassId × FieldType) := [(g.cI, .int), (g.cZ, .boolean), (g.cQ, .object RX1)]
def OG (g : Gx) (n : Nat) (E : Nat → (Nat → Int32) → va_E) (SF : State → Prop) : Om := (g.D, tysG g, wdG n g.ad E, inG n g.ad, SF)
def ApG (n : Nat) (ad : Nat → Nat) : Prop := ∀ i j, i < n → j < n → ad i = ad j → i = j
theorem wdG_at {n : Nat} {ad : Nat → Nat} {E : Nat → (Nat → Int32) → va_E} {σ : Mem} {q : Nat} (h : q < n) : (wdG n ad E σ)[q]? = some (ad q, E q (σ q)) := by
  simp [wdG, List.getElem?_map, List.getElem?_range, h]
theorem wdG_of {n : Nat} {ad : Nat → Nat} {E : Nat → (Nat → Int32) → va_E} {σ : Mem} {q : Nat} {p : Nat × va_E} (h : (wdG n ad E σ)[q]? = some p) : q < n ∧ p = (ad q, E q (σ q)) := by
  have hq : q < n := by
    have := (List.getElem?_eq_some_iff.mp h).1
    simpa [wdG] using this
  refine ⟨hq, ?_⟩
  rw [wdG_at hq] at h
  exact (Option.some.inj h).symm
theorem wdG_set {n : Nat} {ad : Nat → Nat} {E : Nat → (Nat → Int32) → va_E} {σ : Mem} {q : Nat} (f : Nat → Int32) : (wdG n ad E σ).set q (ad q, E q f) = wdG n ad E (upA σ q f) := by
  apply List.ext_getElem?
  intro i
  by_cases hi : i < n
  · rw [wdG_at hi]
    by_cases hq : i = q
    · subst hq
      rw [List.getElem?_set_self (by simp [wdG]; exact hi)]
      simp [upA]
    · rw [List.getElem?_set_ne (fun e => hq e.symm), wdG_at hi]
      simp [upA, hq]
  · rw [List.getElem?_eq_none (by simp [wdG]; omega), List.getElem?_eq_none (by simp [wdG]; omega)]
theorem wdG_D {n : Nat} {ad : Nat → Nat} {E : Nat → (Nat → Int32) → va_E} (h : ApG n ad) (σ : Mem) : va_D (inG n ad) (wdG n ad E σ) := by
  refine ⟨fun i j p q hi hj e => ?_, fun k q hk => ?_⟩
  · obtain ⟨h1, rfl⟩ := wdG_of hi
    obtain ⟨h2, rfl⟩ := wdG_of hj
    exact h i j h1 h2 e
  · obtain ⟨h1, rfl⟩ := wdG_of hk
    exact ⟨k, h1, rfl⟩
section ZG
variable {κ : Kx} {g : Gx} {nn : Nat} {E : Nat → (Nat → Int32) → va_E} {SF : State → Prop} {own : String} {cc : ByteArray} {d : Nat} {σ : Mem} {pc : Nat} {lv : List (Option Value)} {rest : List Value}
theorem g_iald (cx : Cx κ (OG g nn E SF) own cc d) {q n : Nat} {i : Int32} (hq : q < nn) (hE : ∀ f, E q f = .inl (g.cI, n, .inl f)) (hin : vp_in i n) (hd : decode cc pc = .ok (.iaload, 1)) (kk : Z κ (OG g nn E SF) σ (pc + 1) lv (.int (σ q i.toNatClampNeg) :: rest)) : Z κ (OG g nn E SF) σ pc lv (.int i :: .ref (g.ad q) :: rest) :=
  z_iald (t := 0) cx ((wdG_at hq).trans (by rw [hE])) rfl hin hd kk
theorem g_zald (cx : Cx κ (OG g nn E SF) own cc d) {q n : Nat} {i : Int32} (hq : q < nn) (hE : ∀ f, E q f = .inl (g.cZ, n, .inl f)) (hin : vp_in i n) (hd : decode cc pc = .ok (.baload, 1)) (kk : Z κ (OG g nn E SF) σ (pc + 1) lv (.int (σ q i.toNatClampNeg) :: rest)) : Z κ (OG g nn E SF) σ pc lv (.int i :: .ref (g.ad q) :: rest) :=
  z_zald (t := 1) cx ((wdG_at hq).trans (by rw [hE])) rfl hin hd kk
theorem g_iast (cx : Cx κ (OG g nn E SF) own cc d) {q n : Nat} {i x : Int32} (hq : q < nn) (hE : ∀ f, E q f = .inl (g.cI, n, .inl f)) (hin : vp_in i n) (hd : decode cc pc = .ok (.iastore, 1)) (kk : Z κ (OG g nn E SF) (up2 σ q i.toNatClampNeg x) (pc + 1) lv rest) : Z κ (OG g nn E SF) σ pc lv (.int x :: .int i :: .ref (g.ad q) :: rest) :=
  z_iast (t := 0) cx ((wdG_at hq).trans (by rw [hE])) rfl hin (by rw [← hE]; exact wdG_set _) hd kk
theorem g_zast (cx : Cx κ (OG g nn E SF) own cc d) {q n : Nat} {i x : Int32} (hq : q < nn) (hE : ∀ f, E q f = .inl (g.cZ, n, .inl f)) (hin : vp_in i n) (hd : decode cc pc = .ok (.bastore, 1)) (kk : Z κ (OG g nn E SF) (up2 σ q i.toNatClampNeg (vp_nar .boolean x)) (pc + 1) lv rest) : Z κ (OG g nn E SF) σ pc lv (.int x :: .int i :: .ref (g.ad q) :: rest) :=
  z_zast (t := 1) cx ((wdG_at hq).trans (by rw [hE])) rfl hin (by rw [← hE]; exact wdG_set _) hd kk
theorem g_aald (cx : Cx κ (OG g nn E SF) own cc d) {q n b : Nat} {F : Nat → Option Nat} {i : Int32} (hq : q < nn) (hE : ∀ f, E q f = .inl (g.cQ, n, .inr (.inr (.inr (.inr F))))) (hin : vp_in i n) (hv : F i.toNatClampNeg = some b) (hd : decode cc pc = .ok (.aaload, 1)) (kk : Z κ (OG g nn E SF) σ (pc + 1) lv (.ref b :: rest)) : Z κ (OG g nn E SF) σ pc lv (.int i :: .ref (g.ad q) :: rest) :=
  z_aald (t := 2) cx ((wdG_at hq).trans (by rw [hE])) rfl hin hv hd kk
theorem g_alen (cx : Cx κ (OG g nn E SF) own cc d) {q n : Nat} {v : Int32} (hq : q < nn) (hE : ∀ f, E q f = .inl (g.cI, n, .inl f)) (hv : Int32.ofNat n = v) (hd : decode cc pc = .ok (.arraylength, 1)) (kk : Z κ (OG g nn E SF) σ (pc + 1) lv (.int v :: rest)) : Z κ (OG g nn E SF) σ pc lv (.ref (g.ad q) :: rest) :=
  z_alen (t := 0) (x := (n, .inl (σ q))) cx ((wdG_at hq).trans (by rw [hE])) rfl hv hd kk
theorem g_copy (cx : Cx κ (OG g nn E SF) own cc d) {idx q0 q1 n0 n1 : Nat} {sp dp n : Int32} (hl : Cond.methodLink own idx arraycopyName ∈ tb) (h1 : 1 ≤ d) (hq0 : q0 < nn) (hq1 : q1 < nn) (hE0 : ∀ f, E q0 f = .inl (g.cI, n0, .inl f)) (hE1 : ∀ f, E q1 f = .inl (g.cI, n1, .inl f))
    (g1 : ¬ sp < 0) (g2 : ¬ dp < 0) (g3 : ¬ n < 0) (g4 : sp.toNatClampNeg + n.toNatClampNeg ≤ n0) (g5 : dp.toNatClampNeg + n.toNatClampNeg ≤ n1) (hr : (rest.map fun v => v.category).sum ≤ 8) (hd : decode cc pc = .ok (.invokestatic idx, 3)) (kk : Z κ (OG g nn E SF) (upA σ q1 (va_cpy (σ q0) (σ q1) sp.toNatClampNeg dp.toNatClampNeg n.toNatClampNeg)) (pc + 3) lv rest) : Z κ (OG g nn E SF) σ pc lv (.int n :: .int dp :: .ref (g.ad q1) :: .int sp :: .ref (g.ad q0) :: rest) :=
  z_copy (t := 0) cx hl nA_copy sA_copy iA_sys h1 ((wdG_at hq0).trans (by rw [hE0])) ((wdG_at hq1).trans (by rw [hE1])) rfl g1 g2 g3 g4 g5 hr (by rw [← hE1]; exact wdG_set _) hd kk
theorem g_get (cx : Cx κ (OG g nn E SF) own cc d) {q ci k idx N : Nat} {C : String} {T : u_T} {fs : (Nat → Int32) → List Value} {v : Value} (hf : Fk own ci k idx C T N) (hq : q < nn) (hE : ∀ f, E q f = .inr (ci, fs f)) (hv : (fs (σ q))[k]? = some v) (hd : decode cc pc = .ok (.getfield idx, 3)) (kk : Z κ (OG g nn E SF) σ (pc + 3) lv (v :: rest)) : Z κ (OG g nn E SF) σ pc lv (.ref (g.ad q) :: rest) :=
  z_get cx hf ((wdG_at hq).trans (by rw [hE])) hv hd kk
theorem g_put (cx : Cx κ (OG g nn E SF) own cc d) {q ci k idx N : Nat} {C : String} {T : u_T} {fs : (Nat → Int32) → List Value} {v : Int32} {ty0 : Nat → FieldType} (hf : Fk own ci k idx C T N) (hw : Fw k T N ty0) (hq : q < nn) (hE : ∀ f, E q f = .inr (ci, fs f)) (hl : k < (fs (σ q)).length) (hs : (fs (σ q)).set k (.int v) = fs (upd (σ q) k v)) (hd : decode cc pc = .ok (.putfield idx, 3)) (kk : Z κ (OG g nn E SF) (up2 σ q k v) (pc + 3) lv rest) : Z κ (OG g nn E SF) σ pc lv (.int v :: .ref (g.ad q) :: rest) :=
  z_put cx hf hw ((wdG_at hq).trans (by rw [hE])) hl (by rw [hs, ← hE]; exact wdG_set _) hd kk
theorem g_ialdN (cx : Cx κ (OG g nn E SF) own cc d) {q n : Nat} {i : Int32} (j : Nat) (hq : q < nn) (hE : ∀ f, E q f = .inl (g.cI, n, .inl f)) (hi : i = nI j) (hj : j < n) (hb : n ≤ 1000) (hd : decode cc pc = .ok (.iaload, 1)) (kk : Z κ (OG g nn E SF) σ (pc + 1) lv (.int (σ q j) :: rest)) : Z κ (OG g nn E SF) σ pc lv (.int i :: .ref (g.ad q) :: rest) :=
  g_iald cx hq hE (by subst hi; exact vp_in_nI hj (by omega)) hd (by rw [hi, nI_clamp (by omega)]; exact kk)
theorem g_iastN (cx : Cx κ (OG g nn E SF) own cc d) {q n : Nat} {i x : Int32} (j : Nat) (hq : q < nn) (hE : ∀ f, E q f = .inl (g.cI, n, .inl f)) (hi : i = nI j) (hj : j < n) (hb : n ≤ 1000) (hd : decode cc pc = .ok (.iastore, 1)) (kk : Z κ (OG g nn E SF) (up2 σ q j x) (pc + 1) lv rest) : Z κ (OG g nn E SF) σ pc lv (.int x :: .int i :: .ref (g.ad q) :: rest) :=
  g_iast cx hq hE (by subst hi; exact vp_in_nI hj (by omega)) hd (by rw [hi, nI_clamp (by omega)]; exact kk)
theorem g_he {q ci : Nat} {fs : (Nat → Int32) → List Value} (hq : q < nn) (hE : ∀ f, E q f = .inr (ci, fs f)) : ((OG g nn E SF).wd σ)[q]? = some (g.ad q, .inr (ci, fs (σ q))) := (wdG_at hq).trans (by rw [hE])
end ZG
def cLen : Nat → Nat := fun q => match q with
  | 2 => 160
  | 3 => 14
  | 4 => 14
  | 5 => 14
  | 7 => 7
  | 8 => 7
  | 9 => 5
  | 10 => 5
  | 11 => 5
  | 13 => 5
  | 14 => 5
  | 15 => 5
  | 16 => 7
  | 17 => 7
  | 18 => 7
  | 19 => 7
  | 20 => 21
  | 24 => 5
  | 25 => 5
  | 26 => 5
  | 27 => 7
  | 28 => 7
  | 29 => 7
  | 30 => 7
  | 31 => 21
  | 33 => 5
  | 34 => 5
  | 35 => 5
  | 36 => 7
  | 37 => 7
  | 38 => 7
  | 39 => 7
  | 40 => 21
  | 42 => 5
  | 43 => 5
  | 44 => 5
  | 45 => 7
  | 46 => 7
  | 47 => 7
  | 48 => 7
  | 49 => 21
  | 51 => 5
  | 52 => 5
  | 53 => 5
  | 54 => 7
  | 55 => 7
  | 56 => 7
  | 57 => 7
  | 58 => 21
  | 60 => 5
  | 61 => 5
  | 62 => 5
  | 63 => 7
  | 64 => 7
  | 65 => 7
  | 66 => 7
  | 67 => 21
  | 69 => 5
  | 70 => 5
  | 71 => 5
  | 72 => 7
  | 73 => 7
  | 74 => 7
  | 75 => 7
  | 76 => 21
  | 78 => 5
  | 79 => 5
  | 80 => 5
  | 81 => 7
  | 82 => 7
  | 83 => 7
  | 84 => 7
  | 85 => 21
  | 87 => 5
  | 88 => 5
  | 89 => 5
  | 90 => 7
  | 91 => 7
  | 92 => 7
  | 93 => 7
  | 94 => 21
  | 97 => 5
  | 98 => 5
  | 99 => 5
  | 100 => 7
  | 101 => 7
  | 102 => 7
  | 103 => 7
  | 104 => 21
  | 106 => 5
  | 107 => 5
  | 108 => 5
  | 109 => 7
  | 110 => 7
  | 111 => 7
  | 112 => 7
  | 113 => 21
  | 116 => 5
  | 118 => 8
  | 119 => 7
  | 121 => 6
  | 122 => 6
  | _ => 0
def cE (g : Gx) : Nat → (Nat → Int32) → va_E := fun q f => match q with
  | 0 => .inr (7, [.ref (g.ad 1), .ref (g.ad 6), .ref (g.ad 12), .ref (g.ad 21), .ref (g.ad 95), .ref (g.ad 114), .ref (g.ad 115), .ref (g.ad 117), .ref (g.ad 120)])
  | 1 => .inr (5, [.ref (g.ad 2), .int (f 1), .int (f 2), .ref (g.ad 3), .ref (g.ad 4), .ref (g.ad 5), .int (f 6), .int (f 7), .int (f 8), .int (f 9)])
  | 2 => .inl (g.cI, 160, .inl f)
  | 3 => .inl (g.cI, 14, .inl f)
  | 4 => .inl (g.cI, 14, .inl f)
  | 5 => .inl (g.cI, 14, .inl f)
  | 6 => .inr (6, [.int (f 0), .int (f 1), .int (f 2), .int (f 3), .int (f 4), .ref (g.ad 7), .ref (g.ad 8), .ref (g.ad 9), .ref (g.ad 10), .ref (g.ad 11)])
  | 7 => .inl (g.cI, 7, .inl f)
  | 8 => .inl (g.cI, 7, .inl f)
  | 9 => .inl (g.cI, 5, .inl f)
  | 10 => .inl (g.cI, 5, .inl f)
  | 11 => .inl (g.cI, 5, .inl f)
  | 12 => .inr (1, [.int (f 0), .int (f 1), .ref (g.ad 13), .ref (g.ad 14), .ref (g.ad 15), .ref (g.ad 16), .ref (g.ad 17), .ref (g.ad 18), .ref (g.ad 19), .ref (g.ad 20)])
  | 13 => .inl (g.cI, 5, .inl f)
  | 14 => .inl (g.cI, 5, .inl f)
  | 15 => .inl (g.cI, 5, .inl f)
  | 16 => .inl (g.cI, 7, .inl f)
  | 17 => .inl (g.cI, 7, .inl f)
  | 18 => .inl (g.cI, 7, .inl f)
  | 19 => .inl (g.cI, 7, .inl f)
  | 20 => .inl (g.cI, 21, .inl f)
  | 21 => .inr (3, [.ref (g.ad 22), .int (f 1), .int (f 2)])
  | 22 => .inl (g.cQ, 8, .inr (.inr (.inr (.inr (fun k => some (g.ad (23 + 9 * k)))))))
  | 23 => .inr (1, [.int (f 0), .int (f 1), .ref (g.ad 24), .ref (g.ad 25), .ref (g.ad 26), .ref (g.ad 27), .ref (g.ad 28), .ref (g.ad 29), .ref (g.ad 30), .ref (g.ad 31)])
  | 24 => .inl (g.cI, 5, .inl f)
  | 25 => .inl (g.cI, 5, .inl f)
  | 26 => .inl (g.cI, 5, .inl f)
  | 27 => .inl (g.cI, 7, .inl f)
  | 28 => .inl (g.cI, 7, .inl f)
  | 29 => .inl (g.cI, 7, .inl f)
  | 30 => .inl (g.cI, 7, .inl f)
  | 31 => .inl (g.cI, 21, .inl f)
  | 32 => .inr (1, [.int (f 0), .int (f 1), .ref (g.ad 33), .ref (g.ad 34), .ref (g.ad 35), .ref (g.ad 36), .ref (g.ad 37), .ref (g.ad 38), .ref (g.ad 39), .ref (g.ad 40)])
  | 33 => .inl (g.cI, 5, .inl f)
  | 34 => .inl (g.cI, 5, .inl f)
  | 35 => .inl (g.cI, 5, .inl f)
  | 36 => .inl (g.cI, 7, .inl f)
  | 37 => .inl (g.cI, 7, .inl f)
  | 38 => .inl (g.cI, 7, .inl f)
  | 39 => .inl (g.cI, 7, .inl f)
  | 40 => .inl (g.cI, 21, .inl f)
  | 41 => .inr (1, [.int (f 0), .int (f 1), .ref (g.ad 42), .ref (g.ad 43), .ref (g.ad 44), .ref (g.ad 45), .ref (g.ad 46), .ref (g.ad 47), .ref (g.ad 48), .ref (g.ad 49)])
  | 42 => .inl (g.cI, 5, .inl f)
  | 43 => .inl (g.cI, 5, .inl f)
  | 44 => .inl (g.cI, 5, .inl f)
  | 45 => .inl (g.cI, 7, .inl f)
  | 46 => .inl (g.cI, 7, .inl f)
  | 47 => .inl (g.cI, 7, .inl f)
  | 48 => .inl (g.cI, 7, .inl f)
  | 49 => .inl (g.cI, 21, .inl f)
  | 50 => .inr (1, [.int (f 0), .int (f 1), .ref (g.ad 51), .ref (g.ad 52), .ref (g.ad 53), .ref (g.ad 54), .ref (g.ad 55), .ref (g.ad 56), .ref (g.ad 57), .ref (g.ad 58)])
  | 51 => .inl (g.cI, 5, .inl f)
  | 52 => .inl (g.cI, 5, .inl f)
  | 53 => .inl (g.cI, 5, .inl f)
  | 54 => .inl (g.cI, 7, .inl f)
  | 55 => .inl (g.cI, 7, .inl f)
  | 56 => .inl (g.cI, 7, .inl f)
  | 57 => .inl (g.cI, 7, .inl f)
  | 58 => .inl (g.cI, 21, .inl f)
  | 59 => .inr (1, [.int (f 0), .int (f 1), .ref (g.ad 60), .ref (g.ad 61), .ref (g.ad 62), .ref (g.ad 63), .ref (g.ad 64), .ref (g.ad 65), .ref (g.ad 66), .ref (g.ad 67)])
  | 60 => .inl (g.cI, 5, .inl f)
  | 61 => .inl (g.cI, 5, .inl f)
  | 62 => .inl (g.cI, 5, .inl f)
  | 63 => .inl (g.cI, 7, .inl f)
  | 64 => .inl (g.cI, 7, .inl f)
  | 65 => .inl (g.cI, 7, .inl f)
  | 66 => .inl (g.cI, 7, .inl f)
  | 67 => .inl (g.cI, 21, .inl f)
  | 68 => .inr (1, [.int (f 0), .int (f 1), .ref (g.ad 69), .ref (g.ad 70), .ref (g.ad 71), .ref (g.ad 72), .ref (g.ad 73), .ref (g.ad 74), .ref (g.ad 75), .ref (g.ad 76)])
  | 69 => .inl (g.cI, 5, .inl f)
  | 70 => .inl (g.cI, 5, .inl f)
  | 71 => .inl (g.cI, 5, .inl f)
  | 72 => .inl (g.cI, 7, .inl f)
  | 73 => .inl (g.cI, 7, .inl f)
  | 74 => .inl (g.cI, 7, .inl f)
  | 75 => .inl (g.cI, 7, .inl f)
  | 76 => .inl (g.cI, 21, .inl f)
  | 77 => .inr (1, [.int (f 0), .int (f 1), .ref (g.ad 78), .ref (g.ad 79), .ref (g.ad 80), .ref (g.ad 81), .ref (g.ad 82), .ref (g.ad 83), .ref (g.ad 84), .ref (g.ad 85)])
  | 78 => .inl (g.cI, 5, .inl f)
  | 79 => .inl (g.cI, 5, .inl f)
  | 80 => .inl (g.cI, 5, .inl f)
  | 81 => .inl (g.cI, 7, .inl f)
  | 82 => .inl (g.cI, 7, .inl f)
  | 83 => .inl (g.cI, 7, .inl f)
  | 84 => .inl (g.cI, 7, .inl f)
  | 85 => .inl (g.cI, 21, .inl f)
  | 86 => .inr (1, [.int (f 0), .int (f 1), .ref (g.ad 87), .ref (g.ad 88), .ref (g.ad 89), .ref (g.ad 90), .ref (g.ad 91), .ref (g.ad 92), .ref (g.ad 93), .ref (g.ad 94)])
  | 87 => .inl (g.cI, 5, .inl f)
  | 88 => .inl (g.cI, 5, .inl f)
  | 89 => .inl (g.cI, 5, .inl f)
  | 90 => .inl (g.cI, 7, .inl f)
  | 91 => .inl (g.cI, 7, .inl f)
  | 92 => .inl (g.cI, 7, .inl f)
  | 93 => .inl (g.cI, 7, .inl f)
  | 94 => .inl (g.cI, 21, .inl f)
  | 95 => .inl (g.cQ, 2, .inr (.inr (.inr (.inr (fun k => some (g.ad (96 + 9 * k)))))))
  | 96 => .inr (1, [.int (f 0), .int (f 1), .ref (g.ad 97), .ref (g.ad 98), .ref (g.ad 99), .ref (g.ad 100), .ref (g.ad 101), .ref (g.ad 102), .ref (g.ad 103), .ref (g.ad 104)])
  | 97 => .inl (g.cI, 5, .inl f)
  | 98 => .inl (g.cI, 5, .inl f)
  | 99 => .inl (g.cI, 5, .inl f)
  | 100 => .inl (g.cI, 7, .inl f)
  | 101 => .inl (g.cI, 7, .inl f)
  | 102 => .inl (g.cI, 7, .inl f)
  | 103 => .inl (g.cI, 7, .inl f)
  | 104 => .inl (g.cI, 21, .inl f)
  | 105 => .inr (1, [.int (f 0), .int (f 1), .ref (g.ad 106), .ref (g.ad 107), .ref (g.ad 108), .ref (g.ad 109), .ref (g.ad 110), .ref (g.ad 111), .ref (g.ad 112), .ref (g.ad 113)])
  | 106 => .inl (g.cI, 5, .inl f)
  | 107 => .inl (g.cI, 5, .inl f)
  | 108 => .inl (g.cI, 5, .inl f)
  | 109 => .inl (g.cI, 7, .inl f)
  | 110 => .inl (g.cI, 7, .inl f)
  | 111 => .inl (g.cI, 7, .inl f)
  | 112 => .inl (g.cI, 7, .inl f)
  | 113 => .inl (g.cI, 21, .inl f)
  | 114 => .inl (g.cZ, 2, .inl f)
  | 115 => .inr (0, [.ref (g.ad 6), .ref (g.ad 12), .ref (g.ad 116), .int (f 3), .int (f 4), .int (f 5), .int (f 6)])
  | 116 => .inl (g.cI, 5, .inl f)
  | 117 => .inr (2, [.ref (g.ad 6), .ref (g.ad 12), .ref (g.ad 118), .ref (g.ad 119), .int (f 4), .int (f 5), .int (f 6), .int (f 7)])
  | 118 => .inl (g.cI, 8, .inl f)
  | 119 => .inl (g.cI, 7, .inl f)
  | 120 => .inr (4, [.ref (g.ad 6), .ref (g.ad 121), .ref (g.ad 122), .int (f 3)])
  | 121 => .inl (g.cI, 6, .inl f)
  | 122 => .inl (g.cI, 6, .inl f)
  | _ => .inr (9, [])
def mE (g : Gx) : Nat → (Nat → Int32) → va_E := fun q f => match q with
  | 0 => .inr (8, [.ref (g.ad 1), .ref (g.ad 2), .ref (g.ad 3), .int (f 3), .ref (g.ad 4), .ref (g.ad 5), .ref (g.ad 6), .int (f 7), .ref (g.ad 7), .int (f 9), .ref (g.ad 8), .int (f 11), .int (f 12), .int (f 13), .int (f 14), .int (f 15), .int (f 16), .int (f 17)])
  | 1 => .inl (g.cI, 100, .inl f)
  | 2 => .inl (g.cI, 100, .inl f)
  | 3 => .inl (g.cI, 800, .inl f)
  | 4 => .inl (g.cI, 200, .inl f)
  | 5 => .inl (g.cZ, 2, .inl f)
  | 6 => .inl (g.cI, 160, .inl f)
  | 7 => .inl (g.cI, 12, .inl f)
  | 8 => .inl (g.cI, 5, .inl f)
  | _ => .inr (9, [])
def ovB : Nat → Int32 := fun k => match k with | 0 => -1 | 1 => 0 | 2 => 0 | 3 => 1 | _ => 1
def ovE : Nat → Int32 := fun k => match k with | 0 => -1 | 1 => 0 | 2 => 1 | _ => 0
def sLen : List Nat := [4, 5, 6, 5, 5, 5, 4, 6, 5, 6, 7, 6, 5]
def sByt : List (List Int32) := [[119, 101, 115, 116], [99, 108, 101, 97, 114], [99, 108, 111, 117, 100, 121], [115, 109, 111, 107, 121], [112, 108, 97, 105, 110], [98, 108, 105, 110, 100], [115, 105, 99, 107], [100, 101, 97, 108, 101, 114], [102, 105, 114, 115, 116], [115, 101, 99, 111, 110, 100], [114, 101, 115, 101, 114, 118, 101], [114, 101, 102, 117, 110, 100], [110, 105, 103, 104, 116]]
def SFC (g : Gx) (U : State) : Prop := (va_Z "SunsetSale" "OVER_BIDDERS" "[I" (.ref g.t1) (inG 123 g.ad) U U.heap ∧ va_T .int g.t1 5 (fun j => .int (ovB j)) (inG 123 g.ad) U U.heap) ∧ (va_Z "SunsetSale" "OVER_EVENINGS" "[I" (.ref g.t2) (inG 123 g.ad) U U.heap ∧ va_T .int g.t2 4 (fun j => .int (ovE j)) (inG 123 g.ad) U U.heap) ∧ (va_Z "java/lang/String" "COMPACT_STRINGS" "Z" (.int 1) (inG 123 g.ad) U U.heap ∧ va_Zq "jdk/internal/util/Preconditions" "SIOOBE_FORMATTER" "Ljava/util/function/BiFunction;" (inG 123 g.ad) U U.heap ∧ vk_S 13 sLen sByt g.aK g.aV (inG 123 g.ad) U U.heap) ∧ (vk_R "SunsetSale$Text" 82 "west" (g.aK 0) U ∧ vk_R "SunsetSale$Text" 84 "clear" (g.aK 1) U ∧ vk_R "SunsetSale$Text" 86 "cloudy" (g.aK 2) U ∧ vk_R "SunsetSale$Text" 88 "smoky" (g.aK 3) U ∧ vk_R "SunsetSale$Text" 90 "plain" (g.aK 4) U ∧ vk_R "SunsetSale$Text" 92 "blind" (g.aK 5) U ∧ vk_R "SunsetSale$Text" 94 "sick" (g.aK 6) U ∧ vk_R "SunsetSale$Text" 96 "dealer" (g.aK 7) U ∧ vk_R "SunsetSale$Text" 98 "first" (g.aK 8) U ∧ vk_R "SunsetSale$Text" 100 "second" (g.aK 9) U ∧ vk_R "SunsetSale$Text" 102 "reserve" (g.aK 10) U ∧ vk_R "SunsetSale$Text" 104 "refund" (g.aK 11) U ∧ vk_R "SunsetSale$Text" 106 "night" (g.aK 12) U) ∧ (va_Nw (.methodLinkNest RX7 9 yX5_init "SunsetSale") U ∧ va_Nw (.methodLinkNest RX7 18 yX6_init "SunsetSale") U ∧ va_Nw (.methodLinkNest RX7 25 yX1_init "SunsetSale") U ∧ va_Nw (.methodLinkNest RX3 17 yX1_init "SunsetSale") U ∧ va_Nw (.methodLinkNest RX5 116 yX7_isEveningWord "SunsetSale") U ∧ va_Nw (.methodLinkNest RX5 119 yX7_isBidderWord "SunsetSale") U ∧ va_Nw (.methodLinkNest RX6 34 yX7_isEveningWord "SunsetSale") U ∧ va_Nw (.methodLinkNest RX6 42 yX7_isBidderWord "SunsetSale") U ∧ va_Nw (.methodLinkNest RX1 60 yX7_sayingPlace "SunsetSale") U)
abbrev OC (g : Gx) : Om := OG g 123 (cE g) (SFC g)
abbrev OM (g : Gx) : Om := OG g 9 (mE g) (fun _ => True)
theorem okM {g : Gx} (h : ApG 9 g.ad) : OkOm (OM g) := ⟨wdG_D h, fun _ _ _ _ _ _ => trivial⟩
theorem okC {g : Gx} (h : ApG 123 g.ad) : OkOm (OC g) := by
  refine ⟨wdG_D h, fun s U hW _ hq hF => ?_⟩
  obtain ⟨⟨a1, a2⟩, ⟨b1, b2⟩, ⟨c1, c2, c3⟩, d1, e1⟩ := hF
  refine ⟨⟨(a1.moved hW.alike).kept hq, (a2.moved hW.alike).kept hq⟩, ⟨(b1.moved hW.alike).kept hq, (b2.moved hW.alike).kept hq⟩, ⟨(c1.moved hW.alike).kept hq, (c2.moved hW.alike).kept hq, (c3.moved hW.alike).kept hq⟩, ?_, ?_⟩
  · obtain ⟨d_0, d_1, d_2, d_3, d_4, d_5, d_6, d_7, d_8, d_9, d_10, d_11, d_12⟩ := d1
    exact ⟨d_0.warm hW, d_1.warm hW, d_2.warm hW, d_3.warm hW, d_4.warm hW, d_5.warm hW, d_6.warm hW, d_7.warm hW, d_8.warm hW, d_9.warm hW, d_10.warm hW, d_11.warm hW, d_12.warm hW⟩
  · obtain ⟨e_0, e_1, e_2, e_3, e_4, e_5, e_6, e_7, e_8⟩ := e1
    exact ⟨e_0.warmM hW, e_1.warmM hW, e_2.warmM hW, e_3.warmM hW, e_4.warmM hW, e_5.warmM hW, e_6.warmM hW, e_7.warmM hW, e_8.warmM hW⟩
section FR
variable {κ : Kx} {g : Gx} {cc : ByteArray} {d : Nat} {σ : Mem} {pc : Nat} {lv : List (Option Value)} {rest : List Value}
theorem kX5f9 : Fk RX5 5 0 9 RX5 TX5 10 := ⟨rfl, inX5, by decide, fX5_9⟩
theorem gX5_9 (cx : Cx κ (OC g) RX5 cc d) (hd : decode cc pc = .ok (.getfield 9, 3)) (kk : Z κ (OC g) σ (pc + 3) lv (.ref (g.ad 2) :: rest)) : Z κ (OC g) σ pc lv (.ref (g.ad 1) :: rest) := g_get cx kX5f9 (by decide) (fun _ => rfl) rfl hd kk
theorem kX5f24 : Fk RX5 5 1 24 RX5 TX5 10 := ⟨rfl, inX5, by decide, fX5_24⟩
theorem gX5_24 (cx : Cx κ (OC g) RX5 cc d) (hd : decode cc pc = .ok (.getfield 24, 3)) (kk : Z κ (OC g) σ (pc + 3) lv (.int (σ 1 1) :: rest)) : Z κ (OC g) σ pc lv (.ref (g.ad 1) :: rest) := g_get cx kX5f24 (by decide) (fun _ => rfl) rfl hd kk
theorem wX5_1 : Fw 1 TX5 10 tyX5 := ⟨tyX5_ok, nmX5, rfl, rfl⟩
theorem pX5_24 {v : Int32} (cx : Cx κ (OC g) RX5 cc d) (hd : decode cc pc = .ok (.putfield 24, 3)) (kk : Z κ (OC g) (up2 σ 1 1 v) (pc + 3) lv rest) : Z κ (OC g) σ pc lv (.int v :: .ref (g.ad 1) :: rest) := g_put cx kX5f24 wX5_1 (by decide) (fun _ => rfl) (Nat.le_of_ble_eq_true rfl) rfl hd kk
theorem kX7f77 : Fk RX7 5 1 77 RX5 TX5 10 := ⟨rfl, inX5, by decide, fX7_77⟩
theorem gX7_77 (cx : Cx κ (OC g) RX7 cc d) (hd : decode cc pc = .ok (.getfield 77, 3)) (kk : Z κ (OC g) σ (pc + 3) lv (.int (σ 1 1) :: rest)) : Z κ (OC g) σ pc lv (.ref (g.ad 1) :: rest) := g_get cx kX7f77 (by decide) (fun _ => rfl) rfl hd kk
theorem pX7_77 {v : Int32} (cx : Cx κ (OC g) RX7 cc d) (hd : decode cc pc = .ok (.putfield 77, 3)) (kk : Z κ (OC g) (up2 σ 1 1 v) (pc + 3) lv rest) : Z κ (OC g) σ pc lv (.int v :: .ref (g.ad 1) :: rest) := g_put cx kX7f77 wX5_1 (by decide) (fun _ => rfl) (Nat.le_of_ble_eq_true rfl) rfl hd kk
theorem kX5f34 : Fk RX5 5 2 34 RX5 TX5 10 := ⟨rfl, inX5, by decide, fX5_34⟩
theorem gX5_34 (cx : Cx κ (OC g) RX5 cc d) (hd : decode cc pc = .ok (.getfield 34, 3)) (kk : Z κ (OC g) σ (pc + 3) lv (.int (σ 1 2) :: rest)) : Z κ (OC g) σ pc lv (.ref (g.ad 1) :: rest) := g_get cx kX5f34 (by decide) (fun _ => rfl) rfl hd kk
theorem wX5_2 : Fw 2 TX5 10 tyX5 := ⟨tyX5_ok, nmX5, rfl, rfl⟩
theorem pX5_34 {v : Int32} (cx : Cx κ (OC g) RX5 cc d) (hd : decode cc pc = .ok (.putfield 34, 3)) (kk : Z κ (OC g) (up2 σ 1 2 v) (pc + 3) lv rest) : Z κ (OC g) σ pc lv (.int v :: .ref (g.ad 1) :: rest) := g_put cx kX5f34 wX5_2 (by decide) (fun _ => rfl) (Nat.le_of_ble_eq_true rfl) rfl hd kk
theorem kX7f95 : Fk RX7 5 2 95 RX5 TX5 10 := ⟨rfl, inX5, by decide, fX7_95⟩
theorem gX7_95 (cx : Cx κ (OC g) RX7 cc d) (hd : decode cc pc = .ok (.getfield 95, 3)) (kk : Z κ (OC g) σ (pc + 3) lv (.int (σ 1 2) :: rest)) : Z κ (OC g) σ pc lv (.ref (g.ad 1) :: rest) := g_get cx kX7f95 (by decide) (fun _ => rfl) rfl hd kk
theorem pX7_95 {v : Int32} (cx : Cx κ (OC g) RX7 cc d) (hd : decode cc pc = .ok (.putfield 95, 3)) (kk : Z κ (OC g) (up2 σ 1 2 v) (pc + 3) lv rest) : Z κ (OC g) σ pc lv (.int v :: .ref (g.ad 1) :: rest) := g_put cx kX7f95 wX5_2 (by decide) (fun _ => rfl) (Nat.le_of_ble_eq_true rfl) rfl hd kk
theorem kX5f15 : Fk RX5 5 3 15 RX5 TX5 10 := ⟨rfl, inX5, by decide, fX5_15⟩
theorem gX5_15 (cx : Cx κ (OC g) RX5 cc d) (hd : decode cc pc = .ok (.getfield 15, 3)) (kk : Z κ (OC g) σ (pc + 3) lv (.ref (g.ad 3) :: rest)) : Z κ (OC g) σ pc lv (.ref (g.ad 1) :: rest) := g_get cx kX5f15 (by decide) (fun _ => rfl) rfl hd kk
theorem kX7f98 : Fk RX7 5 3 98 RX5 TX5 10 := ⟨rfl, inX5, by decide, fX7_98⟩
theorem gX7_98 (cx : Cx κ (OC g) RX7 cc d) (hd : decode cc pc = .ok (.getfield 98, 3)) (kk : Z κ (OC g) σ (pc + 3) lv (.ref (g.ad 3) :: rest)) : Z κ (OC g) σ pc lv (.ref (g.ad 1) :: rest) := g_get cx kX7f98 (by decide) (fun _ => rfl) rfl hd kk
theorem kX5f18 : Fk RX5 5 4 18 RX5 TX5 10 := ⟨rfl, inX5, by decide, fX5_18⟩
theorem gX5_18 (cx : Cx κ (OC g) RX5 cc d) (hd : decode cc pc = .ok (.getfield 18, 3)) (kk : Z κ (OC g) σ (pc + 3) lv (.ref (g.ad 4) :: rest)) : Z κ (OC g) σ pc lv (.ref (g.ad 1) :: rest) := g_get cx kX5f18 (by decide) (fun _ => rfl) rfl hd kk
theorem kX7f102 : Fk RX7 5 4 102 RX5 TX5 10 := ⟨rfl, inX5, by decide, fX7_102⟩
theorem gX7_102 (cx : Cx κ (OC g) RX7 cc d) (hd : decode cc pc = .ok (.getfield 102, 3)) (kk : Z κ (OC g) σ (pc + 3) lv (.ref (g.ad 4) :: rest)) : Z κ (OC g) σ pc lv (.ref (g.ad 1) :: rest) := g_get cx kX7f102 (by decide) (fun _ => rfl) rfl hd kk
theorem kX5f21 : Fk RX5 5 5 21 RX5 TX5 10 := ⟨rfl, inX5, by decide, fX5_21⟩
theorem gX5_21 (cx : Cx κ (OC g) RX5 cc d) (hd : decode cc pc = .ok (.getfield 21, 3)) (kk : Z κ (OC g) σ (pc + 3) lv (.ref (g.ad 5) :: rest)) : Z κ (OC g) σ pc lv (.ref (g.ad 1) :: rest) := g_get cx kX5f21 (by decide) (fun _ => rfl) rfl hd kk
theorem kX7f105 : Fk RX7 5 5 105 RX5 TX5 10 := ⟨rfl, inX5, by decide, fX7_105⟩
theorem gX7_105 (cx : Cx κ (OC g) RX7 cc d) (hd : decode cc pc = .ok (.getfield 105, 3)) (kk : Z κ (OC g) σ (pc + 3) lv (.ref (g.ad 5) :: rest)) : Z κ (OC g) σ pc lv (.ref (g.ad 1) :: rest) := g_get cx kX7f105 (by decide) (fun _ => rfl) rfl hd kk
theorem kX5f44 : Fk RX5 5 6 44 RX5 TX5 10 := ⟨rfl, inX5, by decide, fX5_44⟩
theorem gX5_44 (cx : Cx κ (OC g) RX5 cc d) (hd : decode cc pc = .ok (.getfield 44, 3)) (kk : Z κ (OC g) σ (pc + 3) lv (.int (σ 1 6) :: rest)) : Z κ (OC g) σ pc lv (.ref (g.ad 1) :: rest) := g_get cx kX5f44 (by decide) (fun _ => rfl) rfl hd kk
theorem wX5_6 : Fw 6 TX5 10 tyX5 := ⟨tyX5_ok, nmX5, rfl, rfl⟩
theorem pX5_44 {v : Int32} (cx : Cx κ (OC g) RX5 cc d) (hd : decode cc pc = .ok (.putfield 44, 3)) (kk : Z κ (OC g) (up2 σ 1 6 v) (pc + 3) lv rest) : Z κ (OC g) σ pc lv (.int v :: .ref (g.ad 1) :: rest) := g_put cx kX5f44 wX5_6 (by decide) (fun _ => rfl) (Nat.le_of_ble_eq_true rfl) rfl hd kk
theorem kX5f37 : Fk RX5 5 7 37 RX5 TX5 10 := ⟨rfl, inX5, by decide, fX5_37⟩
theorem gX5_37 (cx : Cx κ (OC g) RX5 cc d) (hd : decode cc pc = .ok (.getfield 37, 3)) (kk : Z κ (OC g) σ (pc + 3) lv (.int (σ 1 7) :: rest)) : Z κ (OC g) σ pc lv (.ref (g.ad 1) :: rest) := g_get cx kX5f37 (by decide) (fun _ => rfl) rfl hd kk
theorem wX5_7 : Fw 7 TX5 10 tyX5 := ⟨tyX5_ok, nmX5, rfl, rfl⟩
theorem pX5_37 {v : Int32} (cx : Cx κ (OC g) RX5 cc d) (hd : decode cc pc = .ok (.putfield 37, 3)) (kk : Z κ (OC g) (up2 σ 1 7 v) (pc + 3) lv rest) : Z κ (OC g) σ pc lv (.int v :: .ref (g.ad 1) :: rest) := g_put cx kX5f37 wX5_7 (by decide) (fun _ => rfl) (Nat.le_of_ble_eq_true rfl) rfl hd kk
theorem kX5f28 : Fk RX5 5 8 28 RX5 TX5 10 := ⟨rfl, inX5, by decide, fX5_28⟩
theorem gX5_28 (cx : Cx κ (OC g) RX5 cc d) (hd : decode cc pc = .ok (.getfield 28, 3)) (kk : Z κ (OC g) σ (pc + 3) lv (.int (σ 1 8) :: rest)) : Z κ (OC g) σ pc lv (.ref (g.ad 1) :: rest) := g_get cx kX5f28 (by decide) (fun _ => rfl) rfl hd kk
theorem wX5_8 : Fw 8 TX5 10 tyX5 := ⟨tyX5_ok, nmX5, rfl, rfl⟩
theorem pX5_28 {v : Int32} (cx : Cx κ (OC g) RX5 cc d) (hd : decode cc pc = .ok (.putfield 28, 3)) (kk : Z κ (OC g) (up2 σ 1 8 v) (pc + 3) lv rest) : Z κ (OC g) σ pc lv (.int v :: .ref (g.ad 1) :: rest) := g_put cx kX5f28 wX5_8 (by decide) (fun _ => rfl) (Nat.le_of_ble_eq_true rfl) rfl hd kk
theorem kX5f31 : Fk RX5 5 9 31 RX5 TX5 10 := ⟨rfl, inX5, by decide, fX5_31⟩
theorem gX5_31 (cx : Cx κ (OC g) RX5 cc d) (hd : decode cc pc = .ok (.getfield 31, 3)) (kk : Z κ (OC g) σ (pc + 3) lv (.int (σ 1 9) :: rest)) : Z κ (OC g) σ pc lv (.ref (g.ad 1) :: rest) := g_get cx kX5f31 (by decide) (fun _ => rfl) rfl hd kk
theorem wX5_9 : Fw 9 TX5 10 tyX5 := ⟨tyX5_ok, nmX5, rfl, rfl⟩
theorem pX5_31 {v : Int32} (cx : Cx κ (OC g) RX5 cc d) (hd : decode cc pc = .ok (.putfield 31, 3)) (kk : Z κ (OC g) (up2 σ 1 9 v) (pc + 3) lv rest) : Z κ (OC g) σ pc lv (.int v :: .ref (g.ad 1) :: rest) := g_put cx kX5f31 wX5_9 (by decide) (fun _ => rfl) (Nat.le_of_ble_eq_true rfl) rfl hd kk
theorem kX0f47 : Fk RX0 6 0 47 RX6 TX6 10 := ⟨rfl, inX6, by decide, fX0_47⟩
theorem gX0_47 (cx : Cx κ (OC g) RX0 cc d) (hd : decode cc pc = .ok (.getfield 47, 3)) (kk : Z κ (OC g) σ (pc + 3) lv (.int (σ 6 0) :: rest)) : Z κ (OC g) σ pc lv (.ref (g.ad 6) :: rest) := g_get cx kX0f47 (by decide) (fun _ => rfl) rfl hd kk
theorem wX6_0 : Fw 0 TX6 10 tyX6 := ⟨tyX6_ok, nmX6, rfl, rfl⟩
theorem pX0_47 {v : Int32} (cx : Cx κ (OC g) RX0 cc d) (hd : decode cc pc = .ok (.putfield 47, 3)) (kk : Z κ (OC g) (up2 σ 6 0 v) (pc + 3) lv rest) : Z κ (OC g) σ pc lv (.int v :: .ref (g.ad 6) :: rest) := g_put cx kX0f47 wX6_0 (by decide) (fun _ => rfl) (Nat.le_of_ble_eq_true rfl) rfl hd kk
theorem kX6f55 : Fk RX6 6 0 55 RX6 TX6 10 := ⟨rfl, inX6, by decide, fX6_55⟩
theorem gX6_55 (cx : Cx κ (OC g) RX6 cc d) (hd : decode cc pc = .ok (.getfield 55, 3)) (kk : Z κ (OC g) σ (pc + 3) lv (.int (σ 6 0) :: rest)) : Z κ (OC g) σ pc lv (.ref (g.ad 6) :: rest) := g_get cx kX6f55 (by decide) (fun _ => rfl) rfl hd kk
theorem pX6_55 {v : Int32} (cx : Cx κ (OC g) RX6 cc d) (hd : decode cc pc = .ok (.putfield 55, 3)) (kk : Z κ (OC g) (up2 σ 6 0 v) (pc + 3) lv rest) : Z κ (OC g) σ pc lv (.int v :: .ref (g.ad 6) :: rest) := g_put cx kX6f55 wX6_0 (by decide) (fun _ => rfl) (Nat.le_of_ble_eq_true rfl) rfl hd kk
theorem kX7f246 : Fk RX7 6 0 246 RX6 TX6 10 := ⟨rfl, inX6, by decide, fX7_246⟩
theorem gX7_246 (cx : Cx κ (OC g) RX7 cc d) (hd : decode cc pc = .ok (.getfield 246, 3)) (kk : Z κ (OC g) σ (pc + 3) lv (.int (σ 6 0) :: rest)) : Z κ (OC g) σ pc lv (.ref (g.ad 6) :: rest) := g_get cx kX7f246 (by decide) (fun _ => rfl) rfl hd kk
theorem pX7_246 {v : Int32} (cx : Cx κ (OC g) RX7 cc d) (hd : decode cc pc = .ok (.putfield 246, 3)) (kk : Z κ (OC g) (up2 σ 6 0 v) (pc + 3) lv rest) : Z κ (OC g) σ pc lv (.int v :: .ref (g.ad 6) :: rest) := g_put cx kX7f246 wX6_0 (by decide) (fun _ => rfl) (Nat.le_of_ble_eq_true rfl) rfl hd kk
theorem kX0f29 : Fk RX0 6 1 29 RX6 TX6 10 := ⟨rfl, inX6, by decide, fX0_29⟩
theorem gX0_29 (cx : Cx κ (OC g) RX0 cc d) (hd : decode cc pc = .ok (.getfield 29, 3)) (kk : Z κ (OC g) σ (pc + 3) lv (.int (σ 6 1) :: rest)) : Z κ (OC g) σ pc lv (.ref (g.ad 6) :: rest) := g_get cx kX0f29 (by decide) (fun _ => rfl) rfl hd kk
theorem wX6_1 : Fw 1 TX6 10 tyX6 := ⟨tyX6_ok, nmX6, rfl, rfl⟩
theorem pX0_29 {v : Int32} (cx : Cx κ (OC g) RX0 cc d) (hd : decode cc pc = .ok (.putfield 29, 3)) (kk : Z κ (OC g) (up2 σ 6 1 v) (pc + 3) lv rest) : Z κ (OC g) σ pc lv (.int v :: .ref (g.ad 6) :: rest) := g_put cx kX0f29 wX6_1 (by decide) (fun _ => rfl) (Nat.le_of_ble_eq_true rfl) rfl hd kk
theorem kX6f58 : Fk RX6 6 1 58 RX6 TX6 10 := ⟨rfl, inX6, by decide, fX6_58⟩
theorem gX6_58 (cx : Cx κ (OC g) RX6 cc d) (hd : decode cc pc = .ok (.getfield 58, 3)) (kk : Z κ (OC g) σ (pc + 3) lv (.int (σ 6 1) :: rest)) : Z κ (OC g) σ pc lv (.ref (g.ad 6) :: rest) := g_get cx kX6f58 (by decide) (fun _ => rfl) rfl hd kk
theorem pX6_58 {v : Int32} (cx : Cx κ (OC g) RX6 cc d) (hd : decode cc pc = .ok (.putfield 58, 3)) (kk : Z κ (OC g) (up2 σ 6 1 v) (pc + 3) lv rest) : Z κ (OC g) σ pc lv (.int v :: .ref (g.ad 6) :: rest) := g_put cx kX6f58 wX6_1 (by decide) (fun _ => rfl) (Nat.le_of_ble_eq_true rfl) rfl hd kk
theorem kX7f280 : Fk RX7 6 1 280 RX6 TX6 10 := ⟨rfl, inX6, by decide, fX7_280⟩
theorem gX7_280 (cx : Cx κ (OC g) RX7 cc d) (hd : decode cc pc = .ok (.getfield 280, 3)) (kk : Z κ (OC g) σ (pc + 3) lv (.int (σ 6 1) :: rest)) : Z κ (OC g) σ pc lv (.ref (g.ad 6) :: rest) := g_get cx kX7f280 (by decide) (fun _ => rfl) rfl hd kk
theorem pX7_280 {v : Int32} (cx : Cx κ (OC g) RX7 cc d) (hd : decode cc pc = .ok (.putfield 280, 3)) (kk : Z κ (OC g) (up2 σ 6 1 v) (pc + 3) lv rest) : Z κ (OC g) σ pc lv (.int v :: .ref (g.ad 6) :: rest) := g_put cx kX7f280 wX6_1 (by decide) (fun _ => rfl) (Nat.le_of_ble_eq_true rfl) rfl hd kk
theorem kX6f61 : Fk RX6 6 2 61 RX6 TX6 10 := ⟨rfl, inX6, by decide, fX6_61⟩
theorem gX6_61 (cx : Cx κ (OC g) RX6 cc d) (hd : decode cc pc = .ok (.getfield 61, 3)) (kk : Z κ (OC g) σ (pc + 3) lv (.int (σ 6 2) :: rest)) : Z κ (OC g) σ pc lv (.ref (g.ad 6) :: rest) := g_get cx kX6f61 (by decide) (fun _ => rfl) rfl hd kk
theorem wX6_2 : Fw 2 TX6 10 tyX6 := ⟨tyX6_ok, nmX6, rfl, rfl⟩
theorem pX6_61 {v : Int32} (cx : Cx κ (OC g) RX6 cc d) (hd : decode cc pc = .ok (.putfield 61, 3)) (kk : Z κ (OC g) (up2 σ 6 2 v) (pc + 3) lv rest) : Z κ (OC g) σ pc lv (.int v :: .ref (g.ad 6) :: rest) := g_put cx kX6f61 wX6_2 (by decide) (fun _ => rfl) (Nat.le_of_ble_eq_true rfl) rfl hd kk
theorem kX7f283 : Fk RX7 6 2 283 RX6 TX6 10 := ⟨rfl, inX6, by decide, fX7_283⟩
theorem gX7_283 (cx : Cx κ (OC g) RX7 cc d) (hd : decode cc pc = .ok (.getfield 283, 3)) (kk : Z κ (OC g) σ (pc + 3) lv (.int (σ 6 2) :: rest)) : Z κ (OC g) σ pc lv (.ref (g.ad 6) :: rest) := g_get cx kX7f283 (by decide) (fun _ => rfl) rfl hd kk
theorem pX7_283 {v : Int32} (cx : Cx κ (OC g) RX7 cc d) (hd : decode cc pc = .ok (.putfield 283, 3)) (kk : Z κ (OC g) (up2 σ 6 2 v) (pc + 3) lv rest) : Z κ (OC g) σ pc lv (.int v :: .ref (g.ad 6) :: rest) := g_put cx kX7f283 wX6_2 (by decide) (fun _ => rfl) (Nat.le_of_ble_eq_true rfl) rfl hd kk
theorem kX6f27 : Fk RX6 6 3 27 RX6 TX6 10 := ⟨rfl, inX6, by decide, fX6_27⟩
theorem gX6_27 (cx : Cx κ (OC g) RX6 cc d) (hd : decode cc pc = .ok (.getfield 27, 3)) (kk : Z κ (OC g) σ (pc + 3) lv (.int (σ 6 3) :: rest)) : Z κ (OC g) σ pc lv (.ref (g.ad 6) :: rest) := g_get cx kX6f27 (by decide) (fun _ => rfl) rfl hd kk
theorem wX6_3 : Fw 3 TX6 10 tyX6 := ⟨tyX6_ok, nmX6, rfl, rfl⟩
theorem pX6_27 {v : Int32} (cx : Cx κ (OC g) RX6 cc d) (hd : decode cc pc = .ok (.putfield 27, 3)) (kk : Z κ (OC g) (up2 σ 6 3 v) (pc + 3) lv rest) : Z κ (OC g) σ pc lv (.int v :: .ref (g.ad 6) :: rest) := g_put cx kX6f27 wX6_3 (by decide) (fun _ => rfl) (Nat.le_of_ble_eq_true rfl) rfl hd kk
theorem kX2f32 : Fk RX2 6 3 32 RX6 TX6 10 := ⟨rfl, inX6, by decide, fX2_32⟩
theorem gX2_32 (cx : Cx κ (OC g) RX2 cc d) (hd : decode cc pc = .ok (.getfield 32, 3)) (kk : Z κ (OC g) σ (pc + 3) lv (.int (σ 6 3) :: rest)) : Z κ (OC g) σ pc lv (.ref (g.ad 6) :: rest) := g_get cx kX2f32 (by decide) (fun _ => rfl) rfl hd kk
theorem pX2_32 {v : Int32} (cx : Cx κ (OC g) RX2 cc d) (hd : decode cc pc = .ok (.putfield 32, 3)) (kk : Z κ (OC g) (up2 σ 6 3 v) (pc + 3) lv rest) : Z κ (OC g) σ pc lv (.int v :: .ref (g.ad 6) :: rest) := g_put cx kX2f32 wX6_3 (by decide) (fun _ => rfl) (Nat.le_of_ble_eq_true rfl) rfl hd kk
theorem kX7f85 : Fk RX7 6 3 85 RX6 TX6 10 := ⟨rfl, inX6, by decide, fX7_85⟩
theorem gX7_85 (cx : Cx κ (OC g) RX7 cc d) (hd : decode cc pc = .ok (.getfield 85, 3)) (kk : Z κ (OC g) σ (pc + 3) lv (.int (σ 6 3) :: rest)) : Z κ (OC g) σ pc lv (.ref (g.ad 6) :: rest) := g_get cx kX7f85 (by decide) (fun _ => rfl) rfl hd kk
theorem pX7_85 {v : Int32} (cx : Cx κ (OC g) RX7 cc d) (hd : decode cc pc = .ok (.putfield 85, 3)) (kk : Z κ (OC g) (up2 σ 6 3 v) (pc + 3) lv rest) : Z κ (OC g) σ pc lv (.int v :: .ref (g.ad 6) :: rest) := g_put cx kX7f85 wX6_3 (by decide) (fun _ => rfl) (Nat.le_of_ble_eq_true rfl) rfl hd kk
theorem kX0f23 : Fk RX0 6 4 23 RX6 TX6 10 := ⟨rfl, inX6, by decide, fX0_23⟩
theorem gX0_23 (cx : Cx κ (OC g) RX0 cc d) (hd : decode cc pc = .ok (.getfield 23, 3)) (kk : Z κ (OC g) σ (pc + 3) lv (.int (σ 6 4) :: rest)) : Z κ (OC g) σ pc lv (.ref (g.ad 6) :: rest) := g_get cx kX0f23 (by decide) (fun _ => rfl) rfl hd kk
theorem wX6_4 : Fw 4 TX6 10 tyX6 := ⟨tyX6_ok, nmX6, rfl, rfl⟩
theorem pX0_23 {v : Int32} (cx : Cx κ (OC g) RX0 cc d) (hd : decode cc pc = .ok (.putfield 23, 3)) (kk : Z κ (OC g) (up2 σ 6 4 v) (pc + 3) lv rest) : Z κ (OC g) σ pc lv (.int v :: .ref (g.ad 6) :: rest) := g_put cx kX0f23 wX6_4 (by decide) (fun _ => rfl) (Nat.le_of_ble_eq_true rfl) rfl hd kk
theorem kX6f31 : Fk RX6 6 4 31 RX6 TX6 10 := ⟨rfl, inX6, by decide, fX6_31⟩
theorem gX6_31 (cx : Cx κ (OC g) RX6 cc d) (hd : decode cc pc = .ok (.getfield 31, 3)) (kk : Z κ (OC g) σ (pc + 3) lv (.int (σ 6 4) :: rest)) : Z κ (OC g) σ pc lv (.ref (g.ad 6) :: rest) := g_get cx kX6f31 (by decide) (fun _ => rfl) rfl hd kk
theorem pX6_31 {v : Int32} (cx : Cx κ (OC g) RX6 cc d) (hd : decode cc pc = .ok (.putfield 31, 3)) (kk : Z κ (OC g) (up2 σ 6 4 v) (pc + 3) lv rest) : Z κ (OC g) σ pc lv (.int v :: .ref (g.ad 6) :: rest) := g_put cx kX6f31 wX6_4 (by decide) (fun _ => rfl) (Nat.le_of_ble_eq_true rfl) rfl hd kk
theorem kX4f26 : Fk RX4 6 4 26 RX6 TX6 10 := ⟨rfl, inX6, by decide, fX4_26⟩
theorem gX4_26 (cx : Cx κ (OC g) RX4 cc d) (hd : decode cc pc = .ok (.getfield 26, 3)) (kk : Z κ (OC g) σ (pc + 3) lv (.int (σ 6 4) :: rest)) : Z κ (OC g) σ pc lv (.ref (g.ad 6) :: rest) := g_get cx kX4f26 (by decide) (fun _ => rfl) rfl hd kk
theorem pX4_26 {v : Int32} (cx : Cx κ (OC g) RX4 cc d) (hd : decode cc pc = .ok (.putfield 26, 3)) (kk : Z κ (OC g) (up2 σ 6 4 v) (pc + 3) lv rest) : Z κ (OC g) σ pc lv (.int v :: .ref (g.ad 6) :: rest) := g_put cx kX4f26 wX6_4 (by decide) (fun _ => rfl) (Nat.le_of_ble_eq_true rfl) rfl hd kk
theorem kX7f88 : Fk RX7 6 4 88 RX6 TX6 10 := ⟨rfl, inX6, by decide, fX7_88⟩
theorem gX7_88 (cx : Cx κ (OC g) RX7 cc d) (hd : decode cc pc = .ok (.getfield 88, 3)) (kk : Z κ (OC g) σ (pc + 3) lv (.int (σ 6 4) :: rest)) : Z κ (OC g) σ pc lv (.ref (g.ad 6) :: rest) := g_get cx kX7f88 (by decide) (fun _ => rfl) rfl hd kk
theorem pX7_88 {v : Int32} (cx : Cx κ (OC g) RX7 cc d) (hd : decode cc pc = .ok (.putfield 88, 3)) (kk : Z κ (OC g) (up2 σ 6 4 v) (pc + 3) lv rest) : Z κ (OC g) σ pc lv (.int v :: .ref (g.ad 6) :: rest) := g_put cx kX7f88 wX6_4 (by decide) (fun _ => rfl) (Nat.le_of_ble_eq_true rfl) rfl hd kk
theorem kX6f9 : Fk RX6 6 5 9 RX6 TX6 10 := ⟨rfl, inX6, by decide, fX6_9⟩
theorem gX6_9 (cx : Cx κ (OC g) RX6 cc d) (hd : decode cc pc = .ok (.getfield 9, 3)) (kk : Z κ (OC g) σ (pc + 3) lv (.ref (g.ad 7) :: rest)) : Z κ (OC g) σ pc lv (.ref (g.ad 6) :: rest) := g_get cx kX6f9 (by decide) (fun _ => rfl) rfl hd kk
theorem kX7f120 : Fk RX7 6 5 120 RX6 TX6 10 := ⟨rfl, inX6, by decide, fX7_120⟩
theorem gX7_120 (cx : Cx κ (OC g) RX7 cc d) (hd : decode cc pc = .ok (.getfield 120, 3)) (kk : Z κ (OC g) σ (pc + 3) lv (.ref (g.ad 7) :: rest)) : Z κ (OC g) σ pc lv (.ref (g.ad 6) :: rest) := g_get cx kX7f120 (by decide) (fun _ => rfl) rfl hd kk
theorem kX6f15 : Fk RX6 6 6 15 RX6 TX6 10 := ⟨rfl, inX6, by decide, fX6_15⟩
theorem gX6_15 (cx : Cx κ (OC g) RX6 cc d) (hd : decode cc pc = .ok (.getfield 15, 3)) (kk : Z κ (OC g) σ (pc + 3) lv (.ref (g.ad 8) :: rest)) : Z κ (OC g) σ pc lv (.ref (g.ad 6) :: rest) := g_get cx kX6f15 (by decide) (fun _ => rfl) rfl hd kk
theorem kX2f63 : Fk RX2 6 6 63 RX6 TX6 10 := ⟨rfl, inX6, by decide, fX2_63⟩
theorem gX2_63 (cx : Cx κ (OC g) RX2 cc d) (hd : decode cc pc = .ok (.getfield 63, 3)) (kk : Z κ (OC g) σ (pc + 3) lv (.ref (g.ad 8) :: rest)) : Z κ (OC g) σ pc lv (.ref (g.ad 6) :: rest) := g_get cx kX2f63 (by decide) (fun _ => rfl) rfl hd kk
theorem kX0f86 : Fk RX0 6 6 86 RX6 TX6 10 := ⟨rfl, inX6, by decide, fX0_86⟩
theorem gX0_86 (cx : Cx κ (OC g) RX0 cc d) (hd : decode cc pc = .ok (.getfield 86, 3)) (kk : Z κ (OC g) σ (pc + 3) lv (.ref (g.ad 8) :: rest)) : Z κ (OC g) σ pc lv (.ref (g.ad 6) :: rest) := g_get cx kX0f86 (by decide) (fun _ => rfl) rfl hd kk
theorem kX7f123 : Fk RX7 6 6 123 RX6 TX6 10 := ⟨rfl, inX6, by decide, fX7_123⟩
theorem gX7_123 (cx : Cx κ (OC g) RX7 cc d) (hd : decode cc pc = .ok (.getfield 123, 3)) (kk : Z κ (OC g) σ (pc + 3) lv (.ref (g.ad 8) :: rest)) : Z κ (OC g) σ pc lv (.ref (g.ad 6) :: rest) := g_get cx kX7f123 (by decide) (fun _ => rfl) rfl hd kk
theorem kX6f18 : Fk RX6 6 7 18 RX6 TX6 10 := ⟨rfl, inX6, by decide, fX6_18⟩
theorem gX6_18 (cx : Cx κ (OC g) RX6 cc d) (hd : decode cc pc = .ok (.getfield 18, 3)) (kk : Z κ (OC g) σ (pc + 3) lv (.ref (g.ad 9) :: rest)) : Z κ (OC g) σ pc lv (.ref (g.ad 6) :: rest) := g_get cx kX6f18 (by decide) (fun _ => rfl) rfl hd kk
theorem kX4f38 : Fk RX4 6 7 38 RX6 TX6 10 := ⟨rfl, inX6, by decide, fX4_38⟩
theorem gX4_38 (cx : Cx κ (OC g) RX4 cc d) (hd : decode cc pc = .ok (.getfield 38, 3)) (kk : Z κ (OC g) σ (pc + 3) lv (.ref (g.ad 9) :: rest)) : Z κ (OC g) σ pc lv (.ref (g.ad 6) :: rest) := g_get cx kX4f38 (by decide) (fun _ => rfl) rfl hd kk
theorem kX7f141 : Fk RX7 6 7 141 RX6 TX6 10 := ⟨rfl, inX6, by decide, fX7_141⟩
theorem gX7_141 (cx : Cx κ (OC g) RX7 cc d) (hd : decode cc pc = .ok (.getfield 141, 3)) (kk : Z κ (OC g) σ (pc + 3) lv (.ref (g.ad 9) :: rest)) : Z κ (OC g) σ pc lv (.ref (g.ad 6) :: rest) := g_get cx kX7f141 (by decide) (fun _ => rfl) rfl hd kk
theorem kX6f21 : Fk RX6 6 8 21 RX6 TX6 10 := ⟨rfl, inX6, by decide, fX6_21⟩
theorem gX6_21 (cx : Cx κ (OC g) RX6 cc d) (hd : decode cc pc = .ok (.getfield 21, 3)) (kk : Z κ (OC g) σ (pc + 3) lv (.ref (g.ad 10) :: rest)) : Z κ (OC g) σ pc lv (.ref (g.ad 6) :: rest) := g_get cx kX6f21 (by decide) (fun _ => rfl) rfl hd kk
theorem kX7f144 : Fk RX7 6 8 144 RX6 TX6 10 := ⟨rfl, inX6, by decide, fX7_144⟩
theorem gX7_144 (cx : Cx κ (OC g) RX7 cc d) (hd : decode cc pc = .ok (.getfield 144, 3)) (kk : Z κ (OC g) σ (pc + 3) lv (.ref (g.ad 10) :: rest)) : Z κ (OC g) σ pc lv (.ref (g.ad 6) :: rest) := g_get cx kX7f144 (by decide) (fun _ => rfl) rfl hd kk
theorem kX6f24 : Fk RX6 6 9 24 RX6 TX6 10 := ⟨rfl, inX6, by decide, fX6_24⟩
theorem gX6_24 (cx : Cx κ (OC g) RX6 cc d) (hd : decode cc pc = .ok (.getfield 24, 3)) (kk : Z κ (OC g) σ (pc + 3) lv (.ref (g.ad 11) :: rest)) : Z κ (OC g) σ pc lv (.ref (g.ad 6) :: rest) := g_get cx kX6f24 (by decide) (fun _ => rfl) rfl hd kk
theorem kX1f43 : Fk RX1 6 9 43 RX6 TX6 10 := ⟨rfl, inX6, by decide, fX1_43⟩
theorem gX1_43 (cx : Cx κ (OC g) RX1 cc d) (hd : decode cc pc = .ok (.getfield 43, 3)) (kk : Z κ (OC g) σ (pc + 3) lv (.ref (g.ad 11) :: rest)) : Z κ (OC g) σ pc lv (.ref (g.ad 6) :: rest) := g_get cx kX1f43 (by decide) (fun _ => rfl) rfl hd kk
theorem kX1f36 : Fk RX1 1 0 36 RX1 TX1 10 := ⟨rfl, inX1, by decide, fX1_36⟩
theorem gX1_36 (cx : Cx κ (OC g) RX1 cc d) (hd : decode cc pc = .ok (.getfield 36, 3)) (kk : Z κ (OC g) σ (pc + 3) lv (.int (σ 12 0) :: rest)) : Z κ (OC g) σ pc lv (.ref (g.ad 12) :: rest) := g_get cx kX1f36 (by decide) (fun _ => rfl) rfl hd kk
theorem wX1_0 : Fw 0 TX1 10 tyX1 := ⟨tyX1_ok, nmX1, rfl, rfl⟩
theorem pX1_36 {v : Int32} (cx : Cx κ (OC g) RX1 cc d) (hd : decode cc pc = .ok (.putfield 36, 3)) (kk : Z κ (OC g) (up2 σ 12 0 v) (pc + 3) lv rest) : Z κ (OC g) σ pc lv (.int v :: .ref (g.ad 12) :: rest) := g_put cx kX1f36 wX1_0 (by decide) (fun _ => rfl) (Nat.le_of_ble_eq_true rfl) rfl hd kk
theorem kX2f26 : Fk RX2 1 0 26 RX1 TX1 10 := ⟨rfl, inX1, by decide, fX2_26⟩
theorem gX2_26 (cx : Cx κ (OC g) RX2 cc d) (hd : decode cc pc = .ok (.getfield 26, 3)) (kk : Z κ (OC g) σ (pc + 3) lv (.int (σ 12 0) :: rest)) : Z κ (OC g) σ pc lv (.ref (g.ad 12) :: rest) := g_get cx kX2f26 (by decide) (fun _ => rfl) rfl hd kk
theorem pX2_26 {v : Int32} (cx : Cx κ (OC g) RX2 cc d) (hd : decode cc pc = .ok (.putfield 26, 3)) (kk : Z κ (OC g) (up2 σ 12 0 v) (pc + 3) lv rest) : Z κ (OC g) σ pc lv (.int v :: .ref (g.ad 12) :: rest) := g_put cx kX2f26 wX1_0 (by decide) (fun _ => rfl) (Nat.le_of_ble_eq_true rfl) rfl hd kk
theorem kX0f42 : Fk RX0 1 0 42 RX1 TX1 10 := ⟨rfl, inX1, by decide, fX0_42⟩
theorem gX0_42 (cx : Cx κ (OC g) RX0 cc d) (hd : decode cc pc = .ok (.getfield 42, 3)) (kk : Z κ (OC g) σ (pc + 3) lv (.int (σ 12 0) :: rest)) : Z κ (OC g) σ pc lv (.ref (g.ad 12) :: rest) := g_get cx kX0f42 (by decide) (fun _ => rfl) rfl hd kk
theorem pX0_42 {v : Int32} (cx : Cx κ (OC g) RX0 cc d) (hd : decode cc pc = .ok (.putfield 42, 3)) (kk : Z κ (OC g) (up2 σ 12 0 v) (pc + 3) lv rest) : Z κ (OC g) σ pc lv (.int v :: .ref (g.ad 12) :: rest) := g_put cx kX0f42 wX1_0 (by decide) (fun _ => rfl) (Nat.le_of_ble_eq_true rfl) rfl hd kk
theorem kX7f194 : Fk RX7 1 0 194 RX1 TX1 10 := ⟨rfl, inX1, by decide, fX7_194⟩
theorem gX7_194 (cx : Cx κ (OC g) RX7 cc d) (hd : decode cc pc = .ok (.getfield 194, 3)) (kk : Z κ (OC g) σ (pc + 3) lv (.int (σ 12 0) :: rest)) : Z κ (OC g) σ pc lv (.ref (g.ad 12) :: rest) := g_get cx kX7f194 (by decide) (fun _ => rfl) rfl hd kk
theorem pX7_194 {v : Int32} (cx : Cx κ (OC g) RX7 cc d) (hd : decode cc pc = .ok (.putfield 194, 3)) (kk : Z κ (OC g) (up2 σ 12 0 v) (pc + 3) lv rest) : Z κ (OC g) σ pc lv (.int v :: .ref (g.ad 12) :: rest) := g_put cx kX7f194 wX1_0 (by decide) (fun _ => rfl) (Nat.le_of_ble_eq_true rfl) rfl hd kk
theorem kX1f40 : Fk RX1 1 1 40 RX1 TX1 10 := ⟨rfl, inX1, by decide, fX1_40⟩
theorem gX1_40 (cx : Cx κ (OC g) RX1 cc d) (hd : decode cc pc = .ok (.getfield 40, 3)) (kk : Z κ (OC g) σ (pc + 3) lv (.int (σ 12 1) :: rest)) : Z κ (OC g) σ pc lv (.ref (g.ad 12) :: rest) := g_get cx kX1f40 (by decide) (fun _ => rfl) rfl hd kk
theorem wX1_1 : Fw 1 TX1 10 tyX1 := ⟨tyX1_ok, nmX1, rfl, rfl⟩
theorem pX1_40 {v : Int32} (cx : Cx κ (OC g) RX1 cc d) (hd : decode cc pc = .ok (.putfield 40, 3)) (kk : Z κ (OC g) (up2 σ 12 1 v) (pc + 3) lv rest) : Z κ (OC g) σ pc lv (.int v :: .ref (g.ad 12) :: rest) := g_put cx kX1f40 wX1_1 (by decide) (fun _ => rfl) (Nat.le_of_ble_eq_true rfl) rfl hd kk
theorem kX0f101 : Fk RX0 1 1 101 RX1 TX1 10 := ⟨rfl, inX1, by decide, fX0_101⟩
theorem gX0_101 (cx : Cx κ (OC g) RX0 cc d) (hd : decode cc pc = .ok (.getfield 101, 3)) (kk : Z κ (OC g) σ (pc + 3) lv (.int (σ 12 1) :: rest)) : Z κ (OC g) σ pc lv (.ref (g.ad 12) :: rest) := g_get cx kX0f101 (by decide) (fun _ => rfl) rfl hd kk
theorem pX0_101 {v : Int32} (cx : Cx κ (OC g) RX0 cc d) (hd : decode cc pc = .ok (.putfield 101, 3)) (kk : Z κ (OC g) (up2 σ 12 1 v) (pc + 3) lv rest) : Z κ (OC g) σ pc lv (.int v :: .ref (g.ad 12) :: rest) := g_put cx kX0f101 wX1_1 (by decide) (fun _ => rfl) (Nat.le_of_ble_eq_true rfl) rfl hd kk
theorem kX7f286 : Fk RX7 1 1 286 RX1 TX1 10 := ⟨rfl, inX1, by decide, fX7_286⟩
theorem gX7_286 (cx : Cx κ (OC g) RX7 cc d) (hd : decode cc pc = .ok (.getfield 286, 3)) (kk : Z κ (OC g) σ (pc + 3) lv (.int (σ 12 1) :: rest)) : Z κ (OC g) σ pc lv (.ref (g.ad 12) :: rest) := g_get cx kX7f286 (by decide) (fun _ => rfl) rfl hd kk
theorem pX7_286 {v : Int32} (cx : Cx κ (OC g) RX7 cc d) (hd : decode cc pc = .ok (.putfield 286, 3)) (kk : Z κ (OC g) (up2 σ 12 1 v) (pc + 3) lv rest) : Z κ (OC g) σ pc lv (.int v :: .ref (g.ad 12) :: rest) := g_put cx kX7f286 wX1_1 (by decide) (fun _ => rfl) (Nat.le_of_ble_eq_true rfl) rfl hd kk
theorem kX1f9 : Fk RX1 1 2 9 RX1 TX1 10 := ⟨rfl, inX1, by decide, fX1_9⟩
theorem gX1_9 (cx : Cx κ (OC g) RX1 cc d) (hd : decode cc pc = .ok (.getfield 9, 3)) (kk : Z κ (OC g) σ (pc + 3) lv (.ref (g.ad 13) :: rest)) : Z κ (OC g) σ pc lv (.ref (g.ad 12) :: rest) := g_get cx kX1f9 (by decide) (fun _ => rfl) rfl hd kk
theorem kX2f54 : Fk RX2 1 2 54 RX1 TX1 10 := ⟨rfl, inX1, by decide, fX2_54⟩
theorem gX2_54 (cx : Cx κ (OC g) RX2 cc d) (hd : decode cc pc = .ok (.getfield 54, 3)) (kk : Z κ (OC g) σ (pc + 3) lv (.ref (g.ad 13) :: rest)) : Z κ (OC g) σ pc lv (.ref (g.ad 12) :: rest) := g_get cx kX2f54 (by decide) (fun _ => rfl) rfl hd kk
theorem kX0f98 : Fk RX0 1 2 98 RX1 TX1 10 := ⟨rfl, inX1, by decide, fX0_98⟩
theorem gX0_98 (cx : Cx κ (OC g) RX0 cc d) (hd : decode cc pc = .ok (.getfield 98, 3)) (kk : Z κ (OC g) σ (pc + 3) lv (.ref (g.ad 13) :: rest)) : Z κ (OC g) σ pc lv (.ref (g.ad 12) :: rest) := g_get cx kX0f98 (by decide) (fun _ => rfl) rfl hd kk
theorem kX7f147 : Fk RX7 1 2 147 RX1 TX1 10 := ⟨rfl, inX1, by decide, fX7_147⟩
theorem gX7_147 (cx : Cx κ (OC g) RX7 cc d) (hd : decode cc pc = .ok (.getfield 147, 3)) (kk : Z κ (OC g) σ (pc + 3) lv (.ref (g.ad 13) :: rest)) : Z κ (OC g) σ pc lv (.ref (g.ad 12) :: rest) := g_get cx kX7f147 (by decide) (fun _ => rfl) rfl hd kk
theorem kX1f15 : Fk RX1 1 3 15 RX1 TX1 10 := ⟨rfl, inX1, by decide, fX1_15⟩
theorem gX1_15 (cx : Cx κ (OC g) RX1 cc d) (hd : decode cc pc = .ok (.getfield 15, 3)) (kk : Z κ (OC g) σ (pc + 3) lv (.ref (g.ad 14) :: rest)) : Z κ (OC g) σ pc lv (.ref (g.ad 12) :: rest) := g_get cx kX1f15 (by decide) (fun _ => rfl) rfl hd kk
theorem kX7f150 : Fk RX7 1 3 150 RX1 TX1 10 := ⟨rfl, inX1, by decide, fX7_150⟩
theorem gX7_150 (cx : Cx κ (OC g) RX7 cc d) (hd : decode cc pc = .ok (.getfield 150, 3)) (kk : Z κ (OC g) σ (pc + 3) lv (.ref (g.ad 14) :: rest)) : Z κ (OC g) σ pc lv (.ref (g.ad 12) :: rest) := g_get cx kX7f150 (by decide) (fun _ => rfl) rfl hd kk
theorem kX0f104 : Fk RX0 1 3 104 RX1 TX1 10 := ⟨rfl, inX1, by decide, fX0_104⟩
theorem gX0_104 (cx : Cx κ (OC g) RX0 cc d) (hd : decode cc pc = .ok (.getfield 104, 3)) (kk : Z κ (OC g) σ (pc + 3) lv (.ref (g.ad 14) :: rest)) : Z κ (OC g) σ pc lv (.ref (g.ad 12) :: rest) := g_get cx kX0f104 (by decide) (fun _ => rfl) rfl hd kk
theorem kX1f18 : Fk RX1 1 4 18 RX1 TX1 10 := ⟨rfl, inX1, by decide, fX1_18⟩
theorem gX1_18 (cx : Cx κ (OC g) RX1 cc d) (hd : decode cc pc = .ok (.getfield 18, 3)) (kk : Z κ (OC g) σ (pc + 3) lv (.ref (g.ad 15) :: rest)) : Z κ (OC g) σ pc lv (.ref (g.ad 12) :: rest) := g_get cx kX1f18 (by decide) (fun _ => rfl) rfl hd kk
theorem kX0f58 : Fk RX0 1 4 58 RX1 TX1 10 := ⟨rfl, inX1, by decide, fX0_58⟩
theorem gX0_58 (cx : Cx κ (OC g) RX0 cc d) (hd : decode cc pc = .ok (.getfield 58, 3)) (kk : Z κ (OC g) σ (pc + 3) lv (.ref (g.ad 15) :: rest)) : Z κ (OC g) σ pc lv (.ref (g.ad 12) :: rest) := g_get cx kX0f58 (by decide) (fun _ => rfl) rfl hd kk
theorem kX7f153 : Fk RX7 1 4 153 RX1 TX1 10 := ⟨rfl, inX1, by decide, fX7_153⟩
theorem gX7_153 (cx : Cx κ (OC g) RX7 cc d) (hd : decode cc pc = .ok (.getfield 153, 3)) (kk : Z κ (OC g) σ (pc + 3) lv (.ref (g.ad 15) :: rest)) : Z κ (OC g) σ pc lv (.ref (g.ad 12) :: rest) := g_get cx kX7f153 (by decide) (fun _ => rfl) rfl hd kk
theorem kX1f21 : Fk RX1 1 5 21 RX1 TX1 10 := ⟨rfl, inX1, by decide, fX1_21⟩
theorem gX1_21 (cx : Cx κ (OC g) RX1 cc d) (hd : decode cc pc = .ok (.getfield 21, 3)) (kk : Z κ (OC g) σ (pc + 3) lv (.ref (g.ad 16) :: rest)) : Z κ (OC g) σ pc lv (.ref (g.ad 12) :: rest) := g_get cx kX1f21 (by decide) (fun _ => rfl) rfl hd kk
theorem kX2f37 : Fk RX2 1 5 37 RX1 TX1 10 := ⟨rfl, inX1, by decide, fX2_37⟩
theorem gX2_37 (cx : Cx κ (OC g) RX2 cc d) (hd : decode cc pc = .ok (.getfield 37, 3)) (kk : Z κ (OC g) σ (pc + 3) lv (.ref (g.ad 16) :: rest)) : Z κ (OC g) σ pc lv (.ref (g.ad 12) :: rest) := g_get cx kX2f37 (by decide) (fun _ => rfl) rfl hd kk
theorem kX7f126 : Fk RX7 1 5 126 RX1 TX1 10 := ⟨rfl, inX1, by decide, fX7_126⟩
theorem gX7_126 (cx : Cx κ (OC g) RX7 cc d) (hd : decode cc pc = .ok (.getfield 126, 3)) (kk : Z κ (OC g) σ (pc + 3) lv (.ref (g.ad 16) :: rest)) : Z κ (OC g) σ pc lv (.ref (g.ad 12) :: rest) := g_get cx kX7f126 (by decide) (fun _ => rfl) rfl hd kk
theorem kX1f24 : Fk RX1 1 6 24 RX1 TX1 10 := ⟨rfl, inX1, by decide, fX1_24⟩
theorem gX1_24 (cx : Cx κ (OC g) RX1 cc d) (hd : decode cc pc = .ok (.getfield 24, 3)) (kk : Z κ (OC g) σ (pc + 3) lv (.ref (g.ad 17) :: rest)) : Z κ (OC g) σ pc lv (.ref (g.ad 12) :: rest) := g_get cx kX1f24 (by decide) (fun _ => rfl) rfl hd kk
theorem kX7f129 : Fk RX7 1 6 129 RX1 TX1 10 := ⟨rfl, inX1, by decide, fX7_129⟩
theorem gX7_129 (cx : Cx κ (OC g) RX7 cc d) (hd : decode cc pc = .ok (.getfield 129, 3)) (kk : Z κ (OC g) σ (pc + 3) lv (.ref (g.ad 17) :: rest)) : Z κ (OC g) σ pc lv (.ref (g.ad 12) :: rest) := g_get cx kX7f129 (by decide) (fun _ => rfl) rfl hd kk
theorem kX0f92 : Fk RX0 1 6 92 RX1 TX1 10 := ⟨rfl, inX1, by decide, fX0_92⟩
theorem gX0_92 (cx : Cx κ (OC g) RX0 cc d) (hd : decode cc pc = .ok (.getfield 92, 3)) (kk : Z κ (OC g) σ (pc + 3) lv (.ref (g.ad 17) :: rest)) : Z κ (OC g) σ pc lv (.ref (g.ad 12) :: rest) := g_get cx kX0f92 (by decide) (fun _ => rfl) rfl hd kk
theorem kX1f27 : Fk RX1 1 7 27 RX1 TX1 10 := ⟨rfl, inX1, by decide, fX1_27⟩
theorem gX1_27 (cx : Cx κ (OC g) RX1 cc d) (hd : decode cc pc = .ok (.getfield 27, 3)) (kk : Z κ (OC g) σ (pc + 3) lv (.ref (g.ad 18) :: rest)) : Z κ (OC g) σ pc lv (.ref (g.ad 12) :: rest) := g_get cx kX1f27 (by decide) (fun _ => rfl) rfl hd kk
theorem kX7f132 : Fk RX7 1 7 132 RX1 TX1 10 := ⟨rfl, inX1, by decide, fX7_132⟩
theorem gX7_132 (cx : Cx κ (OC g) RX7 cc d) (hd : decode cc pc = .ok (.getfield 132, 3)) (kk : Z κ (OC g) σ (pc + 3) lv (.ref (g.ad 18) :: rest)) : Z κ (OC g) σ pc lv (.ref (g.ad 12) :: rest) := g_get cx kX7f132 (by decide) (fun _ => rfl) rfl hd kk
theorem kX0f95 : Fk RX0 1 7 95 RX1 TX1 10 := ⟨rfl, inX1, by decide, fX0_95⟩
theorem gX0_95 (cx : Cx κ (OC g) RX0 cc d) (hd : decode cc pc = .ok (.getfield 95, 3)) (kk : Z κ (OC g) σ (pc + 3) lv (.ref (g.ad 18) :: rest)) : Z κ (OC g) σ pc lv (.ref (g.ad 12) :: rest) := g_get cx kX0f95 (by decide) (fun _ => rfl) rfl hd kk
theorem kX1f30 : Fk RX1 1 8 30 RX1 TX1 10 := ⟨rfl, inX1, by decide, fX1_30⟩
theorem gX1_30 (cx : Cx κ (OC g) RX1 cc d) (hd : decode cc pc = .ok (.getfield 30, 3)) (kk : Z κ (OC g) σ (pc + 3) lv (.ref (g.ad 19) :: rest)) : Z κ (OC g) σ pc lv (.ref (g.ad 12) :: rest) := g_get cx kX1f30 (by decide) (fun _ => rfl) rfl hd kk
theorem kX0f69 : Fk RX0 1 8 69 RX1 TX1 10 := ⟨rfl, inX1, by decide, fX0_69⟩
theorem gX0_69 (cx : Cx κ (OC g) RX0 cc d) (hd : decode cc pc = .ok (.getfield 69, 3)) (kk : Z κ (OC g) σ (pc + 3) lv (.ref (g.ad 19) :: rest)) : Z κ (OC g) σ pc lv (.ref (g.ad 12) :: rest) := g_get cx kX0f69 (by decide) (fun _ => rfl) rfl hd kk
theorem kX7f135 : Fk RX7 1 8 135 RX1 TX1 10 := ⟨rfl, inX1, by decide, fX7_135⟩
theorem gX7_135 (cx : Cx κ (OC g) RX7 cc d) (hd : decode cc pc = .ok (.getfield 135, 3)) (kk : Z κ (OC g) σ (pc + 3) lv (.ref (g.ad 19) :: rest)) : Z κ (OC g) σ pc lv (.ref (g.ad 12) :: rest) := g_get cx kX7f135 (by decide) (fun _ => rfl) rfl hd kk
theorem kX1f33 : Fk RX1 1 9 33 RX1 TX1 10 := ⟨rfl, inX1, by decide, fX1_33⟩
theorem gX1_33 (cx : Cx κ (OC g) RX1 cc d) (hd : decode cc pc = .ok (.getfield 33, 3)) (kk : Z κ (OC g) σ (pc + 3) lv (.ref (g.ad 20) :: rest)) : Z κ (OC g) σ pc lv (.ref (g.ad 12) :: rest) := g_get cx kX1f33 (by decide) (fun _ => rfl) rfl hd kk
theorem kX7f200 : Fk RX7 1 9 200 RX1 TX1 10 := ⟨rfl, inX1, by decide, fX7_200⟩
theorem gX7_200 (cx : Cx κ (OC g) RX7 cc d) (hd : decode cc pc = .ok (.getfield 200, 3)) (kk : Z κ (OC g) σ (pc + 3) lv (.ref (g.ad 20) :: rest)) : Z κ (OC g) σ pc lv (.ref (g.ad 12) :: rest) := g_get cx kX7f200 (by decide) (fun _ => rfl) rfl hd kk
theorem kX3f11 : Fk RX3 3 0 11 RX3 TX3 3 := ⟨rfl, inX3, by decide, fX3_11⟩
theorem gX3_11 (cx : Cx κ (OC g) RX3 cc d) (hd : decode cc pc = .ok (.getfield 11, 3)) (kk : Z κ (OC g) σ (pc + 3) lv (.ref (g.ad 22) :: rest)) : Z κ (OC g) σ pc lv (.ref (g.ad 21) :: rest) := g_get cx kX3f11 (by decide) (fun _ => rfl) rfl hd kk
theorem kX3f26 : Fk RX3 3 1 26 RX3 TX3 3 := ⟨rfl, inX3, by decide, fX3_26⟩
theorem gX3_26 (cx : Cx κ (OC g) RX3 cc d) (hd : decode cc pc = .ok (.getfield 26, 3)) (kk : Z κ (OC g) σ (pc + 3) lv (.int (σ 21 1) :: rest)) : Z κ (OC g) σ pc lv (.ref (g.ad 21) :: rest) := g_get cx kX3f26 (by decide) (fun _ => rfl) rfl hd kk
theorem wX3_1 : Fw 1 TX3 3 tyX3 := ⟨tyX3_ok, nmX3, rfl, rfl⟩
theorem pX3_26 {v : Int32} (cx : Cx κ (OC g) RX3 cc d) (hd : decode cc pc = .ok (.putfield 26, 3)) (kk : Z κ (OC g) (up2 σ 21 1 v) (pc + 3) lv rest) : Z κ (OC g) σ pc lv (.int v :: .ref (g.ad 21) :: rest) := g_put cx kX3f26 wX3_1 (by decide) (fun _ => rfl) (Nat.le_of_ble_eq_true rfl) rfl hd kk
theorem kX7f115 : Fk RX7 3 1 115 RX3 TX3 3 := ⟨rfl, inX3, by decide, fX7_115⟩
theorem gX7_115 (cx : Cx κ (OC g) RX7 cc d) (hd : decode cc pc = .ok (.getfield 115, 3)) (kk : Z κ (OC g) σ (pc + 3) lv (.int (σ 21 1) :: rest)) : Z κ (OC g) σ pc lv (.ref (g.ad 21) :: rest) := g_get cx kX7f115 (by decide) (fun _ => rfl) rfl hd kk
theorem pX7_115 {v : Int32} (cx : Cx κ (OC g) RX7 cc d) (hd : decode cc pc = .ok (.putfield 115, 3)) (kk : Z κ (OC g) (up2 σ 21 1 v) (pc + 3) lv rest) : Z κ (OC g) σ pc lv (.int v :: .ref (g.ad 21) :: rest) := g_put cx kX7f115 wX3_1 (by decide) (fun _ => rfl) (Nat.le_of_ble_eq_true rfl) rfl hd kk
theorem kX3f18 : Fk RX3 3 2 18 RX3 TX3 3 := ⟨rfl, inX3, by decide, fX3_18⟩
theorem gX3_18 (cx : Cx κ (OC g) RX3 cc d) (hd : decode cc pc = .ok (.getfield 18, 3)) (kk : Z κ (OC g) σ (pc + 3) lv (.int (σ 21 2) :: rest)) : Z κ (OC g) σ pc lv (.ref (g.ad 21) :: rest) := g_get cx kX3f18 (by decide) (fun _ => rfl) rfl hd kk
theorem wX3_2 : Fw 2 TX3 3 tyX3 := ⟨tyX3_ok, nmX3, rfl, rfl⟩
theorem pX3_18 {v : Int32} (cx : Cx κ (OC g) RX3 cc d) (hd : decode cc pc = .ok (.putfield 18, 3)) (kk : Z κ (OC g) (up2 σ 21 2 v) (pc + 3) lv rest) : Z κ (OC g) σ pc lv (.int v :: .ref (g.ad 21) :: rest) := g_put cx kX3f18 wX3_2 (by decide) (fun _ => rfl) (Nat.le_of_ble_eq_true rfl) rfl hd kk
theorem kX0f15 : Fk RX0 0 0 15 RX0 TX0 7 := ⟨rfl, inX0, by decide, fX0_15⟩
theorem gX0_15 (cx : Cx κ (OC g) RX0 cc d) (hd : decode cc pc = .ok (.getfield 15, 3)) (kk : Z κ (OC g) σ (pc + 3) lv (.ref (g.ad 6) :: rest)) : Z κ (OC g) σ pc lv (.ref (g.ad 115) :: rest) := g_get cx kX0f15 (by decide) (fun _ => rfl) rfl hd kk
theorem kX0f19 : Fk RX0 0 1 19 RX0 TX0 7 := ⟨rfl, inX0, by decide, fX0_19⟩
theorem gX0_19 (cx : Cx κ (OC g) RX0 cc d) (hd : decode cc pc = .ok (.getfield 19, 3)) (kk : Z κ (OC g) σ (pc + 3) lv (.ref (g.ad 12) :: rest)) : Z κ (OC g) σ pc lv (.ref (g.ad 115) :: rest) := g_get cx kX0f19 (by decide) (fun _ => rfl) rfl hd kk
theorem kX0f9 : Fk RX0 0 2 9 RX0 TX0 7 := ⟨rfl, inX0, by decide, fX0_9⟩
theorem gX0_9 (cx : Cx κ (OC g) RX0 cc d) (hd : decode cc pc = .ok (.getfield 9, 3)) (kk : Z κ (OC g) σ (pc + 3) lv (.ref (g.ad 116) :: rest)) : Z κ (OC g) σ pc lv (.ref (g.ad 115) :: rest) := g_get cx kX0f9 (by decide) (fun _ => rfl) rfl hd kk
theorem kX0f126 : Fk RX0 0 3 126 RX0 TX0 7 := ⟨rfl, inX0, by decide, fX0_126⟩
theorem gX0_126 (cx : Cx κ (OC g) RX0 cc d) (hd : decode cc pc = .ok (.getfield 126, 3)) (kk : Z κ (OC g) σ (pc + 3) lv (.int (σ 115 3) :: rest)) : Z κ (OC g) σ pc lv (.ref (g.ad 115) :: rest) := g_get cx kX0f126 (by decide) (fun _ => rfl) rfl hd kk
theorem wX0_3 : Fw 3 TX0 7 tyX0 := ⟨tyX0_ok, nmX0, rfl, rfl⟩
theorem pX0_126 {v : Int32} (cx : Cx κ (OC g) RX0 cc d) (hd : decode cc pc = .ok (.putfield 126, 3)) (kk : Z κ (OC g) (up2 σ 115 3 v) (pc + 3) lv rest) : Z κ (OC g) σ pc lv (.int v :: .ref (g.ad 115) :: rest) := g_put cx kX0f126 wX0_3 (by decide) (fun _ => rfl) (Nat.le_of_ble_eq_true rfl) rfl hd kk
theorem kX7f224 : Fk RX7 0 3 224 RX0 TX0 7 := ⟨rfl, inX0, by decide, fX7_224⟩
theorem gX7_224 (cx : Cx κ (OC g) RX7 cc d) (hd : decode cc pc = .ok (.getfield 224, 3)) (kk : Z κ (OC g) σ (pc + 3) lv (.int (σ 115 3) :: rest)) : Z κ (OC g) σ pc lv (.ref (g.ad 115) :: rest) := g_get cx kX7f224 (by decide) (fun _ => rfl) rfl hd kk
theorem pX7_224 {v : Int32} (cx : Cx κ (OC g) RX7 cc d) (hd : decode cc pc = .ok (.putfield 224, 3)) (kk : Z κ (OC g) (up2 σ 115 3 v) (pc + 3) lv rest) : Z κ (OC g) σ pc lv (.int v :: .ref (g.ad 115) :: rest) := g_put cx kX7f224 wX0_3 (by decide) (fun _ => rfl) (Nat.le_of_ble_eq_true rfl) rfl hd kk
theorem kX0f129 : Fk RX0 0 4 129 RX0 TX0 7 := ⟨rfl, inX0, by decide, fX0_129⟩
theorem gX0_129 (cx : Cx κ (OC g) RX0 cc d) (hd : decode cc pc = .ok (.getfield 129, 3)) (kk : Z κ (OC g) σ (pc + 3) lv (.int (σ 115 4) :: rest)) : Z κ (OC g) σ pc lv (.ref (g.ad 115) :: rest) := g_get cx kX0f129 (by decide) (fun _ => rfl) rfl hd kk
theorem wX0_4 : Fw 4 TX0 7 tyX0 := ⟨tyX0_ok, nmX0, rfl, rfl⟩
theorem pX0_129 {v : Int32} (cx : Cx κ (OC g) RX0 cc d) (hd : decode cc pc = .ok (.putfield 129, 3)) (kk : Z κ (OC g) (up2 σ 115 4 v) (pc + 3) lv rest) : Z κ (OC g) σ pc lv (.int v :: .ref (g.ad 115) :: rest) := g_put cx kX0f129 wX0_4 (by decide) (fun _ => rfl) (Nat.le_of_ble_eq_true rfl) rfl hd kk
theorem kX7f227 : Fk RX7 0 4 227 RX0 TX0 7 := ⟨rfl, inX0, by decide, fX7_227⟩
theorem gX7_227 (cx : Cx κ (OC g) RX7 cc d) (hd : decode cc pc = .ok (.getfield 227, 3)) (kk : Z κ (OC g) σ (pc + 3) lv (.int (σ 115 4) :: rest)) : Z κ (OC g) σ pc lv (.ref (g.ad 115) :: rest) := g_get cx kX7f227 (by decide) (fun _ => rfl) rfl hd kk
theorem pX7_227 {v : Int32} (cx : Cx κ (OC g) RX7 cc d) (hd : decode cc pc = .ok (.putfield 227, 3)) (kk : Z κ (OC g) (up2 σ 115 4 v) (pc + 3) lv rest) : Z κ (OC g) σ pc lv (.int v :: .ref (g.ad 115) :: rest) := g_put cx kX7f227 wX0_4 (by decide) (fun _ => rfl) (Nat.le_of_ble_eq_true rfl) rfl hd kk
theorem kX0f140 : Fk RX0 0 5 140 RX0 TX0 7 := ⟨rfl, inX0, by decide, fX0_140⟩
theorem gX0_140 (cx : Cx κ (OC g) RX0 cc d) (hd : decode cc pc = .ok (.getfield 140, 3)) (kk : Z κ (OC g) σ (pc + 3) lv (.int (σ 115 5) :: rest)) : Z κ (OC g) σ pc lv (.ref (g.ad 115) :: rest) := g_get cx kX0f140 (by decide) (fun _ => rfl) rfl hd kk
theorem wX0_5 : Fw 5 TX0 7 tyX0 := ⟨tyX0_ok, nmX0, rfl, rfl⟩
theorem pX0_140 {v : Int32} (cx : Cx κ (OC g) RX0 cc d) (hd : decode cc pc = .ok (.putfield 140, 3)) (kk : Z κ (OC g) (up2 σ 115 5 v) (pc + 3) lv rest) : Z κ (OC g) σ pc lv (.int v :: .ref (g.ad 115) :: rest) := g_put cx kX0f140 wX0_5 (by decide) (fun _ => rfl) (Nat.le_of_ble_eq_true rfl) rfl hd kk
theorem kX7f236 : Fk RX7 0 5 236 RX0 TX0 7 := ⟨rfl, inX0, by decide, fX7_236⟩
theorem gX7_236 (cx : Cx κ (OC g) RX7 cc d) (hd : decode cc pc = .ok (.getfield 236, 3)) (kk : Z κ (OC g) σ (pc + 3) lv (.int (σ 115 5) :: rest)) : Z κ (OC g) σ pc lv (.ref (g.ad 115) :: rest) := g_get cx kX7f236 (by decide) (fun _ => rfl) rfl hd kk
theorem pX7_236 {v : Int32} (cx : Cx κ (OC g) RX7 cc d) (hd : decode cc pc = .ok (.putfield 236, 3)) (kk : Z κ (OC g) (up2 σ 115 5 v) (pc + 3) lv rest) : Z κ (OC g) σ pc lv (.int v :: .ref (g.ad 115) :: rest) := g_put cx kX7f236 wX0_5 (by decide) (fun _ => rfl) (Nat.le_of_ble_eq_true rfl) rfl hd kk
theorem kX0f143 : Fk RX0 0 6 143 RX0 TX0 7 := ⟨rfl, inX0, by decide, fX0_143⟩
theorem gX0_143 (cx : Cx κ (OC g) RX0 cc d) (hd : decode cc pc = .ok (.getfield 143, 3)) (kk : Z κ (OC g) σ (pc + 3) lv (.int (σ 115 6) :: rest)) : Z κ (OC g) σ pc lv (.ref (g.ad 115) :: rest) := g_get cx kX0f143 (by decide) (fun _ => rfl) rfl hd kk
theorem wX0_6 : Fw 6 TX0 7 tyX0 := ⟨tyX0_ok, nmX0, rfl, rfl⟩
theorem pX0_143 {v : Int32} (cx : Cx κ (OC g) RX0 cc d) (hd : decode cc pc = .ok (.putfield 143, 3)) (kk : Z κ (OC g) (up2 σ 115 6 v) (pc + 3) lv rest) : Z κ (OC g) σ pc lv (.int v :: .ref (g.ad 115) :: rest) := g_put cx kX0f143 wX0_6 (by decide) (fun _ => rfl) (Nat.le_of_ble_eq_true rfl) rfl hd kk
theorem kX7f239 : Fk RX7 0 6 239 RX0 TX0 7 := ⟨rfl, inX0, by decide, fX7_239⟩
theorem gX7_239 (cx : Cx κ (OC g) RX7 cc d) (hd : decode cc pc = .ok (.getfield 239, 3)) (kk : Z κ (OC g) σ (pc + 3) lv (.int (σ 115 6) :: rest)) : Z κ (OC g) σ pc lv (.ref (g.ad 115) :: rest) := g_get cx kX7f239 (by decide) (fun _ => rfl) rfl hd kk
theorem pX7_239 {v : Int32} (cx : Cx κ (OC g) RX7 cc d) (hd : decode cc pc = .ok (.putfield 239, 3)) (kk : Z κ (OC g) (up2 σ 115 6 v) (pc + 3) lv rest) : Z κ (OC g) σ pc lv (.int v :: .ref (g.ad 115) :: rest) := g_put cx kX7f239 wX0_6 (by decide) (fun _ => rfl) (Nat.le_of_ble_eq_true rfl) rfl hd kk
theorem kX2f18 : Fk RX2 2 0 18 RX2 TX2 8 := ⟨rfl, inX2, by decide, fX2_18⟩
theorem gX2_18 (cx : Cx κ (OC g) RX2 cc d) (hd : decode cc pc = .ok (.getfield 18, 3)) (kk : Z κ (OC g) σ (pc + 3) lv (.ref (g.ad 6) :: rest)) : Z κ (OC g) σ pc lv (.ref (g.ad 117) :: rest) := g_get cx kX2f18 (by decide) (fun _ => rfl) rfl hd kk
theorem kX2f22 : Fk RX2 2 1 22 RX2 TX2 8 := ⟨rfl, inX2, by decide, fX2_22⟩
theorem gX2_22 (cx : Cx κ (OC g) RX2 cc d) (hd : decode cc pc = .ok (.getfield 22, 3)) (kk : Z κ (OC g) σ (pc + 3) lv (.ref (g.ad 12) :: rest)) : Z κ (OC g) σ pc lv (.ref (g.ad 117) :: rest) := g_get cx kX2f22 (by decide) (fun _ => rfl) rfl hd kk
theorem kX2f9 : Fk RX2 2 2 9 RX2 TX2 8 := ⟨rfl, inX2, by decide, fX2_9⟩
theorem gX2_9 (cx : Cx κ (OC g) RX2 cc d) (hd : decode cc pc = .ok (.getfield 9, 3)) (kk : Z κ (OC g) σ (pc + 3) lv (.ref (g.ad 118) :: rest)) : Z κ (OC g) σ pc lv (.ref (g.ad 117) :: rest) := g_get cx kX2f9 (by decide) (fun _ => rfl) rfl hd kk
theorem kX2f15 : Fk RX2 2 3 15 RX2 TX2 8 := ⟨rfl, inX2, by decide, fX2_15⟩
theorem gX2_15 (cx : Cx κ (OC g) RX2 cc d) (hd : decode cc pc = .ok (.getfield 15, 3)) (kk : Z κ (OC g) σ (pc + 3) lv (.ref (g.ad 119) :: rest)) : Z κ (OC g) σ pc lv (.ref (g.ad 117) :: rest) := g_get cx kX2f15 (by decide) (fun _ => rfl) rfl hd kk
theorem kX2f44 : Fk RX2 2 4 44 RX2 TX2 8 := ⟨rfl, inX2, by decide, fX2_44⟩
theorem gX2_44 (cx : Cx κ (OC g) RX2 cc d) (hd : decode cc pc = .ok (.getfield 44, 3)) (kk : Z κ (OC g) σ (pc + 3) lv (.int (σ 117 4) :: rest)) : Z κ (OC g) σ pc lv (.ref (g.ad 117) :: rest) := g_get cx kX2f44 (by decide) (fun _ => rfl) rfl hd kk
theorem wX2_4 : Fw 4 TX2 8 tyX2 := ⟨tyX2_ok, nmX2, rfl, rfl⟩
theorem pX2_44 {v : Int32} (cx : Cx κ (OC g) RX2 cc d) (hd : decode cc pc = .ok (.putfield 44, 3)) (kk : Z κ (OC g) (up2 σ 117 4 v) (pc + 3) lv rest) : Z κ (OC g) σ pc lv (.int v :: .ref (g.ad 117) :: rest) := g_put cx kX2f44 wX2_4 (by decide) (fun _ => rfl) (Nat.le_of_ble_eq_true rfl) rfl hd kk
theorem kX7f256 : Fk RX7 2 4 256 RX2 TX2 8 := ⟨rfl, inX2, by decide, fX7_256⟩
theorem gX7_256 (cx : Cx κ (OC g) RX7 cc d) (hd : decode cc pc = .ok (.getfield 256, 3)) (kk : Z κ (OC g) σ (pc + 3) lv (.int (σ 117 4) :: rest)) : Z κ (OC g) σ pc lv (.ref (g.ad 117) :: rest) := g_get cx kX7f256 (by decide) (fun _ => rfl) rfl hd kk
theorem pX7_256 {v : Int32} (cx : Cx κ (OC g) RX7 cc d) (hd : decode cc pc = .ok (.putfield 256, 3)) (kk : Z κ (OC g) (up2 σ 117 4 v) (pc + 3) lv rest) : Z κ (OC g) σ pc lv (.int v :: .ref (g.ad 117) :: rest) := g_put cx kX7f256 wX2_4 (by decide) (fun _ => rfl) (Nat.le_of_ble_eq_true rfl) rfl hd kk
theorem kX2f47 : Fk RX2 2 5 47 RX2 TX2 8 := ⟨rfl, inX2, by decide, fX2_47⟩
theorem gX2_47 (cx : Cx κ (OC g) RX2 cc d) (hd : decode cc pc = .ok (.getfield 47, 3)) (kk : Z κ (OC g) σ (pc + 3) lv (.int (σ 117 5) :: rest)) : Z κ (OC g) σ pc lv (.ref (g.ad 117) :: rest) := g_get cx kX2f47 (by decide) (fun _ => rfl) rfl hd kk
theorem wX2_5 : Fw 5 TX2 8 tyX2 := ⟨tyX2_ok, nmX2, rfl, rfl⟩
theorem pX2_47 {v : Int32} (cx : Cx κ (OC g) RX2 cc d) (hd : decode cc pc = .ok (.putfield 47, 3)) (kk : Z κ (OC g) (up2 σ 117 5 v) (pc + 3) lv rest) : Z κ (OC g) σ pc lv (.int v :: .ref (g.ad 117) :: rest) := g_put cx kX2f47 wX2_5 (by decide) (fun _ => rfl) (Nat.le_of_ble_eq_true rfl) rfl hd kk
theorem kX7f259 : Fk RX7 2 5 259 RX2 TX2 8 := ⟨rfl, inX2, by decide, fX7_259⟩
theorem gX7_259 (cx : Cx κ (OC g) RX7 cc d) (hd : decode cc pc = .ok (.getfield 259, 3)) (kk : Z κ (OC g) σ (pc + 3) lv (.int (σ 117 5) :: rest)) : Z κ (OC g) σ pc lv (.ref (g.ad 117) :: rest) := g_get cx kX7f259 (by decide) (fun _ => rfl) rfl hd kk
theorem pX7_259 {v : Int32} (cx : Cx κ (OC g) RX7 cc d) (hd : decode cc pc = .ok (.putfield 259, 3)) (kk : Z κ (OC g) (up2 σ 117 5 v) (pc + 3) lv rest) : Z κ (OC g) σ pc lv (.int v :: .ref (g.ad 117) :: rest) := g_put cx kX7f259 wX2_5 (by decide) (fun _ => rfl) (Nat.le_of_ble_eq_true rfl) rfl hd kk
theorem kX2f74 : Fk RX2 2 6 74 RX2 TX2 8 := ⟨rfl, inX2, by decide, fX2_74⟩
theorem gX2_74 (cx : Cx κ (OC g) RX2 cc d) (hd : decode cc pc = .ok (.getfield 74, 3)) (kk : Z κ (OC g) σ (pc + 3) lv (.int (σ 117 6) :: rest)) : Z κ (OC g) σ pc lv (.ref (g.ad 117) :: rest) := g_get cx kX2f74 (by decide) (fun _ => rfl) rfl hd kk
theorem wX2_6 : Fw 6 TX2 8 tyX2 := ⟨tyX2_ok, nmX2, rfl, rfl⟩
theorem pX2_74 {v : Int32} (cx : Cx κ (OC g) RX2 cc d) (hd : decode cc pc = .ok (.putfield 74, 3)) (kk : Z κ (OC g) (up2 σ 117 6 v) (pc + 3) lv rest) : Z κ (OC g) σ pc lv (.int v :: .ref (g.ad 117) :: rest) := g_put cx kX2f74 wX2_6 (by decide) (fun _ => rfl) (Nat.le_of_ble_eq_true rfl) rfl hd kk
theorem kX7f265 : Fk RX7 2 6 265 RX2 TX2 8 := ⟨rfl, inX2, by decide, fX7_265⟩
theorem gX7_265 (cx : Cx κ (OC g) RX7 cc d) (hd : decode cc pc = .ok (.getfield 265, 3)) (kk : Z κ (OC g) σ (pc + 3) lv (.int (σ 117 6) :: rest)) : Z κ (OC g) σ pc lv (.ref (g.ad 117) :: rest) := g_get cx kX7f265 (by decide) (fun _ => rfl) rfl hd kk
theorem pX7_265 {v : Int32} (cx : Cx κ (OC g) RX7 cc d) (hd : decode cc pc = .ok (.putfield 265, 3)) (kk : Z κ (OC g) (up2 σ 117 6 v) (pc + 3) lv rest) : Z κ (OC g) σ pc lv (.int v :: .ref (g.ad 117) :: rest) := g_put cx kX7f265 wX2_6 (by decide) (fun _ => rfl) (Nat.le_of_ble_eq_true rfl) rfl hd kk
theorem kX2f77 : Fk RX2 2 7 77 RX2 TX2 8 := ⟨rfl, inX2, by decide, fX2_77⟩
theorem gX2_77 (cx : Cx κ (OC g) RX2 cc d) (hd : decode cc pc = .ok (.getfield 77, 3)) (kk : Z κ (OC g) σ (pc + 3) lv (.int (σ 117 7) :: rest)) : Z κ (OC g) σ pc lv (.ref (g.ad 117) :: rest) := g_get cx kX2f77 (by decide) (fun _ => rfl) rfl hd kk
theorem wX2_7 : Fw 7 TX2 8 tyX2 := ⟨tyX2_ok, nmX2, rfl, rfl⟩
theorem pX2_77 {v : Int32} (cx : Cx κ (OC g) RX2 cc d) (hd : decode cc pc = .ok (.putfield 77, 3)) (kk : Z κ (OC g) (up2 σ 117 7 v) (pc + 3) lv rest) : Z κ (OC g) σ pc lv (.int v :: .ref (g.ad 117) :: rest) := g_put cx kX2f77 wX2_7 (by decide) (fun _ => rfl) (Nat.le_of_ble_eq_true rfl) rfl hd kk
theorem kX7f268 : Fk RX7 2 7 268 RX2 TX2 8 := ⟨rfl, inX2, by decide, fX7_268⟩
theorem gX7_268 (cx : Cx κ (OC g) RX7 cc d) (hd : decode cc pc = .ok (.getfield 268, 3)) (kk : Z κ (OC g) σ (pc + 3) lv (.int (σ 117 7) :: rest)) : Z κ (OC g) σ pc lv (.ref (g.ad 117) :: rest) := g_get cx kX7f268 (by decide) (fun _ => rfl) rfl hd kk
theorem pX7_268 {v : Int32} (cx : Cx κ (OC g) RX7 cc d) (hd : decode cc pc = .ok (.putfield 268, 3)) (kk : Z κ (OC g) (up2 σ 117 7 v) (pc + 3) lv rest) : Z κ (OC g) σ pc lv (.int v :: .ref (g.ad 117) :: rest) := g_put cx kX7f268 wX2_7 (by decide) (fun _ => rfl) (Nat.le_of_ble_eq_true rfl) rfl hd kk
theorem kX4f18 : Fk RX4 4 0 18 RX4 TX4 4 := ⟨rfl, inX4, by decide, fX4_18⟩
theorem gX4_18 (cx : Cx κ (OC g) RX4 cc d) (hd : decode cc pc = .ok (.getfield 18, 3)) (kk : Z κ (OC g) σ (pc + 3) lv (.ref (g.ad 6) :: rest)) : Z κ (OC g) σ pc lv (.ref (g.ad 120) :: rest) := g_get cx kX4f18 (by decide) (fun _ => rfl) rfl hd kk
theorem kX4f9 : Fk RX4 4 1 9 RX4 TX4 4 := ⟨rfl, inX4, by decide, fX4_9⟩
theorem gX4_9 (cx : Cx κ (OC g) RX4 cc d) (hd : decode cc pc = .ok (.getfield 9, 3)) (kk : Z κ (OC g) σ (pc + 3) lv (.ref (g.ad 121) :: rest)) : Z κ (OC g) σ pc lv (.ref (g.ad 120) :: rest) := g_get cx kX4f9 (by decide) (fun _ => rfl) rfl hd kk
theorem kX4f15 : Fk RX4 4 2 15 RX4 TX4 4 := ⟨rfl, inX4, by decide, fX4_15⟩
theorem gX4_15 (cx : Cx κ (OC g) RX4 cc d) (hd : decode cc pc = .ok (.getfield 15, 3)) (kk : Z κ (OC g) σ (pc + 3) lv (.ref (g.ad 122) :: rest)) : Z κ (OC g) σ pc lv (.ref (g.ad 120) :: rest) := g_get cx kX4f15 (by decide) (fun _ => rfl) rfl hd kk
theorem kX4f22 : Fk RX4 4 3 22 RX4 TX4 4 := ⟨rfl, inX4, by decide, fX4_22⟩
theorem gX4_22 (cx : Cx κ (OC g) RX4 cc d) (hd : decode cc pc = .ok (.getfield 22, 3)) (kk : Z κ (OC g) σ (pc + 3) lv (.int (σ 120 3) :: rest)) : Z κ (OC g) σ pc lv (.ref (g.ad 120) :: rest) := g_get cx kX4f22 (by decide) (fun _ => rfl) rfl hd kk
theorem wX4_3 : Fw 3 TX4 4 tyX4 := ⟨tyX4_ok, nmX4, rfl, rfl⟩
theorem pX4_22 {v : Int32} (cx : Cx κ (OC g) RX4 cc d) (hd : decode cc pc = .ok (.putfield 22, 3)) (kk : Z κ (OC g) (up2 σ 120 3 v) (pc + 3) lv rest) : Z κ (OC g) σ pc lv (.int v :: .ref (g.ad 120) :: rest) := g_put cx kX4f22 wX4_3 (by decide) (fun _ => rfl) (Nat.le_of_ble_eq_true rfl) rfl hd kk
theorem kX7f112 : Fk RX7 4 3 112 RX4 TX4 4 := ⟨rfl, inX4, by decide, fX7_112⟩
theorem gX7_112 (cx : Cx κ (OC g) RX7 cc d) (hd : decode cc pc = .ok (.getfield 112, 3)) (kk : Z κ (OC g) σ (pc + 3) lv (.int (σ 120 3) :: rest)) : Z κ (OC g) σ pc lv (.ref (g.ad 120) :: rest) := g_get cx kX7f112 (by decide) (fun _ => rfl) rfl hd kk
theorem pX7_112 {v : Int32} (cx : Cx κ (OC g) RX7 cc d) (hd : decode cc pc = .ok (.putfield 112, 3)) (kk : Z κ (OC g) (up2 σ 120 3 v) (pc + 3) lv rest) : Z κ (OC g) σ pc lv (.int v :: .ref (g.ad 120) :: rest) := g_put cx kX7f112 wX4_3 (by decide) (fun _ => rfl) (Nat.le_of_ble_eq_true rfl) rfl hd kk
theorem kX7f10 : Fk RX7 7 0 10 RX7 TX7 9 := ⟨rfl, inX7, by decide, fX7_10⟩
theorem gX7_10 (cx : Cx κ (OC g) RX7 cc d) (hd : decode cc pc = .ok (.getfield 10, 3)) (kk : Z κ (OC g) σ (pc + 3) lv (.ref (g.ad 1) :: rest)) : Z κ (OC g) σ pc lv (.ref (g.ad 0) :: rest) := g_get cx kX7f10 (by decide) (fun _ => rfl) rfl hd kk
theorem kX7f19 : Fk RX7 7 1 19 RX7 TX7 9 := ⟨rfl, inX7, by decide, fX7_19⟩
theorem gX7_19 (cx : Cx κ (OC g) RX7 cc d) (hd : decode cc pc = .ok (.getfield 19, 3)) (kk : Z κ (OC g) σ (pc + 3) lv (.ref (g.ad 6) :: rest)) : Z κ (OC g) σ pc lv (.ref (g.ad 0) :: rest) := g_get cx kX7f19 (by decide) (fun _ => rfl) rfl hd kk
theorem kX7f26 : Fk RX7 7 2 26 RX7 TX7 9 := ⟨rfl, inX7, by decide, fX7_26⟩
theorem gX7_26 (cx : Cx κ (OC g) RX7 cc d) (hd : decode cc pc = .ok (.getfield 26, 3)) (kk : Z κ (OC g) σ (pc + 3) lv (.ref (g.ad 12) :: rest)) : Z κ (OC g) σ pc lv (.ref (g.ad 0) :: rest) := g_get cx kX7f26 (by decide) (fun _ => rfl) rfl hd kk
theorem kX7f33 : Fk RX7 7 3 33 RX7 TX7 9 := ⟨rfl, inX7, by decide, fX7_33⟩
theorem gX7_33 (cx : Cx κ (OC g) RX7 cc d) (hd : decode cc pc = .ok (.getfield 33, 3)) (kk : Z κ (OC g) σ (pc + 3) lv (.ref (g.ad 21) :: rest)) : Z κ (OC g) σ pc lv (.ref (g.ad 0) :: rest) := g_get cx kX7f33 (by decide) (fun _ => rfl) rfl hd kk
theorem kX7f37 : Fk RX7 7 4 37 RX7 TX7 9 := ⟨rfl, inX7, by decide, fX7_37⟩
theorem gX7_37 (cx : Cx κ (OC g) RX7 cc d) (hd : decode cc pc = .ok (.getfield 37, 3)) (kk : Z κ (OC g) σ (pc + 3) lv (.ref (g.ad 95) :: rest)) : Z κ (OC g) σ pc lv (.ref (g.ad 0) :: rest) := g_get cx kX7f37 (by decide) (fun _ => rfl) rfl hd kk
theorem kX7f41 : Fk RX7 7 5 41 RX7 TX7 9 := ⟨rfl, inX7, by decide, fX7_41⟩
theorem gX7_41 (cx : Cx κ (OC g) RX7 cc d) (hd : decode cc pc = .ok (.getfield 41, 3)) (kk : Z κ (OC g) σ (pc + 3) lv (.ref (g.ad 114) :: rest)) : Z κ (OC g) σ pc lv (.ref (g.ad 0) :: rest) := g_get cx kX7f41 (by decide) (fun _ => rfl) rfl hd kk
theorem kX7f50 : Fk RX7 7 6 50 RX7 TX7 9 := ⟨rfl, inX7, by decide, fX7_50⟩
theorem gX7_50 (cx : Cx κ (OC g) RX7 cc d) (hd : decode cc pc = .ok (.getfield 50, 3)) (kk : Z κ (OC g) σ (pc + 3) lv (.ref (g.ad 115) :: rest)) : Z κ (OC g) σ pc lv (.ref (g.ad 0) :: rest) := g_get cx kX7f50 (by decide) (fun _ => rfl) rfl hd kk
theorem kX7f57 : Fk RX7 7 7 57 RX7 TX7 9 := ⟨rfl, inX7, by decide, fX7_57⟩
theorem gX7_57 (cx : Cx κ (OC g) RX7 cc d) (hd : decode cc pc = .ok (.getfield 57, 3)) (kk : Z κ (OC g) σ (pc + 3) lv (.ref (g.ad 117) :: rest)) : Z κ (OC g) σ pc lv (.ref (g.ad 0) :: rest) := g_get cx kX7f57 (by decide) (fun _ => rfl) rfl hd kk
theorem kX7f66 : Fk RX7 7 8 66 RX7 TX7 9 := ⟨rfl, inX7, by decide, fX7_66⟩
theorem gX7_66 (cx : Cx κ (OC g) RX7 cc d) (hd : decode cc pc = .ok (.getfield 66, 3)) (kk : Z κ (OC g) σ (pc + 3) lv (.ref (g.ad 120) :: rest)) : Z κ (OC g) σ pc lv (.ref (g.ad 0) :: rest) := g_get cx kX7f66 (by decide) (fun _ => rfl) rfl hd kk
theorem kX8f7 : Fk RX8 8 0 7 RX8 TX8 18 := ⟨rfl, inX8, by decide, fX8_7⟩
theorem gX8_7 (cx : Cx κ (OM g) RX8 cc d) (hd : decode cc pc = .ok (.getfield 7, 3)) (kk : Z κ (OM g) σ (pc + 3) lv (.ref (g.ad 1) :: rest)) : Z κ (OM g) σ pc lv (.ref (g.ad 0) :: rest) := g_get cx kX8f7 (by decide) (fun _ => rfl) rfl hd kk
theorem kX8f13 : Fk RX8 8 1 13 RX8 TX8 18 := ⟨rfl, inX8, by decide, fX8_13⟩
theorem gX8_13 (cx : Cx κ (OM g) RX8 cc d) (hd : decode cc pc = .ok (.getfield 13, 3)) (kk : Z κ (OM g) σ (pc + 3) lv (.ref (g.ad 2) :: rest)) : Z κ (OM g) σ pc lv (.ref (g.ad 0) :: rest) := g_get cx kX8f13 (by decide) (fun _ => rfl) rfl hd kk
theorem kX8f16 : Fk RX8 8 2 16 RX8 TX8 18 := ⟨rfl, inX8, by decide, fX8_16⟩
theorem gX8_16 (cx : Cx κ (OM g) RX8 cc d) (hd : decode cc pc = .ok (.getfield 16, 3)) (kk : Z κ (OM g) σ (pc + 3) lv (.ref (g.ad 3) :: rest)) : Z κ (OM g) σ pc lv (.ref (g.ad 0) :: rest) := g_get cx kX8f16 (by decide) (fun _ => rfl) rfl hd kk
theorem kX8f125 : Fk RX8 8 3 125 RX8 TX8 18 := ⟨rfl, inX8, by decide, fX8_125⟩
theorem gX8_125 (cx : Cx κ (OM g) RX8 cc d) (hd : decode cc pc = .ok (.getfield 125, 3)) (kk : Z κ (OM g) σ (pc + 3) lv (.int (σ 0 3) :: rest)) : Z κ (OM g) σ pc lv (.ref (g.ad 0) :: rest) := g_get cx kX8f125 (by decide) (fun _ => rfl) rfl hd kk
theorem wX8_3 : Fw 3 TX8 18 tyX8 := ⟨tyX8_ok, nmX8, rfl, rfl⟩
theorem pX8_125 {v : Int32} (cx : Cx κ (OM g) RX8 cc d) (hd : decode cc pc = .ok (.putfield 125, 3)) (kk : Z κ (OM g) (up2 σ 0 3 v) (pc + 3) lv rest) : Z κ (OM g) σ pc lv (.int v :: .ref (g.ad 0) :: rest) := g_put cx kX8f125 wX8_3 (by decide) (fun _ => rfl) (Nat.le_of_ble_eq_true rfl) rfl hd kk
theorem kX8f19 : Fk RX8 8 4 19 RX8 TX8 18 := ⟨rfl, inX8, by decide, fX8_19⟩
theorem gX8_19 (cx : Cx κ (OM g) RX8 cc d) (hd : decode cc pc = .ok (.getfield 19, 3)) (kk : Z κ (OM g) σ (pc + 3) lv (.ref (g.ad 4) :: rest)) : Z κ (OM g) σ pc lv (.ref (g.ad 0) :: rest) := g_get cx kX8f19 (by decide) (fun _ => rfl) rfl hd kk
theorem kX8f22 : Fk RX8 8 5 22 RX8 TX8 18 := ⟨rfl, inX8, by decide, fX8_22⟩
theorem gX8_22 (cx : Cx κ (OM g) RX8 cc d) (hd : decode cc pc = .ok (.getfield 22, 3)) (kk : Z κ (OM g) σ (pc + 3) lv (.ref (g.ad 5) :: rest)) : Z κ (OM g) σ pc lv (.ref (g.ad 0) :: rest) := g_get cx kX8f22 (by decide) (fun _ => rfl) rfl hd kk
theorem kX8f26 : Fk RX8 8 6 26 RX8 TX8 18 := ⟨rfl, inX8, by decide, fX8_26⟩
theorem gX8_26 (cx : Cx κ (OM g) RX8 cc d) (hd : decode cc pc = .ok (.getfield 26, 3)) (kk : Z κ (OM g) σ (pc + 3) lv (.ref (g.ad 6) :: rest)) : Z κ (OM g) σ pc lv (.ref (g.ad 0) :: rest) := g_get cx kX8f26 (by decide) (fun _ => rfl) rfl hd kk
theorem kX8f39 : Fk RX8 8 7 39 RX8 TX8 18 := ⟨rfl, inX8, by decide, fX8_39⟩
theorem gX8_39 (cx : Cx κ (OM g) RX8 cc d) (hd : decode cc pc = .ok (.getfield 39, 3)) (kk : Z κ (OM g) σ (pc + 3) lv (.int (σ 0 7) :: rest)) : Z κ (OM g) σ pc lv (.ref (g.ad 0) :: rest) := g_get cx kX8f39 (by decide) (fun _ => rfl) rfl hd kk
theorem wX8_7 : Fw 7 TX8 18 tyX8 := ⟨tyX8_ok, nmX8, rfl, rfl⟩
theorem pX8_39 {v : Int32} (cx : Cx κ (OM g) RX8 cc d) (hd : decode cc pc = .ok (.putfield 39, 3)) (kk : Z κ (OM g) (up2 σ 0 7 v) (pc + 3) lv rest) : Z κ (OM g) σ pc lv (.int v :: .ref (g.ad 0) :: rest) := g_put cx kX8f39 wX8_7 (by decide) (fun _ => rfl) (Nat.le_of_ble_eq_true rfl) rfl hd kk
theorem kX8f29 : Fk RX8 8 8 29 RX8 TX8 18 := ⟨rfl, inX8, by decide, fX8_29⟩
theorem gX8_29 (cx : Cx κ (OM g) RX8 cc d) (hd : decode cc pc = .ok (.getfield 29, 3)) (kk : Z κ (OM g) σ (pc + 3) lv (.ref (g.ad 7) :: rest)) : Z κ (OM g) σ pc lv (.ref (g.ad 0) :: rest) := g_get cx kX8f29 (by decide) (fun _ => rfl) rfl hd kk
theorem kX8f122 : Fk RX8 8 9 122 RX8 TX8 18 := ⟨rfl, inX8, by decide, fX8_122⟩
theorem gX8_122 (cx : Cx κ (OM g) RX8 cc d) (hd : decode cc pc = .ok (.getfield 122, 3)) (kk : Z κ (OM g) σ (pc + 3) lv (.int (σ 0 9) :: rest)) : Z κ (OM g) σ pc lv (.ref (g.ad 0) :: rest) := g_get cx kX8f122 (by decide) (fun _ => rfl) rfl hd kk
theorem wX8_9 : Fw 9 TX8 18 tyX8 := ⟨tyX8_ok, nmX8, rfl, rfl⟩
theorem pX8_122 {v : Int32} (cx : Cx κ (OM g) RX8 cc d) (hd : decode cc pc = .ok (.putfield 122, 3)) (kk : Z κ (OM g) (up2 σ 0 9 v) (pc + 3) lv rest) : Z κ (OM g) σ pc lv (.int v :: .ref (g.ad 0) :: rest) := g_put cx kX8f122 wX8_9 (by decide) (fun _ => rfl) (Nat.le_of_ble_eq_true rfl) rfl hd kk
theorem kX8f32 : Fk RX8 8 10 32 RX8 TX8 18 := ⟨rfl, inX8, by decide, fX8_32⟩
theorem gX8_32 (cx : Cx κ (OM g) RX8 cc d) (hd : decode cc pc = .ok (.getfield 32, 3)) (kk : Z κ (OM g) σ (pc + 3) lv (.ref (g.ad 8) :: rest)) : Z κ (OM g) σ pc lv (.ref (g.ad 0) :: rest) := g_get cx kX8f32 (by decide) (fun _ => rfl) rfl hd kk
theorem kX8f43 : Fk RX8 8 11 43 RX8 TX8 18 := ⟨rfl, inX8, by decide, fX8_43⟩
theorem gX8_43 (cx : Cx κ (OM g) RX8 cc d) (hd : decode cc pc = .ok (.getfield 43, 3)) (kk : Z κ (OM g) σ (pc + 3) lv (.int (σ 0 11) :: rest)) : Z κ (OM g) σ pc lv (.ref (g.ad 0) :: rest) := g_get cx kX8f43 (by decide) (fun _ => rfl) rfl hd kk
theorem wX8_11 : Fw 11 TX8 18 tyX8 := ⟨tyX8_ok, nmX8, rfl, rfl⟩
theorem pX8_43 {v : Int32} (cx : Cx κ (OM g) RX8 cc d) (hd : decode cc pc = .ok (.putfield 43, 3)) (kk : Z κ (OM g) (up2 σ 0 11 v) (pc + 3) lv rest) : Z κ (OM g) σ pc lv (.int v :: .ref (g.ad 0) :: rest) := g_put cx kX8f43 wX8_11 (by decide) (fun _ => rfl) (Nat.le_of_ble_eq_true rfl) rfl hd kk
theorem kX8f50 : Fk RX8 8 12 50 RX8 TX8 18 := ⟨rfl, inX8, by decide, fX8_50⟩
theorem gX8_50 (cx : Cx κ (OM g) RX8 cc d) (hd : decode cc pc = .ok (.getfield 50, 3)) (kk : Z κ (OM g) σ (pc + 3) lv (.int (σ 0 12) :: rest)) : Z κ (OM g) σ pc lv (.ref (g.ad 0) :: rest) := g_get cx kX8f50 (by decide) (fun _ => rfl) rfl hd kk
theorem wX8_12 : Fw 12 TX8 18 tyX8 := ⟨tyX8_ok, nmX8, rfl, rfl⟩
theorem pX8_50 {v : Int32} (cx : Cx κ (OM g) RX8 cc d) (hd : decode cc pc = .ok (.putfield 50, 3)) (kk : Z κ (OM g) (up2 σ 0 12 v) (pc + 3) lv rest) : Z κ (OM g) σ pc lv (.int v :: .ref (g.ad 0) :: rest) := g_put cx kX8f50 wX8_12 (by decide) (fun _ => rfl) (Nat.le_of_ble_eq_true rfl) rfl hd kk
theorem kX8f53 : Fk RX8 8 13 53 RX8 TX8 18 := ⟨rfl, inX8, by decide, fX8_53⟩
theorem gX8_53 (cx : Cx κ (OM g) RX8 cc d) (hd : decode cc pc = .ok (.getfield 53, 3)) (kk : Z κ (OM g) σ (pc + 3) lv (.int (σ 0 13) :: rest)) : Z κ (OM g) σ pc lv (.ref (g.ad 0) :: rest) := g_get cx kX8f53 (by decide) (fun _ => rfl) rfl hd kk
theorem wX8_13 : Fw 13 TX8 18 tyX8 := ⟨tyX8_ok, nmX8, rfl, rfl⟩
theorem pX8_53 {v : Int32} (cx : Cx κ (OM g) RX8 cc d) (hd : decode cc pc = .ok (.putfield 53, 3)) (kk : Z κ (OM g) (up2 σ 0 13 v) (pc + 3) lv rest) : Z κ (OM g) σ pc lv (.int v :: .ref (g.ad 0) :: rest) := g_put cx kX8f53 wX8_13 (by decide) (fun _ => rfl) (Nat.le_of_ble_eq_true rfl) rfl hd kk
theorem kX8f59 : Fk RX8 8 14 59 RX8 TX8 18 := ⟨rfl, inX8, by decide, fX8_59⟩
theorem gX8_59 (cx : Cx κ (OM g) RX8 cc d) (hd : decode cc pc = .ok (.getfield 59, 3)) (kk : Z κ (OM g) σ (pc + 3) lv (.int (σ 0 14) :: rest)) : Z κ (OM g) σ pc lv (.ref (g.ad 0) :: rest) := g_get cx kX8f59 (by decide) (fun _ => rfl) rfl hd kk
theorem wX8_14 : Fw 14 TX8 18 tyX8 := ⟨tyX8_ok, nmX8, rfl, rfl⟩
theorem pX8_59 {v : Int32} (cx : Cx κ (OM g) RX8 cc d) (hd : decode cc pc = .ok (.putfield 59, 3)) (kk : Z κ (OM g) (up2 σ 0 14 v) (pc + 3) lv rest) : Z κ (OM g) σ pc lv (.int v :: .ref (g.ad 0) :: rest) := g_put cx kX8f59 wX8_14 (by decide) (fun _ => rfl) (Nat.le_of_ble_eq_true rfl) rfl hd kk
theorem kX8f80 : Fk RX8 8 15 80 RX8 TX8 18 := ⟨rfl, inX8, by decide, fX8_80⟩
theorem gX8_80 (cx : Cx κ (OM g) RX8 cc d) (hd : decode cc pc = .ok (.getfield 80, 3)) (kk : Z κ (OM g) σ (pc + 3) lv (.int (σ 0 15) :: rest)) : Z κ (OM g) σ pc lv (.ref (g.ad 0) :: rest) := g_get cx kX8f80 (by decide) (fun _ => rfl) rfl hd kk
theorem wX8_15 : Fw 15 TX8 18 tyX8 := ⟨tyX8_ok, nmX8, rfl, rfl⟩
theorem pX8_80 {v : Int32} (cx : Cx κ (OM g) RX8 cc d) (hd : decode cc pc = .ok (.putfield 80, 3)) (kk : Z κ (OM g) (up2 σ 0 15 v) (pc + 3) lv rest) : Z κ (OM g) σ pc lv (.int v :: .ref (g.ad 0) :: rest) := g_put cx kX8f80 wX8_15 (by decide) (fun _ => rfl) (Nat.le_of_ble_eq_true rfl) rfl hd kk
theorem kX8f112 : Fk RX8 8 16 112 RX8 TX8 18 := ⟨rfl, inX8, by decide, fX8_112⟩
theorem gX8_112 (cx : Cx κ (OM g) RX8 cc d) (hd : decode cc pc = .ok (.getfield 112, 3)) (kk : Z κ (OM g) σ (pc + 3) lv (.int (σ 0 16) :: rest)) : Z κ (OM g) σ pc lv (.ref (g.ad 0) :: rest) := g_get cx kX8f112 (by decide) (fun _ => rfl) rfl hd kk
theorem wX8_16 : Fw 16 TX8 18 tyX8 := ⟨tyX8_ok, nmX8, rfl, rfl⟩
theorem pX8_112 {v : Int32} (cx : Cx κ (OM g) RX8 cc d) (hd : decode cc pc = .ok (.putfield 112, 3)) (kk : Z κ (OM g) (up2 σ 0 16 v) (pc + 3) lv rest) : Z κ (OM g) σ pc lv (.int v :: .ref (g.ad 0) :: rest) := g_put cx kX8f112 wX8_16 (by decide) (fun _ => rfl) (Nat.le_of_ble_eq_true rfl) rfl hd kk
theorem kX8f187 : Fk RX8 8 17 187 RX8 TX8 18 := ⟨rfl, inX8, by decide, fX8_187⟩
theorem gX8_187 (cx : Cx κ (OM g) RX8 cc d) (hd : decode cc pc = .ok (.getfield 187, 3)) (kk : Z κ (OM g) σ (pc + 3) lv (.int (σ 0 17) :: rest)) : Z κ (OM g) σ pc lv (.ref (g.ad 0) :: rest) := g_get cx kX8f187 (by decide) (fun _ => rfl) rfl hd kk
theorem wX8_17 : Fw 17 TX8 18 tyX8 := ⟨tyX8_ok, nmX8, rfl, rfl⟩
theorem pX8_187 {v : Int32} (cx : Cx κ (OM g) RX8 cc d) (hd : decode cc pc = .ok (.putfield 187, 3)) (kk : Z κ (OM g) (up2 σ 0 17 v) (pc + 3) lv rest) : Z κ (OM g) σ pc lv (.int v :: .ref (g.ad 0) :: rest) := g_put cx kX8f187 wX8_17 (by decide) (fun _ => rfl) (Nat.le_of_ble_eq_true rfl) rfl hd kk
end FR
theorem hC0 {g : Gx} {σ : Mem} : ((OC g).wd σ)[0]? = some (g.ad 0, .inr (7, [.ref (g.ad 1), .ref (g.ad 6), .ref (g.ad 12), .ref (g.ad 21), .ref (g.ad 95), .ref (g.ad 114), .ref (g.ad 115), .ref (g.ad 117), .ref (g.ad 120)])) := g_he (fs := fun f => [.ref (g.ad 1), .ref (g.ad 6), .ref (g.ad 12), .ref (g.ad 21), .ref (g.ad 95), .ref (g.ad 114), .ref (g.ad 115), .ref (g.ad 117), .ref (g.ad 120)]) (by decide) (fun _ => rfl)
theorem hC1 {g : Gx} {σ : Mem} : ((OC g).wd σ)[1]? = some (g.ad 1, .inr (5, [.ref (g.ad 2), .int (σ 1 1), .int (σ 1 2), .ref (g.ad 3), .ref (g.ad 4), .ref (g.ad 5), .int (σ 1 6), .int (σ 1 7), .int (σ 1 8), .int (σ 1 9)])) := g_he (fs := fun f => [.ref (g.ad 2), .int (f 1), .int (f 2), .ref (g.ad 3), .ref (g.ad 4), .ref (g.ad 5), .int (f 6), .int (f 7), .int (f 8), .int (f 9)]) (by decide) (fun _ => rfl)
theorem hC6 {g : Gx} {σ : Mem} : ((OC g).wd σ)[6]? = some (g.ad 6, .inr (6, [.int (σ 6 0), .int (σ 6 1), .int (σ 6 2), .int (σ 6 3), .int (σ 6 4), .ref (g.ad 7), .ref (g.ad 8), .ref (g.ad 9), .ref (g.ad 10), .ref (g.ad 11)])) := g_he (fs := fun f => [.int (f 0), .int (f 1), .int (f 2), .int (f 3), .int (f 4), .ref (g.ad 7), .ref (g.ad 8), .ref (g.ad 9), .ref (g.ad 10), .ref (g.ad 11)]) (by decide) (fun _ => rfl)
theorem hC12 {g : Gx} {σ : Mem} : ((OC g).wd σ)[12]? = some (g.ad 12, .inr (1, [.int (σ 12 0), .int (σ 12 1), .ref (g.ad 13), .ref (g.ad 14), .ref (g.ad 15), .ref (g.ad 16), .ref (g.ad 17), .ref (g.ad 18), .ref (g.ad 19), .ref (g.ad 20)])) := g_he (fs := fun f => [.int (f 0), .int (f 1), .ref (g.ad 13), .ref (g.ad 14), .ref (g.ad 15), .ref (g.ad 16), .ref (g.ad 17), .ref (g.ad 18), .ref (g.ad 19), .ref (g.ad 20)]) (by decide) (fun _ => rfl)
theorem hC21 {g : Gx} {σ : Mem} : ((OC g).wd σ)[21]? = some (g.ad 21, .inr (3, [.ref (g.ad 22), .int (σ 21 1), .int (σ 21 2)])) := g_he (fs := fun f => [.ref (g.ad 22), .int (f 1), .int (f 2)]) (by decide) (fun _ => rfl)
theorem hC115 {g : Gx} {σ : Mem} : ((OC g).wd σ)[115]? = some (g.ad 115, .inr (0, [.ref (g.ad 6), .ref (g.ad 12), .ref (g.ad 116), .int (σ 115 3), .int (σ 115 4), .int (σ 115 5), .int (σ 115 6)])) := g_he (fs := fun f => [.ref (g.ad 6), .ref (g.ad 12), .ref (g.ad 116), .int (f 3), .int (f 4), .int (f 5), .int (f 6)]) (by decide) (fun _ => rfl)
theorem hC117 {g : Gx} {σ : Mem} : ((OC g).wd σ)[117]? = some (g.ad 117, .inr (2, [.ref (g.ad 6), .ref (g.ad 12), .ref (g.ad 118), .ref (g.ad 119), .int (σ 117 4), .int (σ 117 5), .int (σ 117 6), .int (σ 117 7)])) := g_he (fs := fun f => [.ref (g.ad 6), .ref (g.ad 12), .ref (g.ad 118), .ref (g.ad 119), .int (f 4), .int (f 5), .int (f 6), .int (f 7)]) (by decide) (fun _ => rfl)
theorem hC120 {g : Gx} {σ : Mem} : ((OC g).wd σ)[120]? = some (g.ad 120, .inr (4, [.ref (g.ad 6), .ref (g.ad 121), .ref (g.ad 122), .int (σ 120 3)])) := g_he (fs := fun f => [.ref (g.ad 6), .ref (g.ad 121), .ref (g.ad 122), .int (f 3)]) (by decide) (fun _ => rfl)
theorem hM0 {g : Gx} {σ : Mem} : ((OM g).wd σ)[0]? = some (g.ad 0, .inr (8, [.ref (g.ad 1), .ref (g.ad 2), .ref (g.ad 3), .int (σ 0 3), .ref (g.ad 4), .ref (g.ad 5), .ref (g.ad 6), .int (σ 0 7), .ref (g.ad 7), .int (σ 0 9), .ref (g.ad 8), .int (σ 0 11), .int (σ 0 12), .int (σ 0 13), .int (σ 0 14), .int (σ 0 15), .int (σ 0 16), .int (σ 0 17)])) := g_he (fs := fun f => [.ref (g.ad 1), .ref (g.ad 2), .ref (g.ad 3), .int (f 3), .ref (g.ad 4), .ref (g.ad 5), .ref (g.ad 6), .int (f 7), .ref (g.ad 7), .int (f 9), .ref (g.ad 8), .int (f 11), .int (f 12), .int (f 13), .int (f 14), .int (f 15), .int (f 16), .int (f 17)]) (by decide) (fun _ => rfl)
