/-! WHERE CELLS ARE MADE: words, rows, the world as a list that grows -/
theorem hL_7 : Cond.classLink RL 7 RX7 ∈ tb := tb_in (i := 62) (by decide +kernel) (by decide +kernel)
theorem aX7 : Cond.instantiable RX7 9 ∈ tb := tb_in (i := 63) (by decide +kernel) (by decide +kernel)
theorem iX7 : Cond.initialized RX7 ∈ tb := tb_in (i := 45) (by decide +kernel) (by decide +kernel)
theorem jX7_init : Cond.instanceMethod yX7_init ∈ tb := tb_in (i := 65) (by decide +kernel) (by decide +kernel)
theorem hX7_7 : Cond.classLink RX7 7 RX5 ∈ tb := tb_in (i := 70) (by decide +kernel) (by decide +kernel)
theorem aX5 : Cond.instantiable RX5 10 ∈ tb := tb_in (i := 71) (by decide +kernel) (by decide +kernel)
theorem iX5 : Cond.initialized RX5 ∈ tb := tb_in (i := 46) (by decide +kernel) (by decide +kernel)
theorem jX5_init : Cond.instanceMethod yX5_init ∈ tb := tb_in (i := 73) (by decide +kernel) (by decide +kernel)
theorem hX7_16 : Cond.classLink RX7 16 RX6 ∈ tb := tb_in (i := 113) (by decide +kernel) (by decide +kernel)
theorem aX6 : Cond.instantiable RX6 10 ∈ tb := tb_in (i := 114) (by decide +kernel) (by decide +kernel)
theorem iX6 : Cond.initialized RX6 ∈ tb := tb_in (i := 47) (by decide +kernel) (by decide +kernel)
theorem jX6_init : Cond.instanceMethod yX6_init ∈ tb := tb_in (i := 116) (by decide +kernel) (by decide +kernel)
theorem hX7_23 : Cond.classLink RX7 23 RX1 ∈ tb := tb_in (i := 168) (by decide +kernel) (by decide +kernel)
theorem aX1 : Cond.instantiable RX1 10 ∈ tb := tb_in (i := 169) (by decide +kernel) (by decide +kernel)
theorem iX1 : Cond.initialized RX1 ∈ tb := tb_in (i := 48) (by decide +kernel) (by decide +kernel)
theorem jX1_init : Cond.instanceMethod yX1_init ∈ tb := tb_in (i := 171) (by decide +kernel) (by decide +kernel)
theorem hX7_30 : Cond.classLink RX7 30 RX3 ∈ tb := tb_in (i := 226) (by decide +kernel) (by decide +kernel)
theorem aX3 : Cond.instantiable RX3 3 ∈ tb := tb_in (i := 227) (by decide +kernel) (by decide +kernel)
theorem iX3 : Cond.initialized RX3 ∈ tb := tb_in (i := 49) (by decide +kernel) (by decide +kernel)
theorem jX3_init : Cond.instanceMethod yX3_init ∈ tb := tb_in (i := 229) (by decide +kernel) (by decide +kernel)
theorem hX3_9 : Cond.classLink RX3 9 RX1 ∈ tb := tb_in (i := 232) (by decide +kernel) (by decide +kernel)
theorem hX7_45 : Cond.classLink RX7 45 RX0 ∈ tb := tb_in (i := 246) (by decide +kernel) (by decide +kernel)
theorem aX0 : Cond.instantiable RX0 7 ∈ tb := tb_in (i := 247) (by decide +kernel) (by decide +kernel)
theorem iX0 : Cond.initialized RX0 ∈ tb := tb_in (i := 50) (by decide +kernel) (by decide +kernel)
theorem jX0_init : Cond.instanceMethod yX0_init ∈ tb := tb_in (i := 249) (by decide +kernel) (by decide +kernel)
theorem hX7_54 : Cond.classLink RX7 54 RX2 ∈ tb := tb_in (i := 279) (by decide +kernel) (by decide +kernel)
theorem aX2 : Cond.instantiable RX2 8 ∈ tb := tb_in (i := 280) (by decide +kernel) (by decide +kernel)
theorem iX2 : Cond.initialized RX2 ∈ tb := tb_in (i := 51) (by decide +kernel) (by decide +kernel)
theorem jX2_init : Cond.instanceMethod yX2_init ∈ tb := tb_in (i := 282) (by decide +kernel) (by decide +kernel)
theorem hX7_61 : Cond.classLink RX7 61 RX4 ∈ tb := tb_in (i := 314) (by decide +kernel) (by decide +kernel)
theorem aX4 : Cond.instantiable RX4 4 ∈ tb := tb_in (i := 315) (by decide +kernel) (by decide +kernel)
theorem iX4 : Cond.initialized RX4 ∈ tb := tb_in (i := 52) (by decide +kernel) (by decide +kernel)
theorem jX4_init : Cond.instanceMethod yX4_init ∈ tb := tb_in (i := 317) (by decide +kernel) (by decide +kernel)
theorem hL_10 : Cond.classLink RL 10 RX8 ∈ tb := tb_in (i := 818) (by decide +kernel) (by decide +kernel)
theorem aX8 : Cond.instantiable RX8 18 ∈ tb := tb_in (i := 819) (by decide +kernel) (by decide +kernel)
theorem iX8 : Cond.initialized RX8 ∈ tb := tb_in (i := 54) (by decide +kernel) (by decide +kernel)
theorem jX8_init : Cond.instanceMethod yX8_init ∈ tb := tb_in (i := 821) (by decide +kernel) (by decide +kernel)
theorem jO_init : Cond.instanceMethod objectInit ∈ tb := tb_in (i := 68) (by decide +kernel) (by decide +kernel)
theorem cO_init : Cond.code objectInit ⟨#[0xb1]⟩ 1 none ∈ tb := tb_in (i := 69) (by decide +kernel) (by decide +kernel)
theorem tA_int : Cond.arrayClass .int ∈ tb := tb_in (i := 112) (by decide +kernel) (by decide +kernel)
theorem tA_bool : Cond.arrayClass .boolean ∈ tb := tb_in (i := 278) (by decide +kernel) (by decide +kernel)
abbrev Xs : Type := Nat × Nat × (Nat → Nat) × (Nat → Nat)
def SFQ (x : Xs) (A : Nat → Prop) (U : State) : Prop := ((va_Z "SunsetSale" "OVER_BIDDERS" "[I" (.ref x.1) A U U.heap ∧ va_T .int x.1 5 (fun j => .int (ovB j)) A U U.heap) ∧ (va_Z "SunsetSale" "OVER_EVENINGS" "[I" (.ref x.2.1) A U U.heap ∧ va_T .int x.2.1 4 (fun j => .int (ovE j)) A U U.heap) ∧ (va_Z "java/lang/String" "COMPACT_STRINGS" "Z" (.int 1) A U U.heap ∧ va_Zq "jdk/internal/util/Preconditions" "SIOOBE_FORMATTER" "Ljava/util/function/BiFunction;" A U U.heap ∧ vk_S 13 sLen sByt x.2.2.1 x.2.2.2 A U U.heap) ∧ (vk_R "SunsetSale$Text" 82 "west" (x.2.2.1 0) U ∧ vk_R "SunsetSale$Text" 84 "clear" (x.2.2.1 1) U ∧ vk_R "SunsetSale$Text" 86 "cloudy" (x.2.2.1 2) U ∧ vk_R "SunsetSale$Text" 88 "smoky" (x.2.2.1 3) U ∧ vk_R "SunsetSale$Text" 90 "plain" (x.2.2.1 4) U ∧ vk_R "SunsetSale$Text" 92 "blind" (x.2.2.1 5) U ∧ vk_R "SunsetSale$Text" 94 "sick" (x.2.2.1 6) U ∧ vk_R "SunsetSale$Text" 96 "dealer" (x.2.2.1 7) U ∧ vk_R "SunsetSale$Text" 98 "first" (x.2.2.1 8) U ∧ vk_R "SunsetSale$Text" 100 "second" (x.2.2.1 9) U ∧ vk_R "SunsetSale$Text" 102 "reserve" (x.2.2.1 10) U ∧ vk_R "SunsetSale$Text" 104 "refund" (x.2.2.1 11) U ∧ vk_R "SunsetSale$Text" 106 "night" (x.2.2.1 12) U) ∧ (va_Nw (.methodLinkNest RX7 9 yX5_init "SunsetSale") U ∧ va_Nw (.methodLinkNest RX7 18 yX6_init "SunsetSale") U ∧ va_Nw (.methodLinkNest RX7 25 yX1_init "SunsetSale") U ∧ va_Nw (.methodLinkNest RX3 17 yX1_init "SunsetSale") U ∧ va_Nw (.methodLinkNest RX5 116 yX7_isEveningWord "SunsetSale") U ∧ va_Nw (.methodLinkNest RX5 119 yX7_isBidderWord "SunsetSale") U ∧ va_Nw (.methodLinkNest RX6 34 yX7_isEveningWord "SunsetSale") U ∧ va_Nw (.methodLinkNest RX6 42 yX7_isBidderWord "SunsetSale") U ∧ va_Nw (.methodLinkNest RX1 60 yX7_sayingPlace "SunsetSale") U)) ∧ va_AO RX1 U
theorem SFQ.C {g : Gx} {U : State} (h : SFQ (g.t1, g.t2, g.aK, g.aV) (inG 123 g.ad) U) : SFC g U := h.1
theorem SFQ.narrow {x : Xs} {A B : Nat → Prop} {U : State} (h : SFQ x A U) (hAB : ∀ q, B q → A q) : SFQ x B U := by
  obtain ⟨⟨⟨a1, a2⟩, ⟨b1, b2⟩, ⟨c1, c2, c3⟩, d1, e1⟩, f1⟩ := h
  exact ⟨⟨⟨a1.narrow hAB, a2.narrow hAB⟩, ⟨b1.narrow hAB, b2.narrow hAB⟩, ⟨c1.narrow hAB, c2.narrow hAB, c3.narrow hAB⟩, d1, e1⟩, f1⟩
theorem SFQ.st {x : Xs} {A : Nat → Prop} {s U : State} (hW : s.WarmedH U.vm) (hq : ∀ q : Nat, q < s.heap.size → ¬ A q → U.heap[q]? = s.heap[q]?) (h : SFQ x A s) : SFQ x A U := by
  obtain ⟨⟨⟨a1, a2⟩, ⟨b1, b2⟩, ⟨c1, c2, c3⟩, d1, e1⟩, f1⟩ := h
  refine ⟨⟨⟨(a1.moved hW.alike).kept hq, (a2.moved hW.alike).kept hq⟩, ⟨(b1.moved hW.alike).kept hq, (b2.moved hW.alike).kept hq⟩, ⟨(c1.moved hW.alike).kept hq, (c2.moved hW.alike).kept hq, (c3.moved hW.alike).kept hq⟩, ?_, ?_⟩, f1.moved hW.alike⟩
  · obtain ⟨d_0, d_1, d_2, d_3, d_4, d_5, d_6, d_7, d_8, d_9, d_10, d_11, d_12⟩ := d1
    exact ⟨d_0.warm hW, d_1.warm hW, d_2.warm hW, d_3.warm hW, d_4.warm hW, d_5.warm hW, d_6.warm hW, d_7.warm hW, d_8.warm hW, d_9.warm hW, d_10.warm hW, d_11.warm hW, d_12.warm hW⟩
  · obtain ⟨e_0, e_1, e_2, e_3, e_4, e_5, e_6, e_7, e_8⟩ := e1
    exact ⟨e_0.warmM hW, e_1.warmM hW, e_2.warmM hW, e_3.warmM hW, e_4.warmM hW, e_5.warmM hW, e_6.warmM hW, e_7.warmM hW, e_8.warmM hW⟩
def Kx.w (κ : Kx) (c s : Nat) : Kx := (κ.p, κ.l, κ.e, κ.R, κ.s, κ.m, κ.args, κ.below, κ.meth, κ.c, c, s, κ.Q, κ.nL)
abbrev Ow : Type := va_G × List (ClassId × FieldType) × (Nat → Prop) × (State → Prop)
abbrev OW (P : Ow) (ws : va_W) : Om := (P.1, P.2.1, fun _ => ws, P.2.2.1, P.2.2.2)
abbrev PQ (D : va_G) (tys : List (ClassId × FieldType)) (x : Xs) (A : Nat → Prop) : Ow := (D, tys, A, SFQ x A)
/-- at the frame: the body's fixed things, room for c cells of s slots more -/
def KC (κ0 : Kx) (P : Ow) (own : String) (cc : ByteArray) (d c s : Nat) (κ : Kx) (ws : va_W) : Prop :=
  Cx κ (OW P ws) own cc d ∧ (κ.ce + c ≤ κ.R.cells ∧ κ.sl + s ≤ κ.R.slots) ∧ κ = κ0.w κ.ce κ.sl ∧ ∀ q, κ.s.heap.size ≤ q → P.2.2.1 q
/-- the end of a word list: what came back stands beside the rest, which is unchanged -/
theorem join_last {A0 : Nat → Prop} {D : va_G} {cl : List vw_C} {ws w1 : va_W} {b : Nat} {e : va_E} {H H1 : Heap} (hP : va_P D cl (ws ++ [(b, e)]) H) (hD : va_D A0 (ws ++ [(b, e)]))
    (hk : ∀ q : Nat, q < H.size → ¬ va_A [(b, e)] H.size q → H1[q]? = H[q]?) (hF : ∀ q, va_A [(b, e)] H.size q → A0 q) (hP1 : va_P D cl w1 H1) (hD1 : va_D (va_A [(b, e)] H.size) w1) : va_P D cl (ws ++ w1) H1 ∧ va_D A0 (ws ++ w1) := by
  have old : ∀ (k : Nat) (q : Nat × va_E), ws[k]? = some q → (ws ++ [(b, e)])[k]? = some q := fun k q h => by
    rw [List.getElem?_append_left (List.getElem?_eq_some_iff.mp h).1]; exact h
  have last : (ws ++ [(b, e)])[ws.length]? = some (b, e) := by rw [List.getElem?_append_right (Nat.le_refl _), Nat.sub_self]; rfl
  have ap : ∀ (k : Nat) (q : Nat × va_E), ws[k]? = some q → q.1 < H.size ∧ ¬ va_A [(b, e)] H.size q.1 := fun k q h => by
    have hl := (hP k q (old k q h)).lt
    refine ⟨hl, fun z => ?_⟩
    rcases z with ⟨k2, e2, h2⟩ | h2
    · have hm := List.mem_of_getElem? h2
      rw [List.mem_singleton] at hm
      have h3 : q.1 = b := congrArg Prod.fst hm
      have h4 := hD.1 k ws.length q (b, e) (old k q h) last h3
      have h5 := (List.getElem?_eq_some_iff.mp h).1
      omega
    · omega
  have sp : ∀ (k : Nat) (q : Nat × va_E), (ws ++ w1)[k]? = some q → (k < ws.length ∧ ws[k]? = some q) ∨ (ws.length ≤ k ∧ w1[k - ws.length]? = some q) := fun k q h => by
    rcases Nat.lt_or_ge k ws.length with h1 | h1
    · rw [List.getElem?_append_left h1] at h; exact Or.inl ⟨h1, h⟩
    · rw [List.getElem?_append_right h1] at h; exact Or.inr ⟨h1, h⟩
  refine ⟨fun k q h => ?_, fun i j p q hi hj hpq => ?_, fun k q h => ?_⟩
  · rcases sp k q h with ⟨-, h1⟩ | ⟨-, h1⟩
    · obtain ⟨a1, a2⟩ := ap k q h1
      exact (hP k q (old k q h1)).kept (hk q.1 a1 a2)
    · exact hP1 _ q h1
  · rcases sp i p hi with ⟨h0, h1⟩ | ⟨h0, h1⟩ <;> rcases sp j q hj with ⟨h2, h3⟩ | ⟨h2, h3⟩
    · exact hD.1 i j p q (old i p h1) (old j q h3) hpq
    · exact absurd (hD1.2 _ q h3) (by rw [← hpq]; exact (ap i p h1).2)
    · exact absurd (hD1.2 _ p h1) (by rw [hpq]; exact (ap j q h3).2)
    · have := hD1.1 _ _ p q h1 h3 hpq
      omega
  · rcases sp k q h with ⟨-, h1⟩ | ⟨-, h1⟩
    · exact hD.2 k q (old k q h1)
    · exact hF _ (hD1.2 _ q h1)
theorem vaP_set {D : va_G} {cl : List vw_C} {ws : va_W} {H : Heap} {k a : Nat} {e : va_E} (h : va_P D cl ws H) (he : va_at D cl (a, e) H) : va_P D cl (ws.set k (a, e)) H := by
  intro j q hj
  by_cases hjk : k = j
  · subst hjk
    have hlt : k < ws.length := by
      have := (List.getElem?_eq_some_iff.mp hj).1
      simpa using this
    rw [List.getElem?_set_self hlt] at hj
    cases hj; exact he
  · rw [List.getElem?_set_ne hjk] at hj
    exact h j q hj
theorem vaD_fst {A : Nat → Prop} {ws ws' : va_W} (h : va_D A ws) (he : ws'.map Prod.fst = ws.map Prod.fst) : va_D A ws' := by
  have key : ∀ (k : Nat) (q : Nat × va_E), ws'[k]? = some q → ∃ p : Nat × va_E, ws[k]? = some p ∧ p.1 = q.1 := fun k q hk => by
    have h1 : (ws'.map Prod.fst)[k]? = some q.1 := by rw [List.getElem?_map, hk]; rfl
    rw [he, List.getElem?_map] at h1
    cases hp : ws[k]? with
    | none => rw [hp] at h1; cases h1
    | some p => rw [hp] at h1; exact ⟨p, rfl, Option.some.inj h1⟩
  refine ⟨fun i j p q hi hj hpq => ?_, fun k q hk => ?_⟩
  · obtain ⟨p2, a1, a2⟩ := key i p hi
    obtain ⟨q2, b1, b2⟩ := key j q hj
    exact h.1 i j p2 q2 a1 b1 (by rw [a2, b2]; exact hpq)
  · obtain ⟨p2, a1, a2⟩ := key k q hk
    rw [← a2]; exact h.2 k p2 a1
theorem cell_q {cA : ClassId} {n : Nat} {f f' : Nat → Option Nat} (h : ∀ j, j < n → f j = f' j) : vp_cell cA (n, .inr (.inr (.inr (.inr f)))) = vp_cell cA (n, .inr (.inr (.inr (.inr f')))) := by
  rw [vp_cell_q, vp_cell_q]
  unfold arrV
  congr 2
  funext j
  exact congrArg va_rf (h j.val j.isLt)
section KR
variable {κ0 κ : Kx} {P : Ow} {own : String} {cc : ByteArray} {d c s : Nat} {ws : va_W} {σ : Mem} {pc : Nat} {lv : List (Option Value)} {rest : List Value}
theorem KC.cx (h : KC κ0 P own cc d c s κ ws) : Cx κ (OW P ws) own cc d := h.1
theorem KC.l (h : KC κ0 P own cc d c s κ ws) : κ.l = κ0.l := by rw [h.2.2.1]; rfl
theorem KC.nL (h : KC κ0 P own cc d c s κ ws) : κ.nL = κ0.nL := by rw [h.2.2.1]; rfl
theorem KC.re (kc : KC κ0 P own cc d c s κ ws) {ws' : va_W} (hD : va_D P.2.2.1 ws') (n m : Nat) {c' s' : Nat} (h1 : n + c' ≤ c) (h2 : m + s' ≤ s) : KC κ0 P own cc d c' s' (κ.w (κ.ce + n) (κ.sl + m)) ws' := by
  obtain ⟨cx, ⟨b1, b2⟩, hk, hA⟩ := kc
  refine ⟨⟨cx.1, cx.2.1, cx.2.2.1, cx.2.2.2.1, cx.2.2.2.2.1, cx.2.2.2.2.2.1, ⟨fun _ => hD, cx.2.2.2.2.2.2.1.2⟩, cx.2.2.2.2.2.2.2.1, cx.2.2.2.2.2.2.2.2.1, cx.2.2.2.2.2.2.2.2.2.1, ?_, ?_⟩, ⟨?_, ?_⟩, ?_, hA⟩
  · show κ.ce + n ≤ κ.R.cells; omega
  · show κ.sl + m ≤ κ.R.slots; omega
  · show κ.ce + n + c' ≤ κ.R.cells; omega
  · show κ.sl + m + s' ≤ κ.R.slots; omega
  · have e1 : κ.w (κ.ce + n) (κ.sl + m) = (κ0.w κ.ce κ.sl).w (κ.ce + n) (κ.sl + m) := congrArg (fun z => Kx.w z (κ.ce + n) (κ.sl + m)) hk
    exact e1
theorem k_new {N ci idx : Nat} {C : String} {T : u_T} {ty : Nat → FieldType} {fs : List Value} (kc : KC κ0 P own cc d (c + 1) (s + N) κ ws) (hin : ∀ w ∈ u_ws C T N, w ∈ tb) (hty : ∀ k, k < N → parseFieldDescriptor (T k).2.2.1 = some (ty k)) (hcl : Cond.classLink own idx C ∈ tb) (hinst : Cond.instantiable C N ∈ tb) (hini : Cond.initialized C ∈ tb) (hc : vwCl[ci]? = some (C, T, N)) (hfs : ∀ j, j < N → defaultValue (ty j) = vp_V fs j) (hd : decode cc pc = .ok (.new idx, 3))
    (kk : ∀ (q : Nat) (κ : Kx), KC κ0 P own cc d c s κ (ws ++ [(q, .inr (ci, fs))]) → Z κ (OW P (ws ++ [(q, .inr (ci, fs))])) σ (pc + 3) lv (.ref q :: rest)) : Z κ (OW P ws) σ pc lv rest := fun H locs ls hP hS h =>
  va_new (ci := ci) (fs := fs) kc.1.1 kc.1.2.1 kc.1.2.2.2.2.1 hin ty hty kc.1.2.2.2.1 (kc.1.2.2.2.2.1 _ hcl) (kc.1.2.2.2.2.1 _ hinst) (kc.1.2.2.2.2.1 _ hini) kc.1.2.2.2.2.2.1 hP (kc.1.2.2.2.2.2.2.1.1 σ) hS kc.2.2.2 hc hfs (by have := kc.2.1.1; omega) (by have := kc.2.1.2; omega) hd (fun q H1 hP1 hD1 hS1 => kk q _ (kc.re hD1 1 N (by omega) (by omega)) H1 locs ls hP1 hS1 h)
theorem k_newi {N : Nat} (kc : KC κ0 P own cc d (c + 1) (s + N) κ ws) {cA : ClassId} (t : Nat) (ht : P.2.1[t]? = some (cA, .int)) {n : Int32} (hn : ¬ n < 0) (hN : n.toNatClampNeg = N) (hb : N * 4 ≤ 536870912) (hd : decode cc pc = .ok (.newarray .int, 2))
    (kk : ∀ (q : Nat) (κ : Kx), KC κ0 P own cc d c s κ (ws ++ [(q, .inl (cA, N, .inl (fun _ => 0)))]) → Z κ (OW P (ws ++ [(q, .inl (cA, N, .inl (fun _ => 0)))])) σ (pc + 2) lv (.ref q :: rest)) : Z κ (OW P ws) σ pc lv (.int n :: rest) := fun H locs ls hP hS h =>
  va_newa (atype := .int) (ty := .int) (a0 := (N, .inl (fun _ => 0))) kc.1.1 kc.1.2.1 (kc.1.2.2.2.2.1 _ tA_int) rfl kc.1.2.2.2.2.2.1 hP (kc.1.2.2.2.2.2.2.1.1 σ) hS kc.2.2.2 (fun _ => rfl) hn hN hb (by have := kc.2.1.1; omega) (by have := kc.2.1.2; omega) hd (fun q cB H1 hK1 hP1 hD1 hS1 => by
    have e1 : κ.s.vm.findClass ("[" ++ FieldType.int.toString) = some cB := (hK1.2 P.2.1.length (cB, .int) (by rw [List.getElem?_append_right (Nat.le_refl _), Nat.sub_self]; rfl)).2
    have e2 : κ.s.vm.findClass ("[" ++ FieldType.int.toString) = some cA := (kc.1.2.2.2.2.2.1.2 t (cA, .int) ht).2
    have e3 : cB = cA := Option.some.inj (e1.symm.trans e2)
    subst e3
    exact kk q _ (kc.re hD1 1 N (by omega) (by omega)) H1 locs ls hP1 hS1 h)
theorem k_newz {N : Nat} (kc : KC κ0 P own cc d (c + 1) (s + N) κ ws) {cA : ClassId} (t : Nat) (ht : P.2.1[t]? = some (cA, .boolean)) {n : Int32} (hn : ¬ n < 0) (hN : n.toNatClampNeg = N) (hb : N * componentBytes .boolean ≤ 536870912) (hd : decode cc pc = .ok (.newarray .boolean, 2))
    (kk : ∀ (q : Nat) (κ : Kx), KC κ0 P own cc d c s κ (ws ++ [(q, .inl (cA, N, .inl (fun _ => 0)))]) → Z κ (OW P (ws ++ [(q, .inl (cA, N, .inl (fun _ => 0)))])) σ (pc + 2) lv (.ref q :: rest)) : Z κ (OW P ws) σ pc lv (.int n :: rest) := fun H locs ls hP hS h =>
  va_newa (atype := .boolean) (ty := .boolean) (a0 := (N, .inl (fun _ => 0))) kc.1.1 kc.1.2.1 (kc.1.2.2.2.2.1 _ tA_bool) rfl kc.1.2.2.2.2.2.1 hP (kc.1.2.2.2.2.2.2.1.1 σ) hS kc.2.2.2 (fun _ => rfl) hn hN hb (by have := kc.2.1.1; omega) (by have := kc.2.1.2; omega) hd (fun q cB H1 hK1 hP1 hD1 hS1 => by
    have e1 : κ.s.vm.findClass ("[" ++ FieldType.boolean.toString) = some cB := (hK1.2 P.2.1.length (cB, .boolean) (by rw [List.getElem?_append_right (Nat.le_refl _), Nat.sub_self]; rfl)).2
    have e2 : κ.s.vm.findClass ("[" ++ FieldType.boolean.toString) = some cA := (kc.1.2.2.2.2.2.1.2 t (cA, .boolean) ht).2
    have e3 : cB = cA := Option.some.inj (e1.symm.trans e2)
    subst e3
    exact kk q _ (kc.re hD1 1 N (by omega) (by omega)) H1 locs ls hP1 hS1 h)
theorem k_newq {N idx : Nat} {C : String} (kc : KC κ0 P own cc d (c + 1) (s + N) κ ws) {cA : ClassId} (t : Nat) (ht : P.2.1[t]? = some (cA, .object C)) (hov : ∀ U, P.2.2.2 U → va_AO C U) (hcl : Cond.classLink own idx C ∈ tb) {n : Int32} (hn : ¬ n < 0) (hN : n.toNatClampNeg = N) (hb : N * 4 ≤ 536870912) (hd : decode cc pc = .ok (.anewarray idx, 3))
    (kk : ∀ (q : Nat) (κ : Kx), KC κ0 P own cc d c s κ (ws ++ [(q, .inl (cA, N, .inr (.inr (.inr (.inr (fun _ => none))))))]) → Z κ (OW P (ws ++ [(q, .inl (cA, N, .inr (.inr (.inr (.inr (fun _ => none))))))])) σ (pc + 3) lv (.ref q :: rest)) : Z κ (OW P ws) σ pc lv (.int n :: rest) := fun H locs ls hP hS h =>
  va_newq kc.1.1 kc.1.2.1 kc.1.2.2.2.1 (kc.1.2.2.2.2.1 _ hcl) (hov _ kc.1.2.2.2.2.2.2.2.1) kc.1.2.2.2.2.2.1 hP (kc.1.2.2.2.2.2.2.1.1 σ) hS kc.2.2.2 hn hN hb (by have := kc.2.1.1; omega) (by have := kc.2.1.2; omega) hd (fun q cB H1 hK1 hP1 hD1 hS1 => by
    have e1 := (hK1.2 P.2.1.length (cB, .object C) (by rw [List.getElem?_append_right (Nat.le_refl _), Nat.sub_self]; rfl)).2
    have e2 := (kc.1.2.2.2.2.2.1.2 t (cA, .object C) ht).2
    obtain ⟨_, _, _, _, _, e1⟩ := e1
    obtain ⟨_, _, _, _, _, e2⟩ := e2
    have e3 : cB = cA := Option.some.inj (e1.symm.trans e2)
    subst e3
    exact kk q _ (kc.re hD1 1 N (by omega) (by omega)) H1 locs ls hP1 hS1 h)
def Fq (own : String) (k : Nat) (T : u_T) (N : Nat) (ty0 : Nat → FieldType) : Prop := (∀ k, k < N → parseFieldDescriptor (T k).2.2.1 = some (ty0 k)) ∧ (∀ a, a < N → ∀ b, b < N → a ≠ b → (T a).2.1 ≠ (T b).2.1) ∧ (T k).2.2.2 = true ∧ (T k).1 = own
theorem k_putF (kc : KC κ0 P own cc d c s κ ws) {ci k idx N a : Nat} {C : String} {T : u_T} {fs : List Value} {v : Value} {ty0 : Nat → FieldType} {ws' : va_W} (hi : κ0.meth.name = "<init>") (hf : Fk own ci k idx C T N) (hw : Fq own k T N ty0) (q : Nat) (he : ws[q]? = some (a, .inr (ci, fs))) (hn : narrow (ty0 k) v = v) (hft : fits (ty0 k) v = true) (hl : k < fs.length) (hset : ws.set q (a, .inr (ci, fs.set k v)) = ws') (hd : decode cc pc = .ok (.putfield idx, 3))
    (kk : ∀ κ : Kx, KC κ0 P own cc d c s κ ws' → Z κ (OW P ws') σ (pc + 3) lv rest) : Z κ (OW P ws) σ pc lv (v :: .ref a :: rest) := fun H locs ls hP hS h =>
  va_putF kc.1.1 kc.1.2.1 kc.1.2.2.2.2.1 hf.2.1 ty0 hw.1 hw.2.1 kc.1.2.2.2.1 kc.1.2.2.2.2.2.1 hP (kc.1.2.2.2.2.2.2.1.1 σ) hS q he hf.1 k hf.2.2.1 (kc.1.2.2.2.2.1 _ hf.2.2.2) (fun _ h9 => h9) hw.2.2.1 (by rw [kc.2.2.1]; exact hi) hw.2.2.2 (hw.1 k hf.2.2.1) hn hft hl hd (fun H1 locs1 hP1 hD1 hS1 => by
    rw [hset] at hP1 hD1
    exact kk _ (kc.re hD1 0 0 (by omega) (by omega)) H1 locs1 ls hP1 hS1 h)
theorem k_astq (kc : KC κ0 P own cc d c s κ ws) (q0 t0 qk ci : Nat) {a n v : Nat} {cA : ClassId} {r : vw_C} {vs : List Value} {f : Nat → Option Nat} {i : Int32} {ws' : va_W} (ha : ws[q0]? = some (a, .inl (cA, n, .inr (.inr (.inr (.inr f)))))) (ht : P.2.1[t0]? = some (cA, .object r.1)) (hv : ws[qk]? = some (v, .inr (ci, vs))) (hc : vwCl[ci]? = some r) (j : Nat) (hij : i.toNatClampNeg = j) (hin : vp_in i n) (hset : ws.set q0 (a, .inl (cA, n, .inr (.inr (.inr (.inr (va_up f j (some v))))))) = ws') (hd : decode cc pc = .ok (.aastore, 1))
    (kk : ∀ κ : Kx, KC κ0 P own cc d c s κ ws' → Z κ (OW P ws') σ (pc + 1) lv rest) : Z κ (OW P ws) σ pc lv (.ref v :: .int i :: .ref a :: rest) := fun H locs ls hP hS h =>
  va_astq kc.1.1 kc.1.2.1 kc.1.2.2.2.2.2.1 hP (kc.1.2.2.2.2.2.2.1.1 σ) hS q0 t0 qk ci ha ht hv hc hin hd (fun H1 locs1 hP1 hD1 hS1 => by
    rw [hij, hset] at hP1 hD1
    exact kk _ (kc.re hD1 0 0 (by omega) (by omega)) H1 locs1 ls hP1 hS1 h)
theorem z_oini {O : Om} (cx : Cx κ O own cc d) {idx a : Nat} (hl : Cond.methodLink own idx objectInit ∈ tb) (h1 : 1 ≤ d) (hr : (rest.map fun v => v.category).sum ≤ 8) (hd : decode cc pc = .ok (.invokespecial idx, 3)) (kk : Z κ O σ (pc + 3) lv rest) : Z κ O σ pc lv (.ref a :: rest) := fun H locs ls hP hS h =>
  W.objInit cx.1 cx.2.1 cx.2.2.2.1 (cx.2.2.2.2.1 _ hl) (cx.2.2.2.2.1 _ jO_init) (cx.2.2.2.2.1 _ cO_init) rfl (h.1.trans cx.2.2.1.symm) rfl hd (Nat.le_trans h1 cx.2.2.2.2.2.2.2.2.1) (by
    have h9 := cx.2.2.2.2.2.2.2.2.2.1
    show 2 * 0 + _ + 12 ≤ κ.R.locals
    omega) (kk H locs ls hP hS h)
end KR
def rmk (d mc ms : Nat) : Room := { frames := d, cells := mc, slots := ms, locals := 36 * d }
def PrK (P : Ow) (sz : Nat) (w0 : va_W) (U : State) : Prop := U.heap.size = sz ∧ va_P P.1 vwCl w0 U.heap ∧ va_K P.1 vwCl P.2.1 U ∧ P.2.2.2 U
def QK {S : Type} (post : Nat → S → Prop) (wC : Nat → S → va_W) (P : Ow) (h0 : Nat) : Array Value → State → Outcome → State → Prop := va_Qv (post h0) (fun u t => va_P P.1 vwCl (wC h0 u) t.heap ∧ va_D P.2.2.1 (wC h0 u)) P.2.2.1
/-- a constructor's contract: from its cell as it was made to its world, all of it its cell's or new -/
def CtK (l : Launch) (D : va_G) (tys : List (ClassId × FieldType)) (x : Xs) (d : Nat) (μ : Md) (e : va_E) (as : List Value) (mc ms : Nat) {S : Type} (post : Nat → S → Prop) (wC : Nat → S → va_W) : Prop :=
  ∀ h0 sz : Nat, Met l μ.1 μ.ws (rmk d mc ms) (va_Pc (.ref h0 :: as) (PrK (PQ D tys x (va_A [(h0, e)] sz)) sz [(h0, e)])) (QK post wC (PQ D tys x (va_A [(h0, e)] sz)) h0) mc ms (va_A [(h0, e)] sz)
theorem st_PQ {D : va_G} {tys : List (ClassId × FieldType)} {x : Xs} {A : Nat → Prop} {ws : va_W} : StOk (OW (PQ D tys x A) ws) := fun _ _ hW _ hq hF => SFQ.st hW hq hF
theorem vaD_one {b sz : Nat} {e : va_E} : va_D (va_A [(b, e)] sz) [(b, e)] := by
  refine ⟨fun i j p q hi hj _ => ?_, fun k q hk => va_A.in hk⟩
  have h1 := (List.getElem?_eq_some_iff.mp hi).1
  have h2 := (List.getElem?_eq_some_iff.mp hj).1
  simp at h1 h2
  omega
/-- what a constructor's end is -/
def RtK (κ0 : Kx) (A : Nat → Prop) (Qc : Array Value → State → Outcome → State → Prop) : Prop := κ0.Q = MQ κ0.below Qc κ0.args κ0.s κ0.R.cells κ0.R.slots A ∧ κ0.meth.locks = false ∧ κ0.meth.sig.returnType = none
theorem ctk_of {l : Launch} {D : va_G} {tys : List (ClassId × FieldType)} {x : Xs} {d : Nat} {μ : Md} {e : va_E} {as : List Value} {mc ms : Nat} {S : Type} {post : Nat → S → Prop} {wC : Nat → S → va_W} (k : Nat) (hy : plainName μ.1.cls = true) (hname : μ.1.name = "<init>") (hret : μ.2.2.2 = none) (hn : ∀ h0 : Nat, (lg_sl (.ref h0 :: as)).length ≤ μ.2.2.1) (hok : okA as = true)
    (h : ∀ (h0 sz : Nat) (κ0 : Kx), κ0.l = l → κ0.nL = μ.2.2.1 → κ0.meth.name = "<init>" → RtK κ0 (va_A [(h0, e)] sz) (QK post wC (PQ D tys x (va_A [(h0, e)] sz)) h0) → KC κ0 (PQ D tys x (va_A [(h0, e)] sz)) μ.1.cls μ.2.1 d mc ms κ0 [(h0, e)] → Z κ0 (OW (PQ D tys x (va_A [(h0, e)] sz)) [(h0, e)]) (fun _ _ => 0) 0 (some (.ref h0) :: as.map some ++ List.replicate k none) []) : CtK l D tys x d μ e as mc ms post wC := by
  intro h0 sz
  refine Met.ofW (cc := μ.2.1) (maxL := μ.2.2.1) (ret := μ.2.2.2) hy rfl ?_
  intro p ev s m args below meth c s₁ B hml hv
  obtain ⟨rfl, hsz, hP, hK, hF⟩ := hv
  have hts := atoms_spec (ws := μ.ws) B.pre
  have hown : s.vm.findClass μ.1.cls = some m.cls := findClass_of_methodNamed B.named
  have hin : meth.name = "<init>" := (name_of_methodNamed B.named B.method).1.trans hname
  have hl := lv_entry (.ref h0 :: as) (n := μ.2.2.1) (hn h0)
  rw [lg_entry_eq]
  generalize (lg_sl (.ref h0 :: as) ++ List.replicate (μ.2.2.1 - (lg_sl (.ref h0 :: as)).length) Slot.unset).toArray = ls at hl ⊢
  have hlv := lvh_entry hl (show okA (.ref h0 :: as) = true by simp only [okA, List.all_cons]; exact hok) k
  exact h h0 sz (p, l, ev, (headSpec μ.ws (rmk d mc ms)).room, s, m, (Value.ref h0 :: as).toArray, below, meth, c, 0, 0, MQ below (QK post wC (PQ D tys x (va_A [(h0, e)] sz)) h0) (Value.ref h0 :: as).toArray s mc ms (va_A [(h0, e)] sz), μ.2.2.1) rfl rfl hin
    ⟨rfl, B.notSynchronized, B.returns.trans hret⟩
    ⟨⟨B.exec, B.bytes, hml, hown, fun w hw => hts w (List.mem_cons_of_mem _ hw), hK, ⟨fun _ => vaD_one, st_PQ⟩, hF, Nat.le_refl _, Nat.le_refl _, Nat.zero_le _, Nat.zero_le _⟩, ⟨by show 0 + mc ≤ mc; omega, by show 0 + ms ≤ ms; omega⟩, rfl, fun q hq => Or.inr (hsz ▸ hq)⟩ s.heap [] ls hP va_S.rf hlv
section KS
variable {κ0 κ : Kx} {D : va_G} {tys : List (ClassId × FieldType)} {x : Xs} {A : Nat → Prop} {own : String} {cc : ByteArray} {d c s : Nat} {ws : va_W} {σ : Mem} {pc : Nat} {lv : List (Option Value)} {rest : List Value}
theorem k_vret {S : Type} {post : Nat → S → Prop} {wC : Nat → S → va_W} {h0 : Nat} (kc : KC κ0 (PQ D tys x A) own cc d c s κ ws) (hR : RtK κ0 A (QK post wC (PQ D tys x A) h0)) (u : S) (hp : post h0 u) (hP : ∀ H, va_P D vwCl ws H → va_P D vwCl (wC h0 u) H) (hD : va_D A ws → va_D A (wC h0 u)) (hd : decode cc pc = .ok (.return_, 1)) : Z κ (OW (PQ D tys x A) ws) σ pc lv [] := by
  intro H locs ls hP0 hS hl
  obtain ⟨cx, ⟨b1, b2⟩, hk, hA⟩ := kc
  have hDw : va_D A ws := cx.2.2.2.2.2.2.1.1 σ
  generalize κ.ce = ce at *
  generalize κ.sl = sl at *
  subst hk
  refine W.widen (k := κ0.R.cells) (n := κ0.R.slots) (Nat.le_trans (Nat.le_add_right _ _) b1) (Nat.le_trans (Nat.le_add_right _ _) b2) ?_
  show W κ0.p κ0.l κ0.e κ0.R κ0.s κ0.m κ0.args κ0.below κ0.meth κ0.c H locs κ0.R.cells κ0.R.slots κ0.Q (F0 κ0.m pc ls [])
  rw [hR.1]
  exact W.vret cx.1 cx.2.1 hR.2.2 (fun t ht _ => ⟨⟨u, rfl, hp, by rw [ht]; exact hP H hP0, hD hDw⟩, hS.F ht⟩) hS.2.2 hd hR.2.1
theorem pk_blind {P : Ow} {sz : Nat} {w0 : va_W} (as : List Value) (hst : ∀ (s U : State), s.WarmedH U.vm → U.heap = s.heap → P.2.2.2 s → P.2.2.2 U) : FrameBlind (va_Pc as (PrK P sz w0)) := fun a U g mk q => by
  obtain ⟨q0, qs, qP, qK, qF⟩ := q
  exact ⟨q0, qs, qP, va_K.moved (u := U) (U := U.calling g mk a) (Vm.Alike.refl U.vm) qK, hst U (U.calling g mk a) (State.WarmedH.refl U) rfl qF⟩
theorem kc_go {S : Type} {post : Nat → S → Prop} {wC : Nat → S → va_W} {mc ms b : Nat} {e : va_E} {st0 : List Value} {as : Array Value} {H : Heap} {locs : List Loc} {ls : Array Slot} (kc : KC κ0 (PQ D tys x A) own cc d (c + mc) (s + ms) κ (ws ++ [(b, e)])) (hP : va_P D vwCl (ws ++ [(b, e)]) H) (hS : va_S A κ.s.heap H locs) (hl : lvh ls κ.nL lv)
    (hr : va_Run κ.p κ.l κ.e κ.R κ.s κ.m κ.args κ.below κ.meth κ.c H locs κ.ce κ.sl mc ms (F0 κ.m pc ls st0) rest (QK post wC (PQ D tys x (va_A [(b, e)] H.size)) b as) (va_A [(b, e)] H.size))
    (kk : ∀ (u : S) (κ : Kx), post b u → KC κ0 (PQ D tys x A) own cc d c s κ (ws ++ wC b u) → Z κ (OW (PQ D tys x A) (ws ++ wC b u)) σ (pc + 3) lv rest) : W κ.p κ.l κ.e κ.R κ.s κ.m κ.args κ.below κ.meth κ.c H locs κ.ce κ.sl κ.Q (F0 κ.m pc ls st0) := by
  have hD : va_D A (ws ++ [(b, e)]) := kc.1.2.2.2.2.2.2.1.1 σ
  have hA : A b := hD.2 ws.length (b, e) (by rw [List.getElem?_append_right (Nat.le_refl _), Nat.sub_self]; rfl)
  have hFc : ∀ q, va_A [(b, e)] H.size q → A q := fun q h => by
    rcases h with ⟨k2, e2, h2⟩ | h2
    · have hm := List.mem_of_getElem? h2
      rw [List.mem_singleton] at hm
      have h3 : q = b := congrArg Prod.fst hm
      rw [h3]; exact hA
    · exact kc.2.2.2 q (Nat.le_trans hS.1 h2)
  refine va_callv hr hS (fun q _ h => hFc q h) hFc (fun u t H1 locs1 ht hvm hw hB hz1 hk1 hS1 => ?_)
  obtain ⟨hP1, hD1⟩ := hB
  rw [ht] at hP1
  obtain ⟨hP2, hD2⟩ := join_last hP hD hk1 hFc hP1 hD1
  exact kk u _ hw (kc.re hD2 mc ms (by omega) (by omega)) H1 locs1 ls hP2 hS1 hl
theorem pk_at {b : Nat} {e : va_E} {as : List Value} {H : Heap} {locs : List Loc} {c' s' : Nat} (kc : KC κ0 (PQ D tys x A) own cc d c' s' κ (ws ++ [(b, e)])) (hP : va_P D vwCl (ws ++ [(b, e)]) H) (hS : va_S A κ.s.heap H locs) : PreS κ.s H (va_Pc as (PrK (PQ D tys x (va_A [(b, e)] H.size)) H.size [(b, e)])) as := by
  have hD : va_D A (ws ++ [(b, e)]) := kc.1.2.2.2.2.2.2.1.1 (fun _ _ => 0)
  have hlast : (ws ++ [(b, e)])[ws.length]? = some (b, e) := by rw [List.getElem?_append_right (Nat.le_refl _), Nat.sub_self]; rfl
  have hA : A b := hD.2 ws.length (b, e) hlast
  have hFc : ∀ q, va_A [(b, e)] H.size q → A q := fun q h => by
    rcases h with ⟨k2, e2, h2⟩ | h2
    · have hm := List.mem_of_getElem? h2
      rw [List.mem_singleton] at hm
      have h3 : q = b := congrArg Prod.fst hm
      rw [h3]; exact hA
    · exact kc.2.2.2 q (Nat.le_trans hS.1 h2)
  refine ⟨pk_blind as (fun s U hW hh hF => SFQ.st hW (fun q _ _ => by rw [hh]) hF), fun U hU hW => ⟨rfl, by rw [hU], ?_, va_K.moved hW.alike kc.1.2.2.2.2.2.1, ?_⟩⟩
  · rw [hU]
    intro k q hk
    have hm := List.mem_of_getElem? hk
    rw [List.mem_singleton] at hm
    rw [hm]
    exact hP _ _ hlast
  · have h1 : SFQ x A U := SFQ.st hW (fun q q1 q2 => by rw [hU]; exact hS.2.1 q q1 q2) kc.1.2.2.2.2.2.2.2.1
    exact h1.narrow hFc
theorem k_ctorI {S : Type} {post : Nat → S → Prop} {wC : Nat → S → va_W} {mc ms b n idx d' : Nat} {e : va_E} {μ : Md} {As st0 : List Value} (kc : KC κ0 (PQ D tys x A) own cc d (c + mc) (s + ms) κ (ws ++ [(b, e)])) (hm : Mn μ n) (hret : μ.2.2.2 = none) (hname : μ.1.name = "<init>") (hj : Cond.instanceMethod μ.1 ∈ tb) (hl : Cond.methodLink own idx μ.1 ∈ tb) (hc : CtK κ.l D tys x d' μ e As mc ms post wC) (hdd : d' + 1 ≤ d) (hn : As.length = n) (hst : st0 = As.reverse ++ .ref b :: rest) (hroom : (rest.map fun v => v.category).sum ≤ 8) (hd : decode cc pc = .ok (.invokespecial idx, 3))
    (kk : ∀ (u : S) (κ : Kx), post b u → KC κ0 (PQ D tys x A) own cc d c s κ (ws ++ wC b u) → Z κ (OW (PQ D tys x A) (ws ++ wC b u)) σ (pc + 3) lv rest) : Z κ (OW (PQ D tys x A) (ws ++ [(b, e)])) σ pc lv st0 := by
  intro H locs ls hP hS h
  have cx := kc.1
  have b1 := kc.2.1.1
  have b2 := kc.2.1.2
  obtain ⟨m1, m2, m3, m4⟩ := hm
  obtain ⟨y, bytes, maxL, ret⟩ := μ
  cases hret
  refine kc_go (σ := σ) kc hP hS h (va_runI (As := As) (rest := rest) (bytes := bytes) (maxL := maxL) (b := b) ⟨cx.1, cx.2.1, cx.2.2.1, cx.2.2.2.1, cx.2.2.2.2.1⟩ (hc b H.size) (cwI n cx.2.2.2.2.1 (tb_good ?_) rfl rfl rfl (cx.2.2.2.2.1 _ m2) (cx.2.2.2.2.1 _ hl) (cx.2.2.2.2.1 _ hj) hname m3 ⟨?_, ?_⟩) (pk_at kc hP hS) rfl hn h.1 hst (lv_room hroom) hd ⟨by omega, by omega⟩) kk
  · intro w hw
    rcases List.mem_cons.mp hw with rfl | hw
    · exact m1
    · exact hw
  · exact Nat.le_trans hdd cx.2.2.2.2.2.2.2.2.1
  · have h9 := cx.2.2.2.2.2.2.2.2.2.1
    have m4 : maxL ≤ 17 := m4
    show 8 + (maxL + 11) + 36 * d' ≤ κ.R.locals
    omega
theorem k_ctorN {S : Type} {post : Nat → S → Prop} {wC : Nat → S → va_W} {mc ms b n idx d' : Nat} {e : va_E} {μ : Md} {host : String} {As st0 : List Value} (kc : KC κ0 (PQ D tys x A) own cc d (c + mc) (s + ms) κ (ws ++ [(b, e)])) (hm : Mn μ n) (hret : μ.2.2.2 = none) (hname : μ.1.name = "<init>") (hj : Cond.instanceMethod μ.1 ∈ tb) (hl : va_Nw (.methodLinkNest own idx μ.1 host) κ.s) (hc : CtK κ.l D tys x d' μ e As mc ms post wC) (hdd : d' + 1 ≤ d) (hn : As.length = n) (hst : st0 = As.reverse ++ .ref b :: rest) (hroom : (rest.map fun v => v.category).sum ≤ 8) (hd : decode cc pc = .ok (.invokespecial idx, 3))
    (kk : ∀ (u : S) (κ : Kx), post b u → KC κ0 (PQ D tys x A) own cc d c s κ (ws ++ wC b u) → Z κ (OW (PQ D tys x A) (ws ++ wC b u)) σ (pc + 3) lv rest) : Z κ (OW (PQ D tys x A) (ws ++ [(b, e)])) σ pc lv st0 := by
  intro H locs ls hP hS h
  have cx := kc.1
  have b1 := kc.2.1.1
  have b2 := kc.2.1.2
  obtain ⟨m1, m2, m3, m4⟩ := hm
  obtain ⟨y, bytes, maxL, ret⟩ := μ
  cases hret
  refine kc_go (σ := σ) kc hP hS h (va_runIN (As := As) (rest := rest) (bytes := bytes) (maxL := maxL) (b := b) ⟨cx.1, cx.2.1, cx.2.2.1, cx.2.2.2.1, cx.2.2.2.2.1⟩ (hc b H.size) ⟨va_cnB n cx.2.2.2.2.1 (tb_good ?_) rfl rfl rfl hl (cx.2.2.2.2.1 _ m2) m3 ⟨?_, ?_⟩, hname, cx.2.2.2.2.1 _ hj⟩ (pk_at kc hP hS) rfl hn h.1 hst (lv_room hroom) hd ⟨by omega, by omega⟩) kk
  · intro w hw
    rcases List.mem_cons.mp hw with rfl | hw
    · exact m1
    · exact hw
  · exact Nat.le_trans hdd cx.2.2.2.2.2.2.2.2.1
  · have h9 := cx.2.2.2.2.2.2.2.2.2.1
    have m4 : maxL ≤ 17 := m4
    show 8 + (maxL + 11) + 36 * d' ≤ κ.R.locals
    omega
end KS
