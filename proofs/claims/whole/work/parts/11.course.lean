theorem cpy021 (f h : Nat → Int32) {k : Nat} (hk : k < 21) : va_cpy f h (0 : Int32).toNatClampNeg (0 : Int32).toNatClampNeg (21 : Int32).toNatClampNeg k = f k := by
  have e1 : (0 : Int32).toNatClampNeg = 0 := rfl
  have e2 : (21 : Int32).toNatClampNeg = 21 := rfl
  rw [e1, e2]
  simp [va_cpy, hk]
theorem cpy07 (f h : Nat → Int32) {k : Nat} (hk : k < 7) : va_cpy f h (0 : Int32).toNatClampNeg (0 : Int32).toNatClampNeg (7 : Int32).toNatClampNeg k = f k := by
  have e1 : (0 : Int32).toNatClampNeg = 0 := rfl
  have e2 : (7 : Int32).toNatClampNeg = 7 := rfl
  rw [e1, e2]
  simp [va_cpy, hk]
theorem cpy05 (f h : Nat → Int32) {k : Nat} (hk : k < 5) : va_cpy f h (0 : Int32).toNatClampNeg (0 : Int32).toNatClampNeg (5 : Int32).toNatClampNeg k = f k := by
  have e1 : (0 : Int32).toNatClampNeg = 0 := rfl
  have e2 : (5 : Int32).toNatClampNeg = 5 := rfl
  rw [e1, e2]
  simp [va_cpy, hk]
section ZT
variable {κ : Kx} {O : Om} {own : String} {cc : ByteArray} {d : Nat} {σ : Mem} {pc : Nat} {lv : List (Option Value)} {rest : List Value}
theorem z_tald (cx : Cx κ O own cc d) {t N : Nat} {f : Nat → Int32} {i : Int32} (hT : va_T .int t N (fun j => .int (f j)) O.A κ.s κ.s.heap) (hin : vp_in i N) (hd : decode cc pc = .ok (.iaload, 1)) (kk : Z κ O σ (pc + 1) lv (.int (f i.toNatClampNeg) :: rest)) : Z κ O σ pc lv (.int i :: .ref t :: rest) :=
  fun H locs ls hP hS h => va_ti cx.1 cx.2.1 hT hS hin rfl hd (kk H locs ls hP hS h)
theorem z_tlen (cx : Cx κ O own cc d) {t N : Nat} {f : Nat → Value} {ty : FieldType} {v : Int32} (hT : va_T ty t N f O.A κ.s κ.s.heap) (hv : Int32.ofNat N = v) (hd : decode cc pc = .ok (.arraylength, 1)) (kk : Z κ O σ (pc + 1) lv (.int v :: rest)) : Z κ O σ pc lv (.ref t :: rest) :=
  fun H locs ls hP hS h => va_tlen cx.1 cx.2.1 hT hS hv hd (kk H locs ls hP hS h)
theorem z_gets (cx : Cx κ O own cc d) {C n ds : String} {v : Value} {idx : Nat} (hZ : va_Z C n ds v O.A κ.s κ.s.heap) (hl : Cond.fieldLink own idx C n ds ∈ tb) (hd : decode cc pc = .ok (.getstatic idx, 3)) (kk : Z κ O σ (pc + 3) lv (v :: rest)) : Z κ O σ pc lv rest :=
  fun H locs ls hP hS h => va_gets cx.1 cx.2.1 hZ hS cx.2.2.2.1 (cx.2.2.2.2.1 _ hl) (fun _ h9 => h9) hd (kk H locs ls hP hS h)
end ZT
def und (f : Nat → Int32) (N : Nat) (asked : Int32) : Nat → Int32 → Bool
  | 0, _ => false
  | k + 1, kind => if inW kind (nI (N - 1)) = true then (if kind = asked then true else und f N asked k (f kind.toNatClampNeg)) else false
def flF (i : Nat) (v : Int32) (f : Nat → Int32) : Nat → Int32 := fun k => if k < i then v else f k
theorem flF_0 (v : Int32) (f : Nat → Int32) : flF 0 v f = f := by funext k; simp [flF]
theorem flF_s (i : Nat) (v : Int32) (f : Nat → Int32) : upd (flF i v f) i v = flF (i + 1) v f := by
  funext k
  simp only [upd, flF]
  by_cases h : k = i
  · subst h; simp
  · rw [if_neg h]
    by_cases h2 : k < i
    · rw [if_pos h2, if_pos (by omega)]
    · rw [if_neg h2, if_neg (by omega)]
theorem flF_in {i k : Nat} (v : Int32) (f : Nat → Int32) (h : k < i) : flF i v f k = v := by simp [flF, h]
theorem upA_self (σ : Mem) (q : Nat) : upA σ q (σ q) = σ := by
  funext a
  by_cases h : a = q
  · subst h; simp [upA]
  · simp [upA, h]
theorem up2_upA (σ : Mem) (q i : Nat) (f : Nat → Int32) (v : Int32) : up2 (upA σ q f) q i v = upA σ q (upd f i v) := by
  funext a
  by_cases h : a = q
  · subst h; simp [up2, upA]
  · simp [up2, upA, h]
def coLen : Nat → Nat := fun j => if j < 3 then 5 else if j < 7 then 7 else 21
/-- a Course's cells stand at a, a + 1 .. a + 8 -/
def Co (g : Gx) (a : Nat) : Prop := a + 9 ≤ 123 ∧ (∀ f, cE g a f = .inr (1, [.int (f 0), .int (f 1), .ref (g.ad (a + 1)), .ref (g.ad (a + 2)), .ref (g.ad (a + 3)), .ref (g.ad (a + 4)), .ref (g.ad (a + 5)), .ref (g.ad (a + 6)), .ref (g.ad (a + 7)), .ref (g.ad (a + 8))])) ∧ ∀ j, j < 8 → ∀ f, cE g (a + 1 + j) f = .inl (g.cI, coLen j, .inl f)
def CoEq (σ' : Mem) (a : Nat) (σ : Mem) (b : Nat) : Prop := (∀ k, k < 2 → σ' a k = σ b k) ∧ ∀ j, j < 8 → ∀ k, k < coLen j → σ' (a + 1 + j) k = σ (b + 1 + j) k
theorem co12 (g : Gx) : Co g 12 := ⟨by decide, fun _ => rfl, fun j hj f => match j, hj with | 0, _ => rfl | 1, _ => rfl | 2, _ => rfl | 3, _ => rfl | 4, _ => rfl | 5, _ => rfl | 6, _ => rfl | 7, _ => rfl | j + 8, h => absurd h (by omega)⟩
theorem coR (g : Gx) : ∀ x, x < 8 → Co g (23 + 9 * x)
  | 0, _ => ⟨by decide, fun _ => rfl, fun j hj f => match j, hj with | 0, _ => rfl | 1, _ => rfl | 2, _ => rfl | 3, _ => rfl | 4, _ => rfl | 5, _ => rfl | 6, _ => rfl | 7, _ => rfl | j + 8, h => absurd h (by omega)⟩
  | 1, _ => ⟨by decide, fun _ => rfl, fun j hj f => match j, hj with | 0, _ => rfl | 1, _ => rfl | 2, _ => rfl | 3, _ => rfl | 4, _ => rfl | 5, _ => rfl | 6, _ => rfl | 7, _ => rfl | j + 8, h => absurd h (by omega)⟩
  | 2, _ => ⟨by decide, fun _ => rfl, fun j hj f => match j, hj with | 0, _ => rfl | 1, _ => rfl | 2, _ => rfl | 3, _ => rfl | 4, _ => rfl | 5, _ => rfl | 6, _ => rfl | 7, _ => rfl | j + 8, h => absurd h (by omega)⟩
  | 3, _ => ⟨by decide, fun _ => rfl, fun j hj f => match j, hj with | 0, _ => rfl | 1, _ => rfl | 2, _ => rfl | 3, _ => rfl | 4, _ => rfl | 5, _ => rfl | 6, _ => rfl | 7, _ => rfl | j + 8, h => absurd h (by omega)⟩
  | 4, _ => ⟨by decide, fun _ => rfl, fun j hj f => match j, hj with | 0, _ => rfl | 1, _ => rfl | 2, _ => rfl | 3, _ => rfl | 4, _ => rfl | 5, _ => rfl | 6, _ => rfl | 7, _ => rfl | j + 8, h => absurd h (by omega)⟩
  | 5, _ => ⟨by decide, fun _ => rfl, fun j hj f => match j, hj with | 0, _ => rfl | 1, _ => rfl | 2, _ => rfl | 3, _ => rfl | 4, _ => rfl | 5, _ => rfl | 6, _ => rfl | 7, _ => rfl | j + 8, h => absurd h (by omega)⟩
  | 6, _ => ⟨by decide, fun _ => rfl, fun j hj f => match j, hj with | 0, _ => rfl | 1, _ => rfl | 2, _ => rfl | 3, _ => rfl | 4, _ => rfl | 5, _ => rfl | 6, _ => rfl | 7, _ => rfl | j + 8, h => absurd h (by omega)⟩
  | 7, _ => ⟨by decide, fun _ => rfl, fun j hj f => match j, hj with | 0, _ => rfl | 1, _ => rfl | 2, _ => rfl | 3, _ => rfl | 4, _ => rfl | 5, _ => rfl | 6, _ => rfl | 7, _ => rfl | j + 8, h => absurd h (by omega)⟩
  | x + 8, h => absurd h (by omega)
theorem coK (g : Gx) : ∀ x, x < 2 → Co g (96 + 9 * x)
  | 0, _ => ⟨by decide, fun _ => rfl, fun j hj f => match j, hj with | 0, _ => rfl | 1, _ => rfl | 2, _ => rfl | 3, _ => rfl | 4, _ => rfl | 5, _ => rfl | 6, _ => rfl | 7, _ => rfl | j + 8, h => absurd h (by omega)⟩
  | 1, _ => ⟨by decide, fun _ => rfl, fun j hj f => match j, hj with | 0, _ => rfl | 1, _ => rfl | 2, _ => rfl | 3, _ => rfl | 4, _ => rfl | 5, _ => rfl | 6, _ => rfl | 7, _ => rfl | j + 8, h => absurd h (by omega)⟩
  | x + 2, h => absurd h (by omega)
set_option maxRecDepth 100000 in
set_option maxHeartbeats 4000000 in
theorem c_X7_isUnder {l : Launch} {g : Gx} (hg : ApG 123 g.ad) (σ : Mem) {t N : Nat} {f : Nat → Int32} (h1 : 1 ≤ N) (h9 : N ≤ 10) (hT : ∀ U : State, SFC g U → va_T .int t N (fun j => .int (f j)) (inG 123 g.ad) U U.heap) (ow9 asked : Int32) : Ct l (OC g) 1 mX7_isUnder [.int ow9, .int asked, .ref t] σ (some (.int (bI (und f N asked N ow9)))) σ := by
  refine ct_of (lv := [some (.int ow9), some (.int asked), some (.ref t), none, none]) (okC hg) (by decide +kernel) (Nat.le_of_ble_eq_true rfl) (fun ls h => lvh_entry h rfl 2) ?_
  intro κ hl hnL cx hR
  subst hl
  have cx : Cx κ (OC g) RX7 cX7_isUnder 1 := cx
  have hnL : κ.nL = 5 := hnL
  have hT := hT κ.s cx.2.2.2.2.2.2.2.1
  have eN : Int32.ofNat N - 1 = nI (N - 1) := pk_sub (a := N) (b := 1) h1
  have loop : ∀ (k st : Nat) (kind : Int32), st + k = N → und f N asked k kind = und f N asked N ow9 → Z κ (OC g) σ 5 [some (.int ow9), some (.int asked), some (.ref t), some (.int kind), some (.int (nI st))] [] := by
    intro k
    induction k with
    | zero =>
      intro st kind h2 h3
      refine z_iload cx dX7_isUnder_5 rfl ?_
      refine z_aload_n cx 2 dX7_isUnder_7 rfl rfl ?_
      refine z_tlen cx hT rfl dX7_isUnder_8 ?_
      refine z_icmp_ge (tgt := 40) cx dX7_isUnder_9 (by decide) (fun c_9 => ?_) (fun c_9 => ?_)
      · refine z_iconst cx dX7_isUnder_40 ic_0 ?_
        exact z_zret cx hR rfl ⟨by rw [← h3]; rfl, rfl⟩ dX7_isUnder_41
      · exact absurd (by rw [← h2]; exact Int32.le_refl _) c_9
    | succ k ih =>
      intro st kind h2 h3
      refine z_iload cx dX7_isUnder_5 rfl ?_
      refine z_aload_n cx 2 dX7_isUnder_7 rfl rfl ?_
      refine z_tlen cx hT rfl dX7_isUnder_8 ?_
      refine z_icmp_ge (tgt := 40) cx dX7_isUnder_9 (by decide) (fun c_9 => ?_) (fun c_9 => ?_)
      · exact absurd c_9 (nI_ge (b := N) (by omega) (by omega))
      · refine z_iload_n cx 3 dX7_isUnder_12 rfl rfl ?_
        refine z_aload_n cx 2 dX7_isUnder_13 rfl rfl ?_
        refine z_tlen cx hT rfl dX7_isUnder_14 ?_
        refine z_iconst cx dX7_isUnder_15 ic_1 ?_
        refine z_isub cx dX7_isUnder_16 ?_
        rw [eN]
        refine z_S2i cx sX7_isWithin kX7_73 (c_X7_isWithin hg σ _ _) (by decide) (Nat.le_of_ble_eq_true rfl) dX7_isUnder_17 ?_
        refine z_ifb_eq (tgt := 40) cx dX7_isUnder_20 (by decide) (fun c_20 => ?_) (fun c_20 => ?_)
        · refine z_iconst cx dX7_isUnder_40 ic_0 ?_
          exact z_zret cx hR rfl ⟨by rw [← h3, und, if_neg (by rw [c_20]; decide)]; rfl, rfl⟩ dX7_isUnder_41
        · refine z_iload_n cx 3 dX7_isUnder_23 rfl rfl ?_
          refine z_iload_n cx 1 dX7_isUnder_24 rfl rfl ?_
          refine z_icmp_ne (tgt := 30) cx dX7_isUnder_25 (by decide) (fun c_25 => ?_) (fun c_25 => ?_)
          · obtain ⟨j9, hj9, ej9⟩ := inW_of c_20 (by omega)
            have hin : vp_in kind N := by rw [ej9]; exact vp_in_nI (by omega) (by omega)
            refine z_aload_n cx 2 dX7_isUnder_30 rfl rfl ?_
            refine z_iload_n cx 3 dX7_isUnder_31 rfl rfl ?_
            refine z_tald cx hT hin dX7_isUnder_32 ?_
            refine z_istore_n cx 3 dX7_isUnder_33 rfl hnL (by decide) rfl ?_
            refine z_iinc cx dX7_isUnder_34 rfl ic_1 (nI_1 st) hnL (by decide) rfl ?_
            refine z_goto (tgt := 5) cx dX7_isUnder_37 (by decide) ?_
            exact ih (st + 1) _ (by omega) (by rw [← h3]; simp [und, c_20, c_25])
          · refine z_iconst cx dX7_isUnder_28 ic_1 ?_
            exact z_zret cx hR rfl ⟨by rw [← h3, und, if_pos c_20, if_pos c_25]; rfl, rfl⟩ dX7_isUnder_29
  refine z_iload_n cx 0 dX7_isUnder_0 rfl rfl ?_
  refine z_istore_n cx 3 dX7_isUnder_1 rfl hnL (by decide) rfl ?_
  refine z_iconst cx dX7_isUnder_2 ic_0 ?_
  refine z_istore cx dX7_isUnder_3 hnL (by decide) rfl ?_
  exact loop N 0 ow9 (by omega) rfl
set_option maxRecDepth 100000 in
set_option maxHeartbeats 4000000 in
theorem c_J7_fill_53178 {l : Launch} {g : Gx} (hg : ApG 123 g.ad) (σ : Mem) {q n : Nat} (hq : q < 123) (hE : ∀ f, cE g q f = .inl (g.cI, n, .inl f)) (hn : n ≤ 1000) (v : Int32) : Ct l (OC g) 0 mJ7_fill_53178 [.ref (g.ad q), .int v] σ none (upA σ q (flF n v (σ q))) := by
  refine ct_of (lv := [some (.ref (g.ad q)), some (.int v), none, none]) (okC hg) (by decide +kernel) (Nat.le_of_ble_eq_true rfl) (fun ls h => lvh_entry h rfl 2) ?_
  intro κ hl hnL cx hR
  subst hl
  have cx : Cx κ (OC g) RJ7 cJ7_fill_53178 0 := cx
  have hnL : κ.nL = 4 := hnL
  have loop : ∀ (k i : Nat), n + 1 ≤ i + k → i ≤ n → Z κ (OC g) (upA σ q (flF i v (σ q))) 5 [some (.ref (g.ad q)), some (.int v), some (.int (nI i)), some (.int (nI n))] [] := by
    intro k
    induction k with
    | zero => intro i h1 h2; exact absurd h1 (by omega)
    | succ k ih =>
      intro i h1 h2
      refine z_iload_n cx 2 dJ7_fill_53178_5 rfl rfl ?_
      refine z_iload_n cx 3 dJ7_fill_53178_6 rfl rfl ?_
      refine z_icmp_ge (tgt := 20) cx dJ7_fill_53178_7 (by decide) (fun c_7 => ?_) (fun c_7 => ?_)
      · rw [nI_leI (by omega) (by omega)] at c_7
        have e9 : i = n := by omega
        subst e9
        exact z_vret cx hR ⟨rfl, rfl⟩ dJ7_fill_53178_20
      · rw [nI_leI (by omega) (by omega)] at c_7
        refine z_aload_n cx 0 dJ7_fill_53178_10 rfl rfl ?_
        refine z_iload_n cx 2 dJ7_fill_53178_11 rfl rfl ?_
        refine z_iload_n cx 1 dJ7_fill_53178_12 rfl rfl ?_
        refine g_iastN cx i hq hE rfl (by omega) hn dJ7_fill_53178_13 ?_
        refine z_iinc cx dJ7_fill_53178_14 rfl ic_1 (nI_1 i) hnL (by decide) rfl ?_
        refine z_goto (tgt := 5) cx dJ7_fill_53178_17 (by decide) ?_
        exact z_eq (by rw [up2_upA, flF_s]) rfl rfl (ih (i + 1) (by omega) (by omega))
  refine z_iconst cx dJ7_fill_53178_0 ic_0 ?_
  refine z_istore_n cx 2 dJ7_fill_53178_1 rfl hnL (by decide) rfl ?_
  refine z_aload_n cx 0 dJ7_fill_53178_2 rfl rfl ?_
  refine g_alen cx hq hE rfl dJ7_fill_53178_3 ?_
  refine z_istore_n cx 3 dJ7_fill_53178_4 rfl hnL (by decide) rfl ?_
  exact z_eq (by rw [flF_0, upA_self]) rfl rfl (loop (n + 1) 0 (by omega) (by omega))
/-- now begins anew -/
def Anew (σ' σ : Mem) : Prop := (σ' 12 0 = 0 ∧ σ' 12 1 = 0) ∧ (∀ b, b < 5 → σ' 13 b = 10 * σ 11 b ∧ σ' 14 b = 0 ∧ σ' 15 b = -1) ∧ (∀ e, e < 7 → σ' 16 e = 0 ∧ σ' 17 e = -1 ∧ σ' 18 e = 0 ∧ σ' 19 e = -1) ∧ (∀ k, k < 21 → σ' 20 k = 5) ∧ ∀ q, q < 12 ∨ 21 ≤ q → σ' q = σ q
def tnF (σ : Mem) (i : Nat) : Nat → Int32 := fun k => if k < i then 10 * σ 11 k else σ 13 k
theorem tnF_s (σ : Mem) (i : Nat) : upd (tnF σ i) i (10 * σ 11 i) = tnF σ (i + 1) := by
  funext k
  simp only [upd, tnF]
  by_cases h : k = i
  · subst h; simp
  · rw [if_neg h]
    by_cases h2 : k < i
    · rw [if_pos h2, if_pos (by omega)]
    · rw [if_neg h2, if_neg (by omega)]
set_option maxRecDepth 100000 in
set_option maxHeartbeats 4000000 in
theorem c_X1_startAnew {l : Launch} {g : Gx} (hg : ApG 123 g.ad) (σ : Mem) : CtV l (OC g) 1 mX1_startAnew [.ref (g.ad 12), .ref (g.ad 6)] σ (fun σ' => Anew σ' σ) := by
  refine ct_of (lv := [some (.ref (g.ad 12)), some (.ref (g.ad 6)), none]) (okC hg) (by decide +kernel) (Nat.le_of_ble_eq_true rfl) (fun ls h => lvh_entry h rfl 1) ?_
  intro κ hl hnL cx hR
  subst hl
  have cx : Cx κ (OC g) RX1 cX1_startAnew 1 := cx
  have hnL : κ.nL = 3 := hnL
  have loop : ∀ (k i : Nat), 5 + 1 ≤ i + k → i ≤ 5 → Z κ (OC g) (upA (up2 (up2 σ 12 0 0) 12 1 0) 13 (tnF σ i)) 12 [some (.ref (g.ad 12)), some (.ref (g.ad 6)), some (.int (nI i))] [] := by
    intro k
    induction k with
    | zero => intro i h1 h2; exact absurd h1 (by omega)
    | succ k ih =>
      intro i h1 h2
      refine z_iload_n cx 2 dX1_startAnew_12 rfl rfl ?_
      refine z_iconst cx dX1_startAnew_13 ic_5 ?_
      refine z_icmp_ge (tgt := 38) cx dX1_startAnew_14 (by decide) (fun c_14 => ?_) (fun c_14 => ?_)
      · have c14 := (nI_leI (a := 5) (by omega) (by omega)).mp c_14
        have e9 : i = 5 := by omega
        subst e9
        refine z_aload_n cx 0 dX1_startAnew_38 rfl rfl ?_
        refine gX1_15 cx dX1_startAnew_39 ?_
        refine z_iconst cx dX1_startAnew_42 ic_0 ?_
        refine z_S2v cx sJ7_fill_53178 kX1_48 (c_J7_fill_53178 hg _ (by decide) (fun _ => rfl) (by decide) _) (by decide) (Nat.le_of_ble_eq_true rfl) dX1_startAnew_43 ?_
        refine z_aload_n cx 0 dX1_startAnew_46 rfl rfl ?_
        refine gX1_18 cx dX1_startAnew_47 ?_
        refine z_iconst cx dX1_startAnew_50 ic_m1 ?_
        refine z_S2v cx sJ7_fill_53178 kX1_48 (c_J7_fill_53178 hg _ (by decide) (fun _ => rfl) (by decide) _) (by decide) (Nat.le_of_ble_eq_true rfl) dX1_startAnew_51 ?_
        refine z_aload_n cx 0 dX1_startAnew_54 rfl rfl ?_
        refine gX1_21 cx dX1_startAnew_55 ?_
        refine z_iconst cx dX1_startAnew_58 ic_0 ?_
        refine z_S2v cx sJ7_fill_53178 kX1_48 (c_J7_fill_53178 hg _ (by decide) (fun _ => rfl) (by decide) _) (by decide) (Nat.le_of_ble_eq_true rfl) dX1_startAnew_59 ?_
        refine z_aload_n cx 0 dX1_startAnew_62 rfl rfl ?_
        refine gX1_24 cx dX1_startAnew_63 ?_
        refine z_iconst cx dX1_startAnew_66 ic_m1 ?_
        refine z_S2v cx sJ7_fill_53178 kX1_48 (c_J7_fill_53178 hg _ (by decide) (fun _ => rfl) (by decide) _) (by decide) (Nat.le_of_ble_eq_true rfl) dX1_startAnew_67 ?_
        refine z_aload_n cx 0 dX1_startAnew_70 rfl rfl ?_
        refine gX1_27 cx dX1_startAnew_71 ?_
        refine z_iconst cx dX1_startAnew_74 ic_0 ?_
        refine z_S2v cx sJ7_fill_53178 kX1_48 (c_J7_fill_53178 hg _ (by decide) (fun _ => rfl) (by decide) _) (by decide) (Nat.le_of_ble_eq_true rfl) dX1_startAnew_75 ?_
        refine z_aload_n cx 0 dX1_startAnew_78 rfl rfl ?_
        refine gX1_30 cx dX1_startAnew_79 ?_
        refine z_iconst cx dX1_startAnew_82 ic_m1 ?_
        refine z_S2v cx sJ7_fill_53178 kX1_48 (c_J7_fill_53178 hg _ (by decide) (fun _ => rfl) (by decide) _) (by decide) (Nat.le_of_ble_eq_true rfl) dX1_startAnew_83 ?_
        refine z_aload_n cx 0 dX1_startAnew_86 rfl rfl ?_
        refine gX1_33 cx dX1_startAnew_87 ?_
        refine z_iconst cx dX1_startAnew_90 ic_5 ?_
        refine z_S2v cx sJ7_fill_53178 kX1_48 (c_J7_fill_53178 hg _ (by decide) (fun _ => rfl) (by decide) _) (by decide) (Nat.le_of_ble_eq_true rfl) dX1_startAnew_91 ?_
        refine z_vret cx hR ⟨rfl, ⟨rfl, rfl⟩, fun b hb => ⟨?_, ?_, ?_⟩, fun e he => ⟨?_, ?_, ?_, ?_⟩, fun k hk => ?_, fun q hq => ?_⟩ dX1_startAnew_94
        · show tnF σ 5 b = _
          simp [tnF, hb]
        · exact flF_in (i := 5) _ _ hb
        · exact flF_in (i := 5) _ _ hb
        · exact flF_in (i := 7) _ _ he
        · exact flF_in (i := 7) _ _ he
        · exact flF_in (i := 7) _ _ he
        · exact flF_in (i := 7) _ _ he
        · exact flF_in (i := 21) _ _ hk
        · simp (disch := omega) only [upA_ne, up2_ne]
      · have c14 : ¬ 5 ≤ i := fun q => c_14 ((nI_leI (a := 5) (by omega) (by omega)).mpr q)
        refine z_aload_n cx 0 dX1_startAnew_17 rfl rfl ?_
        refine gX1_9 cx dX1_startAnew_18 ?_
        refine z_iload_n cx 2 dX1_startAnew_21 rfl rfl ?_
        refine z_bipush cx dX1_startAnew_22 bi_10 ?_
        refine z_aload_n cx 1 dX1_startAnew_24 rfl rfl ?_
        refine gX1_43 cx dX1_startAnew_25 ?_
        refine z_iload_n cx 2 dX1_startAnew_28 rfl rfl ?_
        refine g_ialdN cx i (by decide) (fun _ => rfl) rfl (by omega) (by decide) dX1_startAnew_29 ?_
        refine z_imul cx dX1_startAnew_30 ?_
        refine g_iastN cx i (by decide) (fun _ => rfl) rfl (by omega) (by decide) dX1_startAnew_31 ?_
        refine z_iinc cx dX1_startAnew_32 rfl ic_1 (nI_1 i) hnL (by decide) rfl ?_
        refine z_goto (tgt := 12) cx dX1_startAnew_35 (by decide) ?_
        exact z_eq ((up2_upA _ _ _ _ _).trans (congrArg (upA (up2 (up2 σ 12 0 0) 12 1 0) 13) (tnF_s σ i))) rfl rfl (ih (i + 1) (by omega) (by omega))
  refine z_aload_n cx 0 dX1_startAnew_0 rfl rfl ?_
  refine z_iconst cx dX1_startAnew_1 ic_0 ?_
  refine pX1_36 cx dX1_startAnew_2 ?_
  refine z_aload_n cx 0 dX1_startAnew_5 rfl rfl ?_
  refine z_iconst cx dX1_startAnew_6 ic_0 ?_
  refine pX1_40 cx dX1_startAnew_7 ?_
  refine z_iconst cx dX1_startAnew_10 ic_0 ?_
  refine z_istore_n cx 2 dX1_startAnew_11 rfl hnL (by decide) rfl ?_
  exact z_eq (show up2 (up2 σ 12 0 0) 12 1 0 = upA (up2 (up2 σ 12 0 0) 12 1 0) 13 (tnF σ 0) from (upA_self _ 13).symm.trans (congrArg (upA _ 13) (by funext k; simp [tnF, up2, upA]))) rfl rfl (loop 6 0 (by omega) (by omega))
set_option maxRecDepth 100000 in
set_option maxHeartbeats 4000000 in
theorem c_X1_copyFrom {l : Launch} {g : Gx} (hg : ApG 123 g.ad) (σ : Mem) {a b : Nat} (hA : Co g a) (hB : Co g b) (hab : a + 9 ≤ b ∨ b + 9 ≤ a) : CtV l (OC g) 1 mX1_copyFrom [.ref (g.ad a), .ref (g.ad b)] σ (fun σ' => CoEq σ' a σ b ∧ ∀ q, q < a ∨ a + 9 ≤ q → σ' q = σ q) := by
  refine ct_of (lv := [some (.ref (g.ad a)), some (.ref (g.ad b))]) (okC hg) (by decide +kernel) (Nat.le_of_ble_eq_true rfl) (fun ls h => lvh_entry h rfl 0) ?_
  intro κ hl hnL cx hR
  subst hl
  have cx : Cx κ (OC g) RX1 cX1_copyFrom 1 := cx
  have hnL : κ.nL = 2 := hnL
  have hA1 := hA.1
  have hB1 := hB.1
  refine z_aload_n cx 0 dX1_copyFrom_0 rfl rfl ?_
  refine z_aload_n cx 1 dX1_copyFrom_1 rfl rfl ?_
  refine g_get cx kX1f36 (by omega) hB.2.1 rfl dX1_copyFrom_2 ?_
  refine g_put cx kX1f36 wX1_0 (by omega) hA.2.1 (Nat.le_of_ble_eq_true rfl) rfl dX1_copyFrom_5 ?_
  refine z_aload_n cx 0 dX1_copyFrom_8 rfl rfl ?_
  refine z_aload_n cx 1 dX1_copyFrom_9 rfl rfl ?_
  refine g_get cx kX1f40 (by omega) hB.2.1 rfl dX1_copyFrom_10 ?_
  refine g_put cx kX1f40 wX1_1 (by omega) hA.2.1 (Nat.le_of_ble_eq_true rfl) rfl dX1_copyFrom_13 ?_
  refine z_aload_n cx 1 dX1_copyFrom_16 rfl rfl ?_
  refine g_get cx kX1f9 (by omega) hB.2.1 rfl dX1_copyFrom_17 ?_
  refine z_iconst cx dX1_copyFrom_20 ic_0 ?_
  refine z_aload_n cx 0 dX1_copyFrom_21 rfl rfl ?_
  refine g_get cx kX1f9 (by omega) hA.2.1 rfl dX1_copyFrom_22 ?_
  refine z_iconst cx dX1_copyFrom_25 ic_0 ?_
  refine z_iconst cx dX1_copyFrom_26 ic_5 ?_
  refine g_copy cx kX1_54 (by decide) (by omega) (by omega) (hB.2.2 0 (by decide)) (hA.2.2 0 (by decide)) (by decide) (by decide) (by decide) (by decide) (by decide) (Nat.le_of_ble_eq_true rfl) dX1_copyFrom_27 ?_
  refine z_aload_n cx 1 dX1_copyFrom_30 rfl rfl ?_
  refine g_get cx kX1f15 (by omega) hB.2.1 rfl dX1_copyFrom_31 ?_
  refine z_iconst cx dX1_copyFrom_34 ic_0 ?_
  refine z_aload_n cx 0 dX1_copyFrom_35 rfl rfl ?_
  refine g_get cx kX1f15 (by omega) hA.2.1 rfl dX1_copyFrom_36 ?_
  refine z_iconst cx dX1_copyFrom_39 ic_0 ?_
  refine z_iconst cx dX1_copyFrom_40 ic_5 ?_
  refine g_copy cx kX1_54 (by decide) (by omega) (by omega) (hB.2.2 1 (by decide)) (hA.2.2 1 (by decide)) (by decide) (by decide) (by decide) (by decide) (by decide) (Nat.le_of_ble_eq_true rfl) dX1_copyFrom_41 ?_
  refine z_aload_n cx 1 dX1_copyFrom_44 rfl rfl ?_
  refine g_get cx kX1f18 (by omega) hB.2.1 rfl dX1_copyFrom_45 ?_
  refine z_iconst cx dX1_copyFrom_48 ic_0 ?_
  refine z_aload_n cx 0 dX1_copyFrom_49 rfl rfl ?_
  refine g_get cx kX1f18 (by omega) hA.2.1 rfl dX1_copyFrom_50 ?_
  refine z_iconst cx dX1_copyFrom_53 ic_0 ?_
  refine z_iconst cx dX1_copyFrom_54 ic_5 ?_
  refine g_copy cx kX1_54 (by decide) (by omega) (by omega) (hB.2.2 2 (by decide)) (hA.2.2 2 (by decide)) (by decide) (by decide) (by decide) (by decide) (by decide) (Nat.le_of_ble_eq_true rfl) dX1_copyFrom_55 ?_
  refine z_aload_n cx 1 dX1_copyFrom_58 rfl rfl ?_
  refine g_get cx kX1f21 (by omega) hB.2.1 rfl dX1_copyFrom_59 ?_
  refine z_iconst cx dX1_copyFrom_62 ic_0 ?_
  refine z_aload_n cx 0 dX1_copyFrom_63 rfl rfl ?_
  refine g_get cx kX1f21 (by omega) hA.2.1 rfl dX1_copyFrom_64 ?_
  refine z_iconst cx dX1_copyFrom_67 ic_0 ?_
  refine z_bipush cx dX1_copyFrom_68 bi_7 ?_
  refine g_copy cx kX1_54 (by decide) (by omega) (by omega) (hB.2.2 3 (by decide)) (hA.2.2 3 (by decide)) (by decide) (by decide) (by decide) (by decide) (by decide) (Nat.le_of_ble_eq_true rfl) dX1_copyFrom_70 ?_
  refine z_aload_n cx 1 dX1_copyFrom_73 rfl rfl ?_
  refine g_get cx kX1f24 (by omega) hB.2.1 rfl dX1_copyFrom_74 ?_
  refine z_iconst cx dX1_copyFrom_77 ic_0 ?_
  refine z_aload_n cx 0 dX1_copyFrom_78 rfl rfl ?_
  refine g_get cx kX1f24 (by omega) hA.2.1 rfl dX1_copyFrom_79 ?_
  refine z_iconst cx dX1_copyFrom_82 ic_0 ?_
  refine z_bipush cx dX1_copyFrom_83 bi_7 ?_
  refine g_copy cx kX1_54 (by decide) (by omega) (by omega) (hB.2.2 4 (by decide)) (hA.2.2 4 (by decide)) (by decide) (by decide) (by decide) (by decide) (by decide) (Nat.le_of_ble_eq_true rfl) dX1_copyFrom_85 ?_
  refine z_aload_n cx 1 dX1_copyFrom_88 rfl rfl ?_
  refine g_get cx kX1f27 (by omega) hB.2.1 rfl dX1_copyFrom_89 ?_
  refine z_iconst cx dX1_copyFrom_92 ic_0 ?_
  refine z_aload_n cx 0 dX1_copyFrom_93 rfl rfl ?_
  refine g_get cx kX1f27 (by omega) hA.2.1 rfl dX1_copyFrom_94 ?_
  refine z_iconst cx dX1_copyFrom_97 ic_0 ?_
  refine z_bipush cx dX1_copyFrom_98 bi_7 ?_
  refine g_copy cx kX1_54 (by decide) (by omega) (by omega) (hB.2.2 5 (by decide)) (hA.2.2 5 (by decide)) (by decide) (by decide) (by decide) (by decide) (by decide) (Nat.le_of_ble_eq_true rfl) dX1_copyFrom_100 ?_
  refine z_aload_n cx 1 dX1_copyFrom_103 rfl rfl ?_
  refine g_get cx kX1f30 (by omega) hB.2.1 rfl dX1_copyFrom_104 ?_
  refine z_iconst cx dX1_copyFrom_107 ic_0 ?_
  refine z_aload_n cx 0 dX1_copyFrom_108 rfl rfl ?_
  refine g_get cx kX1f30 (by omega) hA.2.1 rfl dX1_copyFrom_109 ?_
  refine z_iconst cx dX1_copyFrom_112 ic_0 ?_
  refine z_bipush cx dX1_copyFrom_113 bi_7 ?_
  refine g_copy cx kX1_54 (by decide) (by omega) (by omega) (hB.2.2 6 (by decide)) (hA.2.2 6 (by decide)) (by decide) (by decide) (by decide) (by decide) (by decide) (Nat.le_of_ble_eq_true rfl) dX1_copyFrom_115 ?_
  refine z_aload_n cx 1 dX1_copyFrom_118 rfl rfl ?_
  refine g_get cx kX1f33 (by omega) hB.2.1 rfl dX1_copyFrom_119 ?_
  refine z_iconst cx dX1_copyFrom_122 ic_0 ?_
  refine z_aload_n cx 0 dX1_copyFrom_123 rfl rfl ?_
  refine g_get cx kX1f33 (by omega) hA.2.1 rfl dX1_copyFrom_124 ?_
  refine z_iconst cx dX1_copyFrom_127 ic_0 ?_
  refine z_bipush cx dX1_copyFrom_128 bi_21 ?_
  refine g_copy cx kX1_54 (by decide) (by omega) (by omega) (hB.2.2 7 (by decide)) (hA.2.2 7 (by decide)) (by decide) (by decide) (by decide) (by decide) (by decide) (Nat.le_of_ble_eq_true rfl) dX1_copyFrom_130 ?_
  refine z_vret cx hR ⟨rfl, ⟨fun k hk => ?_, fun j hj k hk => ?_⟩, fun q hq => ?_⟩ dX1_copyFrom_133
  · simp (disch := omega) only [upA_ne]
    rcases (show k = 0 ∨ k = 1 by omega) with rfl | rfl
    · simp (disch := omega) [up2_at, up2_ne, upd]
    · simp (disch := omega) [up2_at, up2_ne, upd]
  · rcases (show j = 0 ∨ j = 1 ∨ j = 2 ∨ j = 3 ∨ j = 4 ∨ j = 5 ∨ j = 6 ∨ j = 7 by omega) with rfl | rfl | rfl | rfl | rfl | rfl | rfl | rfl
    · have hk : k < 5 := hk
      simp (disch := omega) only [upA_ne, upA_at, up2_ne, cpy05 _ _ hk]
    · have hk : k < 5 := hk
      simp (disch := omega) only [upA_ne, upA_at, up2_ne, cpy05 _ _ hk]
    · have hk : k < 5 := hk
      simp (disch := omega) only [upA_ne, upA_at, up2_ne, cpy05 _ _ hk]
    · have hk : k < 7 := hk
      simp (disch := omega) only [upA_ne, upA_at, up2_ne, cpy07 _ _ hk]
    · have hk : k < 7 := hk
      simp (disch := omega) only [upA_ne, upA_at, up2_ne, cpy07 _ _ hk]
    · have hk : k < 7 := hk
      simp (disch := omega) only [upA_ne, upA_at, up2_ne, cpy07 _ _ hk]
    · have hk : k < 7 := hk
      simp (disch := omega) only [upA_ne, upA_at, up2_ne, cpy07 _ _ hk]
    · have hk : k < 21 := hk
      simp (disch := omega) only [upA_ne, upA_at, up2_ne, cpy021 _ _ hk]
  · simp (disch := omega) only [upA_ne, up2_ne]
