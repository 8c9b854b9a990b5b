/-! THE CLAIM OUT OF ONE WALK OF THE LAW'S BODY. Your part is whole_start (and what it stands on); all else here is the same for every law, but numbers. -/
def R_law : String := "SunsetSaleLaw"
def lw_P (b : Addr) (xs : List Int32) (args : Array Value) (s : State) : Prop := args = #[.ref b] ∧ s.IntsAt b xs ∧ xs.length ≤ 2048 ∧ (Jvm.Cond.and given_1 narrow_1).before args s = true
def lw_Q (_ : Array Value) (s : State) (o : Outcome) (t : State) : Prop := o = .returned (some (.int 1)) ∧ Framed s o t [] 600000 7302250
def lw_Z (below : List Frame) (a : Array Value) (s : State) : State → Prop := fun t => ∃ o, t.status = .running ∧ Ended t below o ∧ lw_Q a s o t
/-- the law's own end, with 1 on the stack, nothing written that was there before, its room as the claim has it -/
theorem lw_ret {p : Program} {l : Launch} {e : Env} {s : State} {m : MethodId} {below : List Frame} {meth : Method} {c : Code} {b : Nat} (hx : p.tables.exec = Jvm.exec) (hb : c.code = code) (hr : meth.sig.returnType = ret) (hlocks : meth.locks = false) {pc : Nat} {H : Heap} {ls : Array Slot} (hdg : decode code pc = .ok (.ireturn, 1)) : W p l e room_1 s m #[Value.ref b] below meth c H [] 600000 7302250 (lw_Z below #[Value.ref b] s) (F0 m pc ls [.int 1]) := by
  intro T hT X
  obtain ⟨fs, hret, hrun, hended, hW, hframe⟩ := X.leave (v := some (.int 1)) (hlocks := hlocks) (fun h => by rw [hr] at h; cases h)
  have hmeth' : T.vm.method? m = some meth := X.method'
  refine ⟨T.setFrames fs, ?_, .returned (some (.int 1)), hrun, hended, rfl, ⟨_, rfl⟩, hW, hframe⟩
  jvm_step X.here [X.here.top, hx, hb, hdg, hmeth', hr, ret, narrow_b1]
  (try refine ⟨rfl, ?_⟩); (try refine ⟨rfl, ?_⟩)
  first | (intro acts; rw [hret _ acts rfl rfl rfl]) | rw [hret _ _ rfl rfl rfl]
  exact Steps.refl _
/-- what holds at the law's entry: the machine, the code, the tables' words (any of lw_tbl by 'hts w (by decide +kernel)'), the script of L ints xs at the cell b, what the Statement gives of the start (any of its parts by flat_of_before) -/
def lw_At (p : Program) (s : State) (m : MethodId) (meth : Method) (c : Code) (b L : Nat) (xs : Nat → Int32) : Prop :=
  p.tables.exec = Jvm.exec ∧ c.code = code ∧ meth.sig.returnType = ret ∧ c.maxLocals = 4 ∧ s.vm.findClass R_law = some m.cls ∧ (∀ w ∈ lw_tbl, w.before #[Value.ref b] s = true) ∧ va_X b L xs s s.heap ∧ b < s.heap.size ∧ meth.locks = false ∧ (Jvm.Cond.and given_1 narrow_1).before #[Value.ref b] s = true
abbrev PL (D : va_G) (cs : Cs) (x : Xs) (sz : Nat) : Ow := PQ D (tysT cs) x (fun q => sz ≤ q)
def LW (D : va_G) (cs : Cs) (x : Xs) (ad ad2 : Nat → Nat) (σ μ : Mem) : va_W := wdG 123 ad (cE (gK D cs x ad)) σ ++ wdG 9 ad2 (mE (gK D cs x ad2)) μ
def LC (κ0 : Kx) (ad ad2 : Nat → Nat) (b L : Nat) (xs : Nat → Int32) : Prop := κ0.nL = 4 ∧ (ApG 123 ad ∧ ApG 9 ad2) ∧ ((∀ q, inG 123 ad q → κ0.s.heap.size ≤ q) ∧ (∀ q, inG 9 ad2 q → κ0.s.heap.size ≤ q)) ∧ (∀ i j, i < 123 → j < 9 → ad i ≠ ad2 j) ∧ va_X b L xs κ0.s κ0.s.heap ∧ b < κ0.s.heap.size ∧ L ≤ 2048
abbrev lvL (b : Nat) (ad ad2 : Nat → Nat) (i : Nat) : List (Option Value) := [some (.ref b), some (.ref (ad 0)), some (.ref (ad2 0)), some (.int (nI i))]
section LAWR
variable {κ0 κ : Kx} {D : va_G} {cs : Cs} {x : Xs} {ad ad2 : Nat → Nat} {b L : Nat} {xs : Nat → Int32} {c s : Nat} {ws : va_W} {σ μ τ : Mem} {pc : Nat} {lv : List (Option Value)} {rest : List Value}
theorem k_sld {P : Ow} {own : String} {cc : ByteArray} {d : Nat} (kc : KC κ0 P own cc d c s κ ws) {i : Int32} (hX : va_X b L xs κ0.s κ0.s.heap) (hbl : b < κ0.s.heap.size) (hbA : ¬ P.2.2.1 b) (hin : vp_in i L) (hd : decode cc pc = .ok (.iaload, 1)) (kk : Z κ (OW P ws) τ (pc + 1) lv (.int (xs i.toNatClampNeg) :: rest)) : Z κ (OW P ws) τ pc lv (.int i :: .ref b :: rest) := by
  have e : κ.s = κ0.s := by rw [kc.2.2.1]; rfl
  intro H locs ls hP hS h
  exact va_sld kc.1.1 kc.1.2.1 (by rw [e]; exact hX) (by rw [e]; exact hbl) hbA hS hin hd (kk H locs ls hP hS h)
theorem k_slen {P : Ow} {own : String} {cc : ByteArray} {d : Nat} (kc : KC κ0 P own cc d c s κ ws) (hX : va_X b L xs κ0.s κ0.s.heap) (hbl : b < κ0.s.heap.size) (hbA : ¬ P.2.2.1 b) (hd : decode cc pc = .ok (.arraylength, 1)) (kk : Z κ (OW P ws) τ (pc + 1) lv (.int (nI L) :: rest)) : Z κ (OW P ws) τ pc lv (.ref b :: rest) := by
  have e : κ.s = κ0.s := by rw [kc.2.2.1]; rfl
  intro H locs ls hP hS h
  have hX' : va_X b L xs κ.s κ.s.heap := by rw [e]; exact hX
  exact va_slen kc.1.1 kc.1.2.1 hX' (by rw [e]; exact hbl) hbA hS hd (kk H locs ls hP hS h)
theorem k_arg (lc : LC κ0 ad ad2 b L xs) (kc : KC κ0 (PL D cs x κ0.s.heap.size) RL code 12 c s κ ws) {i : Nat} {jz : Int} (j : Nat) (hi : i + j < L) (h0 : lv[0]? = some (some (.ref b))) (h3 : lv[3]? = some (some (.int (nI i)))) (hj : Int32.ofInt jz = nI j) (d0 : decode code pc = .ok (.aload_n 0, 1)) (d1 : decode code (pc + 1) = .ok (.iload_n 3, 1)) (d2 : decode code (pc + 1 + 1) = .ok (.iconst jz, 1)) (d3 : decode code (pc + 1 + 1 + 1) = .ok (.iadd, 1)) (d4 : decode code (pc + 1 + 1 + 1 + 1) = .ok (.iaload, 1))
    (kk : Z κ (OW (PL D cs x κ0.s.heap.size) ws) τ (pc + 1 + 1 + 1 + 1 + 1) lv (.int (xs (i + j)) :: rest)) : Z κ (OW (PL D cs x κ0.s.heap.size) ws) τ pc lv rest := by
  obtain ⟨-, -, -, -, hX, hbl, hL⟩ := lc
  refine z_aload_n kc.cx 0 d0 rfl h0 ?_
  refine z_iload_n kc.cx 3 d1 rfl h3 ?_
  refine z_iconst kc.cx d2 hj ?_
  refine z_iadd kc.cx d3 ?_
  rw [nI_add]
  refine k_sld kc hX hbl (Nat.not_le.mpr hbl) (vp_in_nI hi (by omega)) d4 ?_
  rw [nI_clamp (by omega)]
  exact kk
theorem l_callC (lc : LC κ0 ad ad2 b L xs) {mc : Md} {n idx d' : Nat} {as st0 : List Value} {Pc : Int32 → Mem → Prop} (kc : KC κ0 (PL D cs x κ0.s.heap.size) RL code 12 c s κ (LW D cs x ad ad2 σ μ)) (hm : Vm mc n) (hcl : RX7 = mc.1.cls) (hl : Cond.methodLink RL idx mc.1 ∈ tb) (hc : CtI κ0.l (OC (gK D cs x ad)) d' mc (.ref (ad 0) :: as) σ Pc) (hd8 : d' ≤ 8) (hn : as.length = n) (hst : st0 = as.reverse ++ .ref (ad 0) :: rest) (hroom : (rest.map fun v => v.category).sum ≤ 8) (hd : decode code pc = .ok (.invokevirtual idx, 3))
    (kk : ∀ (v : Int32) (σ' : Mem) (κ : Kx), Pc v σ' → KC κ0 (PL D cs x κ0.s.heap.size) RL code 12 c s κ (LW D cs x ad ad2 σ' μ) → Z κ (OW (PL D cs x κ0.s.heap.size) (LW D cs x ad ad2 σ' μ)) τ (pc + 3) lv (.int v :: rest)) : Z κ (OW (PL D cs x κ0.s.heap.size) (LW D cs x ad ad2 σ μ)) τ pc lv st0 := by
  obtain ⟨-, ⟨g1, g2⟩, ⟨a1, a2⟩, ap, hX, hbl, hL⟩ := lc
  rw [← kc.l] at hc
  refine k_callV (wd := wdG 123 ad (cE (gK D cs x ad))) (A' := inG 123 ad) (SF' := SFC (gK D cs x ad)) (wa := []) (wb := wdG 9 ad2 (mE (gK D cs x ad2)) μ) (As := as) (b := ad 0) (q := 0) (rest := rest) kc (okC (g := gK D cs x ad) g1) (fun U hU => SFQ.C (g := gK D cs x ad) (hU.narrow a1)) a1 (fun σ2 => wdG_fst _ _) (fun k p h => by simp at h) (fun k p h => ?_) hm hl hc (by omega) (hC0 (g := gK D cs x ad)) rfl hcl hn hst hroom hd (fun r σ2 κ hp kc => ?_)
  · obtain ⟨h1, rfl⟩ := wdG_of h
    rintro ⟨i, hi, e⟩
    exact ap i k hi h1 e.symm
  · obtain ⟨v, rfl, hp⟩ := hp
    exact kk v σ2 κ hp kc
theorem l_callM (lc : LC κ0 ad ad2 b L xs) {mm : Md} {n idx d' : Nat} {as st0 : List Value} {Pm : Int32 → Mem → Prop} (kc : KC κ0 (PL D cs x κ0.s.heap.size) RL code 12 c s κ (LW D cs x ad ad2 σ μ)) (hm : Vm mm n) (hcl : RX8 = mm.1.cls) (hl : Cond.methodLink RL idx mm.1 ∈ tb) (hc : CtI κ0.l (OM (gK D cs x ad2)) d' mm (.ref (ad2 0) :: as) μ Pm) (hd8 : d' ≤ 8) (hn : as.length = n) (hst : st0 = as.reverse ++ .ref (ad2 0) :: rest) (hroom : (rest.map fun v => v.category).sum ≤ 8) (hd : decode code pc = .ok (.invokevirtual idx, 3))
    (kk : ∀ (v : Int32) (μ' : Mem) (κ : Kx), Pm v μ' → KC κ0 (PL D cs x κ0.s.heap.size) RL code 12 c s κ (LW D cs x ad ad2 σ μ') → Z κ (OW (PL D cs x κ0.s.heap.size) (LW D cs x ad ad2 σ μ')) τ (pc + 3) lv (.int v :: rest)) : Z κ (OW (PL D cs x κ0.s.heap.size) (LW D cs x ad ad2 σ μ)) τ pc lv st0 := by
  obtain ⟨-, ⟨g1, g2⟩, ⟨a1, a2⟩, ap, hX, hbl, hL⟩ := lc
  rw [← kc.l] at hc
  have eW : ∀ μ2 : Mem, LW D cs x ad ad2 σ μ2 = wdG 123 ad (cE (gK D cs x ad)) σ ++ (wdG 9 ad2 (mE (gK D cs x ad2)) μ2 ++ []) := fun μ2 => by rw [List.append_nil]; rfl
  rw [eW] at kc ⊢
  refine k_callV (wd := wdG 9 ad2 (mE (gK D cs x ad2))) (A' := inG 9 ad2) (SF' := fun _ => True) (wa := wdG 123 ad (cE (gK D cs x ad)) σ) (wb := []) (As := as) (b := ad2 0) (q := 0) (rest := rest) kc (okM (g := gK D cs x ad2) g2) (fun U hU => trivial) a2 (fun σ2 => wdG_fst _ _) (fun k p h => ?_) (fun k p h => by simp at h) hm hl hc (by omega) (hM0 (g := gK D cs x ad2)) rfl hcl hn hst hroom hd (fun r μ2 κ hp kc => ?_)
  · obtain ⟨h1, rfl⟩ := wdG_of h
    rintro ⟨i, hi, e⟩
    exact ap k i h1 hi e
  · obtain ⟨v, rfl, hp⟩ := hp
    rw [← eW] at kc ⊢
    exact kk v μ2 κ hp kc
theorem gt_no {L i : Nat} (hL : L ≤ 2048) (hi : i ≤ 4096) (h : ¬ nI L - 4 < nI i) : i + 4 ≤ L := by
  rw [Int32.lt_iff_toInt_lt, nI_toInt (by omega)] at h
  by_cases q : 4 ≤ L
  · rw [show nI L - 4 = nI (L - 4) from nI_sub9 q, nI_toInt (by omega)] at h
    omega
  · exfalso
    rcases (show L = 0 ∨ L = 1 ∨ L = 2 ∨ L = 3 by omega) with rfl | rfl | rfl | rfl
    · rw [show (nI 0 - 4).toInt = -4 by decide] at h; omega
    · rw [show (nI 1 - 4).toInt = -3 by decide] at h; omega
    · rw [show (nI 2 - 4).toInt = -2 by decide] at h; omega
    · rw [show (nI 3 - 4).toInt = -1 by decide] at h; omega
end LAWR
set_option maxRecDepth 100000 in
set_option maxHeartbeats 4000000 in
theorem l_case0 {κ0 κ : Kx} {D : va_G} {cs : Cs} {x : Xs} {ad ad2 : Nat → Nat} {b L : Nat} {xs : Nat → Int32} {c s : Nat} {σ μ τ : Mem} {i : Nat} (lc : LC κ0 ad ad2 b L xs) (kc : KC κ0 (PL D cs x κ0.s.heap.size) RL code 12 c s κ (LW D cs x ad ad2 σ μ)) (hi : i + 4 ≤ L) (hv : Inv σ μ) (kk : ∀ (σ' μ' : Mem) (κ : Kx), Inv σ' μ' → KC κ0 (PL D cs x κ0.s.heap.size) RL code 12 c s κ (LW D cs x ad ad2 σ' μ') → Z κ (OW (PL D cs x κ0.s.heap.size) (LW D cs x ad ad2 σ' μ')) τ 908 (lvL b ad ad2 i) []) : Z κ (OW (PL D cs x κ0.s.heap.size) (LW D cs x ad ad2 σ μ)) τ 168 (lvL b ad ad2 i) [] := by
  obtain ⟨_, _, _, _, _, _, _, h⟩ := hv
  obtain ⟨d1, d2, Pc, Pm, q1, q2, hc, hm, hb⟩ := b_write (l := κ0.l) (g := gK D cs x ad) (g2 := gK D cs x ad2) h lc.2.1.1 lc.2.1.2 (xs (i + 1))
  refine z_aload_n kc.cx 1 dL_law_168 rfl rfl ?_
  refine k_arg lc kc 1 (by omega) rfl rfl ic_1 dL_law_169 dL_law_170 dL_law_171 dL_law_172 dL_law_173 ?_
  refine l_callC lc kc vX7_write rfl kL_13 hc q1 rfl rfl (Nat.le_of_ble_eq_true rfl) dL_law_174 (fun v σ' κ hp kc => ?_)
  refine z_aload_n kc.cx 2 dL_law_177 rfl rfl ?_
  refine k_arg lc kc 1 (by omega) rfl rfl ic_1 dL_law_178 dL_law_179 dL_law_180 dL_law_181 dL_law_182 ?_
  refine l_callM lc kc vX8_write rfl kL_17 hm q2 rfl rfl (Nat.le_of_ble_eq_true rfl) dL_law_183 (fun v2 μ' κ hp2 kc => ?_)
  obtain ⟨rfl, hi2⟩ := hb _ _ _ _ hp hp2
  exact z_icmp_eq (tgt := 908) kc.cx dL_law_186 (by decide) (fun _ => kk _ _ _ hi2 kc) (fun z => absurd rfl z)
set_option maxRecDepth 100000 in
set_option maxHeartbeats 4000000 in
theorem l_case1 {κ0 κ : Kx} {D : va_G} {cs : Cs} {x : Xs} {ad ad2 : Nat → Nat} {b L : Nat} {xs : Nat → Int32} {c s : Nat} {σ μ τ : Mem} {i : Nat} (lc : LC κ0 ad ad2 b L xs) (kc : KC κ0 (PL D cs x κ0.s.heap.size) RL code 12 c s κ (LW D cs x ad ad2 σ μ)) (hi : i + 4 ≤ L) (hv : Inv σ μ) (kk : ∀ (σ' μ' : Mem) (κ : Kx), Inv σ' μ' → KC κ0 (PL D cs x κ0.s.heap.size) RL code 12 c s κ (LW D cs x ad ad2 σ' μ') → Z κ (OW (PL D cs x κ0.s.heap.size) (LW D cs x ad ad2 σ' μ')) τ 908 (lvL b ad ad2 i) []) : Z κ (OW (PL D cs x κ0.s.heap.size) (LW D cs x ad ad2 σ μ)) τ 191 (lvL b ad ad2 i) [] := by
  obtain ⟨_, _, _, _, _, _, _, h⟩ := hv
  obtain ⟨d1, d2, Pc, Pm, q1, q2, hc, hm, hb⟩ := b_erase (l := κ0.l) (g := gK D cs x ad) (g2 := gK D cs x ad2) h lc.2.1.1 lc.2.1.2
  refine z_aload_n kc.cx 1 dL_law_191 rfl rfl ?_
  refine l_callC lc kc vX7_erase rfl kL_18 hc q1 rfl rfl (Nat.le_of_ble_eq_true rfl) dL_law_192 (fun v σ' κ hp kc => ?_)
  refine z_aload_n kc.cx 2 dL_law_195 rfl rfl ?_
  refine l_callM lc kc vX8_erase rfl kL_22 hm q2 rfl rfl (Nat.le_of_ble_eq_true rfl) dL_law_196 (fun v2 μ' κ hp2 kc => ?_)
  obtain ⟨rfl, hi2⟩ := hb _ _ _ _ hp hp2
  exact z_icmp_eq (tgt := 908) kc.cx dL_law_199 (by decide) (fun _ => kk _ _ _ hi2 kc) (fun z => absurd rfl z)
set_option maxRecDepth 100000 in
set_option maxHeartbeats 4000000 in
theorem l_case2 {κ0 κ : Kx} {D : va_G} {cs : Cs} {x : Xs} {ad ad2 : Nat → Nat} {b L : Nat} {xs : Nat → Int32} {c s : Nat} {σ μ τ : Mem} {i : Nat} (lc : LC κ0 ad ad2 b L xs) (kc : KC κ0 (PL D cs x κ0.s.heap.size) RL code 12 c s κ (LW D cs x ad ad2 σ μ)) (hi : i + 4 ≤ L) (hv : Inv σ μ) (kk : ∀ (σ' μ' : Mem) (κ : Kx), Inv σ' μ' → KC κ0 (PL D cs x κ0.s.heap.size) RL code 12 c s κ (LW D cs x ad ad2 σ' μ') → Z κ (OW (PL D cs x κ0.s.heap.size) (LW D cs x ad ad2 σ' μ')) τ 908 (lvL b ad ad2 i) []) : Z κ (OW (PL D cs x κ0.s.heap.size) (LW D cs x ad ad2 σ μ)) τ 204 (lvL b ad ad2 i) [] := by
  obtain ⟨_, _, _, _, _, _, _, h⟩ := hv
  obtain ⟨d1, d2, Pc, Pm, q1, q2, hc, hm, hb⟩ := b_fault (l := κ0.l) (g := gK D cs x ad) (g2 := gK D cs x ad2) h lc.2.1.1 lc.2.1.2
  refine z_aload_n kc.cx 1 dL_law_204 rfl rfl ?_
  refine l_callC lc kc vX7_fault rfl kL_23 hc q1 rfl rfl (Nat.le_of_ble_eq_true rfl) dL_law_205 (fun v σ' κ hp kc => ?_)
  refine z_aload_n kc.cx 2 dL_law_208 rfl rfl ?_
  refine l_callM lc kc vX8_fault rfl kL_26 hm q2 rfl rfl (Nat.le_of_ble_eq_true rfl) dL_law_209 (fun v2 μ' κ hp2 kc => ?_)
  obtain ⟨rfl, hi2⟩ := hb _ _ _ _ hp hp2
  exact z_icmp_eq (tgt := 908) kc.cx dL_law_212 (by decide) (fun _ => kk _ _ _ hi2 kc) (fun z => absurd rfl z)
set_option maxRecDepth 100000 in
set_option maxHeartbeats 4000000 in
theorem l_case3 {κ0 κ : Kx} {D : va_G} {cs : Cs} {x : Xs} {ad ad2 : Nat → Nat} {b L : Nat} {xs : Nat → Int32} {c s : Nat} {σ μ τ : Mem} {i : Nat} (lc : LC κ0 ad ad2 b L xs) (kc : KC κ0 (PL D cs x κ0.s.heap.size) RL code 12 c s κ (LW D cs x ad ad2 σ μ)) (hi : i + 4 ≤ L) (hv : Inv σ μ) (kk : ∀ (σ' μ' : Mem) (κ : Kx), Inv σ' μ' → KC κ0 (PL D cs x κ0.s.heap.size) RL code 12 c s κ (LW D cs x ad ad2 σ' μ') → Z κ (OW (PL D cs x κ0.s.heap.size) (LW D cs x ad ad2 σ' μ')) τ 908 (lvL b ad ad2 i) []) : Z κ (OW (PL D cs x κ0.s.heap.size) (LW D cs x ad ad2 σ μ)) τ 217 (lvL b ad ad2 i) [] := by
  obtain ⟨_, _, _, _, _, _, _, h⟩ := hv
  obtain ⟨d1, d2, Pc, Pm, q1, q2, hc, hm, hb⟩ := b_west (l := κ0.l) (g := gK D cs x ad) (g2 := gK D cs x ad2) h lc.2.1.1 lc.2.1.2
  refine z_aload_n kc.cx 1 dL_law_217 rfl rfl ?_
  refine l_callC lc kc vX7_west rfl kL_27 hc q1 rfl rfl (Nat.le_of_ble_eq_true rfl) dL_law_218 (fun v σ' κ hp kc => ?_)
  refine z_aload_n kc.cx 2 dL_law_221 rfl rfl ?_
  refine l_callM lc kc vX8_west rfl kL_30 hm q2 rfl rfl (Nat.le_of_ble_eq_true rfl) dL_law_222 (fun v2 μ' κ hp2 kc => ?_)
  obtain ⟨rfl, hi2⟩ := hb _ _ _ _ hp hp2
  exact z_icmp_eq (tgt := 908) kc.cx dL_law_225 (by decide) (fun _ => kk _ _ _ hi2 kc) (fun z => absurd rfl z)
set_option maxRecDepth 100000 in
set_option maxHeartbeats 4000000 in
theorem l_case4 {κ0 κ : Kx} {D : va_G} {cs : Cs} {x : Xs} {ad ad2 : Nat → Nat} {b L : Nat} {xs : Nat → Int32} {c s : Nat} {σ μ τ : Mem} {i : Nat} (lc : LC κ0 ad ad2 b L xs) (kc : KC κ0 (PL D cs x κ0.s.heap.size) RL code 12 c s κ (LW D cs x ad ad2 σ μ)) (hi : i + 4 ≤ L) (hv : Inv σ μ) (kk : ∀ (σ' μ' : Mem) (κ : Kx), Inv σ' μ' → KC κ0 (PL D cs x κ0.s.heap.size) RL code 12 c s κ (LW D cs x ad ad2 σ' μ') → Z κ (OW (PL D cs x κ0.s.heap.size) (LW D cs x ad ad2 σ' μ')) τ 908 (lvL b ad ad2 i) []) : Z κ (OW (PL D cs x κ0.s.heap.size) (LW D cs x ad ad2 σ μ)) τ 230 (lvL b ad ad2 i) [] := by
  obtain ⟨_, _, _, _, _, _, _, h⟩ := hv
  obtain ⟨d1, d2, Pc, Pm, q1, q2, hc, hm, hb⟩ := b_evening (l := κ0.l) (g := gK D cs x ad) (g2 := gK D cs x ad2) h lc.2.1.1 lc.2.1.2 (xs (i + 1)) (xs (i + 2))
  refine z_aload_n kc.cx 1 dL_law_230 rfl rfl ?_
  refine k_arg lc kc 1 (by omega) rfl rfl ic_1 dL_law_231 dL_law_232 dL_law_233 dL_law_234 dL_law_235 ?_
  refine k_arg lc kc 2 (by omega) rfl rfl ic_2 dL_law_236 dL_law_237 dL_law_238 dL_law_239 dL_law_240 ?_
  refine l_callC lc kc vX7_evening rfl kL_31 hc q1 rfl rfl (Nat.le_of_ble_eq_true rfl) dL_law_241 (fun v σ' κ hp kc => ?_)
  refine z_aload_n kc.cx 2 dL_law_244 rfl rfl ?_
  refine k_arg lc kc 1 (by omega) rfl rfl ic_1 dL_law_245 dL_law_246 dL_law_247 dL_law_248 dL_law_249 ?_
  refine k_arg lc kc 2 (by omega) rfl rfl ic_2 dL_law_250 dL_law_251 dL_law_252 dL_law_253 dL_law_254 ?_
  refine l_callM lc kc vX8_evening rfl kL_35 hm q2 rfl rfl (Nat.le_of_ble_eq_true rfl) dL_law_255 (fun v2 μ' κ hp2 kc => ?_)
  obtain ⟨rfl, hi2⟩ := hb _ _ _ _ hp hp2
  exact z_icmp_eq (tgt := 908) kc.cx dL_law_258 (by decide) (fun _ => kk _ _ _ hi2 kc) (fun z => absurd rfl z)
set_option maxRecDepth 100000 in
set_option maxHeartbeats 4000000 in
theorem l_case5 {κ0 κ : Kx} {D : va_G} {cs : Cs} {x : Xs} {ad ad2 : Nat → Nat} {b L : Nat} {xs : Nat → Int32} {c s : Nat} {σ μ τ : Mem} {i : Nat} (lc : LC κ0 ad ad2 b L xs) (kc : KC κ0 (PL D cs x κ0.s.heap.size) RL code 12 c s κ (LW D cs x ad ad2 σ μ)) (hi : i + 4 ≤ L) (hv : Inv σ μ) (kk : ∀ (σ' μ' : Mem) (κ : Kx), Inv σ' μ' → KC κ0 (PL D cs x κ0.s.heap.size) RL code 12 c s κ (LW D cs x ad ad2 σ' μ') → Z κ (OW (PL D cs x κ0.s.heap.size) (LW D cs x ad ad2 σ' μ')) τ 908 (lvL b ad ad2 i) []) : Z κ (OW (PL D cs x κ0.s.heap.size) (LW D cs x ad ad2 σ μ)) τ 263 (lvL b ad ad2 i) [] := by
  obtain ⟨_, _, _, _, _, _, _, h⟩ := hv
  obtain ⟨d1, d2, Pc, Pm, q1, q2, hc, hm, hb⟩ := b_bidder (l := κ0.l) (g := gK D cs x ad) (g2 := gK D cs x ad2) h lc.2.1.1 lc.2.1.2 (xs (i + 1)) (xs (i + 2))
  refine z_aload_n kc.cx 1 dL_law_263 rfl rfl ?_
  refine k_arg lc kc 1 (by omega) rfl rfl ic_1 dL_law_264 dL_law_265 dL_law_266 dL_law_267 dL_law_268 ?_
  refine k_arg lc kc 2 (by omega) rfl rfl ic_2 dL_law_269 dL_law_270 dL_law_271 dL_law_272 dL_law_273 ?_
  refine l_callC lc kc vX7_bidder rfl kL_36 hc q1 rfl rfl (Nat.le_of_ble_eq_true rfl) dL_law_274 (fun v σ' κ hp kc => ?_)
  refine z_aload_n kc.cx 2 dL_law_277 rfl rfl ?_
  refine k_arg lc kc 1 (by omega) rfl rfl ic_1 dL_law_278 dL_law_279 dL_law_280 dL_law_281 dL_law_282 ?_
  refine k_arg lc kc 2 (by omega) rfl rfl ic_2 dL_law_283 dL_law_284 dL_law_285 dL_law_286 dL_law_287 ?_
  refine l_callM lc kc vX8_bidder rfl kL_39 hm q2 rfl rfl (Nat.le_of_ble_eq_true rfl) dL_law_288 (fun v2 μ' κ hp2 kc => ?_)
  obtain ⟨rfl, hi2⟩ := hb _ _ _ _ hp hp2
  exact z_icmp_eq (tgt := 908) kc.cx dL_law_291 (by decide) (fun _ => kk _ _ _ hi2 kc) (fun z => absurd rfl z)
set_option maxRecDepth 100000 in
set_option maxHeartbeats 4000000 in
theorem l_case6 {κ0 κ : Kx} {D : va_G} {cs : Cs} {x : Xs} {ad ad2 : Nat → Nat} {b L : Nat} {xs : Nat → Int32} {c s : Nat} {σ μ τ : Mem} {i : Nat} (lc : LC κ0 ad ad2 b L xs) (kc : KC κ0 (PL D cs x κ0.s.heap.size) RL code 12 c s κ (LW D cs x ad ad2 σ μ)) (hi : i + 4 ≤ L) (hv : Inv σ μ) (kk : ∀ (σ' μ' : Mem) (κ : Kx), Inv σ' μ' → KC κ0 (PL D cs x κ0.s.heap.size) RL code 12 c s κ (LW D cs x ad ad2 σ' μ') → Z κ (OW (PL D cs x κ0.s.heap.size) (LW D cs x ad ad2 σ' μ')) τ 908 (lvL b ad ad2 i) []) : Z κ (OW (PL D cs x κ0.s.heap.size) (LW D cs x ad ad2 σ μ)) τ 296 (lvL b ad ad2 i) [] := by
  obtain ⟨_, _, _, _, _, _, _, h⟩ := hv
  obtain ⟨d1, d2, Pc, Pm, q1, q2, hc, hm, hb⟩ := b_as (l := κ0.l) (g := gK D cs x ad) (g2 := gK D cs x ad2) h lc.2.1.1 lc.2.1.2 (xs (i + 1)) (xs (i + 2))
  refine z_aload_n kc.cx 1 dL_law_296 rfl rfl ?_
  refine k_arg lc kc 1 (by omega) rfl rfl ic_1 dL_law_297 dL_law_298 dL_law_299 dL_law_300 dL_law_301 ?_
  refine k_arg lc kc 2 (by omega) rfl rfl ic_2 dL_law_302 dL_law_303 dL_law_304 dL_law_305 dL_law_306 ?_
  refine l_callC lc kc vX7_as rfl kL_40 hc q1 rfl rfl (Nat.le_of_ble_eq_true rfl) dL_law_307 (fun v σ' κ hp kc => ?_)
  refine z_aload_n kc.cx 2 dL_law_310 rfl rfl ?_
  refine k_arg lc kc 1 (by omega) rfl rfl ic_1 dL_law_311 dL_law_312 dL_law_313 dL_law_314 dL_law_315 ?_
  refine k_arg lc kc 2 (by omega) rfl rfl ic_2 dL_law_316 dL_law_317 dL_law_318 dL_law_319 dL_law_320 ?_
  refine l_callM lc kc vX8_as rfl kL_43 hm q2 rfl rfl (Nat.le_of_ble_eq_true rfl) dL_law_321 (fun v2 μ' κ hp2 kc => ?_)
  obtain ⟨rfl, hi2⟩ := hb _ _ _ _ hp hp2
  exact z_icmp_eq (tgt := 908) kc.cx dL_law_324 (by decide) (fun _ => kk _ _ _ hi2 kc) (fun z => absurd rfl z)
set_option maxRecDepth 100000 in
set_option maxHeartbeats 4000000 in
theorem l_case7 {κ0 κ : Kx} {D : va_G} {cs : Cs} {x : Xs} {ad ad2 : Nat → Nat} {b L : Nat} {xs : Nat → Int32} {c s : Nat} {σ μ τ : Mem} {i : Nat} (lc : LC κ0 ad ad2 b L xs) (kc : KC κ0 (PL D cs x κ0.s.heap.size) RL code 12 c s κ (LW D cs x ad ad2 σ μ)) (hi : i + 4 ≤ L) (hv : Inv σ μ) (kk : ∀ (σ' μ' : Mem) (κ : Kx), Inv σ' μ' → KC κ0 (PL D cs x κ0.s.heap.size) RL code 12 c s κ (LW D cs x ad ad2 σ' μ') → Z κ (OW (PL D cs x κ0.s.heap.size) (LW D cs x ad ad2 σ' μ')) τ 908 (lvL b ad ad2 i) []) : Z κ (OW (PL D cs x κ0.s.heap.size) (LW D cs x ad ad2 σ μ)) τ 329 (lvL b ad ad2 i) [] := by
  obtain ⟨_, _, _, _, _, _, _, h⟩ := hv
  obtain ⟨d1, d2, Pc, Pm, q1, q2, hc, hm, hb⟩ := b_eveningAs (l := κ0.l) (g := gK D cs x ad) (g2 := gK D cs x ad2) h lc.2.1.1 lc.2.1.2 (xs (i + 1)) (xs (i + 2))
  refine z_aload_n kc.cx 1 dL_law_329 rfl rfl ?_
  refine k_arg lc kc 1 (by omega) rfl rfl ic_1 dL_law_330 dL_law_331 dL_law_332 dL_law_333 dL_law_334 ?_
  refine k_arg lc kc 2 (by omega) rfl rfl ic_2 dL_law_335 dL_law_336 dL_law_337 dL_law_338 dL_law_339 ?_
  refine l_callC lc kc vX7_eveningAs rfl kL_44 hc q1 rfl rfl (Nat.le_of_ble_eq_true rfl) dL_law_340 (fun v σ' κ hp kc => ?_)
  refine z_aload_n kc.cx 2 dL_law_343 rfl rfl ?_
  refine k_arg lc kc 1 (by omega) rfl rfl ic_1 dL_law_344 dL_law_345 dL_law_346 dL_law_347 dL_law_348 ?_
  refine k_arg lc kc 2 (by omega) rfl rfl ic_2 dL_law_349 dL_law_350 dL_law_351 dL_law_352 dL_law_353 ?_
  refine l_callM lc kc vX8_eveningAs rfl kL_47 hm q2 rfl rfl (Nat.le_of_ble_eq_true rfl) dL_law_354 (fun v2 μ' κ hp2 kc => ?_)
  obtain ⟨rfl, hi2⟩ := hb _ _ _ _ hp hp2
  exact z_icmp_eq (tgt := 908) kc.cx dL_law_357 (by decide) (fun _ => kk _ _ _ hi2 kc) (fun z => absurd rfl z)
set_option maxRecDepth 100000 in
set_option maxHeartbeats 4000000 in
theorem l_case8 {κ0 κ : Kx} {D : va_G} {cs : Cs} {x : Xs} {ad ad2 : Nat → Nat} {b L : Nat} {xs : Nat → Int32} {c s : Nat} {σ μ τ : Mem} {i : Nat} (lc : LC κ0 ad ad2 b L xs) (kc : KC κ0 (PL D cs x κ0.s.heap.size) RL code 12 c s κ (LW D cs x ad ad2 σ μ)) (hi : i + 4 ≤ L) (hv : Inv σ μ) (kk : ∀ (σ' μ' : Mem) (κ : Kx), Inv σ' μ' → KC κ0 (PL D cs x κ0.s.heap.size) RL code 12 c s κ (LW D cs x ad ad2 σ' μ') → Z κ (OW (PL D cs x κ0.s.heap.size) (LW D cs x ad ad2 σ' μ')) τ 908 (lvL b ad ad2 i) []) : Z κ (OW (PL D cs x κ0.s.heap.size) (LW D cs x ad ad2 σ μ)) τ 362 (lvL b ad ad2 i) [] := by
  obtain ⟨_, _, _, _, _, _, _, h⟩ := hv
  obtain ⟨d1, d2, Pc, Pm, q1, q2, hc, hm, hb⟩ := b_bid (l := κ0.l) (g := gK D cs x ad) (g2 := gK D cs x ad2) h lc.2.1.1 lc.2.1.2 (xs (i + 1)) (xs (i + 2))
  refine z_aload_n kc.cx 1 dL_law_362 rfl rfl ?_
  refine k_arg lc kc 1 (by omega) rfl rfl ic_1 dL_law_363 dL_law_364 dL_law_365 dL_law_366 dL_law_367 ?_
  refine k_arg lc kc 2 (by omega) rfl rfl ic_2 dL_law_368 dL_law_369 dL_law_370 dL_law_371 dL_law_372 ?_
  refine l_callC lc kc vX7_bid rfl kL_48 hc q1 rfl rfl (Nat.le_of_ble_eq_true rfl) dL_law_373 (fun v σ' κ hp kc => ?_)
  refine z_aload_n kc.cx 2 dL_law_376 rfl rfl ?_
  refine k_arg lc kc 1 (by omega) rfl rfl ic_1 dL_law_377 dL_law_378 dL_law_379 dL_law_380 dL_law_381 ?_
  refine k_arg lc kc 2 (by omega) rfl rfl ic_2 dL_law_382 dL_law_383 dL_law_384 dL_law_385 dL_law_386 ?_
  refine l_callM lc kc vX8_bid rfl kL_51 hm q2 rfl rfl (Nat.le_of_ble_eq_true rfl) dL_law_387 (fun v2 μ' κ hp2 kc => ?_)
  obtain ⟨rfl, hi2⟩ := hb _ _ _ _ hp hp2
  exact z_icmp_eq (tgt := 908) kc.cx dL_law_390 (by decide) (fun _ => kk _ _ _ hi2 kc) (fun z => absurd rfl z)
set_option maxRecDepth 100000 in
set_option maxHeartbeats 4000000 in
theorem l_case9 {κ0 κ : Kx} {D : va_G} {cs : Cs} {x : Xs} {ad ad2 : Nat → Nat} {b L : Nat} {xs : Nat → Int32} {c s : Nat} {σ μ τ : Mem} {i : Nat} (lc : LC κ0 ad ad2 b L xs) (kc : KC κ0 (PL D cs x κ0.s.heap.size) RL code 12 c s κ (LW D cs x ad ad2 σ μ)) (hi : i + 4 ≤ L) (hv : Inv σ μ) (kk : ∀ (σ' μ' : Mem) (κ : Kx), Inv σ' μ' → KC κ0 (PL D cs x κ0.s.heap.size) RL code 12 c s κ (LW D cs x ad ad2 σ' μ') → Z κ (OW (PL D cs x κ0.s.heap.size) (LW D cs x ad ad2 σ' μ')) τ 908 (lvL b ad ad2 i) []) : Z κ (OW (PL D cs x κ0.s.heap.size) (LW D cs x ad ad2 σ μ)) τ 395 (lvL b ad ad2 i) [] := by
  obtain ⟨_, _, _, _, _, _, _, h⟩ := hv
  obtain ⟨d1, d2, Pc, Pm, q1, q2, hc, hm, hb⟩ := b_sale (l := κ0.l) (g := gK D cs x ad) (g2 := gK D cs x ad2) h lc.2.1.1 lc.2.1.2 (xs (i + 1))
  refine z_aload_n kc.cx 1 dL_law_395 rfl rfl ?_
  refine k_arg lc kc 1 (by omega) rfl rfl ic_1 dL_law_396 dL_law_397 dL_law_398 dL_law_399 dL_law_400 ?_
  refine l_callC lc kc vX7_sale rfl kL_52 hc q1 rfl rfl (Nat.le_of_ble_eq_true rfl) dL_law_401 (fun v σ' κ hp kc => ?_)
  refine z_aload_n kc.cx 2 dL_law_404 rfl rfl ?_
  refine k_arg lc kc 1 (by omega) rfl rfl ic_1 dL_law_405 dL_law_406 dL_law_407 dL_law_408 dL_law_409 ?_
  refine l_callM lc kc vX8_sale rfl kL_55 hm q2 rfl rfl (Nat.le_of_ble_eq_true rfl) dL_law_410 (fun v2 μ' κ hp2 kc => ?_)
  obtain ⟨rfl, hi2⟩ := hb _ _ _ _ hp hp2
  exact z_icmp_eq (tgt := 908) kc.cx dL_law_413 (by decide) (fun _ => kk _ _ _ hi2 kc) (fun z => absurd rfl z)
set_option maxRecDepth 100000 in
set_option maxHeartbeats 4000000 in
theorem l_case10 {κ0 κ : Kx} {D : va_G} {cs : Cs} {x : Xs} {ad ad2 : Nat → Nat} {b L : Nat} {xs : Nat → Int32} {c s : Nat} {σ μ τ : Mem} {i : Nat} (lc : LC κ0 ad ad2 b L xs) (kc : KC κ0 (PL D cs x κ0.s.heap.size) RL code 12 c s κ (LW D cs x ad ad2 σ μ)) (hi : i + 4 ≤ L) (hv : Inv σ μ) (kk : ∀ (σ' μ' : Mem) (κ : Kx), Inv σ' μ' → KC κ0 (PL D cs x κ0.s.heap.size) RL code 12 c s κ (LW D cs x ad ad2 σ' μ') → Z κ (OW (PL D cs x κ0.s.heap.size) (LW D cs x ad ad2 σ' μ')) τ 908 (lvL b ad ad2 i) []) : Z κ (OW (PL D cs x κ0.s.heap.size) (LW D cs x ad ad2 σ μ)) τ 418 (lvL b ad ad2 i) [] := by
  obtain ⟨_, _, _, _, _, _, _, h⟩ := hv
  obtain ⟨d1, d2, Pc, Pm, q1, q2, hc, hm, hb⟩ := b_price (l := κ0.l) (g := gK D cs x ad) (g2 := gK D cs x ad2) h lc.2.1.1 lc.2.1.2 (xs (i + 1)) (xs (i + 2))
  refine z_aload_n kc.cx 1 dL_law_418 rfl rfl ?_
  refine k_arg lc kc 1 (by omega) rfl rfl ic_1 dL_law_419 dL_law_420 dL_law_421 dL_law_422 dL_law_423 ?_
  refine k_arg lc kc 2 (by omega) rfl rfl ic_2 dL_law_424 dL_law_425 dL_law_426 dL_law_427 dL_law_428 ?_
  refine l_callC lc kc vX7_price rfl kL_56 hc q1 rfl rfl (Nat.le_of_ble_eq_true rfl) dL_law_429 (fun v σ' κ hp kc => ?_)
  refine z_aload_n kc.cx 2 dL_law_432 rfl rfl ?_
  refine k_arg lc kc 1 (by omega) rfl rfl ic_1 dL_law_433 dL_law_434 dL_law_435 dL_law_436 dL_law_437 ?_
  refine k_arg lc kc 2 (by omega) rfl rfl ic_2 dL_law_438 dL_law_439 dL_law_440 dL_law_441 dL_law_442 ?_
  refine l_callM lc kc vX8_price rfl kL_59 hm q2 rfl rfl (Nat.le_of_ble_eq_true rfl) dL_law_443 (fun v2 μ' κ hp2 kc => ?_)
  obtain ⟨rfl, hi2⟩ := hb _ _ _ _ hp hp2
  exact z_icmp_eq (tgt := 908) kc.cx dL_law_446 (by decide) (fun _ => kk _ _ _ hi2 kc) (fun z => absurd rfl z)
set_option maxRecDepth 100000 in
set_option maxHeartbeats 4000000 in
theorem l_case11 {κ0 κ : Kx} {D : va_G} {cs : Cs} {x : Xs} {ad ad2 : Nat → Nat} {b L : Nat} {xs : Nat → Int32} {c s : Nat} {σ μ τ : Mem} {i : Nat} (lc : LC κ0 ad ad2 b L xs) (kc : KC κ0 (PL D cs x κ0.s.heap.size) RL code 12 c s κ (LW D cs x ad ad2 σ μ)) (hi : i + 4 ≤ L) (hv : Inv σ μ) (kk : ∀ (σ' μ' : Mem) (κ : Kx), Inv σ' μ' → KC κ0 (PL D cs x κ0.s.heap.size) RL code 12 c s κ (LW D cs x ad ad2 σ' μ') → Z κ (OW (PL D cs x κ0.s.heap.size) (LW D cs x ad ad2 σ' μ')) τ 908 (lvL b ad ad2 i) []) : Z κ (OW (PL D cs x κ0.s.heap.size) (LW D cs x ad ad2 σ μ)) τ 451 (lvL b ad ad2 i) [] := by
  obtain ⟨_, _, _, _, _, _, _, h⟩ := hv
  obtain ⟨d1, d2, Pc, Pm, q1, q2, hc, hm, hb⟩ := b_says (l := κ0.l) (g := gK D cs x ad) (g2 := gK D cs x ad2) h lc.2.1.1 lc.2.1.2 (xs (i + 1)) (xs (i + 2)) (xs (i + 3))
  refine z_aload_n kc.cx 1 dL_law_451 rfl rfl ?_
  refine k_arg lc kc 1 (by omega) rfl rfl ic_1 dL_law_452 dL_law_453 dL_law_454 dL_law_455 dL_law_456 ?_
  refine k_arg lc kc 2 (by omega) rfl rfl ic_2 dL_law_457 dL_law_458 dL_law_459 dL_law_460 dL_law_461 ?_
  refine k_arg lc kc 3 (by omega) rfl rfl ic_3 dL_law_462 dL_law_463 dL_law_464 dL_law_465 dL_law_466 ?_
  refine l_callC lc kc vX7_says rfl kL_60 hc q1 rfl rfl (Nat.le_of_ble_eq_true rfl) dL_law_467 (fun v σ' κ hp kc => ?_)
  refine z_aload_n kc.cx 2 dL_law_470 rfl rfl ?_
  refine k_arg lc kc 1 (by omega) rfl rfl ic_1 dL_law_471 dL_law_472 dL_law_473 dL_law_474 dL_law_475 ?_
  refine k_arg lc kc 2 (by omega) rfl rfl ic_2 dL_law_476 dL_law_477 dL_law_478 dL_law_479 dL_law_480 ?_
  refine k_arg lc kc 3 (by omega) rfl rfl ic_3 dL_law_481 dL_law_482 dL_law_483 dL_law_484 dL_law_485 ?_
  refine l_callM lc kc vX8_says rfl kL_64 hm q2 rfl rfl (Nat.le_of_ble_eq_true rfl) dL_law_486 (fun v2 μ' κ hp2 kc => ?_)
  obtain ⟨rfl, hi2⟩ := hb _ _ _ _ hp hp2
  exact z_icmp_eq (tgt := 908) kc.cx dL_law_489 (by decide) (fun _ => kk _ _ _ hi2 kc) (fun z => absurd rfl z)
set_option maxRecDepth 100000 in
set_option maxHeartbeats 4000000 in
theorem l_case12 {κ0 κ : Kx} {D : va_G} {cs : Cs} {x : Xs} {ad ad2 : Nat → Nat} {b L : Nat} {xs : Nat → Int32} {c s : Nat} {σ μ τ : Mem} {i : Nat} (lc : LC κ0 ad ad2 b L xs) (kc : KC κ0 (PL D cs x κ0.s.heap.size) RL code 12 c s κ (LW D cs x ad ad2 σ μ)) (hi : i + 4 ≤ L) (hv : Inv σ μ) (kk : ∀ (σ' μ' : Mem) (κ : Kx), Inv σ' μ' → KC κ0 (PL D cs x κ0.s.heap.size) RL code 12 c s κ (LW D cs x ad ad2 σ' μ') → Z κ (OW (PL D cs x κ0.s.heap.size) (LW D cs x ad ad2 σ' μ')) τ 908 (lvL b ad ad2 i) []) : Z κ (OW (PL D cs x κ0.s.heap.size) (LW D cs x ad ad2 σ μ)) τ 494 (lvL b ad ad2 i) [] := by
  obtain ⟨_, _, _, _, _, _, _, h⟩ := hv
  obtain ⟨d1, d2, Pc, Pm, q1, q2, hc, hm, hb⟩ := b_undo (l := κ0.l) (g := gK D cs x ad) (g2 := gK D cs x ad2) h lc.2.1.1 lc.2.1.2
  refine z_aload_n kc.cx 1 dL_law_494 rfl rfl ?_
  refine l_callC lc kc vX7_undo rfl kL_65 hc q1 rfl rfl (Nat.le_of_ble_eq_true rfl) dL_law_495 (fun v σ' κ hp kc => ?_)
  refine z_aload_n kc.cx 2 dL_law_498 rfl rfl ?_
  refine l_callM lc kc vX8_undo rfl kL_68 hm q2 rfl rfl (Nat.le_of_ble_eq_true rfl) dL_law_499 (fun v2 μ' κ hp2 kc => ?_)
  obtain ⟨rfl, hi2⟩ := hb _ _ _ _ hp hp2
  exact z_icmp_eq (tgt := 908) kc.cx dL_law_502 (by decide) (fun _ => kk _ _ _ hi2 kc) (fun z => absurd rfl z)
set_option maxRecDepth 100000 in
set_option maxHeartbeats 4000000 in
theorem l_case13 {κ0 κ : Kx} {D : va_G} {cs : Cs} {x : Xs} {ad ad2 : Nat → Nat} {b L : Nat} {xs : Nat → Int32} {c s : Nat} {σ μ τ : Mem} {i : Nat} (lc : LC κ0 ad ad2 b L xs) (kc : KC κ0 (PL D cs x κ0.s.heap.size) RL code 12 c s κ (LW D cs x ad ad2 σ μ)) (hi : i + 4 ≤ L) (hv : Inv σ μ) (kk : ∀ (σ' μ' : Mem) (κ : Kx), Inv σ' μ' → KC κ0 (PL D cs x κ0.s.heap.size) RL code 12 c s κ (LW D cs x ad ad2 σ' μ') → Z κ (OW (PL D cs x κ0.s.heap.size) (LW D cs x ad ad2 σ' μ')) τ 908 (lvL b ad ad2 i) []) : Z κ (OW (PL D cs x κ0.s.heap.size) (LW D cs x ad ad2 σ μ)) τ 507 (lvL b ad ad2 i) [] := by
  obtain ⟨_, _, _, _, _, _, _, h⟩ := hv
  obtain ⟨d1, d2, Pc, Pm, q1, q2, hc, hm, hb⟩ := b_keep (l := κ0.l) (g := gK D cs x ad) (g2 := gK D cs x ad2) h lc.2.1.1 lc.2.1.2 (xs (i + 1))
  refine z_aload_n kc.cx 1 dL_law_507 rfl rfl ?_
  refine k_arg lc kc 1 (by omega) rfl rfl ic_1 dL_law_508 dL_law_509 dL_law_510 dL_law_511 dL_law_512 ?_
  refine l_callC lc kc vX7_keep rfl kL_69 hc q1 rfl rfl (Nat.le_of_ble_eq_true rfl) dL_law_513 (fun v σ' κ hp kc => ?_)
  refine z_aload_n kc.cx 2 dL_law_516 rfl rfl ?_
  refine k_arg lc kc 1 (by omega) rfl rfl ic_1 dL_law_517 dL_law_518 dL_law_519 dL_law_520 dL_law_521 ?_
  refine l_callM lc kc vX8_keep rfl kL_72 hm q2 rfl rfl (Nat.le_of_ble_eq_true rfl) dL_law_522 (fun v2 μ' κ hp2 kc => ?_)
  obtain ⟨rfl, hi2⟩ := hb _ _ _ _ hp hp2
  exact z_icmp_eq (tgt := 908) kc.cx dL_law_525 (by decide) (fun _ => kk _ _ _ hi2 kc) (fun z => absurd rfl z)
set_option maxRecDepth 100000 in
set_option maxHeartbeats 4000000 in
theorem l_case14 {κ0 κ : Kx} {D : va_G} {cs : Cs} {x : Xs} {ad ad2 : Nat → Nat} {b L : Nat} {xs : Nat → Int32} {c s : Nat} {σ μ τ : Mem} {i : Nat} (lc : LC κ0 ad ad2 b L xs) (kc : KC κ0 (PL D cs x κ0.s.heap.size) RL code 12 c s κ (LW D cs x ad ad2 σ μ)) (hi : i + 4 ≤ L) (hv : Inv σ μ) (kk : ∀ (σ' μ' : Mem) (κ : Kx), Inv σ' μ' → KC κ0 (PL D cs x κ0.s.heap.size) RL code 12 c s κ (LW D cs x ad ad2 σ' μ') → Z κ (OW (PL D cs x κ0.s.heap.size) (LW D cs x ad ad2 σ' μ')) τ 908 (lvL b ad ad2 i) []) : Z κ (OW (PL D cs x κ0.s.heap.size) (LW D cs x ad ad2 σ μ)) τ 530 (lvL b ad ad2 i) [] := by
  obtain ⟨_, _, _, _, _, _, _, h⟩ := hv
  obtain ⟨d1, d2, Pc, Pm, q1, q2, hc, hm, hb⟩ := b_back (l := κ0.l) (g := gK D cs x ad) (g2 := gK D cs x ad2) h lc.2.1.1 lc.2.1.2 (xs (i + 1))
  refine z_aload_n kc.cx 1 dL_law_530 rfl rfl ?_
  refine k_arg lc kc 1 (by omega) rfl rfl ic_1 dL_law_531 dL_law_532 dL_law_533 dL_law_534 dL_law_535 ?_
  refine l_callC lc kc vX7_back rfl kL_73 hc q1 rfl rfl (Nat.le_of_ble_eq_true rfl) dL_law_536 (fun v σ' κ hp kc => ?_)
  refine z_aload_n kc.cx 2 dL_law_539 rfl rfl ?_
  refine k_arg lc kc 1 (by omega) rfl rfl ic_1 dL_law_540 dL_law_541 dL_law_542 dL_law_543 dL_law_544 ?_
  refine l_callM lc kc vX8_back rfl kL_76 hm q2 rfl rfl (Nat.le_of_ble_eq_true rfl) dL_law_545 (fun v2 μ' κ hp2 kc => ?_)
  obtain ⟨rfl, hi2⟩ := hb _ _ _ _ hp hp2
  exact z_icmp_eq (tgt := 908) kc.cx dL_law_548 (by decide) (fun _ => kk _ _ _ hi2 kc) (fun z => absurd rfl z)
set_option maxRecDepth 100000 in
set_option maxHeartbeats 4000000 in
theorem l_case15 {κ0 κ : Kx} {D : va_G} {cs : Cs} {x : Xs} {ad ad2 : Nat → Nat} {b L : Nat} {xs : Nat → Int32} {c s : Nat} {σ μ τ : Mem} {i : Nat} (lc : LC κ0 ad ad2 b L xs) (kc : KC κ0 (PL D cs x κ0.s.heap.size) RL code 12 c s κ (LW D cs x ad ad2 σ μ)) (hi : i + 4 ≤ L) (hv : Inv σ μ) (kk : ∀ (σ' μ' : Mem) (κ : Kx), Inv σ' μ' → KC κ0 (PL D cs x κ0.s.heap.size) RL code 12 c s κ (LW D cs x ad ad2 σ' μ') → Z κ (OW (PL D cs x κ0.s.heap.size) (LW D cs x ad ad2 σ' μ')) τ 908 (lvL b ad ad2 i) []) : Z κ (OW (PL D cs x κ0.s.heap.size) (LW D cs x ad ad2 σ μ)) τ 553 (lvL b ad ad2 i) [] := by
  obtain ⟨_, _, _, _, _, _, _, h⟩ := hv
  obtain ⟨d1, d2, Pc, Pm, q1, q2, hc, hm, hb⟩ := b_gain (l := κ0.l) (g := gK D cs x ad) (g2 := gK D cs x ad2) h lc.2.1.1 lc.2.1.2 (xs (i + 1)) (xs (i + 2)) (xs (i + 3))
  refine z_aload_n kc.cx 1 dL_law_553 rfl rfl ?_
  refine k_arg lc kc 1 (by omega) rfl rfl ic_1 dL_law_554 dL_law_555 dL_law_556 dL_law_557 dL_law_558 ?_
  refine k_arg lc kc 2 (by omega) rfl rfl ic_2 dL_law_559 dL_law_560 dL_law_561 dL_law_562 dL_law_563 ?_
  refine k_arg lc kc 3 (by omega) rfl rfl ic_3 dL_law_564 dL_law_565 dL_law_566 dL_law_567 dL_law_568 ?_
  refine l_callC lc kc vX7_gain rfl kL_77 hc q1 rfl rfl (Nat.le_of_ble_eq_true rfl) dL_law_569 (fun v σ' κ hp kc => ?_)
  refine z_aload_n kc.cx 2 dL_law_572 rfl rfl ?_
  refine k_arg lc kc 1 (by omega) rfl rfl ic_1 dL_law_573 dL_law_574 dL_law_575 dL_law_576 dL_law_577 ?_
  refine k_arg lc kc 2 (by omega) rfl rfl ic_2 dL_law_578 dL_law_579 dL_law_580 dL_law_581 dL_law_582 ?_
  refine k_arg lc kc 3 (by omega) rfl rfl ic_3 dL_law_583 dL_law_584 dL_law_585 dL_law_586 dL_law_587 ?_
  refine l_callM lc kc vX8_gain rfl kL_80 hm q2 rfl rfl (Nat.le_of_ble_eq_true rfl) dL_law_588 (fun v2 μ' κ hp2 kc => ?_)
  obtain ⟨rfl, hi2⟩ := hb _ _ _ _ hp hp2
  exact z_icmp_eq (tgt := 908) kc.cx dL_law_591 (by decide) (fun _ => kk _ _ _ hi2 kc) (fun z => absurd rfl z)
set_option maxRecDepth 100000 in
set_option maxHeartbeats 4000000 in
theorem l_case16 {κ0 κ : Kx} {D : va_G} {cs : Cs} {x : Xs} {ad ad2 : Nat → Nat} {b L : Nat} {xs : Nat → Int32} {c s : Nat} {σ μ τ : Mem} {i : Nat} (lc : LC κ0 ad ad2 b L xs) (kc : KC κ0 (PL D cs x κ0.s.heap.size) RL code 12 c s κ (LW D cs x ad ad2 σ μ)) (hi : i + 4 ≤ L) (hv : Inv σ μ) (kk : ∀ (σ' μ' : Mem) (κ : Kx), Inv σ' μ' → KC κ0 (PL D cs x κ0.s.heap.size) RL code 12 c s κ (LW D cs x ad ad2 σ' μ') → Z κ (OW (PL D cs x κ0.s.heap.size) (LW D cs x ad ad2 σ' μ')) τ 908 (lvL b ad ad2 i) []) : Z κ (OW (PL D cs x κ0.s.heap.size) (LW D cs x ad ad2 σ μ)) τ 596 (lvL b ad ad2 i) [] := by
  obtain ⟨_, _, _, _, _, _, _, h⟩ := hv
  obtain ⟨d1, d2, Pc, Pm, q1, q2, hc, hm, hb⟩ := b_limit (l := κ0.l) (g := gK D cs x ad) (g2 := gK D cs x ad2) h lc.2.1.1 lc.2.1.2 (xs (i + 1))
  refine z_aload_n kc.cx 1 dL_law_596 rfl rfl ?_
  refine k_arg lc kc 1 (by omega) rfl rfl ic_1 dL_law_597 dL_law_598 dL_law_599 dL_law_600 dL_law_601 ?_
  refine l_callC lc kc vX7_limit rfl kL_81 hc q1 rfl rfl (Nat.le_of_ble_eq_true rfl) dL_law_602 (fun v σ' κ hp kc => ?_)
  refine z_aload_n kc.cx 2 dL_law_605 rfl rfl ?_
  refine k_arg lc kc 1 (by omega) rfl rfl ic_1 dL_law_606 dL_law_607 dL_law_608 dL_law_609 dL_law_610 ?_
  refine l_callM lc kc vX8_limit rfl kL_84 hm q2 rfl rfl (Nat.le_of_ble_eq_true rfl) dL_law_611 (fun v2 μ' κ hp2 kc => ?_)
  obtain ⟨rfl, hi2⟩ := hb _ _ _ _ hp hp2
  exact z_icmp_eq (tgt := 908) kc.cx dL_law_614 (by decide) (fun _ => kk _ _ _ hi2 kc) (fun z => absurd rfl z)
set_option maxRecDepth 100000 in
set_option maxHeartbeats 4000000 in
theorem l_case17 {κ0 κ : Kx} {D : va_G} {cs : Cs} {x : Xs} {ad ad2 : Nat → Nat} {b L : Nat} {xs : Nat → Int32} {c s : Nat} {σ μ τ : Mem} {i : Nat} (lc : LC κ0 ad ad2 b L xs) (kc : KC κ0 (PL D cs x κ0.s.heap.size) RL code 12 c s κ (LW D cs x ad ad2 σ μ)) (hi : i + 4 ≤ L) (hv : Inv σ μ) (kk : ∀ (σ' μ' : Mem) (κ : Kx), Inv σ' μ' → KC κ0 (PL D cs x κ0.s.heap.size) RL code 12 c s κ (LW D cs x ad ad2 σ' μ') → Z κ (OW (PL D cs x κ0.s.heap.size) (LW D cs x ad ad2 σ' μ')) τ 908 (lvL b ad ad2 i) []) : Z κ (OW (PL D cs x κ0.s.heap.size) (LW D cs x ad ad2 σ μ)) τ 619 (lvL b ad ad2 i) [] := by
  obtain ⟨_, _, _, _, _, _, _, h⟩ := hv
  obtain ⟨d1, d2, Pc, Pm, q1, q2, hc, hm, hb⟩ := b_has (l := κ0.l) (g := gK D cs x ad) (g2 := gK D cs x ad2) h lc.2.1.1 lc.2.1.2 (xs (i + 1))
  refine z_aload_n kc.cx 1 dL_law_619 rfl rfl ?_
  refine k_arg lc kc 1 (by omega) rfl rfl ic_1 dL_law_620 dL_law_621 dL_law_622 dL_law_623 dL_law_624 ?_
  refine l_callC lc kc vX7_has rfl kL_85 hc q1 rfl rfl (Nat.le_of_ble_eq_true rfl) dL_law_625 (fun v σ' κ hp kc => ?_)
  refine z_aload_n kc.cx 2 dL_law_628 rfl rfl ?_
  refine k_arg lc kc 1 (by omega) rfl rfl ic_1 dL_law_629 dL_law_630 dL_law_631 dL_law_632 dL_law_633 ?_
  refine l_callM lc kc vX8_has_ rfl kL_88 hm q2 rfl rfl (Nat.le_of_ble_eq_true rfl) dL_law_634 (fun v2 μ' κ hp2 kc => ?_)
  obtain ⟨rfl, hi2⟩ := hb _ _ _ _ hp hp2
  exact z_icmp_eq (tgt := 908) kc.cx dL_law_637 (by decide) (fun _ => kk _ _ _ hi2 kc) (fun z => absurd rfl z)
set_option maxRecDepth 100000 in
set_option maxHeartbeats 4000000 in
theorem l_case18 {κ0 κ : Kx} {D : va_G} {cs : Cs} {x : Xs} {ad ad2 : Nat → Nat} {b L : Nat} {xs : Nat → Int32} {c s : Nat} {σ μ τ : Mem} {i : Nat} (lc : LC κ0 ad ad2 b L xs) (kc : KC κ0 (PL D cs x κ0.s.heap.size) RL code 12 c s κ (LW D cs x ad ad2 σ μ)) (hi : i + 4 ≤ L) (hv : Inv σ μ) (kk : ∀ (σ' μ' : Mem) (κ : Kx), Inv σ' μ' → KC κ0 (PL D cs x κ0.s.heap.size) RL code 12 c s κ (LW D cs x ad ad2 σ' μ') → Z κ (OW (PL D cs x κ0.s.heap.size) (LW D cs x ad ad2 σ' μ')) τ 908 (lvL b ad ad2 i) []) : Z κ (OW (PL D cs x κ0.s.heap.size) (LW D cs x ad ad2 σ μ)) τ 642 (lvL b ad ad2 i) [] := by
  obtain ⟨_, _, _, _, _, _, _, h⟩ := hv
  obtain ⟨d1, d2, Pc, Pm, q1, q2, hc, hm, hb⟩ := b_reply (l := κ0.l) (g := gK D cs x ad) (g2 := gK D cs x ad2) h lc.2.1.1 lc.2.1.2 (xs (i + 1)) (xs (i + 2))
  refine z_aload_n kc.cx 1 dL_law_642 rfl rfl ?_
  refine k_arg lc kc 1 (by omega) rfl rfl ic_1 dL_law_643 dL_law_644 dL_law_645 dL_law_646 dL_law_647 ?_
  refine k_arg lc kc 2 (by omega) rfl rfl ic_2 dL_law_648 dL_law_649 dL_law_650 dL_law_651 dL_law_652 ?_
  refine l_callC lc kc vX7_reply rfl kL_89 hc q1 rfl rfl (Nat.le_of_ble_eq_true rfl) dL_law_653 (fun v σ' κ hp kc => ?_)
  refine z_aload_n kc.cx 2 dL_law_656 rfl rfl ?_
  refine k_arg lc kc 1 (by omega) rfl rfl ic_1 dL_law_657 dL_law_658 dL_law_659 dL_law_660 dL_law_661 ?_
  refine k_arg lc kc 2 (by omega) rfl rfl ic_2 dL_law_662 dL_law_663 dL_law_664 dL_law_665 dL_law_666 ?_
  refine l_callM lc kc vX8_reply rfl kL_92 hm q2 rfl rfl (Nat.le_of_ble_eq_true rfl) dL_law_667 (fun v2 μ' κ hp2 kc => ?_)
  obtain ⟨rfl, hi2⟩ := hb _ _ _ _ hp hp2
  exact z_icmp_eq (tgt := 908) kc.cx dL_law_670 (by decide) (fun _ => kk _ _ _ hi2 kc) (fun z => absurd rfl z)
set_option maxRecDepth 100000 in
set_option maxHeartbeats 4000000 in
theorem l_case19 {κ0 κ : Kx} {D : va_G} {cs : Cs} {x : Xs} {ad ad2 : Nat → Nat} {b L : Nat} {xs : Nat → Int32} {c s : Nat} {σ μ τ : Mem} {i : Nat} (lc : LC κ0 ad ad2 b L xs) (kc : KC κ0 (PL D cs x κ0.s.heap.size) RL code 12 c s κ (LW D cs x ad ad2 σ μ)) (hi : i + 4 ≤ L) (hv : Inv σ μ) (kk : ∀ (σ' μ' : Mem) (κ : Kx), Inv σ' μ' → KC κ0 (PL D cs x κ0.s.heap.size) RL code 12 c s κ (LW D cs x ad ad2 σ' μ') → Z κ (OW (PL D cs x κ0.s.heap.size) (LW D cs x ad ad2 σ' μ')) τ 908 (lvL b ad ad2 i) []) : Z κ (OW (PL D cs x κ0.s.heap.size) (LW D cs x ad ad2 σ μ)) τ 675 (lvL b ad ad2 i) [] := by
  obtain ⟨_, _, _, _, _, _, _, h⟩ := hv
  obtain ⟨d1, d2, Pc, Pm, q1, q2, hc, hm, hb⟩ := b_tempted (l := κ0.l) (g := gK D cs x ad) (g2 := gK D cs x ad2) h lc.2.1.1 lc.2.1.2
  refine z_aload_n kc.cx 1 dL_law_675 rfl rfl ?_
  refine l_callC lc kc vX7_tempted rfl kL_93 hc q1 rfl rfl (Nat.le_of_ble_eq_true rfl) dL_law_676 (fun v σ' κ hp kc => ?_)
  refine z_aload_n kc.cx 2 dL_law_679 rfl rfl ?_
  refine l_callM lc kc vX8_tempted rfl kL_96 hm q2 rfl rfl (Nat.le_of_ble_eq_true rfl) dL_law_680 (fun v2 μ' κ hp2 kc => ?_)
  obtain ⟨rfl, hi2⟩ := hb _ _ _ _ hp hp2
  exact z_icmp_eq (tgt := 908) kc.cx dL_law_683 (by decide) (fun _ => kk _ _ _ hi2 kc) (fun z => absurd rfl z)
set_option maxRecDepth 100000 in
set_option maxHeartbeats 4000000 in
theorem l_case20 {κ0 κ : Kx} {D : va_G} {cs : Cs} {x : Xs} {ad ad2 : Nat → Nat} {b L : Nat} {xs : Nat → Int32} {c s : Nat} {σ μ τ : Mem} {i : Nat} (lc : LC κ0 ad ad2 b L xs) (kc : KC κ0 (PL D cs x κ0.s.heap.size) RL code 12 c s κ (LW D cs x ad ad2 σ μ)) (hi : i + 4 ≤ L) (hv : Inv σ μ) (kk : ∀ (σ' μ' : Mem) (κ : Kx), Inv σ' μ' → KC κ0 (PL D cs x κ0.s.heap.size) RL code 12 c s κ (LW D cs x ad ad2 σ' μ') → Z κ (OW (PL D cs x κ0.s.heap.size) (LW D cs x ad ad2 σ' μ')) τ 908 (lvL b ad ad2 i) []) : Z κ (OW (PL D cs x κ0.s.heap.size) (LW D cs x ad ad2 σ μ)) τ 688 (lvL b ad ad2 i) [] := by
  obtain ⟨_, _, _, _, _, _, _, h⟩ := hv
  obtain ⟨d1, d2, Pc, Pm, q1, q2, hc, hm, hb⟩ := b_cartel (l := κ0.l) (g := gK D cs x ad) (g2 := gK D cs x ad2) h lc.2.1.1 lc.2.1.2 (xs (i + 1))
  refine z_aload_n kc.cx 1 dL_law_688 rfl rfl ?_
  refine k_arg lc kc 1 (by omega) rfl rfl ic_1 dL_law_689 dL_law_690 dL_law_691 dL_law_692 dL_law_693 ?_
  refine l_callC lc kc vX7_cartel rfl kL_97 hc q1 rfl rfl (Nat.le_of_ble_eq_true rfl) dL_law_694 (fun v σ' κ hp kc => ?_)
  refine z_aload_n kc.cx 2 dL_law_697 rfl rfl ?_
  refine k_arg lc kc 1 (by omega) rfl rfl ic_1 dL_law_698 dL_law_699 dL_law_700 dL_law_701 dL_law_702 ?_
  refine l_callM lc kc vX8_cartel rfl kL_100 hm q2 rfl rfl (Nat.le_of_ble_eq_true rfl) dL_law_703 (fun v2 μ' κ hp2 kc => ?_)
  obtain ⟨rfl, hi2⟩ := hb _ _ _ _ hp hp2
  exact z_icmp_eq (tgt := 908) kc.cx dL_law_706 (by decide) (fun _ => kk _ _ _ hi2 kc) (fun z => absurd rfl z)
set_option maxRecDepth 100000 in
set_option maxHeartbeats 4000000 in
theorem l_case21 {κ0 κ : Kx} {D : va_G} {cs : Cs} {x : Xs} {ad ad2 : Nat → Nat} {b L : Nat} {xs : Nat → Int32} {c s : Nat} {σ μ τ : Mem} {i : Nat} (lc : LC κ0 ad ad2 b L xs) (kc : KC κ0 (PL D cs x κ0.s.heap.size) RL code 12 c s κ (LW D cs x ad ad2 σ μ)) (hi : i + 4 ≤ L) (hv : Inv σ μ) (kk : ∀ (σ' μ' : Mem) (κ : Kx), Inv σ' μ' → KC κ0 (PL D cs x κ0.s.heap.size) RL code 12 c s κ (LW D cs x ad ad2 σ' μ') → Z κ (OW (PL D cs x κ0.s.heap.size) (LW D cs x ad ad2 σ' μ')) τ 908 (lvL b ad ad2 i) []) : Z κ (OW (PL D cs x κ0.s.heap.size) (LW D cs x ad ad2 σ μ)) τ 711 (lvL b ad ad2 i) [] := by
  obtain ⟨_, _, _, _, _, _, _, h⟩ := hv
  obtain ⟨d1, d2, Pc, Pm, q1, q2, hc, hm, hb⟩ := b_otherwise (l := κ0.l) (g := gK D cs x ad) (g2 := gK D cs x ad2) h lc.2.1.1 lc.2.1.2
  refine z_aload_n kc.cx 1 dL_law_711 rfl rfl ?_
  refine l_callC lc kc vX7_otherwise rfl kL_101 hc q1 rfl rfl (Nat.le_of_ble_eq_true rfl) dL_law_712 (fun v σ' κ hp kc => ?_)
  refine z_aload_n kc.cx 2 dL_law_715 rfl rfl ?_
  refine l_callM lc kc vX8_otherwise rfl kL_104 hm q2 rfl rfl (Nat.le_of_ble_eq_true rfl) dL_law_716 (fun v2 μ' κ hp2 kc => ?_)
  obtain ⟨rfl, hi2⟩ := hb _ _ _ _ hp hp2
  exact z_icmp_eq (tgt := 908) kc.cx dL_law_719 (by decide) (fun _ => kk _ _ _ hi2 kc) (fun z => absurd rfl z)
set_option maxRecDepth 100000 in
set_option maxHeartbeats 4000000 in
theorem l_case22 {κ0 κ : Kx} {D : va_G} {cs : Cs} {x : Xs} {ad ad2 : Nat → Nat} {b L : Nat} {xs : Nat → Int32} {c s : Nat} {σ μ τ : Mem} {i : Nat} (lc : LC κ0 ad ad2 b L xs) (kc : KC κ0 (PL D cs x κ0.s.heap.size) RL code 12 c s κ (LW D cs x ad ad2 σ μ)) (hi : i + 4 ≤ L) (hv : Inv σ μ) (kk : ∀ (σ' μ' : Mem) (κ : Kx), Inv σ' μ' → KC κ0 (PL D cs x κ0.s.heap.size) RL code 12 c s κ (LW D cs x ad ad2 σ' μ') → Z κ (OW (PL D cs x κ0.s.heap.size) (LW D cs x ad ad2 σ' μ')) τ 908 (lvL b ad ad2 i) []) : Z κ (OW (PL D cs x κ0.s.heap.size) (LW D cs x ad ad2 σ μ)) τ 724 (lvL b ad ad2 i) [] := by
  obtain ⟨_, _, _, _, _, _, _, h⟩ := hv
  obtain ⟨d1, d2, Pc, Pm, q1, q2, hc, hm, hb⟩ := b_season (l := κ0.l) (g := gK D cs x ad) (g2 := gK D cs x ad2) h lc.2.1.1 lc.2.1.2 (xs (i + 1)) (xs (i + 2))
  refine z_aload_n kc.cx 1 dL_law_724 rfl rfl ?_
  refine k_arg lc kc 1 (by omega) rfl rfl ic_1 dL_law_725 dL_law_726 dL_law_727 dL_law_728 dL_law_729 ?_
  refine k_arg lc kc 2 (by omega) rfl rfl ic_2 dL_law_730 dL_law_731 dL_law_732 dL_law_733 dL_law_734 ?_
  refine l_callC lc kc vX7_season rfl kL_105 hc q1 rfl rfl (Nat.le_of_ble_eq_true rfl) dL_law_735 (fun v σ' κ hp kc => ?_)
  refine z_aload_n kc.cx 2 dL_law_738 rfl rfl ?_
  refine k_arg lc kc 1 (by omega) rfl rfl ic_1 dL_law_739 dL_law_740 dL_law_741 dL_law_742 dL_law_743 ?_
  refine k_arg lc kc 2 (by omega) rfl rfl ic_2 dL_law_744 dL_law_745 dL_law_746 dL_law_747 dL_law_748 ?_
  refine l_callM lc kc vX8_season rfl kL_108 hm q2 rfl rfl (Nat.le_of_ble_eq_true rfl) dL_law_749 (fun v2 μ' κ hp2 kc => ?_)
  obtain ⟨rfl, hi2⟩ := hb _ _ _ _ hp hp2
  exact z_icmp_eq (tgt := 908) kc.cx dL_law_752 (by decide) (fun _ => kk _ _ _ hi2 kc) (fun z => absurd rfl z)
set_option maxRecDepth 100000 in
set_option maxHeartbeats 4000000 in
theorem l_case23 {κ0 κ : Kx} {D : va_G} {cs : Cs} {x : Xs} {ad ad2 : Nat → Nat} {b L : Nat} {xs : Nat → Int32} {c s : Nat} {σ μ τ : Mem} {i : Nat} (lc : LC κ0 ad ad2 b L xs) (kc : KC κ0 (PL D cs x κ0.s.heap.size) RL code 12 c s κ (LW D cs x ad ad2 σ μ)) (hi : i + 4 ≤ L) (hv : Inv σ μ) (kk : ∀ (σ' μ' : Mem) (κ : Kx), Inv σ' μ' → KC κ0 (PL D cs x κ0.s.heap.size) RL code 12 c s κ (LW D cs x ad ad2 σ' μ') → Z κ (OW (PL D cs x κ0.s.heap.size) (LW D cs x ad ad2 σ' μ')) τ 908 (lvL b ad ad2 i) []) : Z κ (OW (PL D cs x κ0.s.heap.size) (LW D cs x ad ad2 σ μ)) τ 757 (lvL b ad ad2 i) [] := by
  obtain ⟨_, _, _, _, _, _, _, h⟩ := hv
  obtain ⟨d1, d2, Pc, Pm, q1, q2, hc, hm, hb⟩ := b_bright (l := κ0.l) (g := gK D cs x ad) (g2 := gK D cs x ad2) h lc.2.1.1 lc.2.1.2 (xs (i + 1)) (xs (i + 2))
  refine z_aload_n kc.cx 1 dL_law_757 rfl rfl ?_
  refine k_arg lc kc 1 (by omega) rfl rfl ic_1 dL_law_758 dL_law_759 dL_law_760 dL_law_761 dL_law_762 ?_
  refine k_arg lc kc 2 (by omega) rfl rfl ic_2 dL_law_763 dL_law_764 dL_law_765 dL_law_766 dL_law_767 ?_
  refine l_callC lc kc vX7_bright rfl kL_109 hc q1 rfl rfl (Nat.le_of_ble_eq_true rfl) dL_law_768 (fun v σ' κ hp kc => ?_)
  refine z_aload_n kc.cx 2 dL_law_771 rfl rfl ?_
  refine k_arg lc kc 1 (by omega) rfl rfl ic_1 dL_law_772 dL_law_773 dL_law_774 dL_law_775 dL_law_776 ?_
  refine k_arg lc kc 2 (by omega) rfl rfl ic_2 dL_law_777 dL_law_778 dL_law_779 dL_law_780 dL_law_781 ?_
  refine l_callM lc kc vX8_bright rfl kL_112 hm q2 rfl rfl (Nat.le_of_ble_eq_true rfl) dL_law_782 (fun v2 μ' κ hp2 kc => ?_)
  obtain ⟨rfl, hi2⟩ := hb _ _ _ _ hp hp2
  exact z_icmp_eq (tgt := 908) kc.cx dL_law_785 (by decide) (fun _ => kk _ _ _ hi2 kc) (fun z => absurd rfl z)
set_option maxRecDepth 100000 in
set_option maxHeartbeats 4000000 in
theorem l_case24 {κ0 κ : Kx} {D : va_G} {cs : Cs} {x : Xs} {ad ad2 : Nat → Nat} {b L : Nat} {xs : Nat → Int32} {c s : Nat} {σ μ τ : Mem} {i : Nat} (lc : LC κ0 ad ad2 b L xs) (kc : KC κ0 (PL D cs x κ0.s.heap.size) RL code 12 c s κ (LW D cs x ad ad2 σ μ)) (hi : i + 4 ≤ L) (hv : Inv σ μ) (kk : ∀ (σ' μ' : Mem) (κ : Kx), Inv σ' μ' → KC κ0 (PL D cs x κ0.s.heap.size) RL code 12 c s κ (LW D cs x ad ad2 σ' μ') → Z κ (OW (PL D cs x κ0.s.heap.size) (LW D cs x ad ad2 σ' μ')) τ 908 (lvL b ad ad2 i) []) : Z κ (OW (PL D cs x κ0.s.heap.size) (LW D cs x ad ad2 σ μ)) τ 790 (lvL b ad ad2 i) [] := by
  obtain ⟨_, _, _, _, _, _, _, h⟩ := hv
  obtain ⟨d1, d2, Pc, Pm, q1, q2, hc, hm, hb⟩ := b_score (l := κ0.l) (g := gK D cs x ad) (g2 := gK D cs x ad2) h lc.2.1.1 lc.2.1.2 (xs (i + 1))
  refine z_aload_n kc.cx 1 dL_law_790 rfl rfl ?_
  refine k_arg lc kc 1 (by omega) rfl rfl ic_1 dL_law_791 dL_law_792 dL_law_793 dL_law_794 dL_law_795 ?_
  refine l_callC lc kc vX7_score rfl kL_113 hc q1 rfl rfl (Nat.le_of_ble_eq_true rfl) dL_law_796 (fun v σ' κ hp kc => ?_)
  refine z_aload_n kc.cx 2 dL_law_799 rfl rfl ?_
  refine k_arg lc kc 1 (by omega) rfl rfl ic_1 dL_law_800 dL_law_801 dL_law_802 dL_law_803 dL_law_804 ?_
  refine l_callM lc kc vX8_score rfl kL_116 hm q2 rfl rfl (Nat.le_of_ble_eq_true rfl) dL_law_805 (fun v2 μ' κ hp2 kc => ?_)
  obtain ⟨rfl, hi2⟩ := hb _ _ _ _ hp hp2
  exact z_icmp_eq (tgt := 908) kc.cx dL_law_808 (by decide) (fun _ => kk _ _ _ hi2 kc) (fun z => absurd rfl z)
set_option maxRecDepth 100000 in
set_option maxHeartbeats 4000000 in
theorem l_case25 {κ0 κ : Kx} {D : va_G} {cs : Cs} {x : Xs} {ad ad2 : Nat → Nat} {b L : Nat} {xs : Nat → Int32} {c s : Nat} {σ μ τ : Mem} {i : Nat} (lc : LC κ0 ad ad2 b L xs) (kc : KC κ0 (PL D cs x κ0.s.heap.size) RL code 12 c s κ (LW D cs x ad ad2 σ μ)) (hi : i + 4 ≤ L) (hv : Inv σ μ) (kk : ∀ (σ' μ' : Mem) (κ : Kx), Inv σ' μ' → KC κ0 (PL D cs x κ0.s.heap.size) RL code 12 c s κ (LW D cs x ad ad2 σ' μ') → Z κ (OW (PL D cs x κ0.s.heap.size) (LW D cs x ad ad2 σ' μ')) τ 908 (lvL b ad ad2 i) []) : Z κ (OW (PL D cs x κ0.s.heap.size) (LW D cs x ad ad2 σ μ)) τ 813 (lvL b ad ad2 i) [] := by
  obtain ⟨_, _, _, _, _, _, _, h⟩ := hv
  obtain ⟨d1, d2, Pc, Pm, q1, q2, hc, hm, hb⟩ := b_best (l := κ0.l) (g := gK D cs x ad) (g2 := gK D cs x ad2) h lc.2.1.1 lc.2.1.2
  refine z_aload_n kc.cx 1 dL_law_813 rfl rfl ?_
  refine l_callC lc kc vX7_best rfl kL_117 hc q1 rfl rfl (Nat.le_of_ble_eq_true rfl) dL_law_814 (fun v σ' κ hp kc => ?_)
  refine z_aload_n kc.cx 2 dL_law_817 rfl rfl ?_
  refine l_callM lc kc vX8_best rfl kL_120 hm q2 rfl rfl (Nat.le_of_ble_eq_true rfl) dL_law_818 (fun v2 μ' κ hp2 kc => ?_)
  obtain ⟨rfl, hi2⟩ := hb _ _ _ _ hp hp2
  exact z_icmp_eq (tgt := 908) kc.cx dL_law_821 (by decide) (fun _ => kk _ _ _ hi2 kc) (fun z => absurd rfl z)
set_option maxRecDepth 100000 in
set_option maxHeartbeats 4000000 in
theorem l_case26 {κ0 κ : Kx} {D : va_G} {cs : Cs} {x : Xs} {ad ad2 : Nat → Nat} {b L : Nat} {xs : Nat → Int32} {c s : Nat} {σ μ τ : Mem} {i : Nat} (lc : LC κ0 ad ad2 b L xs) (kc : KC κ0 (PL D cs x κ0.s.heap.size) RL code 12 c s κ (LW D cs x ad ad2 σ μ)) (hi : i + 4 ≤ L) (hv : Inv σ μ) (kk : ∀ (σ' μ' : Mem) (κ : Kx), Inv σ' μ' → KC κ0 (PL D cs x κ0.s.heap.size) RL code 12 c s κ (LW D cs x ad ad2 σ' μ') → Z κ (OW (PL D cs x κ0.s.heap.size) (LW D cs x ad ad2 σ' μ')) τ 908 (lvL b ad ad2 i) []) : Z κ (OW (PL D cs x κ0.s.heap.size) (LW D cs x ad ad2 σ μ)) τ 826 (lvL b ad ad2 i) [] := by
  obtain ⟨_, _, _, _, _, _, _, h⟩ := hv
  obtain ⟨d1, d2, Pc, Pm, q1, q2, hc, hm, hb⟩ := b_seen (l := κ0.l) (g := gK D cs x ad) (g2 := gK D cs x ad2) h lc.2.1.1 lc.2.1.2 (xs (i + 1)) (xs (i + 2))
  refine z_aload_n kc.cx 1 dL_law_826 rfl rfl ?_
  refine k_arg lc kc 1 (by omega) rfl rfl ic_1 dL_law_827 dL_law_828 dL_law_829 dL_law_830 dL_law_831 ?_
  refine k_arg lc kc 2 (by omega) rfl rfl ic_2 dL_law_832 dL_law_833 dL_law_834 dL_law_835 dL_law_836 ?_
  refine l_callC lc kc vX7_seen rfl kL_121 hc q1 rfl rfl (Nat.le_of_ble_eq_true rfl) dL_law_837 (fun v σ' κ hp kc => ?_)
  refine z_aload_n kc.cx 2 dL_law_840 rfl rfl ?_
  refine k_arg lc kc 1 (by omega) rfl rfl ic_1 dL_law_841 dL_law_842 dL_law_843 dL_law_844 dL_law_845 ?_
  refine k_arg lc kc 2 (by omega) rfl rfl ic_2 dL_law_846 dL_law_847 dL_law_848 dL_law_849 dL_law_850 ?_
  refine l_callM lc kc vX8_seen rfl kL_124 hm q2 rfl rfl (Nat.le_of_ble_eq_true rfl) dL_law_851 (fun v2 μ' κ hp2 kc => ?_)
  obtain ⟨rfl, hi2⟩ := hb _ _ _ _ hp hp2
  exact z_icmp_eq (tgt := 908) kc.cx dL_law_854 (by decide) (fun _ => kk _ _ _ hi2 kc) (fun z => absurd rfl z)
set_option maxRecDepth 100000 in
set_option maxHeartbeats 4000000 in
theorem l_case27 {κ0 κ : Kx} {D : va_G} {cs : Cs} {x : Xs} {ad ad2 : Nat → Nat} {b L : Nat} {xs : Nat → Int32} {c s : Nat} {σ μ τ : Mem} {i : Nat} (lc : LC κ0 ad ad2 b L xs) (kc : KC κ0 (PL D cs x κ0.s.heap.size) RL code 12 c s κ (LW D cs x ad ad2 σ μ)) (hi : i + 4 ≤ L) (hv : Inv σ μ) (kk : ∀ (σ' μ' : Mem) (κ : Kx), Inv σ' μ' → KC κ0 (PL D cs x κ0.s.heap.size) RL code 12 c s κ (LW D cs x ad ad2 σ' μ') → Z κ (OW (PL D cs x κ0.s.heap.size) (LW D cs x ad ad2 σ' μ')) τ 908 (lvL b ad ad2 i) []) : Z κ (OW (PL D cs x κ0.s.heap.size) (LW D cs x ad ad2 σ μ)) τ 859 (lvL b ad ad2 i) [] := by
  obtain ⟨_, _, _, _, _, _, _, h⟩ := hv
  obtain ⟨d1, d2, Pc, Pm, q1, q2, hc, hm, hb⟩ := b_forget (l := κ0.l) (g := gK D cs x ad) (g2 := gK D cs x ad2) h lc.2.1.1 lc.2.1.2
  refine z_aload_n kc.cx 1 dL_law_859 rfl rfl ?_
  refine l_callC lc kc vX7_forget rfl kL_125 hc q1 rfl rfl (Nat.le_of_ble_eq_true rfl) dL_law_860 (fun v σ' κ hp kc => ?_)
  refine z_aload_n kc.cx 2 dL_law_863 rfl rfl ?_
  refine l_callM lc kc vX8_forget rfl kL_128 hm q2 rfl rfl (Nat.le_of_ble_eq_true rfl) dL_law_864 (fun v2 μ' κ hp2 kc => ?_)
  obtain ⟨rfl, hi2⟩ := hb _ _ _ _ hp hp2
  exact z_icmp_eq (tgt := 908) kc.cx dL_law_867 (by decide) (fun _ => kk _ _ _ hi2 kc) (fun z => absurd rfl z)
set_option maxRecDepth 100000 in
set_option maxHeartbeats 4000000 in
theorem l_case28 {κ0 κ : Kx} {D : va_G} {cs : Cs} {x : Xs} {ad ad2 : Nat → Nat} {b L : Nat} {xs : Nat → Int32} {c s : Nat} {σ μ τ : Mem} {i : Nat} (lc : LC κ0 ad ad2 b L xs) (kc : KC κ0 (PL D cs x κ0.s.heap.size) RL code 12 c s κ (LW D cs x ad ad2 σ μ)) (hi : i + 4 ≤ L) (hv : Inv σ μ) (kk : ∀ (σ' μ' : Mem) (κ : Kx), Inv σ' μ' → KC κ0 (PL D cs x κ0.s.heap.size) RL code 12 c s κ (LW D cs x ad ad2 σ' μ') → Z κ (OW (PL D cs x κ0.s.heap.size) (LW D cs x ad ad2 σ' μ')) τ 908 (lvL b ad ad2 i) []) : Z κ (OW (PL D cs x κ0.s.heap.size) (LW D cs x ad ad2 σ μ)) τ 872 (lvL b ad ad2 i) [] := by
  obtain ⟨_, _, _, _, _, _, _, h⟩ := hv
  obtain ⟨d1, d2, Pc, Pm, q1, q2, hc, hm, hb⟩ := b_buyers (l := κ0.l) (g := gK D cs x ad) (g2 := gK D cs x ad2) h lc.2.1.1 lc.2.1.2
  refine z_aload_n kc.cx 1 dL_law_872 rfl rfl ?_
  refine l_callC lc kc vX7_buyers rfl kL_129 hc q1 rfl rfl (Nat.le_of_ble_eq_true rfl) dL_law_873 (fun v σ' κ hp kc => ?_)
  refine z_aload_n kc.cx 2 dL_law_876 rfl rfl ?_
  refine l_callM lc kc vX8_buyers rfl kL_132 hm q2 rfl rfl (Nat.le_of_ble_eq_true rfl) dL_law_877 (fun v2 μ' κ hp2 kc => ?_)
  obtain ⟨rfl, hi2⟩ := hb _ _ _ _ hp hp2
  exact z_icmp_eq (tgt := 908) kc.cx dL_law_880 (by decide) (fun _ => kk _ _ _ hi2 kc) (fun z => absurd rfl z)
set_option maxRecDepth 100000 in
set_option maxHeartbeats 4000000 in
theorem l_case29 {κ0 κ : Kx} {D : va_G} {cs : Cs} {x : Xs} {ad ad2 : Nat → Nat} {b L : Nat} {xs : Nat → Int32} {c s : Nat} {σ μ τ : Mem} {i : Nat} (lc : LC κ0 ad ad2 b L xs) (kc : KC κ0 (PL D cs x κ0.s.heap.size) RL code 12 c s κ (LW D cs x ad ad2 σ μ)) (hi : i + 4 ≤ L) (hv : Inv σ μ) (kk : ∀ (σ' μ' : Mem) (κ : Kx), Inv σ' μ' → KC κ0 (PL D cs x κ0.s.heap.size) RL code 12 c s κ (LW D cs x ad ad2 σ' μ') → Z κ (OW (PL D cs x κ0.s.heap.size) (LW D cs x ad ad2 σ' μ')) τ 908 (lvL b ad ad2 i) []) : Z κ (OW (PL D cs x κ0.s.heap.size) (LW D cs x ad ad2 σ μ)) τ 885 (lvL b ad ad2 i) [] := by
  obtain ⟨_, _, _, _, _, _, _, h⟩ := hv
  obtain ⟨d1, d2, Pc, Pm, q1, q2, hc, hm, hb⟩ := b_count (l := κ0.l) (g := gK D cs x ad) (g2 := gK D cs x ad2) h lc.2.1.1 lc.2.1.2 (xs (i + 1))
  refine z_aload_n kc.cx 1 dL_law_885 rfl rfl ?_
  refine k_arg lc kc 1 (by omega) rfl rfl ic_1 dL_law_886 dL_law_887 dL_law_888 dL_law_889 dL_law_890 ?_
  refine l_callC lc kc vX7_count rfl kL_133 hc q1 rfl rfl (Nat.le_of_ble_eq_true rfl) dL_law_891 (fun v σ' κ hp kc => ?_)
  refine z_aload_n kc.cx 2 dL_law_894 rfl rfl ?_
  refine k_arg lc kc 1 (by omega) rfl rfl ic_1 dL_law_895 dL_law_896 dL_law_897 dL_law_898 dL_law_899 ?_
  refine l_callM lc kc vX8_count rfl kL_136 hm q2 rfl rfl (Nat.le_of_ble_eq_true rfl) dL_law_900 (fun v2 μ' κ hp2 kc => ?_)
  obtain ⟨rfl, hi2⟩ := hb _ _ _ _ hp hp2
  exact z_icmp_eq (tgt := 908) kc.cx dL_law_903 (by decide) (fun _ => kk _ _ _ hi2 kc) (fun z => absurd rfl z)
set_option maxRecDepth 100000 in
set_option maxHeartbeats 4000000 in
theorem law_step {κ0 κ : Kx} {D : va_G} {cs : Cs} {x : Xs} {ad ad2 : Nat → Nat} {b L : Nat} {xs : Nat → Int32} {c s : Nat} {σ μ τ : Mem} {i : Nat} (lc : LC κ0 ad ad2 b L xs) (kc : KC κ0 (PL D cs x κ0.s.heap.size) RL code 12 c s κ (LW D cs x ad ad2 σ μ)) (hi : i ≤ 4000) (hv : Inv σ μ) (hend : Z κ (OW (PL D cs x κ0.s.heap.size) (LW D cs x ad ad2 σ μ)) τ 914 (lvL b ad ad2 i) []) (kk : i + 4 ≤ L → ∀ (σ' μ' : Mem) (κ : Kx), Inv σ' μ' → KC κ0 (PL D cs x κ0.s.heap.size) RL code 12 c s κ (LW D cs x ad ad2 σ' μ') → Z κ (OW (PL D cs x κ0.s.heap.size) (LW D cs x ad ad2 σ' μ')) τ 18 (lvL b ad ad2 (i + 4)) []) : Z κ (OW (PL D cs x κ0.s.heap.size) (LW D cs x ad ad2 σ μ)) τ 18 (lvL b ad ad2 i) [] := by
  obtain ⟨hnL, -, -, -, hX, hbl, hL⟩ := id lc
  refine z_iload_n kc.cx 3 dL_law_18 rfl rfl ?_
  refine z_aload_n kc.cx 0 dL_law_19 rfl rfl ?_
  refine k_slen kc hX hbl (Nat.not_le.mpr hbl) dL_law_20 ?_
  refine z_iconst kc.cx dL_law_21 ic_4 ?_
  refine z_isub kc.cx dL_law_22 ?_
  refine z_icmp_gt (tgt := 914) kc.cx dL_law_23 (by decide) (fun _ => hend) (fun c_23 => ?_)
  have h4 : i + 4 ≤ L := gt_no hL (by omega) c_23
  refine z_aload_n kc.cx 0 dL_law_26 rfl rfl ?_
  refine z_iload_n kc.cx 3 dL_law_27 rfl rfl ?_
  refine k_sld kc hX hbl (Nat.not_le.mpr hbl) (vp_in_nI (by omega) (by omega)) dL_law_28 ?_
  refine z_bipush kc.cx dL_law_29 bi_31 ?_
  refine z_iand kc.cx dL_law_31 ?_
  have back : ∀ (σ' μ' : Mem) (κ : Kx), Inv σ' μ' → KC κ0 (PL D cs x κ0.s.heap.size) RL code 12 c s κ (LW D cs x ad ad2 σ' μ') → Z κ (OW (PL D cs x κ0.s.heap.size) (LW D cs x ad ad2 σ' μ')) τ 908 (lvL b ad ad2 i) [] := by
    intro σ' μ' κ hv kc
    refine z_iinc (v := nI (i + 4)) kc.cx dL_law_908 rfl ic_4 (nI_add i 4) (kc.nL.trans hnL) (by decide) rfl ?_
    refine z_goto (tgt := 18) kc.cx dL_law_911 (by decide) ?_
    exact kk h4 σ' μ' κ hv kc
  generalize xs (nI i).toNatClampNeg &&& 31 = y
  rcases tsw y (n := 29) (by decide) with hout | ⟨j, hj, rfl⟩
  · exact z_tableOut (tgt := 908) kc.cx dL_law_32 hout (by decide) (back σ μ κ hv kc)
  · rcases (show j = 0 ∨ j = 1 ∨ j = 2 ∨ j = 3 ∨ j = 4 ∨ j = 5 ∨ j = 6 ∨ j = 7 ∨ j = 8 ∨ j = 9 ∨ j = 10 ∨ j = 11 ∨ j = 12 ∨ j = 13 ∨ j = 14 ∨ j = 15 ∨ j = 16 ∨ j = 17 ∨ j = 18 ∨ j = 19 ∨ j = 20 ∨ j = 21 ∨ j = 22 ∨ j = 23 ∨ j = 24 ∨ j = 25 ∨ j = 26 ∨ j = 27 ∨ j = 28 ∨ j = 29 by omega) with rfl | rfl | rfl | rfl | rfl | rfl | rfl | rfl | rfl | rfl | rfl | rfl | rfl | rfl | rfl | rfl | rfl | rfl | rfl | rfl | rfl | rfl | rfl | rfl | rfl | rfl | rfl | rfl | rfl | rfl
    · exact z_tableIn (off := 136) (tgt := 168) kc.cx dL_law_32 (by decide) (by decide) (by decide) (by decide) (l_case0 lc kc h4 hv back)
    · exact z_tableIn (off := 159) (tgt := 191) kc.cx dL_law_32 (by decide) (by decide) (by decide) (by decide) (l_case1 lc kc h4 hv back)
    · exact z_tableIn (off := 172) (tgt := 204) kc.cx dL_law_32 (by decide) (by decide) (by decide) (by decide) (l_case2 lc kc h4 hv back)
    · exact z_tableIn (off := 185) (tgt := 217) kc.cx dL_law_32 (by decide) (by decide) (by decide) (by decide) (l_case3 lc kc h4 hv back)
    · exact z_tableIn (off := 198) (tgt := 230) kc.cx dL_law_32 (by decide) (by decide) (by decide) (by decide) (l_case4 lc kc h4 hv back)
    · exact z_tableIn (off := 231) (tgt := 263) kc.cx dL_law_32 (by decide) (by decide) (by decide) (by decide) (l_case5 lc kc h4 hv back)
    · exact z_tableIn (off := 264) (tgt := 296) kc.cx dL_law_32 (by decide) (by decide) (by decide) (by decide) (l_case6 lc kc h4 hv back)
    · exact z_tableIn (off := 297) (tgt := 329) kc.cx dL_law_32 (by decide) (by decide) (by decide) (by decide) (l_case7 lc kc h4 hv back)
    · exact z_tableIn (off := 330) (tgt := 362) kc.cx dL_law_32 (by decide) (by decide) (by decide) (by decide) (l_case8 lc kc h4 hv back)
    · exact z_tableIn (off := 363) (tgt := 395) kc.cx dL_law_32 (by decide) (by decide) (by decide) (by decide) (l_case9 lc kc h4 hv back)
    · exact z_tableIn (off := 386) (tgt := 418) kc.cx dL_law_32 (by decide) (by decide) (by decide) (by decide) (l_case10 lc kc h4 hv back)
    · exact z_tableIn (off := 419) (tgt := 451) kc.cx dL_law_32 (by decide) (by decide) (by decide) (by decide) (l_case11 lc kc h4 hv back)
    · exact z_tableIn (off := 462) (tgt := 494) kc.cx dL_law_32 (by decide) (by decide) (by decide) (by decide) (l_case12 lc kc h4 hv back)
    · exact z_tableIn (off := 475) (tgt := 507) kc.cx dL_law_32 (by decide) (by decide) (by decide) (by decide) (l_case13 lc kc h4 hv back)
    · exact z_tableIn (off := 498) (tgt := 530) kc.cx dL_law_32 (by decide) (by decide) (by decide) (by decide) (l_case14 lc kc h4 hv back)
    · exact z_tableIn (off := 521) (tgt := 553) kc.cx dL_law_32 (by decide) (by decide) (by decide) (by decide) (l_case15 lc kc h4 hv back)
    · exact z_tableIn (off := 564) (tgt := 596) kc.cx dL_law_32 (by decide) (by decide) (by decide) (by decide) (l_case16 lc kc h4 hv back)
    · exact z_tableIn (off := 587) (tgt := 619) kc.cx dL_law_32 (by decide) (by decide) (by decide) (by decide) (l_case17 lc kc h4 hv back)
    · exact z_tableIn (off := 610) (tgt := 642) kc.cx dL_law_32 (by decide) (by decide) (by decide) (by decide) (l_case18 lc kc h4 hv back)
    · exact z_tableIn (off := 643) (tgt := 675) kc.cx dL_law_32 (by decide) (by decide) (by decide) (by decide) (l_case19 lc kc h4 hv back)
    · exact z_tableIn (off := 656) (tgt := 688) kc.cx dL_law_32 (by decide) (by decide) (by decide) (by decide) (l_case20 lc kc h4 hv back)
    · exact z_tableIn (off := 679) (tgt := 711) kc.cx dL_law_32 (by decide) (by decide) (by decide) (by decide) (l_case21 lc kc h4 hv back)
    · exact z_tableIn (off := 692) (tgt := 724) kc.cx dL_law_32 (by decide) (by decide) (by decide) (by decide) (l_case22 lc kc h4 hv back)
    · exact z_tableIn (off := 725) (tgt := 757) kc.cx dL_law_32 (by decide) (by decide) (by decide) (by decide) (l_case23 lc kc h4 hv back)
    · exact z_tableIn (off := 758) (tgt := 790) kc.cx dL_law_32 (by decide) (by decide) (by decide) (by decide) (l_case24 lc kc h4 hv back)
    · exact z_tableIn (off := 781) (tgt := 813) kc.cx dL_law_32 (by decide) (by decide) (by decide) (by decide) (l_case25 lc kc h4 hv back)
    · exact z_tableIn (off := 794) (tgt := 826) kc.cx dL_law_32 (by decide) (by decide) (by decide) (by decide) (l_case26 lc kc h4 hv back)
    · exact z_tableIn (off := 827) (tgt := 859) kc.cx dL_law_32 (by decide) (by decide) (by decide) (by decide) (l_case27 lc kc h4 hv back)
    · exact z_tableIn (off := 840) (tgt := 872) kc.cx dL_law_32 (by decide) (by decide) (by decide) (by decide) (l_case28 lc kc h4 hv back)
    · exact z_tableIn (off := 853) (tgt := 885) kc.cx dL_law_32 (by decide) (by decide) (by decide) (by decide) (l_case29 lc kc h4 hv back)
theorem law_loop {κ0 : Kx} {D : va_G} {cs : Cs} {x : Xs} {ad ad2 : Nat → Nat} {b L : Nat} {xs : Nat → Int32} {c s : Nat} {τ : Mem} (lc : LC κ0 ad ad2 b L xs) (hend : ∀ (σ μ : Mem) (κ : Kx) (i : Nat), KC κ0 (PL D cs x κ0.s.heap.size) RL code 12 c s κ (LW D cs x ad ad2 σ μ) → Z κ (OW (PL D cs x κ0.s.heap.size) (LW D cs x ad ad2 σ μ)) τ 914 (lvL b ad ad2 i) []) : ∀ (n i : Nat) (σ μ : Mem) (κ : Kx), i ≤ 4000 → L ≤ i + 4 * n → Inv σ μ → KC κ0 (PL D cs x κ0.s.heap.size) RL code 12 c s κ (LW D cs x ad ad2 σ μ) → Z κ (OW (PL D cs x κ0.s.heap.size) (LW D cs x ad ad2 σ μ)) τ 18 (lvL b ad ad2 i) []
  | 0, i, σ, μ, κ, h1, h2, hv, kc => law_step lc kc h1 hv (hend σ μ κ i kc) (fun h4 => absurd h4 (by omega))
  | n + 1, i, σ, μ, κ, h1, h2, hv, kc => law_step lc kc h1 hv (hend σ μ κ i kc) (fun h4 σ' μ' κ' hv' kc' => law_loop lc hend n (i + 4) σ' μ' κ' (by have := lc.2.2.2.2.2.2; omega) (by omega) hv' kc')
