/-! THE FLAT WORLD. After the constructors the cells are fixed; a memory says what each holds (cell, place). Om: the world's tables, its cells by the memory, its addresses, what is said of statics. Z: the judgement W over such a world, its heap hidden. -/
abbrev Mem : Type := Nat → Nat → Int32
abbrev Om : Type := va_G × List (ClassId × FieldType) × (Mem → va_W) × (Nat → Prop) × (State → Prop)
abbrev Om.D (O : Om) : va_G := O.1
abbrev Om.tys (O : Om) : List (ClassId × FieldType) := O.2.1
abbrev Om.wd (O : Om) : Mem → va_W := O.2.2.1
abbrev Om.A (O : Om) : Nat → Prop := O.2.2.2.1
abbrev Om.SF (O : Om) : State → Prop := O.2.2.2.2
def StOk (O : Om) : Prop := ∀ s U : State, s.WarmedH U.vm → s.heap.size ≤ U.heap.size → (∀ q : Nat, q < s.heap.size → ¬ O.A q → U.heap[q]? = s.heap[q]?) → O.SF s → O.SF U
def OkOm (O : Om) : Prop := (∀ σ : Mem, va_D O.A (O.wd σ)) ∧ StOk O
def upA (σ : Mem) (i : Nat) (f : Nat → Int32) : Mem := fun a => if a = i then f else σ a
def up2 (σ : Mem) (i k : Nat) (v : Int32) : Mem := upA σ i (upd (σ i) k v)
def bI (b : Bool) : Int32 := if b then 1 else 0
theorem bI_eq0 {b : Bool} : bI b = 0 ↔ b = false := by cases b <;> simp [bI]
theorem bI_t : bI true = 1 := rfl
theorem bI_f : bI false = 0 := rfl
def tb : List Cond := lw_tbl.filter goodWord
theorem tb_in {i : Nat} {w : Cond} (h : lw_tbl[i]? = some w) (hg : goodWord w = true) : w ∈ tb := List.mem_filter.mpr ⟨List.mem_of_getElem? h, hg⟩
theorem tb_ok {w : Cond} (h : w ∈ tb) : (w.onTables && w.keeps) = true ∨ ∃ ty, w = .arrayClass ty := good_of_word (List.mem_filter.mp h).2
theorem tb_good {ws : List Cond} (h : ∀ w ∈ ws, w ∈ tb) : GoodIn tb ws := fun w hw => ⟨h w hw, tb_ok (h w hw)⟩
abbrev Md : Type := MethodName × ByteArray × Nat × Option FieldType
abbrev Md.ws (μ : Md) : List Cond := Cond.code μ.1 μ.2.1 μ.2.2.1 μ.2.2.2 :: tb
def rmd (d : Nat) : Room := { frames := d, cells := 0, slots := 0, locals := 36 * d }
def Pre (O : Om) (σ : Mem) (U : State) : Prop := va_P O.D vwCl (O.wd σ) U.heap ∧ va_K O.D vwCl O.tys U ∧ O.SF U
def Qct (O : Om) (Po : Option Value → Mem → Prop) : Array Value → State → Outcome → State → Prop := fun _ st oc t => (∃ (r : Option Value) (σ' : Mem), Po r σ' ∧ oc = .returned r ∧ va_P O.D vwCl (O.wd σ') t.heap) ∧ va_F O.A st t
/-- the contract: from the memory σ with these arguments the method answers r and leaves σ' with Po r σ' -/
def CtR (l : Launch) (O : Om) (d : Nat) (μ : Md) (as : List Value) (σ : Mem) (Po : Option Value → Mem → Prop) : Prop :=
  Met l μ.1 μ.ws (rmd d) (va_Pc as (Pre O σ)) (Qct O Po) 0 0 O.A
abbrev Ct (l : Launch) (O : Om) (d : Nat) (μ : Md) (as : List Value) (σ : Mem) (r : Option Value) (σ' : Mem) : Prop := CtR l O d μ as σ (fun r2 s2 => r2 = r ∧ s2 = σ')
abbrev CtI (l : Launch) (O : Om) (d : Nat) (μ : Md) (as : List Value) (σ : Mem) (Po : Int32 → Mem → Prop) : Prop := CtR l O d μ as σ (fun r2 s2 => ∃ v : Int32, r2 = some (.int v) ∧ Po v s2)
abbrev CtV (l : Launch) (O : Om) (d : Nat) (μ : Md) (as : List Value) (σ : Mem) (Po : Mem → Prop) : Prop := CtR l O d μ as σ (fun r2 s2 => r2 = none ∧ Po s2)
/-- what stays the same in a method's body -/
abbrev Kx : Type := Program × Launch × Env × Room × State × MethodId × Array Value × List Frame × Method × Code × Nat × Nat × (State → Prop) × Nat
abbrev Kx.p (κ : Kx) : Program := κ.1
abbrev Kx.l (κ : Kx) : Launch := κ.2.1
abbrev Kx.e (κ : Kx) : Env := κ.2.2.1
abbrev Kx.R (κ : Kx) : Room := κ.2.2.2.1
abbrev Kx.s (κ : Kx) : State := κ.2.2.2.2.1
abbrev Kx.m (κ : Kx) : MethodId := κ.2.2.2.2.2.1
abbrev Kx.args (κ : Kx) : Array Value := κ.2.2.2.2.2.2.1
abbrev Kx.below (κ : Kx) : List Frame := κ.2.2.2.2.2.2.2.1
abbrev Kx.meth (κ : Kx) : Method := κ.2.2.2.2.2.2.2.2.1
abbrev Kx.c (κ : Kx) : Code := κ.2.2.2.2.2.2.2.2.2.1
abbrev Kx.ce (κ : Kx) : Nat := κ.2.2.2.2.2.2.2.2.2.2.1
abbrev Kx.sl (κ : Kx) : Nat := κ.2.2.2.2.2.2.2.2.2.2.2.1
abbrev Kx.Q (κ : Kx) : State → Prop := κ.2.2.2.2.2.2.2.2.2.2.2.2.1
abbrev Kx.nL (κ : Kx) : Nat := κ.2.2.2.2.2.2.2.2.2.2.2.2.2
/-- the locals by their places; none: not known -/
def lvh (ls : Array Slot) (nL : Nat) (lv : List (Option Value)) : Prop := ls.size = nL ∧ lv_wf ls ∧ ∀ (i : Nat) (v : Value), lv[i]? = some (some v) → ls[i]? = some (.val v)
def Z (κ : Kx) (O : Om) (σ : Mem) (pc : Nat) (lv : List (Option Value)) (st : List Value) : Prop :=
  ∀ (H : Heap) (locs : List Loc) (ls : Array Slot), va_P O.D vwCl (O.wd σ) H → va_S O.A κ.s.heap H locs → lvh ls κ.nL lv → W κ.p κ.l κ.e κ.R κ.s κ.m κ.args κ.below κ.meth κ.c H locs κ.ce κ.sl κ.Q (F0 κ.m pc ls st)
def Cx (κ : Kx) (O : Om) (own : String) (cc : ByteArray) (d : Nat) : Prop :=
  κ.p.tables.exec = Jvm.exec ∧ κ.c.code = cc ∧ κ.c.maxLocals = κ.nL ∧ κ.s.vm.findClass own = some κ.m.cls ∧ (∀ w ∈ tb, w.before κ.args κ.s = true) ∧ va_K O.D vwCl O.tys κ.s ∧ OkOm O ∧ O.SF κ.s ∧ d ≤ κ.R.frames ∧ 36 * d ≤ κ.R.locals ∧ κ.ce ≤ κ.R.cells ∧ κ.sl ≤ κ.R.slots
/-- what the method's end is -/
def Rt (κ : Kx) (O : Om) (ret : Option FieldType) (Po : Option Value → Mem → Prop) : Prop :=
  κ.Q = MQ κ.below (Qct O Po) κ.args κ.s κ.ce κ.sl O.A ∧ κ.meth.locks = false ∧ κ.meth.sig.returnType = ret
theorem lvh_args {ls : Array Slot} {n : Nat} : ∀ (as : List Value) (k : Nat), (∀ v ∈ as, v.category = 1) → (∀ q ∈ lv_args k as, ls[q.1]? = some (.val q.2)) → ∀ (i : Nat) (v : Value), as[i]? = some v → ls[k + i]? = some (.val v)
  | [], _, _, _, i, v, h => by simp at h
  | a :: as, k, hc, hl, i, v, h => by
    have h1 : ¬ a.category = 2 := by have := hc a List.mem_cons_self; omega
    cases i with
    | zero => simp at h; subst h; exact hl (k, a) (by simp [lv_args])
    | succ i =>
      have h2 := lvh_args (n := n) as (k + 1) (fun v hv => hc v (List.mem_cons_of_mem _ hv)) (fun q hq => hl q (by simp only [lv_args, if_neg h1]; exact List.mem_cons_of_mem _ hq)) i v (by simpa using h)
      rw [show k + (i + 1) = k + 1 + i by omega]; exact h2
def okA (as : List Value) : Bool := as.all (fun v => v.category == 1)
theorem lvh_entry {ls : Array Slot} {n : Nat} {as : List Value} (h : lv_has ls n (lv_args 0 as)) (hc : okA as = true) (k : Nat) : lvh ls n (as.map some ++ List.replicate k none) := by
  refine ⟨h.1, h.2.1, fun i v hi => ?_⟩
  have hc' : ∀ v ∈ as, v.category = 1 := fun v hv => by simpa using List.all_eq_true.mp hc v hv
  rcases Nat.lt_or_ge i as.length with q | q
  · rw [List.getElem?_append_left (by simpa using q)] at hi
    rw [List.getElem?_map] at hi
    cases e : as[i]? with
    | none => rw [e] at hi; cases hi
    | some w =>
      rw [e] at hi
      have hwv : w = v := Option.some.inj (Option.some.inj hi)
      have := lvh_args (n := n) as 0 hc' h.2.2 i v (by rw [e, hwv])
      simpa using this
  · rw [List.getElem?_append_right (by simpa using q), List.getElem?_replicate] at hi
    split at hi <;> cases hi
/-- a method's contract out of its body -/
theorem ct_of {l : Launch} {O : Om} {d : Nat} {μ : Md} {as : List Value} {σ : Mem} {Po : Option Value → Mem → Prop} {lv : List (Option Value)} (hO : OkOm O) (hy : plainName μ.1.cls = true) (hn : (lg_sl as).length ≤ μ.2.2.1) (hlv : ∀ ls : Array Slot, lv_has ls μ.2.2.1 (lv_args 0 as) → lvh ls μ.2.2.1 lv)
    (h : ∀ κ : Kx, κ.l = l → κ.nL = μ.2.2.1 → Cx κ O μ.1.cls μ.2.1 d → Rt κ O μ.2.2.2 Po → Z κ O σ 0 lv []) : CtR l O d μ as σ Po := by
  refine Met.ofW (cc := μ.2.1) (maxL := μ.2.2.1) (ret := μ.2.2.2) hy rfl ?_
  intro p e s m args below meth c s₁ B hml hv
  obtain ⟨rfl, hP, hK, hF⟩ := hv
  have hts := atoms_spec (ws := μ.ws) B.pre
  have hown : s.vm.findClass μ.1.cls = some m.cls := findClass_of_methodNamed B.named
  have hl := lv_entry as (n := μ.2.2.1) hn
  rw [lg_entry_eq]
  generalize (lg_sl as ++ List.replicate (μ.2.2.1 - (lg_sl as).length) Slot.unset).toArray = ls at hl ⊢
  exact h (p, l, e, (headSpec μ.ws (rmd d)).room, s, m, as.toArray, below, meth, c, 0, 0, MQ below (Qct O Po) as.toArray s 0 0 O.A, μ.2.2.1) rfl rfl
    ⟨B.exec, B.bytes, hml, hown, fun w hw => hts w (List.mem_cons_of_mem _ hw), hK, hO, hF, Nat.le_refl _, Nat.le_refl _, Nat.zero_le _, Nat.zero_le _⟩
    ⟨rfl, B.notSynchronized, B.returns⟩ s.heap [] ls hP va_S.rf (hlv ls hl)
section ZR
variable {κ : Kx} {O : Om} {own : String} {cc : ByteArray} {d : Nat} {σ σ' : Mem} {pc : Nat} {lv : List (Option Value)} {rest : List Value}
/-- fewer locals known -/
theorem z_sub {lv' : List (Option Value)} (h : ∀ (i : Nat) (v : Value), lv'[i]? = some (some v) → lv[i]? = some (some v)) (k : Z κ O σ pc lv' rest) : Z κ O σ pc lv rest :=
  fun H locs ls hP hS hl => k H locs ls hP hS ⟨hl.1, hl.2.1, fun i v hi => hl.2.2 i v (h i v hi)⟩
theorem z_eq {σ2 : Mem} {lv2 : List (Option Value)} {st2 : List Value} (h1 : σ = σ2) (h2 : lv = lv2) (h3 : rest = st2) (k : Z κ O σ2 pc lv2 st2) : Z κ O σ pc lv rest := by subst h1; subst h2; subst h3; exact k
theorem z_topi {x : Int32} (k : ∀ y : Int32, y = x → Z κ O σ pc lv (.int y :: rest)) : Z κ O σ pc lv (.int x :: rest) := k x rfl
theorem z_topl {x : Int64} (k : ∀ y : Int64, y = x → Z κ O σ pc lv (.long y :: rest)) : Z κ O σ pc lv (.long x :: rest) := k x rfl
theorem z_iconst (cx : Cx κ O own cc d) {n : Int} {v : Int32} (hd : decode cc pc = .ok (.iconst n, 1)) (hv : Int32.ofInt n = v) (k : Z κ O σ (pc + 1) lv (.int v :: rest)) : Z κ O σ pc lv rest := fun H locs ls hP hS hl => lv_iconst cx.1 cx.2.1 hd hv (k H locs ls hP hS hl)
theorem z_bipush (cx : Cx κ O own cc d) {n : Int} {v : Int32} (hd : decode cc pc = .ok (.bipush n, 2)) (hv : (Int8.ofInt n).toInt32 = v) (k : Z κ O σ (pc + 2) lv (.int v :: rest)) : Z κ O σ pc lv rest := fun H locs ls hP hS hl => lv_bipush cx.1 cx.2.1 hd hv (k H locs ls hP hS hl)
theorem z_sipush (cx : Cx κ O own cc d) {n : Int} {v : Int32} (hd : decode cc pc = .ok (.sipush n, 3)) (hv : (Int16.ofInt n).toInt32 = v) (k : Z κ O σ (pc + 3) lv (.int v :: rest)) : Z κ O σ pc lv rest := fun H locs ls hP hS hl => lv_sipush cx.1 cx.2.1 hd hv (k H locs ls hP hS hl)
theorem z_lconst (cx : Cx κ O own cc d) {n : Fin 2} {v : Int64} (hd : decode cc pc = .ok (.lconst n, 1)) (hv : Int64.ofNat (n : Nat) = v) (k : Z κ O σ (pc + 1) lv (.long v :: rest)) : Z κ O σ pc lv rest := fun H locs ls hP hS hl => lv_lconst cx.1 cx.2.1 hd hv (k H locs ls hP hS hl)
theorem z_ldc (cx : Cx κ O own cc d) {i : Nat} {v : Int32} (hw : Jvm.Cond.constant own i v ∈ tb) (hd : decode cc pc = .ok (.ldc i, 2)) (k : Z κ O σ (pc + 2) lv (.int v :: rest)) : Z κ O σ pc lv rest := fun H locs ls hP hS hl => lv_ldc cx.1 cx.2.1 cx.2.2.2.1 (cx.2.2.2.2.1 _ hw) hd (k H locs ls hP hS hl)
theorem z_ldcw (cx : Cx κ O own cc d) {i : Nat} {v : Int32} (hw : Jvm.Cond.constant own i v ∈ tb) (hd : decode cc pc = .ok (.ldc_w i, 3)) (k : Z κ O σ (pc + 3) lv (.int v :: rest)) : Z κ O σ pc lv rest := fun H locs ls hP hS hl => lv_ldcw cx.1 cx.2.1 cx.2.2.2.1 (cx.2.2.2.2.1 _ hw) hd (k H locs ls hP hS hl)
theorem z_ldc2 (cx : Cx κ O own cc d) {i : Nat} {v : Int64} (hw : Jvm.Cond.constantLong own i v ∈ tb) (hd : decode cc pc = .ok (.ldc2_w i, 3)) (k : Z κ O σ (pc + 3) lv (.long v :: rest)) : Z κ O σ pc lv rest := fun H locs ls hP hS hl => lv_ldc2 cx.1 cx.2.1 cx.2.2.2.1 (cx.2.2.2.2.1 _ hw) hd (k H locs ls hP hS hl)
theorem z_iload_n (cx : Cx κ O own cc d) {j : Fin 4} {x : Int32} (i : Nat) (hd : decode cc pc = .ok (.iload_n j, 1)) (hi : (j : Nat) = i) (hl : lv[i]? = some (some (.int x))) (k : Z κ O σ (pc + 1) lv (.int x :: rest)) : Z κ O σ pc lv rest := fun H locs ls hP hS h => lv_iload_n cx.1 cx.2.1 hd hi (h.2.2 _ _ hl) (k H locs ls hP hS h)
theorem z_iload (cx : Cx κ O own cc d) {j : Nat} {x : Int32} (hd : decode cc pc = .ok (.iload j, 2)) (hl : lv[j]? = some (some (.int x))) (k : Z κ O σ (pc + 2) lv (.int x :: rest)) : Z κ O σ pc lv rest := fun H locs ls hP hS h => lv_iload cx.1 cx.2.1 hd (h.2.2 _ _ hl) (k H locs ls hP hS h)
theorem z_lload_n (cx : Cx κ O own cc d) {j : Fin 4} {x : Int64} (i : Nat) (hd : decode cc pc = .ok (.lload_n j, 1)) (hi : (j : Nat) = i) (hl : lv[i]? = some (some (.long x))) (k : Z κ O σ (pc + 1) lv (.long x :: rest)) : Z κ O σ pc lv rest := fun H locs ls hP hS h => lv_lload_n cx.1 cx.2.1 hd hi (h.2.2 _ _ hl) (k H locs ls hP hS h)
theorem z_lload (cx : Cx κ O own cc d) {j : Nat} {x : Int64} (hd : decode cc pc = .ok (.lload j, 2)) (hl : lv[j]? = some (some (.long x))) (k : Z κ O σ (pc + 2) lv (.long x :: rest)) : Z κ O σ pc lv rest := fun H locs ls hP hS h => lv_lload cx.1 cx.2.1 hd (h.2.2 _ _ hl) (k H locs ls hP hS h)
theorem z_aload_n (cx : Cx κ O own cc d) {j : Fin 4} {x : Nat} (i : Nat) (hd : decode cc pc = .ok (.aload_n j, 1)) (hi : (j : Nat) = i) (hl : lv[i]? = some (some (.ref x))) (k : Z κ O σ (pc + 1) lv (.ref x :: rest)) : Z κ O σ pc lv rest := fun H locs ls hP hS h => lv_aload_n cx.1 cx.2.1 hd hi (h.2.2 _ _ hl) (k H locs ls hP hS h)
theorem z_aload (cx : Cx κ O own cc d) {j : Nat} {x : Nat} (hd : decode cc pc = .ok (.aload j, 2)) (hl : lv[j]? = some (some (.ref x))) (k : Z κ O σ (pc + 2) lv (.ref x :: rest)) : Z κ O σ pc lv rest := fun H locs ls hP hS h => lv_aload cx.1 cx.2.1 hd (h.2.2 _ _ hl) (k H locs ls hP hS h)
/-- no long stands right before place i -/
def okS (lv : List (Option Value)) (i : Nat) : Bool := match i with
  | 0 => true
  | i + 1 => match lv[i]? with
    | some (some (.long _)) => false
    | some (some (.double _)) => false
    | _ => true
theorem okS_ne {lv : List (Option Value)} {i j : Nat} {v : Value} (h : okS lv i = true) (hj : j + 1 = i) (hv : lv[j]? = some (some v)) : ¬ v.category = 2 := by
  subst hj
  intro hc
  simp only [okS, hv] at h
  cases v <;> simp [Value.category] at hc <;> simp at h
def lv_as (lv : List (Option Value)) : List (Nat × Value) := (List.range lv.length).filterMap (fun i => match lv[i]? with | some (some v) => some (i, v) | _ => none)
theorem lv_as_mem {lv : List (Option Value)} {i : Nat} {v : Value} : (i, v) ∈ lv_as lv ↔ lv[i]? = some (some v) := by
  unfold lv_as
  rw [List.mem_filterMap]
  constructor
  · rintro ⟨j, hj, h⟩
    split at h
    · rename_i w hw; cases h; exact hw
    · cases h
  · intro h
    refine ⟨i, List.mem_range.mpr (List.getElem?_eq_some_iff.mp h).1, ?_⟩
    rw [h]
theorem lvh_as {ls : Array Slot} {nL : Nat} {lv : List (Option Value)} (h : lvh ls nL lv) : lv_has ls nL (lv_as lv) := ⟨h.1, h.2.1, fun q hq => h.2.2 q.1 q.2 (lv_as_mem.mp hq)⟩
theorem lvh_st1 {ls' : Array Slot} {nL : Nat} {lv : List (Option Value)} {i : Nat} {v : Value} (h : lv_has ls' nL ((i, v) :: (lv_as lv).filter (fun q => !(q.1 == i) && !(q.1 + 1 == i && q.2.category == 2)))) (hk : okS lv i = true) : lvh ls' nL (lv.set i (some v)) := by
  refine ⟨h.1, h.2.1, fun j w hj => ?_⟩
  by_cases e : j = i
  · subst e
    have : w = v := by
      rw [List.getElem?_set] at hj
      split at hj
      · split at hj <;> simp at hj; exact hj.symm
      · rename_i q; exact absurd rfl q
    subst this
    exact h.2.2 (j, w) List.mem_cons_self
  · rw [List.getElem?_set_ne (fun q => e q.symm)] at hj
    refine h.2.2 (j, w) (List.mem_cons_of_mem _ (List.mem_filter.mpr ⟨lv_as_mem.mpr hj, ?_⟩))
    have h2 : ¬ (j + 1 = i ∧ w.category = 2) := fun q => okS_ne hk q.1 hj q.2
    simp only [Bool.and_eq_true, Bool.not_eq_true', beq_eq_false_iff_ne, Bool.and_eq_false_iff]
    refine ⟨e, ?_⟩
    by_cases q : j + 1 = i
    · exact Or.inr (fun z => h2 ⟨q, z⟩)
    · exact Or.inl q
theorem lvh_st2 {ls' : Array Slot} {nL : Nat} {lv : List (Option Value)} {i : Nat} {v : Value} (h : lv_has ls' nL ((i, v) :: (lv_as lv).filter (fun q => !(q.1 == i) && (!(q.1 == i + 1) && !(q.1 + 1 == i && q.2.category == 2))))) (hk : okS lv i = true) : lvh ls' nL ((lv.set i (some v)).set (i + 1) none) := by
  refine ⟨h.1, h.2.1, fun j w hj => ?_⟩
  by_cases e2 : j = i + 1
  · subst e2
    rw [List.getElem?_set] at hj
    split at hj
    · split at hj <;> simp at hj
    · rename_i q; exact absurd rfl q
  rw [List.getElem?_set_ne (fun q => e2 q.symm)] at hj
  by_cases e : j = i
  · subst e
    have : w = v := by
      rw [List.getElem?_set] at hj
      split at hj
      · split at hj <;> simp at hj; exact hj.symm
      · rename_i q; exact absurd rfl q
    subst this
    exact h.2.2 (j, w) List.mem_cons_self
  · rw [List.getElem?_set_ne (fun q => e q.symm)] at hj
    refine h.2.2 (j, w) (List.mem_cons_of_mem _ (List.mem_filter.mpr ⟨lv_as_mem.mpr hj, ?_⟩))
    have h2 : ¬ (j + 1 = i ∧ w.category = 2) := fun q => okS_ne hk q.1 hj q.2
    simp only [Bool.and_eq_true, Bool.not_eq_true', beq_eq_false_iff_ne, Bool.and_eq_false_iff]
    refine ⟨e, e2, ?_⟩
    by_cases q : j + 1 = i
    · exact Or.inr (fun z => h2 ⟨q, z⟩)
    · exact Or.inl q
theorem z_istore_n (cx : Cx κ O own cc d) {j : Fin 4} {x : Int32} (i : Nat) (hd : decode cc pc = .ok (.istore_n j, 1)) (hi : (j : Nat) = i) {n : Nat} (hL : κ.nL = n) (hn : i < n) (ho : okS lv i = true) (k : Z κ O σ (pc + 1) (lv.set i (some (.int x))) rest) : Z κ O σ pc lv (.int x :: rest) := fun H locs ls hP hS h => lv_istore_n cx.1 cx.2.1 hd hi (lvh_as h) (hL ▸ hn) rfl (fun ls' h' => k H locs ls' hP hS (lvh_st1 h' ho))
theorem z_istore (cx : Cx κ O own cc d) {j : Nat} {x : Int32} (hd : decode cc pc = .ok (.istore j, 2)) {n : Nat} (hL : κ.nL = n) (hn : j < n) (ho : okS lv j = true) (k : Z κ O σ (pc + 2) (lv.set j (some (.int x))) rest) : Z κ O σ pc lv (.int x :: rest) := fun H locs ls hP hS h => lv_istore cx.1 cx.2.1 hd (lvh_as h) (hL ▸ hn) rfl (fun ls' h' => k H locs ls' hP hS (lvh_st1 h' ho))
theorem z_astore_n (cx : Cx κ O own cc d) {j : Fin 4} {x : Nat} (i : Nat) (hd : decode cc pc = .ok (.astore_n j, 1)) (hi : (j : Nat) = i) {n : Nat} (hL : κ.nL = n) (hn : i < n) (ho : okS lv i = true) (k : Z κ O σ (pc + 1) (lv.set i (some (.ref x))) rest) : Z κ O σ pc lv (.ref x :: rest) := fun H locs ls hP hS h => lv_astore_n cx.1 cx.2.1 hd hi (lvh_as h) (hL ▸ hn) rfl (fun ls' h' => k H locs ls' hP hS (lvh_st1 h' ho))
theorem z_astore (cx : Cx κ O own cc d) {j : Nat} {x : Nat} (hd : decode cc pc = .ok (.astore j, 2)) {n : Nat} (hL : κ.nL = n) (hn : j < n) (ho : okS lv j = true) (k : Z κ O σ (pc + 2) (lv.set j (some (.ref x))) rest) : Z κ O σ pc lv (.ref x :: rest) := fun H locs ls hP hS h => lv_astore cx.1 cx.2.1 hd (lvh_as h) (hL ▸ hn) rfl (fun ls' h' => k H locs ls' hP hS (lvh_st1 h' ho))
theorem z_lstore_n (cx : Cx κ O own cc d) {j : Fin 4} {x : Int64} (i : Nat) (hd : decode cc pc = .ok (.lstore_n j, 1)) (hi : (j : Nat) = i) {n : Nat} (hL : κ.nL = n) (hn : i + 1 < n) (ho : okS lv i = true) (k : Z κ O σ (pc + 1) ((lv.set i (some (.long x))).set (i + 1) none) rest) : Z κ O σ pc lv (.long x :: rest) := fun H locs ls hP hS h => lv_lstore_n cx.1 cx.2.1 hd hi (lvh_as h) (hL ▸ hn) rfl (fun ls' h' => k H locs ls' hP hS (lvh_st2 h' ho))
theorem z_lstore (cx : Cx κ O own cc d) {j : Nat} {x : Int64} (hd : decode cc pc = .ok (.lstore j, 2)) {n : Nat} (hL : κ.nL = n) (hn : j + 1 < n) (ho : okS lv j = true) (k : Z κ O σ (pc + 2) ((lv.set j (some (.long x))).set (j + 1) none) rest) : Z κ O σ pc lv (.long x :: rest) := fun H locs ls hP hS h => lv_lstore cx.1 cx.2.1 hd (lvh_as h) (hL ▸ hn) rfl (fun ls' h' => k H locs ls' hP hS (lvh_st2 h' ho))
theorem z_iinc (cx : Cx κ O own cc d) {j : Nat} {n : Int} {x v w : Int32} (hd : decode cc pc = .ok (.iinc j n, 3)) (hx : lv[j]? = some (some (.int x))) (hw : Int32.ofInt n = w) (hv : x + w = v) {nn : Nat} (hL : κ.nL = nn) (hn : j < nn) (ho : okS lv j = true) (k : Z κ O σ (pc + 3) (lv.set j (some (.int v))) rest) : Z κ O σ pc lv rest := fun H locs ls hP hS h => by
  obtain ⟨kk, hkk⟩ := List.getElem?_of_mem (lv_as_mem.mpr hx)
  exact lv_iinc cx.1 cx.2.1 hd (lvh_as h) hkk (by rw [hw]; exact hv) (hL ▸ hn) rfl (fun ls' h' => k H locs ls' hP hS (lvh_st1 h' ho))
theorem z_iadd (cx : Cx κ O own cc d) {x y : Int32} (hd : decode cc pc = .ok (.iadd, 1)) (k : Z κ O σ (pc + 1) lv (.int (x + y) :: rest)) : Z κ O σ pc lv (.int y :: .int x :: rest) := fun H locs ls hP hS h => lv_iadd cx.1 cx.2.1 hd (k H locs ls hP hS h)
theorem z_isub (cx : Cx κ O own cc d) {x y : Int32} (hd : decode cc pc = .ok (.isub, 1)) (k : Z κ O σ (pc + 1) lv (.int (x - y) :: rest)) : Z κ O σ pc lv (.int y :: .int x :: rest) := fun H locs ls hP hS h => lv_isub cx.1 cx.2.1 hd (k H locs ls hP hS h)
theorem z_imul (cx : Cx κ O own cc d) {x y : Int32} (hd : decode cc pc = .ok (.imul, 1)) (k : Z κ O σ (pc + 1) lv (.int (x * y) :: rest)) : Z κ O σ pc lv (.int y :: .int x :: rest) := fun H locs ls hP hS h => lv_imul cx.1 cx.2.1 hd (k H locs ls hP hS h)
theorem z_iand (cx : Cx κ O own cc d) {x y : Int32} (hd : decode cc pc = .ok (.iand, 1)) (k : Z κ O σ (pc + 1) lv (.int (x &&& y) :: rest)) : Z κ O σ pc lv (.int y :: .int x :: rest) := fun H locs ls hP hS h => lv_iand cx.1 cx.2.1 hd (k H locs ls hP hS h)
theorem z_ior (cx : Cx κ O own cc d) {x y : Int32} (hd : decode cc pc = .ok (.ior, 1)) (k : Z κ O σ (pc + 1) lv (.int (x ||| y) :: rest)) : Z κ O σ pc lv (.int y :: .int x :: rest) := fun H locs ls hP hS h => lv_ior cx.1 cx.2.1 hd (k H locs ls hP hS h)
theorem z_ixor (cx : Cx κ O own cc d) {x y : Int32} (hd : decode cc pc = .ok (.ixor, 1)) (k : Z κ O σ (pc + 1) lv (.int (x ^^^ y) :: rest)) : Z κ O σ pc lv (.int y :: .int x :: rest) := fun H locs ls hP hS h => lv_ixor cx.1 cx.2.1 hd (k H locs ls hP hS h)
theorem z_ishl (cx : Cx κ O own cc d) {x y : Int32} (hd : decode cc pc = .ok (.ishl, 1)) (k : Z κ O σ (pc + 1) lv (.int (x <<< (y &&& 31)) :: rest)) : Z κ O σ pc lv (.int y :: .int x :: rest) := fun H locs ls hP hS h => lv_ishl cx.1 cx.2.1 hd (k H locs ls hP hS h)
theorem z_ishr (cx : Cx κ O own cc d) {x y : Int32} (hd : decode cc pc = .ok (.ishr, 1)) (k : Z κ O σ (pc + 1) lv (.int (x >>> (y &&& 31)) :: rest)) : Z κ O σ pc lv (.int y :: .int x :: rest) := fun H locs ls hP hS h => lv_ishr cx.1 cx.2.1 hd (k H locs ls hP hS h)
theorem z_idiv (cx : Cx κ O own cc d) {x y : Int32} (hd : decode cc pc = .ok (.idiv, 1)) (hne : ¬ y = 0) (k : Z κ O σ (pc + 1) lv (.int (x / y) :: rest)) : Z κ O σ pc lv (.int y :: .int x :: rest) := fun H locs ls hP hS h => lv_idiv cx.1 cx.2.1 hd hne (k H locs ls hP hS h)
theorem z_irem (cx : Cx κ O own cc d) {x y : Int32} (hd : decode cc pc = .ok (.irem, 1)) (hne : ¬ y = 0) (k : Z κ O σ (pc + 1) lv (.int (x - x / y * y) :: rest)) : Z κ O σ pc lv (.int y :: .int x :: rest) := fun H locs ls hP hS h => lv_irem cx.1 cx.2.1 hd hne (k H locs ls hP hS h)
theorem z_iushr (cx : Cx κ O own cc d) {x y v : Int32} (hd : decode cc pc = .ok (.iushr, 1)) (hv : (x.toUInt32 >>> (y.toUInt32 &&& Int32.toUInt32 31)).toInt32 = v) (k : Z κ O σ (pc + 1) lv (.int v :: rest)) : Z κ O σ pc lv (.int y :: .int x :: rest) := fun H locs ls hP hS h => lv_iushr cx.1 cx.2.1 hd hv (k H locs ls hP hS h)
theorem z_ladd (cx : Cx κ O own cc d) {x y : Int64} (hd : decode cc pc = .ok (.ladd, 1)) (k : Z κ O σ (pc + 1) lv (.long (x + y) :: rest)) : Z κ O σ pc lv (.long y :: .long x :: rest) := fun H locs ls hP hS h => lv_ladd cx.1 cx.2.1 hd (k H locs ls hP hS h)
theorem z_lsub (cx : Cx κ O own cc d) {x y : Int64} (hd : decode cc pc = .ok (.lsub, 1)) (k : Z κ O σ (pc + 1) lv (.long (x - y) :: rest)) : Z κ O σ pc lv (.long y :: .long x :: rest) := fun H locs ls hP hS h => lv_lsub cx.1 cx.2.1 hd (k H locs ls hP hS h)
theorem z_lmul (cx : Cx κ O own cc d) {x y : Int64} (hd : decode cc pc = .ok (.lmul, 1)) (k : Z κ O σ (pc + 1) lv (.long (x * y) :: rest)) : Z κ O σ pc lv (.long y :: .long x :: rest) := fun H locs ls hP hS h => lv_lmul cx.1 cx.2.1 hd (k H locs ls hP hS h)
theorem z_lrem (cx : Cx κ O own cc d) {x y : Int64} (hd : decode cc pc = .ok (.lrem, 1)) (hne : ¬ y = 0) (k : Z κ O σ (pc + 1) lv (.long (x - x / y * y) :: rest)) : Z κ O σ pc lv (.long y :: .long x :: rest) := fun H locs ls hP hS h => lv_lrem cx.1 cx.2.1 hd hne (k H locs ls hP hS h)
theorem z_lcmp (cx : Cx κ O own cc d) {x y : Int64} (hd : decode cc pc = .ok (.lcmp, 1)) (k : Z κ O σ (pc + 1) lv (.int (lg_cmp x y) :: rest)) : Z κ O σ pc lv (.long y :: .long x :: rest) := fun H locs ls hP hS h => W.lcmp cx.1 cx.2.1 hd (k H locs ls hP hS h)
theorem z_i2l (cx : Cx κ O own cc d) {x : Int32} (hd : decode cc pc = .ok (.i2l, 1)) (k : Z κ O σ (pc + 1) lv (.long x.toInt64 :: rest)) : Z κ O σ pc lv (.int x :: rest) := fun H locs ls hP hS h => lv_i2l cx.1 cx.2.1 hd rfl (k H locs ls hP hS h)
theorem z_i2c (cx : Cx κ O own cc d) {x v : Int32} (hd : decode cc pc = .ok (.i2c, 1)) (hv : (x.toUInt32 % 65536).toInt32 = v) (k : Z κ O σ (pc + 1) lv (.int v :: rest)) : Z κ O σ pc lv (.int x :: rest) := fun H locs ls hP hS h => lv_i2c cx.1 cx.2.1 hd hv (k H locs ls hP hS h)
theorem z_dup (cx : Cx κ O own cc d) {v : Value} (hd : decode cc pc = .ok (.dup, 1)) (hc : v.category = 1) (k : Z κ O σ (pc + 1) lv (v :: v :: rest)) : Z κ O σ pc lv (v :: rest) := fun H locs ls hP hS h => lv_dup cx.1 cx.2.1 hd hc (k H locs ls hP hS h)
theorem z_pop (cx : Cx κ O own cc d) {v : Value} (hd : decode cc pc = .ok (.pop, 1)) (hc : v.category = 1) (k : Z κ O σ (pc + 1) lv rest) : Z κ O σ pc lv (v :: rest) := fun H locs ls hP hS h => lv_pop cx.1 cx.2.1 hd hc (k H locs ls hP hS h)
theorem z_dup2 (cx : Cx κ O own cc d) {v w : Value} (hd : decode cc pc = .ok (.dup2, 1)) (hc : v.category = 1) (hc2 : w.category = 1) (k : Z κ O σ (pc + 1) lv (v :: w :: v :: w :: rest)) : Z κ O σ pc lv (v :: w :: rest) := fun H locs ls hP hS h => lv_dup2_11 cx.1 cx.2.1 hd hc hc2 (k H locs ls hP hS h)
theorem z_if_eq (cx : Cx κ O own cc d) {x : Int32} {off : Int} {tgt : Nat} (hd : decode cc pc = .ok (.ifCond .eq off, 3)) (ht : (pc : Int) + off = (tgt : Int)) (kt : x = 0 → Z κ O σ tgt lv rest) (kf : ¬ x = 0 → Z κ O σ (pc + 3) lv rest) : Z κ O σ pc lv (.int x :: rest) := fun H locs ls hP hS h => lv_if_eq cx.1 cx.2.1 hd ht (fun q => kt q H locs ls hP hS h) (fun q => kf q H locs ls hP hS h)
theorem z_icmp_eq (cx : Cx κ O own cc d) {x y : Int32} {off : Int} {tgt : Nat} (hd : decode cc pc = .ok (.if_icmp .eq off, 3)) (ht : (pc : Int) + off = (tgt : Int)) (kt : x = y → Z κ O σ tgt lv rest) (kf : ¬ x = y → Z κ O σ (pc + 3) lv rest) : Z κ O σ pc lv (.int y :: .int x :: rest) := fun H locs ls hP hS h => lv_icmp_eq cx.1 cx.2.1 hd ht (fun q => kt q H locs ls hP hS h) (fun q => kf q H locs ls hP hS h)
theorem z_if_ne (cx : Cx κ O own cc d) {x : Int32} {off : Int} {tgt : Nat} (hd : decode cc pc = .ok (.ifCond .ne off, 3)) (ht : (pc : Int) + off = (tgt : Int)) (kt : ¬ x = 0 → Z κ O σ tgt lv rest) (kf : x = 0 → Z κ O σ (pc + 3) lv rest) : Z κ O σ pc lv (.int x :: rest) := fun H locs ls hP hS h => lv_if_ne cx.1 cx.2.1 hd ht (fun q => kt q H locs ls hP hS h) (fun q => kf q H locs ls hP hS h)
theorem z_icmp_ne (cx : Cx κ O own cc d) {x y : Int32} {off : Int} {tgt : Nat} (hd : decode cc pc = .ok (.if_icmp .ne off, 3)) (ht : (pc : Int) + off = (tgt : Int)) (kt : ¬ x = y → Z κ O σ tgt lv rest) (kf : x = y → Z κ O σ (pc + 3) lv rest) : Z κ O σ pc lv (.int y :: .int x :: rest) := fun H locs ls hP hS h => lv_icmp_ne cx.1 cx.2.1 hd ht (fun q => kt q H locs ls hP hS h) (fun q => kf q H locs ls hP hS h)
theorem z_if_lt (cx : Cx κ O own cc d) {x : Int32} {off : Int} {tgt : Nat} (hd : decode cc pc = .ok (.ifCond .lt off, 3)) (ht : (pc : Int) + off = (tgt : Int)) (kt : x < 0 → Z κ O σ tgt lv rest) (kf : ¬ x < 0 → Z κ O σ (pc + 3) lv rest) : Z κ O σ pc lv (.int x :: rest) := fun H locs ls hP hS h => lv_if_lt cx.1 cx.2.1 hd ht (fun q => kt q H locs ls hP hS h) (fun q => kf q H locs ls hP hS h)
theorem z_icmp_lt (cx : Cx κ O own cc d) {x y : Int32} {off : Int} {tgt : Nat} (hd : decode cc pc = .ok (.if_icmp .lt off, 3)) (ht : (pc : Int) + off = (tgt : Int)) (kt : x < y → Z κ O σ tgt lv rest) (kf : ¬ x < y → Z κ O σ (pc + 3) lv rest) : Z κ O σ pc lv (.int y :: .int x :: rest) := fun H locs ls hP hS h => lv_icmp_lt cx.1 cx.2.1 hd ht (fun q => kt q H locs ls hP hS h) (fun q => kf q H locs ls hP hS h)
theorem z_if_ge (cx : Cx κ O own cc d) {x : Int32} {off : Int} {tgt : Nat} (hd : decode cc pc = .ok (.ifCond .ge off, 3)) (ht : (pc : Int) + off = (tgt : Int)) (kt : 0 ≤ x → Z κ O σ tgt lv rest) (kf : ¬ 0 ≤ x → Z κ O σ (pc + 3) lv rest) : Z κ O σ pc lv (.int x :: rest) := fun H locs ls hP hS h => lv_if_ge cx.1 cx.2.1 hd ht (fun q => kt q H locs ls hP hS h) (fun q => kf q H locs ls hP hS h)
theorem z_icmp_ge (cx : Cx κ O own cc d) {x y : Int32} {off : Int} {tgt : Nat} (hd : decode cc pc = .ok (.if_icmp .ge off, 3)) (ht : (pc : Int) + off = (tgt : Int)) (kt : y ≤ x → Z κ O σ tgt lv rest) (kf : ¬ y ≤ x → Z κ O σ (pc + 3) lv rest) : Z κ O σ pc lv (.int y :: .int x :: rest) := fun H locs ls hP hS h => lv_icmp_ge cx.1 cx.2.1 hd ht (fun q => kt q H locs ls hP hS h) (fun q => kf q H locs ls hP hS h)
theorem z_if_gt (cx : Cx κ O own cc d) {x : Int32} {off : Int} {tgt : Nat} (hd : decode cc pc = .ok (.ifCond .gt off, 3)) (ht : (pc : Int) + off = (tgt : Int)) (kt : 0 < x → Z κ O σ tgt lv rest) (kf : ¬ 0 < x → Z κ O σ (pc + 3) lv rest) : Z κ O σ pc lv (.int x :: rest) := fun H locs ls hP hS h => lv_if_gt cx.1 cx.2.1 hd ht (fun q => kt q H locs ls hP hS h) (fun q => kf q H locs ls hP hS h)
theorem z_icmp_gt (cx : Cx κ O own cc d) {x y : Int32} {off : Int} {tgt : Nat} (hd : decode cc pc = .ok (.if_icmp .gt off, 3)) (ht : (pc : Int) + off = (tgt : Int)) (kt : y < x → Z κ O σ tgt lv rest) (kf : ¬ y < x → Z κ O σ (pc + 3) lv rest) : Z κ O σ pc lv (.int y :: .int x :: rest) := fun H locs ls hP hS h => lv_icmp_gt cx.1 cx.2.1 hd ht (fun q => kt q H locs ls hP hS h) (fun q => kf q H locs ls hP hS h)
theorem z_if_le (cx : Cx κ O own cc d) {x : Int32} {off : Int} {tgt : Nat} (hd : decode cc pc = .ok (.ifCond .le off, 3)) (ht : (pc : Int) + off = (tgt : Int)) (kt : x ≤ 0 → Z κ O σ tgt lv rest) (kf : ¬ x ≤ 0 → Z κ O σ (pc + 3) lv rest) : Z κ O σ pc lv (.int x :: rest) := fun H locs ls hP hS h => lv_if_le cx.1 cx.2.1 hd ht (fun q => kt q H locs ls hP hS h) (fun q => kf q H locs ls hP hS h)
theorem z_icmp_le (cx : Cx κ O own cc d) {x y : Int32} {off : Int} {tgt : Nat} (hd : decode cc pc = .ok (.if_icmp .le off, 3)) (ht : (pc : Int) + off = (tgt : Int)) (kt : x ≤ y → Z κ O σ tgt lv rest) (kf : ¬ x ≤ y → Z κ O σ (pc + 3) lv rest) : Z κ O σ pc lv (.int y :: .int x :: rest) := fun H locs ls hP hS h => lv_icmp_le cx.1 cx.2.1 hd ht (fun q => kt q H locs ls hP hS h) (fun q => kf q H locs ls hP hS h)
/-- a branch on a boolean answer -/
theorem z_ifb_eq (cx : Cx κ O own cc d) {b : Bool} {off : Int} {tgt : Nat} (hd : decode cc pc = .ok (.ifCond .eq off, 3)) (ht : (pc : Int) + off = (tgt : Int)) (kt : b = false → Z κ O σ tgt lv rest) (kf : b = true → Z κ O σ (pc + 3) lv rest) : Z κ O σ pc lv (.int (bI b) :: rest) := z_if_eq cx hd ht (fun q => kt (bI_eq0.mp q)) (fun q => kf (by cases b; exact absurd rfl q; rfl))
theorem z_ifb_ne (cx : Cx κ O own cc d) {b : Bool} {off : Int} {tgt : Nat} (hd : decode cc pc = .ok (.ifCond .ne off, 3)) (ht : (pc : Int) + off = (tgt : Int)) (kt : b = true → Z κ O σ tgt lv rest) (kf : b = false → Z κ O σ (pc + 3) lv rest) : Z κ O σ pc lv (.int (bI b) :: rest) := by
  cases b
  · exact z_if_ne cx hd ht (fun q => absurd (show bI false = 0 from rfl) q) (fun _ => kf rfl)
  · exact z_if_ne cx hd ht (fun _ => kt rfl) (fun q => absurd q (by decide))
theorem z_goto (cx : Cx κ O own cc d) {off : Int} {tgt : Nat} (hd : decode cc pc = .ok (.goto off, 3)) (ht : (pc : Int) + off = (tgt : Int)) (k : Z κ O σ tgt lv rest) : Z κ O σ pc lv rest := fun H locs ls hP hS h => lv_goto cx.1 cx.2.1 hd ht (k H locs ls hP hS h)
theorem z_tableIn (cx : Cx κ O own cc d) {dflt lo hi : Int} {offs : Array Int} {len : Nat} {x : Int32} {off : Int} {tgt : Nat} (hd : decode cc pc = .ok (.tableswitch dflt lo hi offs, len)) (h1 : ¬ x.toInt < lo) (h2 : ¬ hi < x.toInt) (ho : offs[(x.toInt - lo).toNat]? = some off) (ht : (pc : Int) + off = (tgt : Int)) (k : Z κ O σ tgt lv rest) : Z κ O σ pc lv (.int x :: rest) := fun H locs ls hP hS h => lv_tableIn cx.1 cx.2.1 hd h1 h2 ho ht (k H locs ls hP hS h)
theorem z_tableOut (cx : Cx κ O own cc d) {dflt lo hi : Int} {offs : Array Int} {len : Nat} {x : Int32} {tgt : Nat} (hd : decode cc pc = .ok (.tableswitch dflt lo hi offs, len)) (h1 : x.toInt < lo ∨ hi < x.toInt) (ht : (pc : Int) + dflt = (tgt : Int)) (k : Z κ O σ tgt lv rest) : Z κ O σ pc lv (.int x :: rest) := fun H locs ls hP hS h => lv_tableOut cx.1 cx.2.1 hd h1 ht (k H locs ls hP hS h)
theorem z_lookup (cx : Cx κ O own cc d) {dflt : Int} {ps : Array (Int × Int)} {len : Nat} {x : Int32} {off : Int} {tgt : Nat} (hd : decode cc pc = .ok (.lookupswitch dflt ps, len)) (hp : (ps.toList.zip (ps.toList.drop 1)).all (fun (a, next) => a.1 < next.1) = true) (ho : Op.lookupswitch.offset ps.toList dflt x.toInt = off) (ht : (pc : Int) + off = (tgt : Int)) (k : Z κ O σ tgt lv rest) : Z κ O σ pc lv (.int x :: rest) := fun H locs ls hP hS h => lv_lookup cx.1 cx.2.1 hd hp ho ht (k H locs ls hP hS h)
/-- what a field's read and write want of its class -/
def Fk (own : String) (ci k idx : Nat) (C : String) (T : u_T) (N : Nat) : Prop := vwCl[ci]? = some (C, T, N) ∧ (∀ w ∈ u_ws C T N, w ∈ tb) ∧ k < N ∧ Cond.fieldLink own idx (T k).1 (T k).2.1 (T k).2.2.1 ∈ tb
theorem z_get (cx : Cx κ O own cc d) {ci k idx N q a : Nat} {C : String} {T : u_T} {fs : List Value} {v : Value} (hf : Fk own ci k idx C T N) (he : (O.wd σ)[q]? = some (a, .inr (ci, fs))) (hv : fs[k]? = some v) (hd : decode cc pc = .ok (.getfield idx, 3)) (kk : Z κ O σ (pc + 3) lv (v :: rest)) : Z κ O σ pc lv (.ref a :: rest) :=
  fun H locs ls hP hS h => va_get cx.1 cx.2.1 cx.2.2.2.2.1 hf.2.1 cx.2.2.2.1 cx.2.2.2.2.2.1 hP q he hf.1 k hf.2.2.1 (cx.2.2.2.2.1 _ hf.2.2.2) (fun _ h9 => h9) hv hd (kk H locs ls hP hS h)
def Fw (k : Nat) (T : u_T) (N : Nat) (ty0 : Nat → FieldType) : Prop := (∀ k, k < N → parseFieldDescriptor (T k).2.2.1 = some (ty0 k)) ∧ (∀ a, a < N → ∀ b, b < N → a ≠ b → (T a).2.1 ≠ (T b).2.1) ∧ (T k).2.2.2 = false ∧ ty0 k = .int
theorem z_put (cx : Cx κ O own cc d) {ci k idx N q a : Nat} {C : String} {T : u_T} {fs : List Value} {v : Int32} {ty0 : Nat → FieldType} (hf : Fk own ci k idx C T N) (hw : Fw k T N ty0) (he : (O.wd σ)[q]? = some (a, .inr (ci, fs))) (hl : k < fs.length) (hset : (O.wd σ).set q (a, .inr (ci, fs.set k (.int v))) = O.wd σ') (hd : decode cc pc = .ok (.putfield idx, 3)) (kk : Z κ O σ' (pc + 3) lv rest) : Z κ O σ pc lv (.int v :: .ref a :: rest) :=
  fun H locs ls hP hS h => va_put cx.1 cx.2.1 cx.2.2.2.2.1 hf.2.1 ty0 hw.1 hw.2.1 cx.2.2.2.1 cx.2.2.2.2.2.1 hP (cx.2.2.2.2.2.2.1.1 σ) hS q he hf.1 k hf.2.2.1 (cx.2.2.2.2.1 _ hf.2.2.2) (fun _ h9 => h9) hw.2.2.1 (ty := .int) ((hw.1 k hf.2.2.1).trans (congrArg some hw.2.2.2)) rfl rfl hl hd (fun H1 locs1 hP1 _ hS1 => kk H1 locs1 ls (by rw [← hset]; exact hP1) hS1 h)
theorem z_iald (cx : Cx κ O own cc d) {q t n a : Nat} {cA : ClassId} {f : Nat → Int32} {i : Int32} (ha : (O.wd σ)[q]? = some (a, .inl (cA, n, .inl f))) (ht : O.tys[t]? = some (cA, .int)) (hin : vp_in i n) (hd : decode cc pc = .ok (.iaload, 1)) (kk : Z κ O σ (pc + 1) lv (.int (f i.toNatClampNeg) :: rest)) : Z κ O σ pc lv (.int i :: .ref a :: rest) :=
  fun H locs ls hP hS h => va_iald cx.1 cx.2.1 cx.2.2.2.2.2.1 hP q t ha ht hin hd (kk H locs ls hP hS h)
theorem z_zald (cx : Cx κ O own cc d) {q t n a : Nat} {cA : ClassId} {f : Nat → Int32} {i : Int32} (ha : (O.wd σ)[q]? = some (a, .inl (cA, n, .inl f))) (ht : O.tys[t]? = some (cA, .boolean)) (hin : vp_in i n) (hd : decode cc pc = .ok (.baload, 1)) (kk : Z κ O σ (pc + 1) lv (.int (f i.toNatClampNeg) :: rest)) : Z κ O σ pc lv (.int i :: .ref a :: rest) :=
  fun H locs ls hP hS h => va_zald cx.1 cx.2.1 cx.2.2.2.2.2.1 hP q t ha ht hin hd (kk H locs ls hP hS h)
theorem z_aald (cx : Cx κ O own cc d) {q t n a b : Nat} {cA : ClassId} {C : String} {f : Nat → Option Nat} {i : Int32} (ha : (O.wd σ)[q]? = some (a, .inl (cA, n, .inr (.inr (.inr (.inr f)))))) (ht : O.tys[t]? = some (cA, .object C)) (hin : vp_in i n) (hv : f i.toNatClampNeg = some b) (hd : decode cc pc = .ok (.aaload, 1)) (kk : Z κ O σ (pc + 1) lv (.ref b :: rest)) : Z κ O σ pc lv (.int i :: .ref a :: rest) :=
  fun H locs ls hP hS h => va_aldq cx.1 cx.2.1 cx.2.2.2.2.2.1 hP q t ha ht hin hd (by rw [hv]; exact kk H locs ls hP hS h)
theorem z_iast (cx : Cx κ O own cc d) {q t n a : Nat} {cA : ClassId} {f : Nat → Int32} {i x : Int32} (ha : (O.wd σ)[q]? = some (a, .inl (cA, n, .inl f))) (ht : O.tys[t]? = some (cA, .int)) (hin : vp_in i n) (hset : (O.wd σ).set q (a, .inl (cA, n, .inl (upd f i.toNatClampNeg x))) = O.wd σ') (hd : decode cc pc = .ok (.iastore, 1)) (kk : Z κ O σ' (pc + 1) lv rest) : Z κ O σ pc lv (.int x :: .int i :: .ref a :: rest) :=
  fun H locs ls hP hS h => va_iast cx.1 cx.2.1 cx.2.2.2.2.2.1 hP (cx.2.2.2.2.2.2.1.1 σ) hS q t ha ht hin hd (fun H1 locs1 hP1 _ hS1 => kk H1 locs1 ls (by rw [← hset]; exact hP1) hS1 h)
theorem z_zast (cx : Cx κ O own cc d) {q t n a : Nat} {cA : ClassId} {f : Nat → Int32} {i x : Int32} (ha : (O.wd σ)[q]? = some (a, .inl (cA, n, .inl f))) (ht : O.tys[t]? = some (cA, .boolean)) (hin : vp_in i n) (hset : (O.wd σ).set q (a, .inl (cA, n, .inl (upd f i.toNatClampNeg (vp_nar .boolean x)))) = O.wd σ') (hd : decode cc pc = .ok (.bastore, 1)) (kk : Z κ O σ' (pc + 1) lv rest) : Z κ O σ pc lv (.int x :: .int i :: .ref a :: rest) :=
  fun H locs ls hP hS h => va_zast cx.1 cx.2.1 cx.2.2.2.2.2.1 hP (cx.2.2.2.2.2.2.1.1 σ) hS q t ha ht hin hd (fun H1 locs1 hP1 _ hS1 => kk H1 locs1 ls (by rw [← hset]; exact hP1) hS1 h)
theorem z_alen (cx : Cx κ O own cc d) {q t a : Nat} {cA : ClassId} {x : vp_A} {ty : FieldType} {v : Int32} (ha : (O.wd σ)[q]? = some (a, .inl (cA, x))) (ht : O.tys[t]? = some (cA, ty)) (hv : Int32.ofNat x.1 = v) (hd : decode cc pc = .ok (.arraylength, 1)) (kk : Z κ O σ (pc + 1) lv (.int v :: rest)) : Z κ O σ pc lv (.ref a :: rest) :=
  fun H locs ls hP hS h => va_alen cx.1 cx.2.1 cx.2.2.2.2.2.1 hP q t ha ht hv hd (kk H locs ls hP hS h)
theorem z_mmax (cx : Cx κ O own cc d) {idx : Nat} {x y : Int32} (hl : Cond.methodLink own idx Lib.Math.max.name ∈ tb) (hs : Cond.static Lib.Math.max.name ∈ tb) (hi : Cond.initialized "java/lang/Math" ∈ tb) (hc : Cond.code Lib.Math.max.name Lib.Math.max.code 2 (some .int) ∈ tb) (h1 : 1 ≤ d) (hr : (rest.map fun v => v.category).sum ≤ 8) (hd : decode cc pc = .ok (.invokestatic idx, 3)) (kk : Z κ O σ (pc + 3) lv (.int (if x < y then y else x) :: rest)) : Z κ O σ pc lv (.int y :: .int x :: rest) :=
  fun H locs ls hP hS h => va_mmax cx.1 cx.2.1 (cx.2.2.1.trans h.1.symm) cx.2.2.2.1 (cx.2.2.2.2.1 _ hl) (cx.2.2.2.2.1 _ hs) (cx.2.2.2.2.1 _ hi) (cx.2.2.2.2.1 _ hc) (Nat.le_trans h1 cx.2.2.2.2.2.2.2.2.1) (by have := cx.2.2.2.2.2.2.2.2.2.1; omega) cx.2.2.2.2.2.2.2.2.2.2.1 cx.2.2.2.2.2.2.2.2.2.2.2 hd (kk H locs ls hP hS h)
theorem z_mmin (cx : Cx κ O own cc d) {idx : Nat} {x y : Int32} (hl : Cond.methodLink own idx Lib.Math.min.name ∈ tb) (hs : Cond.static Lib.Math.min.name ∈ tb) (hi : Cond.initialized "java/lang/Math" ∈ tb) (hc : Cond.code Lib.Math.min.name Lib.Math.min.code 2 (some .int) ∈ tb) (h1 : 1 ≤ d) (hr : (rest.map fun v => v.category).sum ≤ 8) (hd : decode cc pc = .ok (.invokestatic idx, 3)) (kk : Z κ O σ (pc + 3) lv (.int (if y < x then y else x) :: rest)) : Z κ O σ pc lv (.int y :: .int x :: rest) :=
  fun H locs ls hP hS h => va_mmin cx.1 cx.2.1 (cx.2.2.1.trans h.1.symm) cx.2.2.2.1 (cx.2.2.2.2.1 _ hl) (cx.2.2.2.2.1 _ hs) (cx.2.2.2.2.1 _ hi) (cx.2.2.2.2.1 _ hc) (Nat.le_trans h1 cx.2.2.2.2.2.2.2.2.1) (by have := cx.2.2.2.2.2.2.2.2.2.1; omega) cx.2.2.2.2.2.2.2.2.2.2.1 cx.2.2.2.2.2.2.2.2.2.2.2 hd (kk H locs ls hP hS h)
theorem copy_words : nativeFrameWords "java/lang/System" "arraycopy" 5 ≤ 17 := by decide +kernel
theorem copy_room (cx : Cx κ O own cc d) (h1 : 1 ≤ d) (hr : (rest.map fun v => v.category).sum ≤ 8) : (rest.map fun v => v.category).sum + (nativeFrameWords "java/lang/System" "arraycopy" 5 + 11) ≤ κ.R.locals := by
  have h9 := cx.2.2.2.2.2.2.2.2.2.1
  have h8 := copy_words
  omega
theorem z_copy (cx : Cx κ O own cc d) {idx q0 q1 t n0 n1 a0 a : Nat} {cA : ClassId} {f g : Nat → Int32} {sp dp n : Int32} (hl : Cond.methodLink own idx arraycopyName ∈ tb) (hn : Cond.native arraycopyName ∈ tb) (hs : Cond.static arraycopyName ∈ tb) (hi : Cond.initialized "java/lang/System" ∈ tb) (h1 : 1 ≤ d)
    (ha0 : (O.wd σ)[q0]? = some (a0, .inl (cA, n0, .inl f))) (ha1 : (O.wd σ)[q1]? = some (a, .inl (cA, n1, .inl g))) (ht : O.tys[t]? = some (cA, .int)) (g1 : ¬ sp < 0) (g2 : ¬ dp < 0) (g3 : ¬ n < 0) (g4 : sp.toNatClampNeg + n.toNatClampNeg ≤ n0) (g5 : dp.toNatClampNeg + n.toNatClampNeg ≤ n1) (hr : (rest.map fun v => v.category).sum ≤ 8)
    (hset : (O.wd σ).set q1 (a, .inl (cA, n1, .inl (va_cpy f g sp.toNatClampNeg dp.toNatClampNeg n.toNatClampNeg))) = O.wd σ') (hd : decode cc pc = .ok (.invokestatic idx, 3)) (kk : Z κ O σ' (pc + 3) lv rest) : Z κ O σ pc lv (.int n :: .int dp :: .ref a :: .int sp :: .ref a0 :: rest) :=
  fun H locs ls hP hS h => va_copyi cx.1 cx.2.1 (cx.2.2.1.trans h.1.symm) cx.2.2.2.1 (cx.2.2.2.2.1 _ hl) (cx.2.2.2.2.1 _ hn) (cx.2.2.2.2.1 _ hs) (cx.2.2.2.2.1 _ hi) cx.2.2.2.2.2.1 hP (cx.2.2.2.2.2.2.1.1 σ) hS q0 q1 t t ha0 ha1 ht ht rfl g1 g2 g3 g4 g5 (fun _ _ => rfl) (Nat.le_trans h1 cx.2.2.2.2.2.2.2.2.1) (copy_room cx h1 hr) hd (fun H1 locs1 hP1 _ hS1 => kk H1 locs1 ls (by rw [← hset]; exact hP1) hS1 h)
theorem q_ret {O : Om} {s t : State} {H : Heap} {locs : List Loc} {as : Array Value} {r : Option Value} {Po : Option Value → Mem → Prop} (hp : Po r σ) (hP : va_P O.D vwCl (O.wd σ) H) (hS : va_S O.A s.heap H locs) (ht : t.heap = H) : Qct O Po as s (.returned r) t := ⟨⟨r, σ, hp, rfl, by rw [ht]; exact hP⟩, hS.F ht⟩
theorem z_iret {v : Int32} {Po : Option Value → Mem → Prop} (cx : Cx κ O own cc d) (hR : Rt κ O (some .int) Po) (hp : Po (some (.int v)) σ) (hd : decode cc pc = .ok (.ireturn, 1)) : Z κ O σ pc lv [.int v] := by
  intro H locs ls hP hS h
  rw [hR.1]
  exact W.iret cx.1 cx.2.1 hR.2.2 (fun t ht _ => q_ret hp hP hS ht) hS.2.2 hd hR.2.1
theorem z_zret {v : Int32} {Po : Option Value → Mem → Prop} {ty : FieldType} (cx : Cx κ O own cc d) (hR : Rt κ O (some ty) Po) (hn : narrow ty (.int v) = .int v) (hp : Po (some (.int v)) σ) (hd : decode cc pc = .ok (.ireturn, 1)) : Z κ O σ pc lv [.int v] := by
  intro H locs ls hP hS h
  rw [hR.1]
  exact W.zret cx.1 cx.2.1 hR.2.2 hn (fun t ht _ => q_ret hp hP hS ht) hS.2.2 hd hR.2.1
theorem z_lret {v : Int64} {Po : Option Value → Mem → Prop} (cx : Cx κ O own cc d) (hR : Rt κ O (some .long) Po) (hp : Po (some (.long v)) σ) (hd : decode cc pc = .ok (.lreturn, 1)) : Z κ O σ pc lv [.long v] := by
  intro H locs ls hP hS h
  rw [hR.1]
  exact W.lret cx.1 cx.2.1 hR.2.2 (fun t ht _ => q_ret hp hP hS ht) hS.2.2 hd hR.2.1
theorem z_vret {Po : Option Value → Mem → Prop} (cx : Cx κ O own cc d) (hR : Rt κ O none Po) (hp : Po none σ) (hd : decode cc pc = .ok (.return_, 1)) : Z κ O σ pc lv [] := by
  intro H locs ls hP hS h
  rw [hR.1]
  exact W.vret cx.1 cx.2.1 hR.2.2 (fun t ht _ => q_ret hp hP hS ht) hS.2.2 hd hR.2.1
theorem z_aret {a : Nat} {Po : Option Value → Mem → Prop} {nm : String} (cx : Cx κ O own cc d) (hR : Rt κ O (some (.object nm)) Po) (hp : Po (some (.ref a)) σ) (hd : decode cc pc = .ok (.areturn, 1)) : Z κ O σ pc lv [.ref a] := by
  intro H locs ls hP hS h
  rw [hR.1]
  exact W.aret cx.1 cx.2.1 hR.2.2 (Or.inl ⟨_, rfl⟩) (Or.inr ⟨_, rfl⟩) (fun t ht _ => q_ret hp hP hS ht) hS.2.2 hd hR.2.1
/-- what a call wants of a method: virtual, static -/
def Mn (μ : Md) (n : Nat) : Prop := Cond.code μ.1 μ.2.1 μ.2.2.1 μ.2.2.2 ∈ tb ∧ Cond.initialized μ.1.cls ∈ tb ∧ (μ.1.cls ≠ "java/lang/invoke/MethodHandle" ∧ μ.1.cls ≠ "java/lang/invoke/VarHandle" ∧ (parseMethodDescriptor μ.1.desc).map (fun d => d.parameters.length) = some n) ∧ μ.2.2.1 ≤ 17
def Vm (μ : Md) (n : Nat) : Prop := Mn μ n ∧ Cond.instanceMethod μ.1 ∈ tb ∧ Cond.selects μ.1.cls μ.1 μ.1 ∈ tb
def Sm (μ : Md) (n : Nat) : Prop := Mn μ n ∧ Cond.static μ.1 ∈ tb
theorem pre_blind {O : Om} (hO : OkOm O) (as : List Value) (σ : Mem) : FrameBlind (va_Pc as (Pre O σ)) := fun a U g mk q => by
  obtain ⟨q0, qP, qK, qF⟩ := q
  exact ⟨q0, qP, va_K.moved (u := U) (U := U.calling g mk a) (Vm.Alike.refl U.vm) qK, hO.2 U (U.calling g mk a) (State.WarmedH.refl U) (Nat.le_refl _) (fun _ _ _ => rfl) qF⟩
theorem pre_at (cx : Cx κ O own cc d) {H : Heap} {locs : List Loc} {as : List Value} (hP : va_P O.D vwCl (O.wd σ) H) (hS : va_S O.A κ.s.heap H locs) : ∀ U : State, U.heap = H → κ.s.WarmedH U.vm → va_Pc as (Pre O σ) as.toArray U := fun U hU hW =>
  ⟨rfl, by rw [hU]; exact hP, va_K.moved hW.alike cx.2.2.2.2.2.1, cx.2.2.2.2.2.2.1.2 κ.s U hW (by rw [hU]; exact hS.1) (fun q h1 h2 => by rw [hU]; exact hS.2.1 q h1 h2) cx.2.2.2.2.2.2.2.1⟩
theorem run_go {H : Heap} {locs : List Loc} {ls : Array Slot} {as : Array Value} {st0 : List Value} {Po : Option Value → Mem → Prop} (hr : va_Run κ.p κ.l κ.e κ.R κ.s κ.m κ.args κ.below κ.meth κ.c H locs κ.ce κ.sl 0 0 (F0 κ.m pc ls st0) rest (Qct O Po as) O.A) (hS : va_S O.A κ.s.heap H locs) (hl : lvh ls κ.nL lv) (kk : ∀ (r : Option Value) (σ' : Mem), Po r σ' → Z κ O σ' (pc + 3) lv (r.toList ++ rest)) : W κ.p κ.l κ.e κ.R κ.s κ.m κ.args κ.below κ.meth κ.c H locs κ.ce κ.sl κ.Q (F0 κ.m pc ls st0) := by
  intro T hT X
  obtain ⟨v, st₀, t, T', L, h0, X', hL, e1, e2, ⟨⟨r, σ9, hp, hv, hP⟩, hz, hk⟩, st⟩ := hr T hT X
  cases hv
  rw [h0] at hz hk
  have hS' : va_S O.A κ.s.heap T'.heap (locs ++ L) := ⟨Nat.le_trans hS.1 (by rw [e1]; exact hz), fun q h1 h2 => by rw [e1, hk q (Nat.lt_of_lt_of_le h1 hS.1) h2]; exact hS.2.1 q h1 h2, fun q hq => by
      rcases List.mem_append.mp hq with h | h
      · exact hS.2.2 q h
      · exact hL q h⟩
  obtain ⟨t2, a1, b1⟩ := kk v σ9 hp T'.heap (locs ++ L) ls (by rw [e1]; exact hP) hS' hl T' rfl X'
  exact ⟨t2, st t2 a1, b1⟩
theorem z_callV (cx : Cx κ O own cc d) {μ : Md} {n idx d' q b ci : Nat} {fs : List Value} {c : vw_C} {As st0 : List Value} {Po : Option Value → Mem → Prop} (hm : Vm μ n) (hl : Cond.methodLink own idx μ.1 ∈ tb) (hc : CtR κ.l O d' μ (.ref b :: As) σ Po) (hdd : d' + 1 ≤ d) (he : (O.wd σ)[q]? = some (b, .inr (ci, fs))) (hci : vwCl[ci]? = some c) (hcc : c.1 = μ.1.cls) (hn : As.length = n) (hst : st0 = As.reverse ++ .ref b :: rest) (hroom : (rest.map fun v => v.category).sum ≤ 8) (hd : decode cc pc = .ok (.invokevirtual idx, 3)) (kk : ∀ (r : Option Value) (σ' : Mem), Po r σ' → Z κ O σ' (pc + 3) lv (r.toList ++ rest)) : Z κ O σ pc lv st0 := by
  intro H locs ls hP hS h
  obtain ⟨⟨m1, m2, m3, m4⟩, m5, m6⟩ := hm
  refine run_go (va_runV (As := As) (rest := rest) (bytes := μ.2.1) (maxL := μ.2.2.1) (ret := μ.2.2.2) (C := μ.1.cls) (b := b) ⟨cx.1, cx.2.1, cx.2.2.1, cx.2.2.2.1, cx.2.2.2.2.1⟩ hc (cwV n cx.2.2.2.2.1 (tb_good ?_) rfl rfl rfl ⟨rfl, m3⟩ ⟨?_, ?_⟩) ⟨pre_blind cx.2.2.2.2.2.2.1 _ _, ?_, pre_at cx hP hS⟩ rfl hn h.1 hst (lv_room hroom) hd ⟨cx.2.2.2.2.2.2.2.2.2.2.1, cx.2.2.2.2.2.2.2.2.2.2.2⟩) hS h kk
  · intro w hw
    simp only [wsV, List.mem_append, List.mem_cons, List.not_mem_nil, or_false] at hw
    rcases hw with (rfl | rfl | rfl | rfl) | rfl | hw
    · exact hl
    · exact m5
    · exact m6
    · exact m2
    · exact m1
    · exact hw
  · exact Nat.le_trans hdd cx.2.2.2.2.2.2.2.2.1
  · have h9 := cx.2.2.2.2.2.2.2.2.2.1
    show 8 + (μ.2.2.1 + 11) + 36 * d' ≤ κ.R.locals
    omega
  · rw [← hcc]; exact va_recv cx.2.2.2.2.2.1 hP hci he
theorem z_callS (cx : Cx κ O own cc d) {μ : Md} {n idx d' : Nat} {As st0 : List Value} {Po : Option Value → Mem → Prop} (hm : Sm μ n) (hl : Cond.methodLink own idx μ.1 ∈ tb) (hc : CtR κ.l O d' μ As σ Po) (hdd : d' + 1 ≤ d) (hn : As.length = n) (hst : st0 = As.reverse ++ rest) (hroom : (rest.map fun v => v.category).sum ≤ 8) (hd : decode cc pc = .ok (.invokestatic idx, 3)) (kk : ∀ (r : Option Value) (σ' : Mem), Po r σ' → Z κ O σ' (pc + 3) lv (r.toList ++ rest)) : Z κ O σ pc lv st0 := by
  intro H locs ls hP hS h
  obtain ⟨⟨m1, m2, m3, m4⟩, m5⟩ := hm
  refine run_go (va_runS (As := As) (rest := rest) (bytes := μ.2.1) (maxL := μ.2.2.1) (ret := μ.2.2.2) ⟨cx.1, cx.2.1, cx.2.2.1, cx.2.2.2.1, cx.2.2.2.2.1⟩ hc (va_cwS n cx.2.2.2.2.1 (tb_good ?_) rfl rfl rfl m3 ⟨?_, ?_⟩) ⟨pre_blind cx.2.2.2.2.2.2.1 _ _, pre_at cx hP hS⟩ rfl hn h.1 hst (lv_room hroom) hd ⟨cx.2.2.2.2.2.2.2.2.2.2.1, cx.2.2.2.2.2.2.2.2.2.2.2⟩) hS h kk
  · intro w hw
    simp only [va_wsS, List.mem_append, List.mem_cons, List.not_mem_nil, or_false] at hw
    rcases hw with (rfl | rfl | rfl) | rfl | hw
    · exact hl
    · exact m5
    · exact m2
    · exact m1
    · exact hw
  · exact Nat.le_trans hdd cx.2.2.2.2.2.2.2.2.1
  · have h9 := cx.2.2.2.2.2.2.2.2.2.1
    show 8 + (μ.2.2.1 + 11) + 36 * d' ≤ κ.R.locals
    omega
theorem z_callSN (cx : Cx κ O own cc d) {μ : Md} {host : String} {n idx d' : Nat} {As st0 : List Value} {Po : Option Value → Mem → Prop} (hm : Sm μ n) (hl : va_Nw (.methodLinkNest own idx μ.1 host) κ.s) (hc : CtR κ.l O d' μ As σ Po) (hdd : d' + 1 ≤ d) (hn : As.length = n) (hst : st0 = As.reverse ++ rest) (hroom : (rest.map fun v => v.category).sum ≤ 8) (hd : decode cc pc = .ok (.invokestatic idx, 3)) (kk : ∀ (r : Option Value) (σ' : Mem), Po r σ' → Z κ O σ' (pc + 3) lv (r.toList ++ rest)) : Z κ O σ pc lv st0 := by
  intro H locs ls hP hS h
  obtain ⟨⟨m1, m2, m3, m4⟩, m5⟩ := hm
  refine run_go (va_runSN (As := As) (rest := rest) (bytes := μ.2.1) (maxL := μ.2.2.1) (ret := μ.2.2.2) ⟨cx.1, cx.2.1, cx.2.2.1, cx.2.2.2.1, cx.2.2.2.2.1⟩ hc ⟨va_cnB n cx.2.2.2.2.1 (tb_good ?_) rfl rfl rfl hl (cx.2.2.2.2.1 _ m2) m3 ⟨?_, ?_⟩, cx.2.2.2.2.1 _ m5, trivial⟩ ⟨pre_blind cx.2.2.2.2.2.2.1 _ _, pre_at cx hP hS⟩ rfl hn h.1 hst (lv_room hroom) hd ⟨cx.2.2.2.2.2.2.2.2.2.2.1, cx.2.2.2.2.2.2.2.2.2.2.2⟩) hS h kk
  · intro w hw
    rcases List.mem_cons.mp hw with rfl | hw
    · exact m1
    · exact hw
  · exact Nat.le_trans hdd cx.2.2.2.2.2.2.2.2.1
  · have h9 := cx.2.2.2.2.2.2.2.2.2.1
    show 8 + (μ.2.2.1 + 11) + 36 * d' ≤ κ.R.locals
    omega

theorem z_V0i (cx : Cx κ O own cc d) {μ : Md} {idx d' : Nat} {q b ci : Nat} {fs : List Value} {c : vw_C} {v : Value} (hm : Vm μ 0) (hl : Cond.methodLink own idx μ.1 ∈ tb) (hc : Ct κ.l O d' μ [.ref b] σ (some v) σ') (hdd : d' + 1 ≤ d) (he : (O.wd σ)[q]? = some (b, .inr (ci, fs))) (hci : vwCl[ci]? = some c) (hcc : c.1 = μ.1.cls) (hroom : (rest.map fun v => v.category).sum ≤ 8) (hd : decode cc pc = .ok (.invokevirtual idx, 3)) (kk : Z κ O σ' (pc + 3) lv (v :: rest)) : Z κ O σ pc lv (.ref b :: rest) := z_callV (As := []) cx hm hl hc hdd he hci hcc rfl rfl hroom hd (fun _ _ hq => by obtain ⟨rfl, rfl⟩ := hq; exact kk)
theorem z_V0v (cx : Cx κ O own cc d) {μ : Md} {idx d' : Nat} {q b ci : Nat} {fs : List Value} {c : vw_C} (hm : Vm μ 0) (hl : Cond.methodLink own idx μ.1 ∈ tb) (hc : Ct κ.l O d' μ [.ref b] σ none σ') (hdd : d' + 1 ≤ d) (he : (O.wd σ)[q]? = some (b, .inr (ci, fs))) (hci : vwCl[ci]? = some c) (hcc : c.1 = μ.1.cls) (hroom : (rest.map fun v => v.category).sum ≤ 8) (hd : decode cc pc = .ok (.invokevirtual idx, 3)) (kk : Z κ O σ' (pc + 3) lv rest) : Z κ O σ pc lv (.ref b :: rest) := z_callV (As := []) cx hm hl hc hdd he hci hcc rfl rfl hroom hd (fun _ _ hq => by obtain ⟨rfl, rfl⟩ := hq; exact kk)
theorem z_V0I (cx : Cx κ O own cc d) {μ : Md} {idx d' : Nat} {q b ci : Nat} {fs : List Value} {c : vw_C} {Po : Int32 → Mem → Prop} (hm : Vm μ 0) (hl : Cond.methodLink own idx μ.1 ∈ tb) (hc : CtI κ.l O d' μ [.ref b] σ Po) (hdd : d' + 1 ≤ d) (he : (O.wd σ)[q]? = some (b, .inr (ci, fs))) (hci : vwCl[ci]? = some c) (hcc : c.1 = μ.1.cls) (hroom : (rest.map fun v => v.category).sum ≤ 8) (hd : decode cc pc = .ok (.invokevirtual idx, 3)) (kk : ∀ (v : Int32) (σ' : Mem), Po v σ' → Z κ O σ' (pc + 3) lv (.int v :: rest)) : Z κ O σ pc lv (.ref b :: rest) := z_callV (As := []) cx hm hl hc hdd he hci hcc rfl rfl hroom hd (fun _ _ hq => by obtain ⟨v, rfl, hp⟩ := hq; exact kk v _ hp)
theorem z_V0V (cx : Cx κ O own cc d) {μ : Md} {idx d' : Nat} {q b ci : Nat} {fs : List Value} {c : vw_C} {Po : Mem → Prop} (hm : Vm μ 0) (hl : Cond.methodLink own idx μ.1 ∈ tb) (hc : CtV κ.l O d' μ [.ref b] σ Po) (hdd : d' + 1 ≤ d) (he : (O.wd σ)[q]? = some (b, .inr (ci, fs))) (hci : vwCl[ci]? = some c) (hcc : c.1 = μ.1.cls) (hroom : (rest.map fun v => v.category).sum ≤ 8) (hd : decode cc pc = .ok (.invokevirtual idx, 3)) (kk : ∀ σ' : Mem, Po σ' → Z κ O σ' (pc + 3) lv rest) : Z κ O σ pc lv (.ref b :: rest) := z_callV (As := []) cx hm hl hc hdd he hci hcc rfl rfl hroom hd (fun _ _ hq => by obtain ⟨rfl, hp⟩ := hq; exact kk _ hp)
theorem z_V1i (cx : Cx κ O own cc d) {μ : Md} {idx d' : Nat} {q b ci : Nat} {fs : List Value} {c : vw_C} {a1 : Value} {v : Value} (hm : Vm μ 1) (hl : Cond.methodLink own idx μ.1 ∈ tb) (hc : Ct κ.l O d' μ [.ref b, a1] σ (some v) σ') (hdd : d' + 1 ≤ d) (he : (O.wd σ)[q]? = some (b, .inr (ci, fs))) (hci : vwCl[ci]? = some c) (hcc : c.1 = μ.1.cls) (hroom : (rest.map fun v => v.category).sum ≤ 8) (hd : decode cc pc = .ok (.invokevirtual idx, 3)) (kk : Z κ O σ' (pc + 3) lv (v :: rest)) : Z κ O σ pc lv (a1 :: .ref b :: rest) := z_callV (As := [a1]) cx hm hl hc hdd he hci hcc rfl rfl hroom hd (fun _ _ hq => by obtain ⟨rfl, rfl⟩ := hq; exact kk)
theorem z_V1v (cx : Cx κ O own cc d) {μ : Md} {idx d' : Nat} {q b ci : Nat} {fs : List Value} {c : vw_C} {a1 : Value} (hm : Vm μ 1) (hl : Cond.methodLink own idx μ.1 ∈ tb) (hc : Ct κ.l O d' μ [.ref b, a1] σ none σ') (hdd : d' + 1 ≤ d) (he : (O.wd σ)[q]? = some (b, .inr (ci, fs))) (hci : vwCl[ci]? = some c) (hcc : c.1 = μ.1.cls) (hroom : (rest.map fun v => v.category).sum ≤ 8) (hd : decode cc pc = .ok (.invokevirtual idx, 3)) (kk : Z κ O σ' (pc + 3) lv rest) : Z κ O σ pc lv (a1 :: .ref b :: rest) := z_callV (As := [a1]) cx hm hl hc hdd he hci hcc rfl rfl hroom hd (fun _ _ hq => by obtain ⟨rfl, rfl⟩ := hq; exact kk)
theorem z_V1I (cx : Cx κ O own cc d) {μ : Md} {idx d' : Nat} {q b ci : Nat} {fs : List Value} {c : vw_C} {a1 : Value} {Po : Int32 → Mem → Prop} (hm : Vm μ 1) (hl : Cond.methodLink own idx μ.1 ∈ tb) (hc : CtI κ.l O d' μ [.ref b, a1] σ Po) (hdd : d' + 1 ≤ d) (he : (O.wd σ)[q]? = some (b, .inr (ci, fs))) (hci : vwCl[ci]? = some c) (hcc : c.1 = μ.1.cls) (hroom : (rest.map fun v => v.category).sum ≤ 8) (hd : decode cc pc = .ok (.invokevirtual idx, 3)) (kk : ∀ (v : Int32) (σ' : Mem), Po v σ' → Z κ O σ' (pc + 3) lv (.int v :: rest)) : Z κ O σ pc lv (a1 :: .ref b :: rest) := z_callV (As := [a1]) cx hm hl hc hdd he hci hcc rfl rfl hroom hd (fun _ _ hq => by obtain ⟨v, rfl, hp⟩ := hq; exact kk v _ hp)
theorem z_V1V (cx : Cx κ O own cc d) {μ : Md} {idx d' : Nat} {q b ci : Nat} {fs : List Value} {c : vw_C} {a1 : Value} {Po : Mem → Prop} (hm : Vm μ 1) (hl : Cond.methodLink own idx μ.1 ∈ tb) (hc : CtV κ.l O d' μ [.ref b, a1] σ Po) (hdd : d' + 1 ≤ d) (he : (O.wd σ)[q]? = some (b, .inr (ci, fs))) (hci : vwCl[ci]? = some c) (hcc : c.1 = μ.1.cls) (hroom : (rest.map fun v => v.category).sum ≤ 8) (hd : decode cc pc = .ok (.invokevirtual idx, 3)) (kk : ∀ σ' : Mem, Po σ' → Z κ O σ' (pc + 3) lv rest) : Z κ O σ pc lv (a1 :: .ref b :: rest) := z_callV (As := [a1]) cx hm hl hc hdd he hci hcc rfl rfl hroom hd (fun _ _ hq => by obtain ⟨rfl, hp⟩ := hq; exact kk _ hp)
theorem z_V2i (cx : Cx κ O own cc d) {μ : Md} {idx d' : Nat} {q b ci : Nat} {fs : List Value} {c : vw_C} {a1 a2 : Value} {v : Value} (hm : Vm μ 2) (hl : Cond.methodLink own idx μ.1 ∈ tb) (hc : Ct κ.l O d' μ [.ref b, a1, a2] σ (some v) σ') (hdd : d' + 1 ≤ d) (he : (O.wd σ)[q]? = some (b, .inr (ci, fs))) (hci : vwCl[ci]? = some c) (hcc : c.1 = μ.1.cls) (hroom : (rest.map fun v => v.category).sum ≤ 8) (hd : decode cc pc = .ok (.invokevirtual idx, 3)) (kk : Z κ O σ' (pc + 3) lv (v :: rest)) : Z κ O σ pc lv (a2 :: a1 :: .ref b :: rest) := z_callV (As := [a1, a2]) cx hm hl hc hdd he hci hcc rfl rfl hroom hd (fun _ _ hq => by obtain ⟨rfl, rfl⟩ := hq; exact kk)
theorem z_V2v (cx : Cx κ O own cc d) {μ : Md} {idx d' : Nat} {q b ci : Nat} {fs : List Value} {c : vw_C} {a1 a2 : Value} (hm : Vm μ 2) (hl : Cond.methodLink own idx μ.1 ∈ tb) (hc : Ct κ.l O d' μ [.ref b, a1, a2] σ none σ') (hdd : d' + 1 ≤ d) (he : (O.wd σ)[q]? = some (b, .inr (ci, fs))) (hci : vwCl[ci]? = some c) (hcc : c.1 = μ.1.cls) (hroom : (rest.map fun v => v.category).sum ≤ 8) (hd : decode cc pc = .ok (.invokevirtual idx, 3)) (kk : Z κ O σ' (pc + 3) lv rest) : Z κ O σ pc lv (a2 :: a1 :: .ref b :: rest) := z_callV (As := [a1, a2]) cx hm hl hc hdd he hci hcc rfl rfl hroom hd (fun _ _ hq => by obtain ⟨rfl, rfl⟩ := hq; exact kk)
theorem z_V2I (cx : Cx κ O own cc d) {μ : Md} {idx d' : Nat} {q b ci : Nat} {fs : List Value} {c : vw_C} {a1 a2 : Value} {Po : Int32 → Mem → Prop} (hm : Vm μ 2) (hl : Cond.methodLink own idx μ.1 ∈ tb) (hc : CtI κ.l O d' μ [.ref b, a1, a2] σ Po) (hdd : d' + 1 ≤ d) (he : (O.wd σ)[q]? = some (b, .inr (ci, fs))) (hci : vwCl[ci]? = some c) (hcc : c.1 = μ.1.cls) (hroom : (rest.map fun v => v.category).sum ≤ 8) (hd : decode cc pc = .ok (.invokevirtual idx, 3)) (kk : ∀ (v : Int32) (σ' : Mem), Po v σ' → Z κ O σ' (pc + 3) lv (.int v :: rest)) : Z κ O σ pc lv (a2 :: a1 :: .ref b :: rest) := z_callV (As := [a1, a2]) cx hm hl hc hdd he hci hcc rfl rfl hroom hd (fun _ _ hq => by obtain ⟨v, rfl, hp⟩ := hq; exact kk v _ hp)
theorem z_V2V (cx : Cx κ O own cc d) {μ : Md} {idx d' : Nat} {q b ci : Nat} {fs : List Value} {c : vw_C} {a1 a2 : Value} {Po : Mem → Prop} (hm : Vm μ 2) (hl : Cond.methodLink own idx μ.1 ∈ tb) (hc : CtV κ.l O d' μ [.ref b, a1, a2] σ Po) (hdd : d' + 1 ≤ d) (he : (O.wd σ)[q]? = some (b, .inr (ci, fs))) (hci : vwCl[ci]? = some c) (hcc : c.1 = μ.1.cls) (hroom : (rest.map fun v => v.category).sum ≤ 8) (hd : decode cc pc = .ok (.invokevirtual idx, 3)) (kk : ∀ σ' : Mem, Po σ' → Z κ O σ' (pc + 3) lv rest) : Z κ O σ pc lv (a2 :: a1 :: .ref b :: rest) := z_callV (As := [a1, a2]) cx hm hl hc hdd he hci hcc rfl rfl hroom hd (fun _ _ hq => by obtain ⟨rfl, hp⟩ := hq; exact kk _ hp)
theorem z_V3i (cx : Cx κ O own cc d) {μ : Md} {idx d' : Nat} {q b ci : Nat} {fs : List Value} {c : vw_C} {a1 a2 a3 : Value} {v : Value} (hm : Vm μ 3) (hl : Cond.methodLink own idx μ.1 ∈ tb) (hc : Ct κ.l O d' μ [.ref b, a1, a2, a3] σ (some v) σ') (hdd : d' + 1 ≤ d) (he : (O.wd σ)[q]? = some (b, .inr (ci, fs))) (hci : vwCl[ci]? = some c) (hcc : c.1 = μ.1.cls) (hroom : (rest.map fun v => v.category).sum ≤ 8) (hd : decode cc pc = .ok (.invokevirtual idx, 3)) (kk : Z κ O σ' (pc + 3) lv (v :: rest)) : Z κ O σ pc lv (a3 :: a2 :: a1 :: .ref b :: rest) := z_callV (As := [a1, a2, a3]) cx hm hl hc hdd he hci hcc rfl rfl hroom hd (fun _ _ hq => by obtain ⟨rfl, rfl⟩ := hq; exact kk)
theorem z_V3v (cx : Cx κ O own cc d) {μ : Md} {idx d' : Nat} {q b ci : Nat} {fs : List Value} {c : vw_C} {a1 a2 a3 : Value} (hm : Vm μ 3) (hl : Cond.methodLink own idx μ.1 ∈ tb) (hc : Ct κ.l O d' μ [.ref b, a1, a2, a3] σ none σ') (hdd : d' + 1 ≤ d) (he : (O.wd σ)[q]? = some (b, .inr (ci, fs))) (hci : vwCl[ci]? = some c) (hcc : c.1 = μ.1.cls) (hroom : (rest.map fun v => v.category).sum ≤ 8) (hd : decode cc pc = .ok (.invokevirtual idx, 3)) (kk : Z κ O σ' (pc + 3) lv rest) : Z κ O σ pc lv (a3 :: a2 :: a1 :: .ref b :: rest) := z_callV (As := [a1, a2, a3]) cx hm hl hc hdd he hci hcc rfl rfl hroom hd (fun _ _ hq => by obtain ⟨rfl, rfl⟩ := hq; exact kk)
theorem z_V3I (cx : Cx κ O own cc d) {μ : Md} {idx d' : Nat} {q b ci : Nat} {fs : List Value} {c : vw_C} {a1 a2 a3 : Value} {Po : Int32 → Mem → Prop} (hm : Vm μ 3) (hl : Cond.methodLink own idx μ.1 ∈ tb) (hc : CtI κ.l O d' μ [.ref b, a1, a2, a3] σ Po) (hdd : d' + 1 ≤ d) (he : (O.wd σ)[q]? = some (b, .inr (ci, fs))) (hci : vwCl[ci]? = some c) (hcc : c.1 = μ.1.cls) (hroom : (rest.map fun v => v.category).sum ≤ 8) (hd : decode cc pc = .ok (.invokevirtual idx, 3)) (kk : ∀ (v : Int32) (σ' : Mem), Po v σ' → Z κ O σ' (pc + 3) lv (.int v :: rest)) : Z κ O σ pc lv (a3 :: a2 :: a1 :: .ref b :: rest) := z_callV (As := [a1, a2, a3]) cx hm hl hc hdd he hci hcc rfl rfl hroom hd (fun _ _ hq => by obtain ⟨v, rfl, hp⟩ := hq; exact kk v _ hp)
theorem z_V3V (cx : Cx κ O own cc d) {μ : Md} {idx d' : Nat} {q b ci : Nat} {fs : List Value} {c : vw_C} {a1 a2 a3 : Value} {Po : Mem → Prop} (hm : Vm μ 3) (hl : Cond.methodLink own idx μ.1 ∈ tb) (hc : CtV κ.l O d' μ [.ref b, a1, a2, a3] σ Po) (hdd : d' + 1 ≤ d) (he : (O.wd σ)[q]? = some (b, .inr (ci, fs))) (hci : vwCl[ci]? = some c) (hcc : c.1 = μ.1.cls) (hroom : (rest.map fun v => v.category).sum ≤ 8) (hd : decode cc pc = .ok (.invokevirtual idx, 3)) (kk : ∀ σ' : Mem, Po σ' → Z κ O σ' (pc + 3) lv rest) : Z κ O σ pc lv (a3 :: a2 :: a1 :: .ref b :: rest) := z_callV (As := [a1, a2, a3]) cx hm hl hc hdd he hci hcc rfl rfl hroom hd (fun _ _ hq => by obtain ⟨rfl, hp⟩ := hq; exact kk _ hp)
theorem z_S1i (cx : Cx κ O own cc d) {μ : Md} {idx d' : Nat} {a1 : Value} {v : Value} (hm : Sm μ 1) (hl : Cond.methodLink own idx μ.1 ∈ tb) (hc : Ct κ.l O d' μ [a1] σ (some v) σ') (hdd : d' + 1 ≤ d) (hroom : (rest.map fun v => v.category).sum ≤ 8) (hd : decode cc pc = .ok (.invokestatic idx, 3)) (kk : Z κ O σ' (pc + 3) lv (v :: rest)) : Z κ O σ pc lv (a1 :: rest) := z_callS (As := [a1]) cx hm hl hc hdd rfl rfl hroom hd (fun _ _ hq => by obtain ⟨rfl, rfl⟩ := hq; exact kk)
theorem z_S1v (cx : Cx κ O own cc d) {μ : Md} {idx d' : Nat} {a1 : Value} (hm : Sm μ 1) (hl : Cond.methodLink own idx μ.1 ∈ tb) (hc : Ct κ.l O d' μ [a1] σ none σ') (hdd : d' + 1 ≤ d) (hroom : (rest.map fun v => v.category).sum ≤ 8) (hd : decode cc pc = .ok (.invokestatic idx, 3)) (kk : Z κ O σ' (pc + 3) lv rest) : Z κ O σ pc lv (a1 :: rest) := z_callS (As := [a1]) cx hm hl hc hdd rfl rfl hroom hd (fun _ _ hq => by obtain ⟨rfl, rfl⟩ := hq; exact kk)
theorem z_S1I (cx : Cx κ O own cc d) {μ : Md} {idx d' : Nat} {a1 : Value} {Po : Int32 → Mem → Prop} (hm : Sm μ 1) (hl : Cond.methodLink own idx μ.1 ∈ tb) (hc : CtI κ.l O d' μ [a1] σ Po) (hdd : d' + 1 ≤ d) (hroom : (rest.map fun v => v.category).sum ≤ 8) (hd : decode cc pc = .ok (.invokestatic idx, 3)) (kk : ∀ (v : Int32) (σ' : Mem), Po v σ' → Z κ O σ' (pc + 3) lv (.int v :: rest)) : Z κ O σ pc lv (a1 :: rest) := z_callS (As := [a1]) cx hm hl hc hdd rfl rfl hroom hd (fun _ _ hq => by obtain ⟨v, rfl, hp⟩ := hq; exact kk v _ hp)
theorem z_S1V (cx : Cx κ O own cc d) {μ : Md} {idx d' : Nat} {a1 : Value} {Po : Mem → Prop} (hm : Sm μ 1) (hl : Cond.methodLink own idx μ.1 ∈ tb) (hc : CtV κ.l O d' μ [a1] σ Po) (hdd : d' + 1 ≤ d) (hroom : (rest.map fun v => v.category).sum ≤ 8) (hd : decode cc pc = .ok (.invokestatic idx, 3)) (kk : ∀ σ' : Mem, Po σ' → Z κ O σ' (pc + 3) lv rest) : Z κ O σ pc lv (a1 :: rest) := z_callS (As := [a1]) cx hm hl hc hdd rfl rfl hroom hd (fun _ _ hq => by obtain ⟨rfl, hp⟩ := hq; exact kk _ hp)
theorem z_S2i (cx : Cx κ O own cc d) {μ : Md} {idx d' : Nat} {a1 a2 : Value} {v : Value} (hm : Sm μ 2) (hl : Cond.methodLink own idx μ.1 ∈ tb) (hc : Ct κ.l O d' μ [a1, a2] σ (some v) σ') (hdd : d' + 1 ≤ d) (hroom : (rest.map fun v => v.category).sum ≤ 8) (hd : decode cc pc = .ok (.invokestatic idx, 3)) (kk : Z κ O σ' (pc + 3) lv (v :: rest)) : Z κ O σ pc lv (a2 :: a1 :: rest) := z_callS (As := [a1, a2]) cx hm hl hc hdd rfl rfl hroom hd (fun _ _ hq => by obtain ⟨rfl, rfl⟩ := hq; exact kk)
theorem z_S2v (cx : Cx κ O own cc d) {μ : Md} {idx d' : Nat} {a1 a2 : Value} (hm : Sm μ 2) (hl : Cond.methodLink own idx μ.1 ∈ tb) (hc : Ct κ.l O d' μ [a1, a2] σ none σ') (hdd : d' + 1 ≤ d) (hroom : (rest.map fun v => v.category).sum ≤ 8) (hd : decode cc pc = .ok (.invokestatic idx, 3)) (kk : Z κ O σ' (pc + 3) lv rest) : Z κ O σ pc lv (a2 :: a1 :: rest) := z_callS (As := [a1, a2]) cx hm hl hc hdd rfl rfl hroom hd (fun _ _ hq => by obtain ⟨rfl, rfl⟩ := hq; exact kk)
theorem z_S2I (cx : Cx κ O own cc d) {μ : Md} {idx d' : Nat} {a1 a2 : Value} {Po : Int32 → Mem → Prop} (hm : Sm μ 2) (hl : Cond.methodLink own idx μ.1 ∈ tb) (hc : CtI κ.l O d' μ [a1, a2] σ Po) (hdd : d' + 1 ≤ d) (hroom : (rest.map fun v => v.category).sum ≤ 8) (hd : decode cc pc = .ok (.invokestatic idx, 3)) (kk : ∀ (v : Int32) (σ' : Mem), Po v σ' → Z κ O σ' (pc + 3) lv (.int v :: rest)) : Z κ O σ pc lv (a2 :: a1 :: rest) := z_callS (As := [a1, a2]) cx hm hl hc hdd rfl rfl hroom hd (fun _ _ hq => by obtain ⟨v, rfl, hp⟩ := hq; exact kk v _ hp)
theorem z_S2V (cx : Cx κ O own cc d) {μ : Md} {idx d' : Nat} {a1 a2 : Value} {Po : Mem → Prop} (hm : Sm μ 2) (hl : Cond.methodLink own idx μ.1 ∈ tb) (hc : CtV κ.l O d' μ [a1, a2] σ Po) (hdd : d' + 1 ≤ d) (hroom : (rest.map fun v => v.category).sum ≤ 8) (hd : decode cc pc = .ok (.invokestatic idx, 3)) (kk : ∀ σ' : Mem, Po σ' → Z κ O σ' (pc + 3) lv rest) : Z κ O σ pc lv (a2 :: a1 :: rest) := z_callS (As := [a1, a2]) cx hm hl hc hdd rfl rfl hroom hd (fun _ _ hq => by obtain ⟨rfl, hp⟩ := hq; exact kk _ hp)
theorem z_S3i (cx : Cx κ O own cc d) {μ : Md} {idx d' : Nat} {a1 a2 a3 : Value} {v : Value} (hm : Sm μ 3) (hl : Cond.methodLink own idx μ.1 ∈ tb) (hc : Ct κ.l O d' μ [a1, a2, a3] σ (some v) σ') (hdd : d' + 1 ≤ d) (hroom : (rest.map fun v => v.category).sum ≤ 8) (hd : decode cc pc = .ok (.invokestatic idx, 3)) (kk : Z κ O σ' (pc + 3) lv (v :: rest)) : Z κ O σ pc lv (a3 :: a2 :: a1 :: rest) := z_callS (As := [a1, a2, a3]) cx hm hl hc hdd rfl rfl hroom hd (fun _ _ hq => by obtain ⟨rfl, rfl⟩ := hq; exact kk)
theorem z_S3v (cx : Cx κ O own cc d) {μ : Md} {idx d' : Nat} {a1 a2 a3 : Value} (hm : Sm μ 3) (hl : Cond.methodLink own idx μ.1 ∈ tb) (hc : Ct κ.l O d' μ [a1, a2, a3] σ none σ') (hdd : d' + 1 ≤ d) (hroom : (rest.map fun v => v.category).sum ≤ 8) (hd : decode cc pc = .ok (.invokestatic idx, 3)) (kk : Z κ O σ' (pc + 3) lv rest) : Z κ O σ pc lv (a3 :: a2 :: a1 :: rest) := z_callS (As := [a1, a2, a3]) cx hm hl hc hdd rfl rfl hroom hd (fun _ _ hq => by obtain ⟨rfl, rfl⟩ := hq; exact kk)
theorem z_S3I (cx : Cx κ O own cc d) {μ : Md} {idx d' : Nat} {a1 a2 a3 : Value} {Po : Int32 → Mem → Prop} (hm : Sm μ 3) (hl : Cond.methodLink own idx μ.1 ∈ tb) (hc : CtI κ.l O d' μ [a1, a2, a3] σ Po) (hdd : d' + 1 ≤ d) (hroom : (rest.map fun v => v.category).sum ≤ 8) (hd : decode cc pc = .ok (.invokestatic idx, 3)) (kk : ∀ (v : Int32) (σ' : Mem), Po v σ' → Z κ O σ' (pc + 3) lv (.int v :: rest)) : Z κ O σ pc lv (a3 :: a2 :: a1 :: rest) := z_callS (As := [a1, a2, a3]) cx hm hl hc hdd rfl rfl hroom hd (fun _ _ hq => by obtain ⟨v, rfl, hp⟩ := hq; exact kk v _ hp)
theorem z_S3V (cx : Cx κ O own cc d) {μ : Md} {idx d' : Nat} {a1 a2 a3 : Value} {Po : Mem → Prop} (hm : Sm μ 3) (hl : Cond.methodLink own idx μ.1 ∈ tb) (hc : CtV κ.l O d' μ [a1, a2, a3] σ Po) (hdd : d' + 1 ≤ d) (hroom : (rest.map fun v => v.category).sum ≤ 8) (hd : decode cc pc = .ok (.invokestatic idx, 3)) (kk : ∀ σ' : Mem, Po σ' → Z κ O σ' (pc + 3) lv rest) : Z κ O σ pc lv (a3 :: a2 :: a1 :: rest) := z_callS (As := [a1, a2, a3]) cx hm hl hc hdd rfl rfl hroom hd (fun _ _ hq => by obtain ⟨rfl, hp⟩ := hq; exact kk _ hp)
theorem z_S4i (cx : Cx κ O own cc d) {μ : Md} {idx d' : Nat} {a1 a2 a3 a4 : Value} {v : Value} (hm : Sm μ 4) (hl : Cond.methodLink own idx μ.1 ∈ tb) (hc : Ct κ.l O d' μ [a1, a2, a3, a4] σ (some v) σ') (hdd : d' + 1 ≤ d) (hroom : (rest.map fun v => v.category).sum ≤ 8) (hd : decode cc pc = .ok (.invokestatic idx, 3)) (kk : Z κ O σ' (pc + 3) lv (v :: rest)) : Z κ O σ pc lv (a4 :: a3 :: a2 :: a1 :: rest) := z_callS (As := [a1, a2, a3, a4]) cx hm hl hc hdd rfl rfl hroom hd (fun _ _ hq => by obtain ⟨rfl, rfl⟩ := hq; exact kk)
theorem z_S4v (cx : Cx κ O own cc d) {μ : Md} {idx d' : Nat} {a1 a2 a3 a4 : Value} (hm : Sm μ 4) (hl : Cond.methodLink own idx μ.1 ∈ tb) (hc : Ct κ.l O d' μ [a1, a2, a3, a4] σ none σ') (hdd : d' + 1 ≤ d) (hroom : (rest.map fun v => v.category).sum ≤ 8) (hd : decode cc pc = .ok (.invokestatic idx, 3)) (kk : Z κ O σ' (pc + 3) lv rest) : Z κ O σ pc lv (a4 :: a3 :: a2 :: a1 :: rest) := z_callS (As := [a1, a2, a3, a4]) cx hm hl hc hdd rfl rfl hroom hd (fun _ _ hq => by obtain ⟨rfl, rfl⟩ := hq; exact kk)
theorem z_S4I (cx : Cx κ O own cc d) {μ : Md} {idx d' : Nat} {a1 a2 a3 a4 : Value} {Po : Int32 → Mem → Prop} (hm : Sm μ 4) (hl : Cond.methodLink own idx μ.1 ∈ tb) (hc : CtI κ.l O d' μ [a1, a2, a3, a4] σ Po) (hdd : d' + 1 ≤ d) (hroom : (rest.map fun v => v.category).sum ≤ 8) (hd : decode cc pc = .ok (.invokestatic idx, 3)) (kk : ∀ (v : Int32) (σ' : Mem), Po v σ' → Z κ O σ' (pc + 3) lv (.int v :: rest)) : Z κ O σ pc lv (a4 :: a3 :: a2 :: a1 :: rest) := z_callS (As := [a1, a2, a3, a4]) cx hm hl hc hdd rfl rfl hroom hd (fun _ _ hq => by obtain ⟨v, rfl, hp⟩ := hq; exact kk v _ hp)
theorem z_S4V (cx : Cx κ O own cc d) {μ : Md} {idx d' : Nat} {a1 a2 a3 a4 : Value} {Po : Mem → Prop} (hm : Sm μ 4) (hl : Cond.methodLink own idx μ.1 ∈ tb) (hc : CtV κ.l O d' μ [a1, a2, a3, a4] σ Po) (hdd : d' + 1 ≤ d) (hroom : (rest.map fun v => v.category).sum ≤ 8) (hd : decode cc pc = .ok (.invokestatic idx, 3)) (kk : ∀ σ' : Mem, Po σ' → Z κ O σ' (pc + 3) lv rest) : Z κ O σ pc lv (a4 :: a3 :: a2 :: a1 :: rest) := z_callS (As := [a1, a2, a3, a4]) cx hm hl hc hdd rfl rfl hroom hd (fun _ _ hq => by obtain ⟨rfl, hp⟩ := hq; exact kk _ hp)
theorem z_N1i (cx : Cx κ O own cc d) {μ : Md} {host : String} {idx d' : Nat} {a1 : Value} {v : Value} (hm : Sm μ 1) (hl : va_Nw (.methodLinkNest own idx μ.1 host) κ.s) (hc : Ct κ.l O d' μ [a1] σ (some v) σ') (hdd : d' + 1 ≤ d) (hroom : (rest.map fun v => v.category).sum ≤ 8) (hd : decode cc pc = .ok (.invokestatic idx, 3)) (kk : Z κ O σ' (pc + 3) lv (v :: rest)) : Z κ O σ pc lv (a1 :: rest) := z_callSN (As := [a1]) cx hm hl hc hdd rfl rfl hroom hd (fun _ _ hq => by obtain ⟨rfl, rfl⟩ := hq; exact kk)
theorem z_N1v (cx : Cx κ O own cc d) {μ : Md} {host : String} {idx d' : Nat} {a1 : Value} (hm : Sm μ 1) (hl : va_Nw (.methodLinkNest own idx μ.1 host) κ.s) (hc : Ct κ.l O d' μ [a1] σ none σ') (hdd : d' + 1 ≤ d) (hroom : (rest.map fun v => v.category).sum ≤ 8) (hd : decode cc pc = .ok (.invokestatic idx, 3)) (kk : Z κ O σ' (pc + 3) lv rest) : Z κ O σ pc lv (a1 :: rest) := z_callSN (As := [a1]) cx hm hl hc hdd rfl rfl hroom hd (fun _ _ hq => by obtain ⟨rfl, rfl⟩ := hq; exact kk)
theorem z_N1I (cx : Cx κ O own cc d) {μ : Md} {host : String} {idx d' : Nat} {a1 : Value} {Po : Int32 → Mem → Prop} (hm : Sm μ 1) (hl : va_Nw (.methodLinkNest own idx μ.1 host) κ.s) (hc : CtI κ.l O d' μ [a1] σ Po) (hdd : d' + 1 ≤ d) (hroom : (rest.map fun v => v.category).sum ≤ 8) (hd : decode cc pc = .ok (.invokestatic idx, 3)) (kk : ∀ (v : Int32) (σ' : Mem), Po v σ' → Z κ O σ' (pc + 3) lv (.int v :: rest)) : Z κ O σ pc lv (a1 :: rest) := z_callSN (As := [a1]) cx hm hl hc hdd rfl rfl hroom hd (fun _ _ hq => by obtain ⟨v, rfl, hp⟩ := hq; exact kk v _ hp)
theorem z_N1V (cx : Cx κ O own cc d) {μ : Md} {host : String} {idx d' : Nat} {a1 : Value} {Po : Mem → Prop} (hm : Sm μ 1) (hl : va_Nw (.methodLinkNest own idx μ.1 host) κ.s) (hc : CtV κ.l O d' μ [a1] σ Po) (hdd : d' + 1 ≤ d) (hroom : (rest.map fun v => v.category).sum ≤ 8) (hd : decode cc pc = .ok (.invokestatic idx, 3)) (kk : ∀ σ' : Mem, Po σ' → Z κ O σ' (pc + 3) lv rest) : Z κ O σ pc lv (a1 :: rest) := z_callSN (As := [a1]) cx hm hl hc hdd rfl rfl hroom hd (fun _ _ hq => by obtain ⟨rfl, hp⟩ := hq; exact kk _ hp)
theorem z_N2i (cx : Cx κ O own cc d) {μ : Md} {host : String} {idx d' : Nat} {a1 a2 : Value} {v : Value} (hm : Sm μ 2) (hl : va_Nw (.methodLinkNest own idx μ.1 host) κ.s) (hc : Ct κ.l O d' μ [a1, a2] σ (some v) σ') (hdd : d' + 1 ≤ d) (hroom : (rest.map fun v => v.category).sum ≤ 8) (hd : decode cc pc = .ok (.invokestatic idx, 3)) (kk : Z κ O σ' (pc + 3) lv (v :: rest)) : Z κ O σ pc lv (a2 :: a1 :: rest) := z_callSN (As := [a1, a2]) cx hm hl hc hdd rfl rfl hroom hd (fun _ _ hq => by obtain ⟨rfl, rfl⟩ := hq; exact kk)
theorem z_N2v (cx : Cx κ O own cc d) {μ : Md} {host : String} {idx d' : Nat} {a1 a2 : Value} (hm : Sm μ 2) (hl : va_Nw (.methodLinkNest own idx μ.1 host) κ.s) (hc : Ct κ.l O d' μ [a1, a2] σ none σ') (hdd : d' + 1 ≤ d) (hroom : (rest.map fun v => v.category).sum ≤ 8) (hd : decode cc pc = .ok (.invokestatic idx, 3)) (kk : Z κ O σ' (pc + 3) lv rest) : Z κ O σ pc lv (a2 :: a1 :: rest) := z_callSN (As := [a1, a2]) cx hm hl hc hdd rfl rfl hroom hd (fun _ _ hq => by obtain ⟨rfl, rfl⟩ := hq; exact kk)
theorem z_N2I (cx : Cx κ O own cc d) {μ : Md} {host : String} {idx d' : Nat} {a1 a2 : Value} {Po : Int32 → Mem → Prop} (hm : Sm μ 2) (hl : va_Nw (.methodLinkNest own idx μ.1 host) κ.s) (hc : CtI κ.l O d' μ [a1, a2] σ Po) (hdd : d' + 1 ≤ d) (hroom : (rest.map fun v => v.category).sum ≤ 8) (hd : decode cc pc = .ok (.invokestatic idx, 3)) (kk : ∀ (v : Int32) (σ' : Mem), Po v σ' → Z κ O σ' (pc + 3) lv (.int v :: rest)) : Z κ O σ pc lv (a2 :: a1 :: rest) := z_callSN (As := [a1, a2]) cx hm hl hc hdd rfl rfl hroom hd (fun _ _ hq => by obtain ⟨v, rfl, hp⟩ := hq; exact kk v _ hp)
theorem z_N2V (cx : Cx κ O own cc d) {μ : Md} {host : String} {idx d' : Nat} {a1 a2 : Value} {Po : Mem → Prop} (hm : Sm μ 2) (hl : va_Nw (.methodLinkNest own idx μ.1 host) κ.s) (hc : CtV κ.l O d' μ [a1, a2] σ Po) (hdd : d' + 1 ≤ d) (hroom : (rest.map fun v => v.category).sum ≤ 8) (hd : decode cc pc = .ok (.invokestatic idx, 3)) (kk : ∀ σ' : Mem, Po σ' → Z κ O σ' (pc + 3) lv rest) : Z κ O σ pc lv (a2 :: a1 :: rest) := z_callSN (As := [a1, a2]) cx hm hl hc hdd rfl rfl hroom hd (fun _ _ hq => by obtain ⟨rfl, hp⟩ := hq; exact kk _ hp)
end ZR
