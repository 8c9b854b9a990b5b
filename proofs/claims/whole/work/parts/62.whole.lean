section KV
variable {κ0 κ : Kx} {D : va_G} {tys : List (ClassId × FieldType)} {x : Xs} {A : Nat → Prop} {own : String} {cc : ByteArray} {d c s : Nat} {ws : va_W} {σ : Mem} {pc : Nat} {lv : List (Option Value)} {rest : List Value}
theorem k_eqv {P : Ow} {ws' : va_W} {st : List Value} (kc : KC κ0 P own cc d c s κ ws) (hP : ∀ H, va_P P.1 vwCl ws H → va_P P.1 vwCl ws' H) (hD : va_D P.2.2.1 ws → va_D P.2.2.1 ws') (kk : ∀ κ : Kx, KC κ0 P own cc d c s κ ws' → Z κ (OW P ws') σ pc lv st) : Z κ (OW P ws) σ pc lv st := fun H locs ls hP0 hS h =>
  kk _ (kc.re (hD (kc.1.2.2.2.2.2.2.1.1 σ)) 0 0 (by omega) (by omega)) H locs ls (hP H hP0) hS h
theorem k_runK {wd : Mem → va_W} {A' : Nat → Prop} {SF' : State → Prop} {wa wb : va_W} {as : Array Value} {st0 : List Value} {σ1 : Mem} {Po : Option Value → Mem → Prop} {H : Heap} {locs : List Loc} {ls : Array Slot} (kc : KC κ0 (PQ D tys x A) own cc d c s κ (wa ++ (wd σ1 ++ wb))) (hP : va_P D vwCl (wa ++ (wd σ1 ++ wb)) H) (hS : va_S A κ.s.heap H locs) (hl : lvh ls κ.nL lv) (hAA : ∀ q, A' q → A q) (hfst : ∀ σ2, (wd σ2).map Prod.fst = (wd σ1).map Prod.fst) (hwa : ∀ (k : Nat) (p : Nat × va_E), wa[k]? = some p → ¬ A' p.1) (hwb : ∀ (k : Nat) (p : Nat × va_E), wb[k]? = some p → ¬ A' p.1)
    (hr : va_Run κ.p κ.l κ.e κ.R κ.s κ.m κ.args κ.below κ.meth κ.c H locs κ.ce κ.sl 0 0 (F0 κ.m pc ls st0) rest (Qct (D, tys, wd, A', SF') Po as) A')
    (kk : ∀ (r : Option Value) (σ2 : Mem) (κ : Kx), Po r σ2 → KC κ0 (PQ D tys x A) own cc d c s κ (wa ++ (wd σ2 ++ wb)) → Z κ (OW (PQ D tys x A) (wa ++ (wd σ2 ++ wb))) σ (pc + 3) lv (r.toList ++ rest)) : W κ.p κ.l κ.e κ.R κ.s κ.m κ.args κ.below κ.meth κ.c H locs κ.ce κ.sl κ.Q (F0 κ.m pc ls st0) := by
  intro T hT X
  obtain ⟨v, st₀, t, T', L, h0, X', hL, e1, e2, ⟨⟨r, σ9, hp, hv, hP9⟩, hz, hk⟩, st⟩ := hr T hT X
  cases hv
  rw [h0] at hz hk
  have hP9 : va_P D vwCl (wd σ9) t.heap := hP9
  have hS' : va_S A κ.s.heap T'.heap (locs ++ L) := ⟨Nat.le_trans hS.1 (by rw [e1]; exact hz), fun q h1 h2 => by rw [e1, hk q (Nat.lt_of_lt_of_le h1 hS.1) (fun z => h2 (hAA q z))]; exact hS.2.1 q h1 h2, fun q hq => by
      rcases List.mem_append.mp hq with h | h
      · exact hS.2.2 q h
      · exact hAA _ (hL q h)⟩
  have hD : va_D A (wa ++ (wd σ1 ++ wb)) := kc.1.2.2.2.2.2.2.1.1 σ
  have hD' : va_D A (wa ++ (wd σ9 ++ wb)) := vaD_fst hD (by rw [List.map_append, List.map_append, List.map_append, List.map_append, hfst σ9])
  have hlen : (wd σ9).length = (wd σ1).length := by
    have := congrArg List.length (hfst σ9)
    simpa using this
  have hP' : va_P D vwCl (wa ++ (wd σ9 ++ wb)) T'.heap := by
    intro k p hk2
    rcases Nat.lt_or_ge k wa.length with g1 | g1
    · have h1 : (wa ++ (wd σ1 ++ wb))[k]? = some p := by
        rw [List.getElem?_append_left g1] at hk2 ⊢; exact hk2
      have h2 : wa[k]? = some p := by rw [List.getElem?_append_left g1] at hk2; exact hk2
      exact (hP k p h1).kept (by rw [e1]; exact hk p.1 (hP k p h1).lt (hwa k p h2))
    · rw [List.getElem?_append_right g1] at hk2
      rcases Nat.lt_or_ge (k - wa.length) (wd σ9).length with g2 | g2
      · rw [List.getElem?_append_left g2] at hk2
        rw [e1]; exact hP9 _ p hk2
      · rw [List.getElem?_append_right g2] at hk2
        have h1 : (wa ++ (wd σ1 ++ wb))[k]? = some p := by
          rw [List.getElem?_append_right g1, List.getElem?_append_right (by omega), ← hlen]; exact hk2
        exact (hP k p h1).kept (by rw [e1]; exact hk p.1 (hP k p h1).lt (hwb _ p hk2))
  obtain ⟨t2, a1, b1⟩ := kk v σ9 _ hp (kc.re hD' 0 0 (by omega) (by omega)) T'.heap (locs ++ L) ls hP' hS' hl T' rfl X'
  exact ⟨t2, st t2 a1, b1⟩
theorem k_callV {wd : Mem → va_W} {A' : Nat → Prop} {SF' : State → Prop} {wa wb : va_W} {μ : Md} {n idx d' q b ci : Nat} {fs : List Value} {cq : vw_C} {As st0 : List Value} {σ1 : Mem} {Po : Option Value → Mem → Prop} (kc : KC κ0 (PQ D tys x A) own cc d c s κ (wa ++ (wd σ1 ++ wb))) (hO : OkOm (D, tys, wd, A', SF')) (hSF : ∀ U, SFQ x A U → SF' U) (hAA : ∀ q, A' q → A q) (hfst : ∀ σ2, (wd σ2).map Prod.fst = (wd σ1).map Prod.fst) (hwa : ∀ (k : Nat) (p : Nat × va_E), wa[k]? = some p → ¬ A' p.1) (hwb : ∀ (k : Nat) (p : Nat × va_E), wb[k]? = some p → ¬ A' p.1)
    (hm : Vm μ n) (hl : Cond.methodLink own idx μ.1 ∈ tb) (hc : CtR κ.l (D, tys, wd, A', SF') d' μ (.ref b :: As) σ1 Po) (hdd : d' + 1 ≤ d) (he : (wd σ1)[q]? = some (b, .inr (ci, fs))) (hci : vwCl[ci]? = some cq) (hcc : cq.1 = μ.1.cls) (hn : As.length = n) (hst : st0 = As.reverse ++ .ref b :: rest) (hroom : (rest.map fun v => v.category).sum ≤ 8) (hd : decode cc pc = .ok (.invokevirtual idx, 3))
    (kk : ∀ (r : Option Value) (σ2 : Mem) (κ : Kx), Po r σ2 → KC κ0 (PQ D tys x A) own cc d c s κ (wa ++ (wd σ2 ++ wb)) → Z κ (OW (PQ D tys x A) (wa ++ (wd σ2 ++ wb))) σ (pc + 3) lv (r.toList ++ rest)) : Z κ (OW (PQ D tys x A) (wa ++ (wd σ1 ++ wb))) σ pc lv st0 := by
  intro H locs ls hP hS h
  have cx := kc.1
  have hPc : va_P D vwCl (wd σ1) H := fun k p hk => hP (wa.length + k) p (by
    rw [List.getElem?_append_right (Nat.le_add_right _ _), Nat.add_sub_cancel_left, List.getElem?_append_left (List.getElem?_eq_some_iff.mp hk).1]; exact hk)
  obtain ⟨⟨m1, m2, m3, m4⟩, m5, m6⟩ := hm
  refine k_runK (σ := σ) kc hP hS h hAA hfst hwa hwb (va_runV (As := As) (rest := rest) (bytes := μ.2.1) (maxL := μ.2.2.1) (ret := μ.2.2.2) (C := μ.1.cls) (b := b) ⟨cx.1, cx.2.1, cx.2.2.1, cx.2.2.2.1, cx.2.2.2.2.1⟩ hc (cwV n cx.2.2.2.2.1 (tb_good ?_) rfl rfl rfl ⟨rfl, m3⟩ ⟨?_, ?_⟩) ⟨pre_blind hO _ _, ?_, fun U hU hW => ⟨rfl, by rw [hU]; exact hPc, va_K.moved hW.alike cx.2.2.2.2.2.1, hSF U (SFQ.st hW (fun q q1 q2 => by rw [hU]; exact hS.2.1 q q1 q2) cx.2.2.2.2.2.2.2.1)⟩⟩ rfl hn h.1 hst (lv_room hroom) hd ⟨cx.2.2.2.2.2.2.2.2.2.2.1, cx.2.2.2.2.2.2.2.2.2.2.2⟩) kk
  · intro w hw
    simp only [wsV, List.mem_append, List.mem_cons, List.not_mem_nil, or_false] at hw
    rcases hw with (rfl | rfl | rfl | rfl) | rfl | hw
    · exact hl
    · exact m5
    · exact m6
    · exact m2
    · exact m1
    · exact hw
  · exact Nat.le_trans hdd cx.2.2.2.2.2.2.2.2.1
  · have h9 := cx.2.2.2.2.2.2.2.2.2.1
    show 8 + (μ.2.2.1 + 11) + 36 * d' ≤ κ.R.locals
    omega
  · rw [← hcc]; exact va_recv cx.2.2.2.2.2.1 hPc hci he
end KV
theorem wdG_fst {n : Nat} {ad : Nat → Nat} {E : Nat → (Nat → Int32) → va_E} (σ σ2 : Mem) : (wdG n ad E σ2).map Prod.fst = (wdG n ad E σ).map Prod.fst := by
  simp [wdG, Function.comp_def]
theorem apG_of {A : Nat → Prop} {n : Nat} {ad : Nat → Nat} {E : Nat → (Nat → Int32) → va_E} {σ : Mem} (h : va_D A (wdG n ad E σ)) : ApG n ad ∧ ∀ q, inG n ad q → A q :=
  ⟨fun i j hi hj e => h.1 i j _ _ (wdG_at hi) (wdG_at hj) e, fun q hq => by
    obtain ⟨i, hi, rfl⟩ := hq
    exact h.2 i _ (wdG_at hi)⟩
def gK (D : va_G) (cs : Cs) (x : Xs) (ad : Nat → Nat) : Gx := (D, cs, ad, (x.1, x.2.1), x.2.2.1, x.2.2.2)
def wX7 (D : va_G) (cs : Cs) (x : Xs) (_ : Nat) (u : (Nat → Nat) × Mem) : va_W := wdG 123 u.1 (cE (gK D cs x u.1)) u.2
def wX8g (D : va_G) (cs : Cs) (x : Xs) (ad : Nat → Nat) (μ : Mem) : va_W := wdG 9 ad (mE (gK D cs x ad)) μ
def adF (h0 : Nat) (q1 : Nat) (u1 : Nat → Nat) (q2 : Nat) (u2 : Nat → Nat) (q3 : Nat) (u3 : Nat → Nat) (q4 : Nat) (u4 : Nat → Nat) (kp : Nat) (v0 : Nat) (y0 : Nat → Nat) (v1 : Nat) (y1 : Nat → Nat) (ik : Nat) (q5 : Nat) (u5 : Nat → Nat) (q6 : Nat) (u6 : Nat → Nat) (q7 : Nat) (u7 : Nat → Nat) : Nat → Nat := fun i => ([h0, q1, u1 0, u1 1, u1 2, u1 3, q2, u2 0, u2 1, u2 2, u2 3, u2 4, q3, u3 0, u3 1, u3 2, u3 3, u3 4, u3 5, u3 6, u3 7, q4, u4 0, u4 1, u4 2, u4 3, u4 4, u4 5, u4 6, u4 7, u4 8, u4 9, u4 10, u4 11, u4 12, u4 13, u4 14, u4 15, u4 16, u4 17, u4 18, u4 19, u4 20, u4 21, u4 22, u4 23, u4 24, u4 25, u4 26, u4 27, u4 28, u4 29, u4 30, u4 31, u4 32, u4 33, u4 34, u4 35, u4 36, u4 37, u4 38, u4 39, u4 40, u4 41, u4 42, u4 43, u4 44, u4 45, u4 46, u4 47, u4 48, u4 49, u4 50, u4 51, u4 52, u4 53, u4 54, u4 55, u4 56, u4 57, u4 58, u4 59, u4 60, u4 61, u4 62, u4 63, u4 64, u4 65, u4 66, u4 67, u4 68, u4 69, u4 70, u4 71, u4 72, kp, v0, y0 0, y0 1, y0 2, y0 3, y0 4, y0 5, y0 6, y0 7, v1, y1 0, y1 1, y1 2, y1 3, y1 4, y1 5, y1 6, y1 7, ik, q5, u5 0, q6, u6 0, u6 1, q7, u7 0, u7 1] : List Nat).getD i 0
def WF (cs : Cs) (h0 : Nat) (q1 : Nat) (u1 : Nat → Nat) (q2 : Nat) (u2 : Nat → Nat) (q3 : Nat) (u3 : Nat → Nat) (q4 : Nat) (u4 : Nat → Nat) (kp : Nat) (v0 : Nat) (y0 : Nat → Nat) (v1 : Nat) (y1 : Nat → Nat) (ik : Nat) (q5 : Nat) (u5 : Nat → Nat) (q6 : Nat) (u6 : Nat → Nat) (q7 : Nat) (u7 : Nat → Nat) : va_W := ((((((((((([(h0, .inr (7, [.ref q1, .ref q2, .ref q3, .ref q4, .ref kp, .ref ik, .ref q5, .ref q6, .ref q7]))] ++ wX5 cs q1 u1) ++ wX6 cs q2 u2) ++ wX1 cs q3 u3) ++ wX3 cs q4 u4) ++ [(kp, .inl (cs.2.2, 2, .inr (.inr (.inr (.inr (va_up (va_up (fun _ => none) 0 (some v0)) 1 (some v1)))))))]) ++ wX1 cs v0 y0) ++ wX1 cs v1 y1) ++ [(ik, .inl (cs.2.1, 2, .inl z0))]) ++ wX0 cs q2 q3 q5 u5) ++ wX2 cs q2 q3 q6 u6) ++ wX4 cs q2 q7 u7)
def CF (D : va_G) (cs : Cs) (x : Xs) (h0 : Nat) (q1 : Nat) (u1 : Nat → Nat) (q2 : Nat) (u2 : Nat → Nat) (q3 : Nat) (u3 : Nat → Nat) (q4 : Nat) (u4 : Nat → Nat) (kp : Nat) (v0 : Nat) (y0 : Nat → Nat) (v1 : Nat) (y1 : Nat → Nat) (ik : Nat) (q5 : Nat) (u5 : Nat → Nat) (q6 : Nat) (u6 : Nat → Nat) (q7 : Nat) (u7 : Nat → Nat) (i : Nat) : va_E := if i = 22 then .inl (cs.2.2, 8, .inr (.inr (.inr (.inr (fun k => some (u4 (1 + 9 * k))))))) else if i = 95 then .inl (cs.2.2, 2, .inr (.inr (.inr (.inr (va_up (va_up (fun _ => none) 0 (some v0)) 1 (some v1)))))) else cE (gK D cs x (adF h0 q1 u1 q2 u2 q3 u3 q4 u4 kp v0 y0 v1 y1 ik q5 u5 q6 u6 q7 u7)) i z0
theorem ix_l {X Y : va_W} {k : Nat} {p : Nat × va_E} (h : X[k]? = some p) : (X ++ Y)[k]? = some p := by rw [List.getElem?_append_left (List.getElem?_eq_some_iff.mp h).1]; exact h
theorem ix_r {X Y : va_W} {k : Nat} {p : Nat × va_E} (b j : Nat) (hl : X.length = b) (hk : k = b + j) (h : Y[j]? = some p) : (X ++ Y)[k]? = some p := by subst hk; subst hl; rw [List.getElem?_append_right (Nat.le_add_right _ _), Nat.add_sub_cancel_left]; exact h
theorem ix_len {X Y : va_W} {a b : Nat} (h1 : X.length = a) (h2 : Y.length = b) : (X ++ Y).length = a + b := by rw [List.length_append, h1, h2]
theorem lX3 {cs : Cs} {h : Nat} {a : Nat → Nat} : (wX3 cs h a).length = 74 := (ix_len (ix_len (ix_len (ix_len (ix_len (ix_len (ix_len (ix_len rfl rfl) rfl) rfl) rfl) rfl) rfl) rfl) rfl)
set_option maxRecDepth 100000 in
set_option maxHeartbeats 4000000 in
theorem WF_at (D : va_G) (cs : Cs) (x : Xs) (h0 : Nat) (q1 : Nat) (u1 : Nat → Nat) (q2 : Nat) (u2 : Nat → Nat) (q3 : Nat) (u3 : Nat → Nat) (q4 : Nat) (u4 : Nat → Nat) (kp : Nat) (v0 : Nat) (y0 : Nat → Nat) (v1 : Nat) (y1 : Nat → Nat) (ik : Nat) (q5 : Nat) (u5 : Nat → Nat) (q6 : Nat) (u6 : Nat → Nat) (q7 : Nat) (u7 : Nat → Nat) : ∀ i, i < 123 → (WF cs h0 q1 u1 q2 u2 q3 u3 q4 u4 kp v0 y0 v1 y1 ik q5 u5 q6 u6 q7 u7)[i]? = some (adF h0 q1 u1 q2 u2 q3 u3 q4 u4 kp v0 y0 v1 y1 ik q5 u5 q6 u6 q7 u7 i, CF D cs x h0 q1 u1 q2 u2 q3 u3 q4 u4 kp v0 y0 v1 y1 ik q5 u5 q6 u6 q7 u7 i)
  | 0, _ => (ix_l (ix_l (ix_l (ix_l (ix_l (ix_l (ix_l (ix_l (ix_l (ix_l (ix_l rfl)))))))))))
  | 1, _ => (ix_l (ix_l (ix_l (ix_l (ix_l (ix_l (ix_l (ix_l (ix_l (ix_l (ix_r 1 0 rfl rfl rfl)))))))))))
  | 2, _ => (ix_l (ix_l (ix_l (ix_l (ix_l (ix_l (ix_l (ix_l (ix_l (ix_l (ix_r 1 1 rfl rfl rfl)))))))))))
  | 3, _ => (ix_l (ix_l (ix_l (ix_l (ix_l (ix_l (ix_l (ix_l (ix_l (ix_l (ix_r 1 2 rfl rfl rfl)))))))))))
  | 4, _ => (ix_l (ix_l (ix_l (ix_l (ix_l (ix_l (ix_l (ix_l (ix_l (ix_l (ix_r 1 3 rfl rfl rfl)))))))))))
  | 5, _ => (ix_l (ix_l (ix_l (ix_l (ix_l (ix_l (ix_l (ix_l (ix_l (ix_l (ix_r 1 4 rfl rfl rfl)))))))))))
  | 6, _ => (ix_l (ix_l (ix_l (ix_l (ix_l (ix_l (ix_l (ix_l (ix_l (ix_r 6 0 (ix_len rfl rfl) rfl rfl))))))))))
  | 7, _ => (ix_l (ix_l (ix_l (ix_l (ix_l (ix_l (ix_l (ix_l (ix_l (ix_r 6 1 (ix_len rfl rfl) rfl rfl))))))))))
  | 8, _ => (ix_l (ix_l (ix_l (ix_l (ix_l (ix_l (ix_l (ix_l (ix_l (ix_r 6 2 (ix_len rfl rfl) rfl rfl))))))))))
  | 9, _ => (ix_l (ix_l (ix_l (ix_l (ix_l (ix_l (ix_l (ix_l (ix_l (ix_r 6 3 (ix_len rfl rfl) rfl rfl))))))))))
  | 10, _ => (ix_l (ix_l (ix_l (ix_l (ix_l (ix_l (ix_l (ix_l (ix_l (ix_r 6 4 (ix_len rfl rfl) rfl rfl))))))))))
  | 11, _ => (ix_l (ix_l (ix_l (ix_l (ix_l (ix_l (ix_l (ix_l (ix_l (ix_r 6 5 (ix_len rfl rfl) rfl rfl))))))))))
  | 12, _ => (ix_l (ix_l (ix_l (ix_l (ix_l (ix_l (ix_l (ix_l (ix_r 12 0 (ix_len (ix_len rfl rfl) rfl) rfl rfl)))))))))
  | 13, _ => (ix_l (ix_l (ix_l (ix_l (ix_l (ix_l (ix_l (ix_l (ix_r 12 1 (ix_len (ix_len rfl rfl) rfl) rfl rfl)))))))))
  | 14, _ => (ix_l (ix_l (ix_l (ix_l (ix_l (ix_l (ix_l (ix_l (ix_r 12 2 (ix_len (ix_len rfl rfl) rfl) rfl rfl)))))))))
  | 15, _ => (ix_l (ix_l (ix_l (ix_l (ix_l (ix_l (ix_l (ix_l (ix_r 12 3 (ix_len (ix_len rfl rfl) rfl) rfl rfl)))))))))
  | 16, _ => (ix_l (ix_l (ix_l (ix_l (ix_l (ix_l (ix_l (ix_l (ix_r 12 4 (ix_len (ix_len rfl rfl) rfl) rfl rfl)))))))))
  | 17, _ => (ix_l (ix_l (ix_l (ix_l (ix_l (ix_l (ix_l (ix_l (ix_r 12 5 (ix_len (ix_len rfl rfl) rfl) rfl rfl)))))))))
  | 18, _ => (ix_l (ix_l (ix_l (ix_l (ix_l (ix_l (ix_l (ix_l (ix_r 12 6 (ix_len (ix_len rfl rfl) rfl) rfl rfl)))))))))
  | 19, _ => (ix_l (ix_l (ix_l (ix_l (ix_l (ix_l (ix_l (ix_l (ix_r 12 7 (ix_len (ix_len rfl rfl) rfl) rfl rfl)))))))))
  | 20, _ => (ix_l (ix_l (ix_l (ix_l (ix_l (ix_l (ix_l (ix_l (ix_r 12 8 (ix_len (ix_len rfl rfl) rfl) rfl rfl)))))))))
  | 21, _ => (ix_l (ix_l (ix_l (ix_l (ix_l (ix_l (ix_l (ix_r 21 0 (ix_len (ix_len (ix_len rfl rfl) rfl) rfl) rfl (ix_l (ix_l (ix_l (ix_l (ix_l (ix_l (ix_l (ix_l rfl))))))))))))))))
  | 22, _ => (ix_l (ix_l (ix_l (ix_l (ix_l (ix_l (ix_l (ix_r 21 1 (ix_len (ix_len (ix_len rfl rfl) rfl) rfl) rfl (ix_l (ix_l (ix_l (ix_l (ix_l (ix_l (ix_l (ix_l rfl))))))))))))))))
  | 23, _ => (ix_l (ix_l (ix_l (ix_l (ix_l (ix_l (ix_l (ix_r 21 2 (ix_len (ix_len (ix_len rfl rfl) rfl) rfl) rfl (ix_l (ix_l (ix_l (ix_l (ix_l (ix_l (ix_l (ix_r 2 0 rfl rfl rfl))))))))))))))))
  | 24, _ => (ix_l (ix_l (ix_l (ix_l (ix_l (ix_l (ix_l (ix_r 21 3 (ix_len (ix_len (ix_len rfl rfl) rfl) rfl) rfl (ix_l (ix_l (ix_l (ix_l (ix_l (ix_l (ix_l (ix_r 2 1 rfl rfl rfl))))))))))))))))
  | 25, _ => (ix_l (ix_l (ix_l (ix_l (ix_l (ix_l (ix_l (ix_r 21 4 (ix_len (ix_len (ix_len rfl rfl) rfl) rfl) rfl (ix_l (ix_l (ix_l (ix_l (ix_l (ix_l (ix_l (ix_r 2 2 rfl rfl rfl))))))))))))))))
  | 26, _ => (ix_l (ix_l (ix_l (ix_l (ix_l (ix_l (ix_l (ix_r 21 5 (ix_len (ix_len (ix_len rfl rfl) rfl) rfl) rfl (ix_l (ix_l (ix_l (ix_l (ix_l (ix_l (ix_l (ix_r 2 3 rfl rfl rfl))))))))))))))))
  | 27, _ => (ix_l (ix_l (ix_l (ix_l (ix_l (ix_l (ix_l (ix_r 21 6 (ix_len (ix_len (ix_len rfl rfl) rfl) rfl) rfl (ix_l (ix_l (ix_l (ix_l (ix_l (ix_l (ix_l (ix_r 2 4 rfl rfl rfl))))))))))))))))
  | 28, _ => (ix_l (ix_l (ix_l (ix_l (ix_l (ix_l (ix_l (ix_r 21 7 (ix_len (ix_len (ix_len rfl rfl) rfl) rfl) rfl (ix_l (ix_l (ix_l (ix_l (ix_l (ix_l (ix_l (ix_r 2 5 rfl rfl rfl))))))))))))))))
  | 29, _ => (ix_l (ix_l (ix_l (ix_l (ix_l (ix_l (ix_l (ix_r 21 8 (ix_len (ix_len (ix_len rfl rfl) rfl) rfl) rfl (ix_l (ix_l (ix_l (ix_l (ix_l (ix_l (ix_l (ix_r 2 6 rfl rfl rfl))))))))))))))))
  | 30, _ => (ix_l (ix_l (ix_l (ix_l (ix_l (ix_l (ix_l (ix_r 21 9 (ix_len (ix_len (ix_len rfl rfl) rfl) rfl) rfl (ix_l (ix_l (ix_l (ix_l (ix_l (ix_l (ix_l (ix_r 2 7 rfl rfl rfl))))))))))))))))
  | 31, _ => (ix_l (ix_l (ix_l (ix_l (ix_l (ix_l (ix_l (ix_r 21 10 (ix_len (ix_len (ix_len rfl rfl) rfl) rfl) rfl (ix_l (ix_l (ix_l (ix_l (ix_l (ix_l (ix_l (ix_r 2 8 rfl rfl rfl))))))))))))))))
  | 32, _ => (ix_l (ix_l (ix_l (ix_l (ix_l (ix_l (ix_l (ix_r 21 11 (ix_len (ix_len (ix_len rfl rfl) rfl) rfl) rfl (ix_l (ix_l (ix_l (ix_l (ix_l (ix_l (ix_r 11 0 (ix_len rfl rfl) rfl rfl)))))))))))))))
  | 33, _ => (ix_l (ix_l (ix_l (ix_l (ix_l (ix_l (ix_l (ix_r 21 12 (ix_len (ix_len (ix_len rfl rfl) rfl) rfl) rfl (ix_l (ix_l (ix_l (ix_l (ix_l (ix_l (ix_r 11 1 (ix_len rfl rfl) rfl rfl)))))))))))))))
  | 34, _ => (ix_l (ix_l (ix_l (ix_l (ix_l (ix_l (ix_l (ix_r 21 13 (ix_len (ix_len (ix_len rfl rfl) rfl) rfl) rfl (ix_l (ix_l (ix_l (ix_l (ix_l (ix_l (ix_r 11 2 (ix_len rfl rfl) rfl rfl)))))))))))))))
  | 35, _ => (ix_l (ix_l (ix_l (ix_l (ix_l (ix_l (ix_l (ix_r 21 14 (ix_len (ix_len (ix_len rfl rfl) rfl) rfl) rfl (ix_l (ix_l (ix_l (ix_l (ix_l (ix_l (ix_r 11 3 (ix_len rfl rfl) rfl rfl)))))))))))))))
  | 36, _ => (ix_l (ix_l (ix_l (ix_l (ix_l (ix_l (ix_l (ix_r 21 15 (ix_len (ix_len (ix_len rfl rfl) rfl) rfl) rfl (ix_l (ix_l (ix_l (ix_l (ix_l (ix_l (ix_r 11 4 (ix_len rfl rfl) rfl rfl)))))))))))))))
  | 37, _ => (ix_l (ix_l (ix_l (ix_l (ix_l (ix_l (ix_l (ix_r 21 16 (ix_len (ix_len (ix_len rfl rfl) rfl) rfl) rfl (ix_l (ix_l (ix_l (ix_l (ix_l (ix_l (ix_r 11 5 (ix_len rfl rfl) rfl rfl)))))))))))))))
  | 38, _ => (ix_l (ix_l (ix_l (ix_l (ix_l (ix_l (ix_l (ix_r 21 17 (ix_len (ix_len (ix_len rfl rfl) rfl) rfl) rfl (ix_l (ix_l (ix_l (ix_l (ix_l (ix_l (ix_r 11 6 (ix_len rfl rfl) rfl rfl)))))))))))))))
  | 39, _ => (ix_l (ix_l (ix_l (ix_l (ix_l (ix_l (ix_l (ix_r 21 18 (ix_len (ix_len (ix_len rfl rfl) rfl) rfl) rfl (ix_l (ix_l (ix_l (ix_l (ix_l (ix_l (ix_r 11 7 (ix_len rfl rfl) rfl rfl)))))))))))))))
  | 40, _ => (ix_l (ix_l (ix_l (ix_l (ix_l (ix_l (ix_l (ix_r 21 19 (ix_len (ix_len (ix_len rfl rfl) rfl) rfl) rfl (ix_l (ix_l (ix_l (ix_l (ix_l (ix_l (ix_r 11 8 (ix_len rfl rfl) rfl rfl)))))))))))))))
  | 41, _ => (ix_l (ix_l (ix_l (ix_l (ix_l (ix_l (ix_l (ix_r 21 20 (ix_len (ix_len (ix_len rfl rfl) rfl) rfl) rfl (ix_l (ix_l (ix_l (ix_l (ix_l (ix_r 20 0 (ix_len (ix_len rfl rfl) rfl) rfl rfl))))))))))))))
  | 42, _ => (ix_l (ix_l (ix_l (ix_l (ix_l (ix_l (ix_l (ix_r 21 21 (ix_len (ix_len (ix_len rfl rfl) rfl) rfl) rfl (ix_l (ix_l (ix_l (ix_l (ix_l (ix_r 20 1 (ix_len (ix_len rfl rfl) rfl) rfl rfl))))))))))))))
  | 43, _ => (ix_l (ix_l (ix_l (ix_l (ix_l (ix_l (ix_l (ix_r 21 22 (ix_len (ix_len (ix_len rfl rfl) rfl) rfl) rfl (ix_l (ix_l (ix_l (ix_l (ix_l (ix_r 20 2 (ix_len (ix_len rfl rfl) rfl) rfl rfl))))))))))))))
  | 44, _ => (ix_l (ix_l (ix_l (ix_l (ix_l (ix_l (ix_l (ix_r 21 23 (ix_len (ix_len (ix_len rfl rfl) rfl) rfl) rfl (ix_l (ix_l (ix_l (ix_l (ix_l (ix_r 20 3 (ix_len (ix_len rfl rfl) rfl) rfl rfl))))))))))))))
  | 45, _ => (ix_l (ix_l (ix_l (ix_l (ix_l (ix_l (ix_l (ix_r 21 24 (ix_len (ix_len (ix_len rfl rfl) rfl) rfl) rfl (ix_l (ix_l (ix_l (ix_l (ix_l (ix_r 20 4 (ix_len (ix_len rfl rfl) rfl) rfl rfl))))))))))))))
  | 46, _ => (ix_l (ix_l (ix_l (ix_l (ix_l (ix_l (ix_l (ix_r 21 25 (ix_len (ix_len (ix_len rfl rfl) rfl) rfl) rfl (ix_l (ix_l (ix_l (ix_l (ix_l (ix_r 20 5 (ix_len (ix_len rfl rfl) rfl) rfl rfl))))))))))))))
  | 47, _ => (ix_l (ix_l (ix_l (ix_l (ix_l (ix_l (ix_l (ix_r 21 26 (ix_len (ix_len (ix_len rfl rfl) rfl) rfl) rfl (ix_l (ix_l (ix_l (ix_l (ix_l (ix_r 20 6 (ix_len (ix_len rfl rfl) rfl) rfl rfl))))))))))))))
  | 48, _ => (ix_l (ix_l (ix_l (ix_l (ix_l (ix_l (ix_l (ix_r 21 27 (ix_len (ix_len (ix_len rfl rfl) rfl) rfl) rfl (ix_l (ix_l (ix_l (ix_l (ix_l (ix_r 20 7 (ix_len (ix_len rfl rfl) rfl) rfl rfl))))))))))))))
  | 49, _ => (ix_l (ix_l (ix_l (ix_l (ix_l (ix_l (ix_l (ix_r 21 28 (ix_len (ix_len (ix_len rfl rfl) rfl) rfl) rfl (ix_l (ix_l (ix_l (ix_l (ix_l (ix_r 20 8 (ix_len (ix_len rfl rfl) rfl) rfl rfl))))))))))))))
  | 50, _ => (ix_l (ix_l (ix_l (ix_l (ix_l (ix_l (ix_l (ix_r 21 29 (ix_len (ix_len (ix_len rfl rfl) rfl) rfl) rfl (ix_l (ix_l (ix_l (ix_l (ix_r 29 0 (ix_len (ix_len (ix_len rfl rfl) rfl) rfl) rfl rfl)))))))))))))
  | 51, _ => (ix_l (ix_l (ix_l (ix_l (ix_l (ix_l (ix_l (ix_r 21 30 (ix_len (ix_len (ix_len rfl rfl) rfl) rfl) rfl (ix_l (ix_l (ix_l (ix_l (ix_r 29 1 (ix_len (ix_len (ix_len rfl rfl) rfl) rfl) rfl rfl)))))))))))))
  | 52, _ => (ix_l (ix_l (ix_l (ix_l (ix_l (ix_l (ix_l (ix_r 21 31 (ix_len (ix_len (ix_len rfl rfl) rfl) rfl) rfl (ix_l (ix_l (ix_l (ix_l (ix_r 29 2 (ix_len (ix_len (ix_len rfl rfl) rfl) rfl) rfl rfl)))))))))))))
  | 53, _ => (ix_l (ix_l (ix_l (ix_l (ix_l (ix_l (ix_l (ix_r 21 32 (ix_len (ix_len (ix_len rfl rfl) rfl) rfl) rfl (ix_l (ix_l (ix_l (ix_l (ix_r 29 3 (ix_len (ix_len (ix_len rfl rfl) rfl) rfl) rfl rfl)))))))))))))
  | 54, _ => (ix_l (ix_l (ix_l (ix_l (ix_l (ix_l (ix_l (ix_r 21 33 (ix_len (ix_len (ix_len rfl rfl) rfl) rfl) rfl (ix_l (ix_l (ix_l (ix_l (ix_r 29 4 (ix_len (ix_len (ix_len rfl rfl) rfl) rfl) rfl rfl)))))))))))))
  | 55, _ => (ix_l (ix_l (ix_l (ix_l (ix_l (ix_l (ix_l (ix_r 21 34 (ix_len (ix_len (ix_len rfl rfl) rfl) rfl) rfl (ix_l (ix_l (ix_l (ix_l (ix_r 29 5 (ix_len (ix_len (ix_len rfl rfl) rfl) rfl) rfl rfl)))))))))))))
  | 56, _ => (ix_l (ix_l (ix_l (ix_l (ix_l (ix_l (ix_l (ix_r 21 35 (ix_len (ix_len (ix_len rfl rfl) rfl) rfl) rfl (ix_l (ix_l (ix_l (ix_l (ix_r 29 6 (ix_len (ix_len (ix_len rfl rfl) rfl) rfl) rfl rfl)))))))))))))
  | 57, _ => (ix_l (ix_l (ix_l (ix_l (ix_l (ix_l (ix_l (ix_r 21 36 (ix_len (ix_len (ix_len rfl rfl) rfl) rfl) rfl (ix_l (ix_l (ix_l (ix_l (ix_r 29 7 (ix_len (ix_len (ix_len rfl rfl) rfl) rfl) rfl rfl)))))))))))))
  | 58, _ => (ix_l (ix_l (ix_l (ix_l (ix_l (ix_l (ix_l (ix_r 21 37 (ix_len (ix_len (ix_len rfl rfl) rfl) rfl) rfl (ix_l (ix_l (ix_l (ix_l (ix_r 29 8 (ix_len (ix_len (ix_len rfl rfl) rfl) rfl) rfl rfl)))))))))))))
  | 59, _ => (ix_l (ix_l (ix_l (ix_l (ix_l (ix_l (ix_l (ix_r 21 38 (ix_len (ix_len (ix_len rfl rfl) rfl) rfl) rfl (ix_l (ix_l (ix_l (ix_r 38 0 (ix_len (ix_len (ix_len (ix_len rfl rfl) rfl) rfl) rfl) rfl rfl))))))))))))
  | 60, _ => (ix_l (ix_l (ix_l (ix_l (ix_l (ix_l (ix_l (ix_r 21 39 (ix_len (ix_len (ix_len rfl rfl) rfl) rfl) rfl (ix_l (ix_l (ix_l (ix_r 38 1 (ix_len (ix_len (ix_len (ix_len rfl rfl) rfl) rfl) rfl) rfl rfl))))))))))))
  | 61, _ => (ix_l (ix_l (ix_l (ix_l (ix_l (ix_l (ix_l (ix_r 21 40 (ix_len (ix_len (ix_len rfl rfl) rfl) rfl) rfl (ix_l (ix_l (ix_l (ix_r 38 2 (ix_len (ix_len (ix_len (ix_len rfl rfl) rfl) rfl) rfl) rfl rfl))))))))))))
  | 62, _ => (ix_l (ix_l (ix_l (ix_l (ix_l (ix_l (ix_l (ix_r 21 41 (ix_len (ix_len (ix_len rfl rfl) rfl) rfl) rfl (ix_l (ix_l (ix_l (ix_r 38 3 (ix_len (ix_len (ix_len (ix_len rfl rfl) rfl) rfl) rfl) rfl rfl))))))))))))
  | 63, _ => (ix_l (ix_l (ix_l (ix_l (ix_l (ix_l (ix_l (ix_r 21 42 (ix_len (ix_len (ix_len rfl rfl) rfl) rfl) rfl (ix_l (ix_l (ix_l (ix_r 38 4 (ix_len (ix_len (ix_len (ix_len rfl rfl) rfl) rfl) rfl) rfl rfl))))))))))))
  | 64, _ => (ix_l (ix_l (ix_l (ix_l (ix_l (ix_l (ix_l (ix_r 21 43 (ix_len (ix_len (ix_len rfl rfl) rfl) rfl) rfl (ix_l (ix_l (ix_l (ix_r 38 5 (ix_len (ix_len (ix_len (ix_len rfl rfl) rfl) rfl) rfl) rfl rfl))))))))))))
  | 65, _ => (ix_l (ix_l (ix_l (ix_l (ix_l (ix_l (ix_l (ix_r 21 44 (ix_len (ix_len (ix_len rfl rfl) rfl) rfl) rfl (ix_l (ix_l (ix_l (ix_r 38 6 (ix_len (ix_len (ix_len (ix_len rfl rfl) rfl) rfl) rfl) rfl rfl))))))))))))
  | 66, _ => (ix_l (ix_l (ix_l (ix_l (ix_l (ix_l (ix_l (ix_r 21 45 (ix_len (ix_len (ix_len rfl rfl) rfl) rfl) rfl (ix_l (ix_l (ix_l (ix_r 38 7 (ix_len (ix_len (ix_len (ix_len rfl rfl) rfl) rfl) rfl) rfl rfl))))))))))))
  | 67, _ => (ix_l (ix_l (ix_l (ix_l (ix_l (ix_l (ix_l (ix_r 21 46 (ix_len (ix_len (ix_len rfl rfl) rfl) rfl) rfl (ix_l (ix_l (ix_l (ix_r 38 8 (ix_len (ix_len (ix_len (ix_len rfl rfl) rfl) rfl) rfl) rfl rfl))))))))))))
  | 68, _ => (ix_l (ix_l (ix_l (ix_l (ix_l (ix_l (ix_l (ix_r 21 47 (ix_len (ix_len (ix_len rfl rfl) rfl) rfl) rfl (ix_l (ix_l (ix_r 47 0 (ix_len (ix_len (ix_len (ix_len (ix_len rfl rfl) rfl) rfl) rfl) rfl) rfl rfl)))))))))))
  | 69, _ => (ix_l (ix_l (ix_l (ix_l (ix_l (ix_l (ix_l (ix_r 21 48 (ix_len (ix_len (ix_len rfl rfl) rfl) rfl) rfl (ix_l (ix_l (ix_r 47 1 (ix_len (ix_len (ix_len (ix_len (ix_len rfl rfl) rfl) rfl) rfl) rfl) rfl rfl)))))))))))
  | 70, _ => (ix_l (ix_l (ix_l (ix_l (ix_l (ix_l (ix_l (ix_r 21 49 (ix_len (ix_len (ix_len rfl rfl) rfl) rfl) rfl (ix_l (ix_l (ix_r 47 2 (ix_len (ix_len (ix_len (ix_len (ix_len rfl rfl) rfl) rfl) rfl) rfl) rfl rfl)))))))))))
  | 71, _ => (ix_l (ix_l (ix_l (ix_l (ix_l (ix_l (ix_l (ix_r 21 50 (ix_len (ix_len (ix_len rfl rfl) rfl) rfl) rfl (ix_l (ix_l (ix_r 47 3 (ix_len (ix_len (ix_len (ix_len (ix_len rfl rfl) rfl) rfl) rfl) rfl) rfl rfl)))))))))))
  | 72, _ => (ix_l (ix_l (ix_l (ix_l (ix_l (ix_l (ix_l (ix_r 21 51 (ix_len (ix_len (ix_len rfl rfl) rfl) rfl) rfl (ix_l (ix_l (ix_r 47 4 (ix_len (ix_len (ix_len (ix_len (ix_len rfl rfl) rfl) rfl) rfl) rfl) rfl rfl)))))))))))
  | 73, _ => (ix_l (ix_l (ix_l (ix_l (ix_l (ix_l (ix_l (ix_r 21 52 (ix_len (ix_len (ix_len rfl rfl) rfl) rfl) rfl (ix_l (ix_l (ix_r 47 5 (ix_len (ix_len (ix_len (ix_len (ix_len rfl rfl) rfl) rfl) rfl) rfl) rfl rfl)))))))))))
  | 74, _ => (ix_l (ix_l (ix_l (ix_l (ix_l (ix_l (ix_l (ix_r 21 53 (ix_len (ix_len (ix_len rfl rfl) rfl) rfl) rfl (ix_l (ix_l (ix_r 47 6 (ix_len (ix_len (ix_len (ix_len (ix_len rfl rfl) rfl) rfl) rfl) rfl) rfl rfl)))))))))))
  | 75, _ => (ix_l (ix_l (ix_l (ix_l (ix_l (ix_l (ix_l (ix_r 21 54 (ix_len (ix_len (ix_len rfl rfl) rfl) rfl) rfl (ix_l (ix_l (ix_r 47 7 (ix_len (ix_len (ix_len (ix_len (ix_len rfl rfl) rfl) rfl) rfl) rfl) rfl rfl)))))))))))
  | 76, _ => (ix_l (ix_l (ix_l (ix_l (ix_l (ix_l (ix_l (ix_r 21 55 (ix_len (ix_len (ix_len rfl rfl) rfl) rfl) rfl (ix_l (ix_l (ix_r 47 8 (ix_len (ix_len (ix_len (ix_len (ix_len rfl rfl) rfl) rfl) rfl) rfl) rfl rfl)))))))))))
  | 77, _ => (ix_l (ix_l (ix_l (ix_l (ix_l (ix_l (ix_l (ix_r 21 56 (ix_len (ix_len (ix_len rfl rfl) rfl) rfl) rfl (ix_l (ix_r 56 0 (ix_len (ix_len (ix_len (ix_len (ix_len (ix_len rfl rfl) rfl) rfl) rfl) rfl) rfl) rfl rfl))))))))))
  | 78, _ => (ix_l (ix_l (ix_l (ix_l (ix_l (ix_l (ix_l (ix_r 21 57 (ix_len (ix_len (ix_len rfl rfl) rfl) rfl) rfl (ix_l (ix_r 56 1 (ix_len (ix_len (ix_len (ix_len (ix_len (ix_len rfl rfl) rfl) rfl) rfl) rfl) rfl) rfl rfl))))))))))
  | 79, _ => (ix_l (ix_l (ix_l (ix_l (ix_l (ix_l (ix_l (ix_r 21 58 (ix_len (ix_len (ix_len rfl rfl) rfl) rfl) rfl (ix_l (ix_r 56 2 (ix_len (ix_len (ix_len (ix_len (ix_len (ix_len rfl rfl) rfl) rfl) rfl) rfl) rfl) rfl rfl))))))))))
  | 80, _ => (ix_l (ix_l (ix_l (ix_l (ix_l (ix_l (ix_l (ix_r 21 59 (ix_len (ix_len (ix_len rfl rfl) rfl) rfl) rfl (ix_l (ix_r 56 3 (ix_len (ix_len (ix_len (ix_len (ix_len (ix_len rfl rfl) rfl) rfl) rfl) rfl) rfl) rfl rfl))))))))))
  | 81, _ => (ix_l (ix_l (ix_l (ix_l (ix_l (ix_l (ix_l (ix_r 21 60 (ix_len (ix_len (ix_len rfl rfl) rfl) rfl) rfl (ix_l (ix_r 56 4 (ix_len (ix_len (ix_len (ix_len (ix_len (ix_len rfl rfl) rfl) rfl) rfl) rfl) rfl) rfl rfl))))))))))
  | 82, _ => (ix_l (ix_l (ix_l (ix_l (ix_l (ix_l (ix_l (ix_r 21 61 (ix_len (ix_len (ix_len rfl rfl) rfl) rfl) rfl (ix_l (ix_r 56 5 (ix_len (ix_len (ix_len (ix_len (ix_len (ix_len rfl rfl) rfl) rfl) rfl) rfl) rfl) rfl rfl))))))))))
  | 83, _ => (ix_l (ix_l (ix_l (ix_l (ix_l (ix_l (ix_l (ix_r 21 62 (ix_len (ix_len (ix_len rfl rfl) rfl) rfl) rfl (ix_l (ix_r 56 6 (ix_len (ix_len (ix_len (ix_len (ix_len (ix_len rfl rfl) rfl) rfl) rfl) rfl) rfl) rfl rfl))))))))))
  | 84, _ => (ix_l (ix_l (ix_l (ix_l (ix_l (ix_l (ix_l (ix_r 21 63 (ix_len (ix_len (ix_len rfl rfl) rfl) rfl) rfl (ix_l (ix_r 56 7 (ix_len (ix_len (ix_len (ix_len (ix_len (ix_len rfl rfl) rfl) rfl) rfl) rfl) rfl) rfl rfl))))))))))
  | 85, _ => (ix_l (ix_l (ix_l (ix_l (ix_l (ix_l (ix_l (ix_r 21 64 (ix_len (ix_len (ix_len rfl rfl) rfl) rfl) rfl (ix_l (ix_r 56 8 (ix_len (ix_len (ix_len (ix_len (ix_len (ix_len rfl rfl) rfl) rfl) rfl) rfl) rfl) rfl rfl))))))))))
  | 86, _ => (ix_l (ix_l (ix_l (ix_l (ix_l (ix_l (ix_l (ix_r 21 65 (ix_len (ix_len (ix_len rfl rfl) rfl) rfl) rfl (ix_r 65 0 (ix_len (ix_len (ix_len (ix_len (ix_len (ix_len (ix_len rfl rfl) rfl) rfl) rfl) rfl) rfl) rfl) rfl rfl)))))))))
  | 87, _ => (ix_l (ix_l (ix_l (ix_l (ix_l (ix_l (ix_l (ix_r 21 66 (ix_len (ix_len (ix_len rfl rfl) rfl) rfl) rfl (ix_r 65 1 (ix_len (ix_len (ix_len (ix_len (ix_len (ix_len (ix_len rfl rfl) rfl) rfl) rfl) rfl) rfl) rfl) rfl rfl)))))))))
  | 88, _ => (ix_l (ix_l (ix_l (ix_l (ix_l (ix_l (ix_l (ix_r 21 67 (ix_len (ix_len (ix_len rfl rfl) rfl) rfl) rfl (ix_r 65 2 (ix_len (ix_len (ix_len (ix_len (ix_len (ix_len (ix_len rfl rfl) rfl) rfl) rfl) rfl) rfl) rfl) rfl rfl)))))))))
  | 89, _ => (ix_l (ix_l (ix_l (ix_l (ix_l (ix_l (ix_l (ix_r 21 68 (ix_len (ix_len (ix_len rfl rfl) rfl) rfl) rfl (ix_r 65 3 (ix_len (ix_len (ix_len (ix_len (ix_len (ix_len (ix_len rfl rfl) rfl) rfl) rfl) rfl) rfl) rfl) rfl rfl)))))))))
  | 90, _ => (ix_l (ix_l (ix_l (ix_l (ix_l (ix_l (ix_l (ix_r 21 69 (ix_len (ix_len (ix_len rfl rfl) rfl) rfl) rfl (ix_r 65 4 (ix_len (ix_len (ix_len (ix_len (ix_len (ix_len (ix_len rfl rfl) rfl) rfl) rfl) rfl) rfl) rfl) rfl rfl)))))))))
  | 91, _ => (ix_l (ix_l (ix_l (ix_l (ix_l (ix_l (ix_l (ix_r 21 70 (ix_len (ix_len (ix_len rfl rfl) rfl) rfl) rfl (ix_r 65 5 (ix_len (ix_len (ix_len (ix_len (ix_len (ix_len (ix_len rfl rfl) rfl) rfl) rfl) rfl) rfl) rfl) rfl rfl)))))))))
  | 92, _ => (ix_l (ix_l (ix_l (ix_l (ix_l (ix_l (ix_l (ix_r 21 71 (ix_len (ix_len (ix_len rfl rfl) rfl) rfl) rfl (ix_r 65 6 (ix_len (ix_len (ix_len (ix_len (ix_len (ix_len (ix_len rfl rfl) rfl) rfl) rfl) rfl) rfl) rfl) rfl rfl)))))))))
  | 93, _ => (ix_l (ix_l (ix_l (ix_l (ix_l (ix_l (ix_l (ix_r 21 72 (ix_len (ix_len (ix_len rfl rfl) rfl) rfl) rfl (ix_r 65 7 (ix_len (ix_len (ix_len (ix_len (ix_len (ix_len (ix_len rfl rfl) rfl) rfl) rfl) rfl) rfl) rfl) rfl rfl)))))))))
  | 94, _ => (ix_l (ix_l (ix_l (ix_l (ix_l (ix_l (ix_l (ix_r 21 73 (ix_len (ix_len (ix_len rfl rfl) rfl) rfl) rfl (ix_r 65 8 (ix_len (ix_len (ix_len (ix_len (ix_len (ix_len (ix_len rfl rfl) rfl) rfl) rfl) rfl) rfl) rfl) rfl rfl)))))))))
  | 95, _ => (ix_l (ix_l (ix_l (ix_l (ix_l (ix_l (ix_r 95 0 (ix_len (ix_len (ix_len (ix_len rfl rfl) rfl) rfl) lX3) rfl rfl)))))))
  | 96, _ => (ix_l (ix_l (ix_l (ix_l (ix_l (ix_r 96 0 (ix_len (ix_len (ix_len (ix_len (ix_len rfl rfl) rfl) rfl) lX3) rfl) rfl rfl))))))
  | 97, _ => (ix_l (ix_l (ix_l (ix_l (ix_l (ix_r 96 1 (ix_len (ix_len (ix_len (ix_len (ix_len rfl rfl) rfl) rfl) lX3) rfl) rfl rfl))))))
  | 98, _ => (ix_l (ix_l (ix_l (ix_l (ix_l (ix_r 96 2 (ix_len (ix_len (ix_len (ix_len (ix_len rfl rfl) rfl) rfl) lX3) rfl) rfl rfl))))))
  | 99, _ => (ix_l (ix_l (ix_l (ix_l (ix_l (ix_r 96 3 (ix_len (ix_len (ix_len (ix_len (ix_len rfl rfl) rfl) rfl) lX3) rfl) rfl rfl))))))
  | 100, _ => (ix_l (ix_l (ix_l (ix_l (ix_l (ix_r 96 4 (ix_len (ix_len (ix_len (ix_len (ix_len rfl rfl) rfl) rfl) lX3) rfl) rfl rfl))))))
  | 101, _ => (ix_l (ix_l (ix_l (ix_l (ix_l (ix_r 96 5 (ix_len (ix_len (ix_len (ix_len (ix_len rfl rfl) rfl) rfl) lX3) rfl) rfl rfl))))))
  | 102, _ => (ix_l (ix_l (ix_l (ix_l (ix_l (ix_r 96 6 (ix_len (ix_len (ix_len (ix_len (ix_len rfl rfl) rfl) rfl) lX3) rfl) rfl rfl))))))
  | 103, _ => (ix_l (ix_l (ix_l (ix_l (ix_l (ix_r 96 7 (ix_len (ix_len (ix_len (ix_len (ix_len rfl rfl) rfl) rfl) lX3) rfl) rfl rfl))))))
  | 104, _ => (ix_l (ix_l (ix_l (ix_l (ix_l (ix_r 96 8 (ix_len (ix_len (ix_len (ix_len (ix_len rfl rfl) rfl) rfl) lX3) rfl) rfl rfl))))))
  | 105, _ => (ix_l (ix_l (ix_l (ix_l (ix_r 105 0 (ix_len (ix_len (ix_len (ix_len (ix_len (ix_len rfl rfl) rfl) rfl) lX3) rfl) rfl) rfl rfl)))))
  | 106, _ => (ix_l (ix_l (ix_l (ix_l (ix_r 105 1 (ix_len (ix_len (ix_len (ix_len (ix_len (ix_len rfl rfl) rfl) rfl) lX3) rfl) rfl) rfl rfl)))))
  | 107, _ => (ix_l (ix_l (ix_l (ix_l (ix_r 105 2 (ix_len (ix_len (ix_len (ix_len (ix_len (ix_len rfl rfl) rfl) rfl) lX3) rfl) rfl) rfl rfl)))))
  | 108, _ => (ix_l (ix_l (ix_l (ix_l (ix_r 105 3 (ix_len (ix_len (ix_len (ix_len (ix_len (ix_len rfl rfl) rfl) rfl) lX3) rfl) rfl) rfl rfl)))))
  | 109, _ => (ix_l (ix_l (ix_l (ix_l (ix_r 105 4 (ix_len (ix_len (ix_len (ix_len (ix_len (ix_len rfl rfl) rfl) rfl) lX3) rfl) rfl) rfl rfl)))))
  | 110, _ => (ix_l (ix_l (ix_l (ix_l (ix_r 105 5 (ix_len (ix_len (ix_len (ix_len (ix_len (ix_len rfl rfl) rfl) rfl) lX3) rfl) rfl) rfl rfl)))))
  | 111, _ => (ix_l (ix_l (ix_l (ix_l (ix_r 105 6 (ix_len (ix_len (ix_len (ix_len (ix_len (ix_len rfl rfl) rfl) rfl) lX3) rfl) rfl) rfl rfl)))))
  | 112, _ => (ix_l (ix_l (ix_l (ix_l (ix_r 105 7 (ix_len (ix_len (ix_len (ix_len (ix_len (ix_len rfl rfl) rfl) rfl) lX3) rfl) rfl) rfl rfl)))))
  | 113, _ => (ix_l (ix_l (ix_l (ix_l (ix_r 105 8 (ix_len (ix_len (ix_len (ix_len (ix_len (ix_len rfl rfl) rfl) rfl) lX3) rfl) rfl) rfl rfl)))))
  | 114, _ => (ix_l (ix_l (ix_l (ix_r 114 0 (ix_len (ix_len (ix_len (ix_len (ix_len (ix_len (ix_len rfl rfl) rfl) rfl) lX3) rfl) rfl) rfl) rfl rfl))))
  | 115, _ => (ix_l (ix_l (ix_r 115 0 (ix_len (ix_len (ix_len (ix_len (ix_len (ix_len (ix_len (ix_len rfl rfl) rfl) rfl) lX3) rfl) rfl) rfl) rfl) rfl rfl)))
  | 116, _ => (ix_l (ix_l (ix_r 115 1 (ix_len (ix_len (ix_len (ix_len (ix_len (ix_len (ix_len (ix_len rfl rfl) rfl) rfl) lX3) rfl) rfl) rfl) rfl) rfl rfl)))
  | 117, _ => (ix_l (ix_r 117 0 (ix_len (ix_len (ix_len (ix_len (ix_len (ix_len (ix_len (ix_len (ix_len rfl rfl) rfl) rfl) lX3) rfl) rfl) rfl) rfl) rfl) rfl rfl))
  | 118, _ => (ix_l (ix_r 117 1 (ix_len (ix_len (ix_len (ix_len (ix_len (ix_len (ix_len (ix_len (ix_len rfl rfl) rfl) rfl) lX3) rfl) rfl) rfl) rfl) rfl) rfl rfl))
  | 119, _ => (ix_l (ix_r 117 2 (ix_len (ix_len (ix_len (ix_len (ix_len (ix_len (ix_len (ix_len (ix_len rfl rfl) rfl) rfl) lX3) rfl) rfl) rfl) rfl) rfl) rfl rfl))
  | 120, _ => (ix_r 120 0 (ix_len (ix_len (ix_len (ix_len (ix_len (ix_len (ix_len (ix_len (ix_len (ix_len rfl rfl) rfl) rfl) lX3) rfl) rfl) rfl) rfl) rfl) rfl) rfl rfl)
  | 121, _ => (ix_r 120 1 (ix_len (ix_len (ix_len (ix_len (ix_len (ix_len (ix_len (ix_len (ix_len (ix_len rfl rfl) rfl) rfl) lX3) rfl) rfl) rfl) rfl) rfl) rfl) rfl rfl)
  | 122, _ => (ix_r 120 2 (ix_len (ix_len (ix_len (ix_len (ix_len (ix_len (ix_len (ix_len (ix_len (ix_len rfl rfl) rfl) rfl) lX3) rfl) rfl) rfl) rfl) rfl) rfl) rfl rfl)
  | n + 123, h => absurd h (by omega)
theorem vaD_of {A : Nat → Prop} {ws : va_W} {n : Nat} {ad : Nat → Nat} {C : Nat → va_E} {E : Nat → (Nat → Int32) → va_E} {σ : Mem} (h : va_D A ws) (hk : ∀ i, i < n → ws[i]? = some (ad i, C i)) : va_D A (wdG n ad E σ) := by
  refine ⟨fun i j p q hi hj e => ?_, fun k q hk2 => ?_⟩
  · obtain ⟨h1, rfl⟩ := wdG_of hi
    obtain ⟨h2, rfl⟩ := wdG_of hj
    exact h.1 i j _ _ (hk i h1) (hk j h2) e
  · obtain ⟨h1, rfl⟩ := wdG_of hk2
    exact h.2 k (ad k, C k) (hk k h1)
set_option maxRecDepth 100000 in
set_option maxHeartbeats 4000000 in
theorem WF_fin (D : va_G) (cs : Cs) (x : Xs) (h0 : Nat) (q1 : Nat) (u1 : Nat → Nat) (q2 : Nat) (u2 : Nat → Nat) (q3 : Nat) (u3 : Nat → Nat) (q4 : Nat) (u4 : Nat → Nat) (kp : Nat) (v0 : Nat) (y0 : Nat → Nat) (v1 : Nat) (y1 : Nat → Nat) (ik : Nat) (q5 : Nat) (u5 : Nat → Nat) (q6 : Nat) (u6 : Nat → Nat) (q7 : Nat) (u7 : Nat → Nat) : ∃ ad : Nat → Nat, ad 0 = h0 ∧ ad 6 = q2 ∧ ad 12 = q3 ∧ (∀ H, va_P D vwCl (WF cs h0 q1 u1 q2 u2 q3 u3 q4 u4 kp v0 y0 v1 y1 ik q5 u5 q6 u6 q7 u7) H → va_P D vwCl (wdG 123 ad (cE (gK D cs x ad)) (fun _ => z0)) H) ∧ (∀ A, va_D A (WF cs h0 q1 u1 q2 u2 q3 u3 q4 u4 kp v0 y0 v1 y1 ik q5 u5 q6 u6 q7 u7) → va_D A (wdG 123 ad (cE (gK D cs x ad)) (fun _ => z0))) := by
  have hat := WF_at D cs x h0 q1 u1 q2 u2 q3 u3 q4 u4 kp v0 y0 v1 y1 ik q5 u5 q6 u6 q7 u7
  refine ⟨adF h0 q1 u1 q2 u2 q3 u3 q4 u4 kp v0 y0 v1 y1 ik q5 u5 q6 u6 q7 u7, rfl, rfl, rfl, fun H hP => ?_, fun A hD => vaD_of hD hat⟩
  intro k q hk
  obtain ⟨h1, rfl⟩ := wdG_of hk
  have h2 := hP k _ (hat k h1)
  by_cases e22 : k = 22
  · subst e22
    have h3 : H[adF h0 q1 u1 q2 u2 q3 u3 q4 u4 kp v0 y0 v1 y1 ik q5 u5 q6 u6 q7 u7 22]? = some (vp_cell cs.2.2 (8, .inr (.inr (.inr (.inr (fun k => some (u4 (1 + 9 * k)))))))) := h2
    rw [cell_q (f' := fun k => some (adF h0 q1 u1 q2 u2 q3 u3 q4 u4 kp v0 y0 v1 y1 ik q5 u5 q6 u6 q7 u7 (23 + 9 * k))) (fun j hj => by rcases (show j = 0 ∨ j = 1 ∨ j = 2 ∨ j = 3 ∨ j = 4 ∨ j = 5 ∨ j = 6 ∨ j = 7 by omega) with rfl | rfl | rfl | rfl | rfl | rfl | rfl | rfl <;> rfl)] at h3
    exact h3
  · by_cases e95 : k = 95
    · subst e95
      have h3 : H[adF h0 q1 u1 q2 u2 q3 u3 q4 u4 kp v0 y0 v1 y1 ik q5 u5 q6 u6 q7 u7 95]? = some (vp_cell cs.2.2 (2, .inr (.inr (.inr (.inr (va_up (va_up (fun _ => none) 0 (some v0)) 1 (some v1))))))) := h2
      rw [cell_q (f' := fun k => some (adF h0 q1 u1 q2 u2 q3 u3 q4 u4 kp v0 y0 v1 y1 ik q5 u5 q6 u6 q7 u7 (96 + 9 * k))) (fun j hj => by rcases (show j = 0 ∨ j = 1 by omega) with rfl | rfl <;> rfl)] at h3
      exact h3
    · rw [CF, if_neg e22, if_neg e95] at h2
      exact h2
set_option maxRecDepth 100000 in
set_option maxHeartbeats 4000000 in
theorem k_X7_init {l : Launch} {D : va_G} {x : Xs} (cs : Cs) : CtK l D (tysT cs) x 3 mX7_init (.inr (7, [.null, .null, .null, .null, .null, .null, .null, .null, .null])) [] 122 1131 (fun h (u : (Nat → Nat) × Mem) => u.1 0 = h ∧ Anew u.2 (fun _ => z0)) (wX7 D cs x) := by
  refine ctk_of 1 (by decide +kernel) rfl rfl (fun _ => Nat.le_of_ble_eq_true rfl) rfl ?_
  intro h0 sz κ0 hl hnL hi hR kc
  have kc : KC κ0 (PQ D (tysT cs) x (va_A [(h0, .inr (7, [.null, .null, .null, .null, .null, .null, .null, .null, .null]))] sz)) RX7 cX7_init 3 122 1131 κ0 [(h0, .inr (7, [.null, .null, .null, .null, .null, .null, .null, .null, .null]))] := kc
  have hnL : κ0.nL = 2 := hnL
  refine z_aload_n kc.cx 0 dX7_init_0 rfl rfl ?_
  refine z_oini kc.cx kX7_1 (by decide) (Nat.le_of_ble_eq_true rfl) dX7_init_1 ?_
  refine z_aload_n kc.cx 0 dX7_init_4 rfl rfl ?_
  refine k_new (N := 10) (c := 121) (s := 1121) (ci := 5) (fs := [.null, .int 0, .int 0, .null, .null, .null, .int 0, .int 0, .int 0, .int 0]) kc inX5 tyX5_ok hX7_7 aX5 iX5 rfl (fun j hj => by rcases (show j = 0 ∨ j = 1 ∨ j = 2 ∨ j = 3 ∨ j = 4 ∨ j = 5 ∨ j = 6 ∨ j = 7 ∨ j = 8 ∨ j = 9 by omega) with rfl | rfl | rfl | rfl | rfl | rfl | rfl | rfl | rfl | rfl <;> rfl) dX7_init_5 (fun q1 κ kc => ?_)
  refine z_dup kc.cx dX7_init_8 rfl ?_
  refine k_ctorN (As := []) (c := 117) (s := 919) (mc := 4) (ms := 202) kc nX5_init rfl rfl jX5_init (kc.cx.2.2.2.2.2.2.2.1.1.2.2.2.2.1) (k_X5_init cs) (by decide) rfl rfl (Nat.le_of_ble_eq_true rfl) dX7_init_9 (fun u1 κ _ kc => ?_)
  refine k_putF (ws' := ([(h0, .inr (7, [.ref q1, .null, .null, .null, .null, .null, .null, .null, .null]))] ++ wX5 cs q1 u1)) kc hi kX7f10 qX7_fin0 0 rfl rfl rfl (Nat.le_of_ble_eq_true rfl) rfl dX7_init_12 (fun κ kc => ?_)
  refine z_aload_n kc.cx 0 dX7_init_15 rfl rfl ?_
  refine k_new (N := 10) (c := 116) (s := 909) (ci := 6) (fs := [.int 0, .int 0, .int 0, .int 0, .int 0, .null, .null, .null, .null, .null]) kc inX6 tyX6_ok hX7_16 aX6 iX6 rfl (fun j hj => by rcases (show j = 0 ∨ j = 1 ∨ j = 2 ∨ j = 3 ∨ j = 4 ∨ j = 5 ∨ j = 6 ∨ j = 7 ∨ j = 8 ∨ j = 9 by omega) with rfl | rfl | rfl | rfl | rfl | rfl | rfl | rfl | rfl | rfl <;> rfl) dX7_init_16 (fun q2 κ kc => ?_)
  refine z_dup kc.cx dX7_init_19 rfl ?_
  refine k_ctorN (As := []) (c := 111) (s := 880) (mc := 5) (ms := 29) kc nX6_init rfl rfl jX6_init (kc.cx.2.2.2.2.2.2.2.1.1.2.2.2.2.2.1) (k_X6_init cs) (by decide) rfl rfl (Nat.le_of_ble_eq_true rfl) dX7_init_20 (fun u2 κ _ kc => ?_)
  refine k_putF (ws' := (([(h0, .inr (7, [.ref q1, .ref q2, .null, .null, .null, .null, .null, .null, .null]))] ++ wX5 cs q1 u1) ++ wX6 cs q2 u2)) kc hi kX7f19 qX7_fin1 0 rfl rfl rfl (Nat.le_of_ble_eq_true rfl) rfl dX7_init_23 (fun κ kc => ?_)
  refine z_aload_n kc.cx 0 dX7_init_26 rfl rfl ?_
  refine k_new (N := 10) (c := 110) (s := 870) (ci := 1) (fs := [.int 0, .int 0, .null, .null, .null, .null, .null, .null, .null, .null]) kc inX1 tyX1_ok hX7_23 aX1 iX1 rfl (fun j hj => by rcases (show j = 0 ∨ j = 1 ∨ j = 2 ∨ j = 3 ∨ j = 4 ∨ j = 5 ∨ j = 6 ∨ j = 7 ∨ j = 8 ∨ j = 9 by omega) with rfl | rfl | rfl | rfl | rfl | rfl | rfl | rfl | rfl | rfl <;> rfl) dX7_init_27 (fun q3 κ kc => ?_)
  refine z_dup kc.cx dX7_init_30 rfl ?_
  refine k_ctorN (As := []) (c := 102) (s := 806) (mc := 8) (ms := 64) kc nX1_init rfl rfl jX1_init (kc.cx.2.2.2.2.2.2.2.1.1.2.2.2.2.2.2.1) (k_X1_init cs) (by decide) rfl rfl (Nat.le_of_ble_eq_true rfl) dX7_init_31 (fun u3 κ _ kc => ?_)
  refine k_putF (ws' := ((([(h0, .inr (7, [.ref q1, .ref q2, .ref q3, .null, .null, .null, .null, .null, .null]))] ++ wX5 cs q1 u1) ++ wX6 cs q2 u2) ++ wX1 cs q3 u3)) kc hi kX7f26 qX7_fin2 0 rfl rfl rfl (Nat.le_of_ble_eq_true rfl) rfl dX7_init_34 (fun κ kc => ?_)
  refine z_aload_n kc.cx 0 dX7_init_37 rfl rfl ?_
  refine k_new (N := 3) (c := 101) (s := 803) (ci := 3) (fs := [.null, .int 0, .int 0]) kc inX3 tyX3_ok hX7_30 aX3 iX3 rfl (fun j hj => by rcases (show j = 0 ∨ j = 1 ∨ j = 2 by omega) with rfl | rfl | rfl <;> rfl) dX7_init_38 (fun q4 κ kc => ?_)
  refine z_dup kc.cx dX7_init_41 rfl ?_
  refine k_ctorI (As := []) (c := 28) (s := 203) (mc := 73) (ms := 600) kc nX3_init rfl rfl jX3_init kX7_32 (k_X3_init cs) (by decide) rfl rfl (Nat.le_of_ble_eq_true rfl) dX7_init_42 (fun u4 κ _ kc => ?_)
  refine k_putF (ws' := (((([(h0, .inr (7, [.ref q1, .ref q2, .ref q3, .ref q4, .null, .null, .null, .null, .null]))] ++ wX5 cs q1 u1) ++ wX6 cs q2 u2) ++ wX1 cs q3 u3) ++ wX3 cs q4 u4)) kc hi kX7f33 qX7_fin3 0 rfl rfl rfl (Nat.le_of_ble_eq_true rfl) rfl dX7_init_45 (fun κ kc => ?_)
  refine z_aload_n kc.cx 0 dX7_init_48 rfl rfl ?_
  refine z_iconst kc.cx dX7_init_49 ic_2 ?_
  refine k_newq (N := 2) (c := 27) (s := 201) kc 2 rfl (fun _ h => h.2) hX7_23 (by decide) (by decide +kernel) (by decide) dX7_init_50 (fun kp κ kc => ?_)
  refine k_putF (ws' := ((((([(h0, .inr (7, [.ref q1, .ref q2, .ref q3, .ref q4, .ref kp, .null, .null, .null, .null]))] ++ wX5 cs q1 u1) ++ wX6 cs q2 u2) ++ wX1 cs q3 u3) ++ wX3 cs q4 u4) ++ [(kp, .inl (cs.2.2, 2, .inr (.inr (.inr (.inr (fun _ => none))))))])) kc hi kX7f37 qX7_fin4 0 rfl rfl rfl (Nat.le_of_ble_eq_true rfl) rfl dX7_init_53 (fun κ kc => ?_)
  refine z_iconst kc.cx dX7_init_56 ic_0 ?_
  refine z_istore_n kc.cx 1 dX7_init_57 rfl (kc.nL.trans hnL) (by decide) rfl ?_
  refine z_eq (lv2 := [some (.ref h0), some (.int 0)]) rfl rfl rfl ?_
  refine z_iload_n kc.cx 1 dX7_init_58 rfl rfl ?_
  refine z_iconst kc.cx dX7_init_59 ic_2 ?_
  refine z_icmp_ge (tgt := 82) kc.cx dX7_init_60 (by decide) (fun c_60 => absurd c_60 (by decide)) (fun _ => ?_)
  refine z_aload_n kc.cx 0 dX7_init_63 rfl rfl ?_
  refine z_get (q := 0) kc.cx kX7f37 rfl rfl dX7_init_64 ?_
  refine z_iload_n kc.cx 1 dX7_init_67 rfl rfl ?_
  refine k_new (N := 10) (c := 26) (s := 191) (ci := 1) (fs := [.int 0, .int 0, .null, .null, .null, .null, .null, .null, .null, .null]) kc inX1 tyX1_ok hX7_23 aX1 iX1 rfl (fun j hj => by rcases (show j = 0 ∨ j = 1 ∨ j = 2 ∨ j = 3 ∨ j = 4 ∨ j = 5 ∨ j = 6 ∨ j = 7 ∨ j = 8 ∨ j = 9 by omega) with rfl | rfl | rfl | rfl | rfl | rfl | rfl | rfl | rfl | rfl <;> rfl) dX7_init_68 (fun v0 κ kc => ?_)
  refine z_dup kc.cx dX7_init_71 rfl ?_
  refine k_ctorN (As := []) (c := 18) (s := 127) (mc := 8) (ms := 64) kc nX1_init rfl rfl jX1_init (kc.cx.2.2.2.2.2.2.2.1.1.2.2.2.2.2.2.1) (k_X1_init cs) (by decide) rfl rfl (Nat.le_of_ble_eq_true rfl) dX7_init_72 (fun y0 κ _ kc => ?_)
  refine k_astq (r := (RX1, TX1, 10)) (ws' := (((((([(h0, .inr (7, [.ref q1, .ref q2, .ref q3, .ref q4, .ref kp, .null, .null, .null, .null]))] ++ wX5 cs q1 u1) ++ wX6 cs q2 u2) ++ wX1 cs q3 u3) ++ wX3 cs q4 u4) ++ [(kp, .inl (cs.2.2, 2, .inr (.inr (.inr (.inr (va_up (fun _ => none) 0 (some v0)))))))]) ++ wX1 cs v0 y0)) kc 95 2 96 1 rfl rfl rfl rfl 0 (by decide +kernel) (by unfold vp_in; decide +kernel) rfl dX7_init_75 (fun κ kc => ?_)
  refine z_iinc (v := 1) kc.cx dX7_init_76 rfl ic_1 (by decide) (kc.nL.trans hnL) (by decide) rfl ?_
  refine z_goto (tgt := 58) kc.cx dX7_init_79 (by decide) ?_
  refine z_eq (lv2 := [some (.ref h0), some (.int 1)]) rfl rfl rfl ?_
  refine z_iload_n kc.cx 1 dX7_init_58 rfl rfl ?_
  refine z_iconst kc.cx dX7_init_59 ic_2 ?_
  refine z_icmp_ge (tgt := 82) kc.cx dX7_init_60 (by decide) (fun c_60 => absurd c_60 (by decide)) (fun _ => ?_)
  refine z_aload_n kc.cx 0 dX7_init_63 rfl rfl ?_
  refine z_get (q := 0) kc.cx kX7f37 rfl rfl dX7_init_64 ?_
  refine z_iload_n kc.cx 1 dX7_init_67 rfl rfl ?_
  refine k_new (N := 10) (c := 17) (s := 117) (ci := 1) (fs := [.int 0, .int 0, .null, .null, .null, .null, .null, .null, .null, .null]) kc inX1 tyX1_ok hX7_23 aX1 iX1 rfl (fun j hj => by rcases (show j = 0 ∨ j = 1 ∨ j = 2 ∨ j = 3 ∨ j = 4 ∨ j = 5 ∨ j = 6 ∨ j = 7 ∨ j = 8 ∨ j = 9 by omega) with rfl | rfl | rfl | rfl | rfl | rfl | rfl | rfl | rfl | rfl <;> rfl) dX7_init_68 (fun v1 κ kc => ?_)
  refine z_dup kc.cx dX7_init_71 rfl ?_
  refine k_ctorN (As := []) (c := 9) (s := 53) (mc := 8) (ms := 64) kc nX1_init rfl rfl jX1_init (kc.cx.2.2.2.2.2.2.2.1.1.2.2.2.2.2.2.1) (k_X1_init cs) (by decide) rfl rfl (Nat.le_of_ble_eq_true rfl) dX7_init_72 (fun y1 κ _ kc => ?_)
  refine k_astq (r := (RX1, TX1, 10)) (ws' := ((((((([(h0, .inr (7, [.ref q1, .ref q2, .ref q3, .ref q4, .ref kp, .null, .null, .null, .null]))] ++ wX5 cs q1 u1) ++ wX6 cs q2 u2) ++ wX1 cs q3 u3) ++ wX3 cs q4 u4) ++ [(kp, .inl (cs.2.2, 2, .inr (.inr (.inr (.inr (va_up (va_up (fun _ => none) 0 (some v0)) 1 (some v1)))))))]) ++ wX1 cs v0 y0) ++ wX1 cs v1 y1)) kc 95 2 105 1 rfl rfl rfl rfl 1 (by decide +kernel) (by unfold vp_in; decide +kernel) rfl dX7_init_75 (fun κ kc => ?_)
  refine z_iinc (v := 2) kc.cx dX7_init_76 rfl ic_1 (by decide) (kc.nL.trans hnL) (by decide) rfl ?_
  refine z_goto (tgt := 58) kc.cx dX7_init_79 (by decide) ?_
  refine z_eq (lv2 := [some (.ref h0), some (.int 2)]) rfl rfl rfl ?_
  refine z_iload_n kc.cx 1 dX7_init_58 rfl rfl ?_
  refine z_iconst kc.cx dX7_init_59 ic_2 ?_
  refine z_icmp_ge (tgt := 82) kc.cx dX7_init_60 (by decide) (fun _ => ?_) (fun c_60 => absurd c_60 (by decide))
  refine z_aload_n kc.cx 0 dX7_init_82 rfl rfl ?_
  refine z_iconst kc.cx dX7_init_83 ic_2 ?_
  refine k_newz (N := 2) (c := 8) (s := 51) kc 1 rfl (by decide) (by decide +kernel) (by decide) dX7_init_84 (fun ik κ kc => ?_)
  refine k_putF (ws' := (((((((([(h0, .inr (7, [.ref q1, .ref q2, .ref q3, .ref q4, .ref kp, .ref ik, .null, .null, .null]))] ++ wX5 cs q1 u1) ++ wX6 cs q2 u2) ++ wX1 cs q3 u3) ++ wX3 cs q4 u4) ++ [(kp, .inl (cs.2.2, 2, .inr (.inr (.inr (.inr (va_up (va_up (fun _ => none) 0 (some v0)) 1 (some v1)))))))]) ++ wX1 cs v0 y0) ++ wX1 cs v1 y1) ++ [(ik, .inl (cs.2.1, 2, .inl z0))])) kc hi kX7f41 qX7_fin5 0 rfl rfl rfl (Nat.le_of_ble_eq_true rfl) rfl dX7_init_86 (fun κ kc => ?_)
  refine z_aload_n kc.cx 0 dX7_init_89 rfl rfl ?_
  refine k_new (N := 7) (c := 7) (s := 44) (ci := 0) (fs := [.null, .null, .null, .int 0, .int 0, .int 0, .int 0]) kc inX0 tyX0_ok hX7_45 aX0 iX0 rfl (fun j hj => by rcases (show j = 0 ∨ j = 1 ∨ j = 2 ∨ j = 3 ∨ j = 4 ∨ j = 5 ∨ j = 6 by omega) with rfl | rfl | rfl | rfl | rfl | rfl | rfl <;> rfl) dX7_init_90 (fun q5 κ kc => ?_)
  refine z_dup kc.cx dX7_init_93 rfl ?_
  refine z_aload_n kc.cx 0 dX7_init_94 rfl rfl ?_
  refine z_get (q := 0) kc.cx kX7f19 rfl rfl dX7_init_95 ?_
  refine z_aload_n kc.cx 0 dX7_init_98 rfl rfl ?_
  refine z_get (q := 0) kc.cx kX7f26 rfl rfl dX7_init_99 ?_
  refine k_ctorI (As := [.ref q2, .ref q3]) (c := 6) (s := 39) (mc := 1) (ms := 5) kc nX0_init rfl rfl jX0_init kX7_47 (k_X0_init cs q2 q3) (by decide) rfl rfl (Nat.le_of_ble_eq_true rfl) dX7_init_102 (fun u5 κ _ kc => ?_)
  refine k_putF (ws' := ((((((((([(h0, .inr (7, [.ref q1, .ref q2, .ref q3, .ref q4, .ref kp, .ref ik, .ref q5, .null, .null]))] ++ wX5 cs q1 u1) ++ wX6 cs q2 u2) ++ wX1 cs q3 u3) ++ wX3 cs q4 u4) ++ [(kp, .inl (cs.2.2, 2, .inr (.inr (.inr (.inr (va_up (va_up (fun _ => none) 0 (some v0)) 1 (some v1)))))))]) ++ wX1 cs v0 y0) ++ wX1 cs v1 y1) ++ [(ik, .inl (cs.2.1, 2, .inl z0))]) ++ wX0 cs q2 q3 q5 u5)) kc hi kX7f50 qX7_fin6 0 rfl rfl rfl (Nat.le_of_ble_eq_true rfl) rfl dX7_init_105 (fun κ kc => ?_)
  refine z_aload_n kc.cx 0 dX7_init_108 rfl rfl ?_
  refine k_new (N := 8) (c := 5) (s := 31) (ci := 2) (fs := [.null, .null, .null, .null, .int 0, .int 0, .int 0, .int 0]) kc inX2 tyX2_ok hX7_54 aX2 iX2 rfl (fun j hj => by rcases (show j = 0 ∨ j = 1 ∨ j = 2 ∨ j = 3 ∨ j = 4 ∨ j = 5 ∨ j = 6 ∨ j = 7 by omega) with rfl | rfl | rfl | rfl | rfl | rfl | rfl | rfl <;> rfl) dX7_init_109 (fun q6 κ kc => ?_)
  refine z_dup kc.cx dX7_init_112 rfl ?_
  refine z_aload_n kc.cx 0 dX7_init_113 rfl rfl ?_
  refine z_get (q := 0) kc.cx kX7f19 rfl rfl dX7_init_114 ?_
  refine z_aload_n kc.cx 0 dX7_init_117 rfl rfl ?_
  refine z_get (q := 0) kc.cx kX7f26 rfl rfl dX7_init_118 ?_
  refine k_ctorI (As := [.ref q2, .ref q3]) (c := 3) (s := 16) (mc := 2) (ms := 15) kc nX2_init rfl rfl jX2_init kX7_56 (k_X2_init cs q2 q3) (by decide) rfl rfl (Nat.le_of_ble_eq_true rfl) dX7_init_121 (fun u6 κ _ kc => ?_)
  refine k_putF (ws' := (((((((((([(h0, .inr (7, [.ref q1, .ref q2, .ref q3, .ref q4, .ref kp, .ref ik, .ref q5, .ref q6, .null]))] ++ wX5 cs q1 u1) ++ wX6 cs q2 u2) ++ wX1 cs q3 u3) ++ wX3 cs q4 u4) ++ [(kp, .inl (cs.2.2, 2, .inr (.inr (.inr (.inr (va_up (va_up (fun _ => none) 0 (some v0)) 1 (some v1)))))))]) ++ wX1 cs v0 y0) ++ wX1 cs v1 y1) ++ [(ik, .inl (cs.2.1, 2, .inl z0))]) ++ wX0 cs q2 q3 q5 u5) ++ wX2 cs q2 q3 q6 u6)) kc hi kX7f57 qX7_fin7 0 rfl rfl rfl (Nat.le_of_ble_eq_true rfl) rfl dX7_init_124 (fun κ kc => ?_)
  refine z_aload_n kc.cx 0 dX7_init_127 rfl rfl ?_
  refine k_new (N := 4) (c := 2) (s := 12) (ci := 4) (fs := [.null, .null, .null, .int 0]) kc inX4 tyX4_ok hX7_61 aX4 iX4 rfl (fun j hj => by rcases (show j = 0 ∨ j = 1 ∨ j = 2 ∨ j = 3 by omega) with rfl | rfl | rfl | rfl <;> rfl) dX7_init_128 (fun q7 κ kc => ?_)
  refine z_dup kc.cx dX7_init_131 rfl ?_
  refine z_aload_n kc.cx 0 dX7_init_132 rfl rfl ?_
  refine z_get (q := 0) kc.cx kX7f19 rfl rfl dX7_init_133 ?_
  refine k_ctorI (As := [.ref q2]) (c := 0) (s := 0) (mc := 2) (ms := 12) kc nX4_init rfl rfl jX4_init kX7_63 (k_X4_init cs q2) (by decide) rfl rfl (Nat.le_of_ble_eq_true rfl) dX7_init_136 (fun u7 κ _ kc => ?_)
  refine k_putF (ws' := ((((((((((([(h0, .inr (7, [.ref q1, .ref q2, .ref q3, .ref q4, .ref kp, .ref ik, .ref q5, .ref q6, .ref q7]))] ++ wX5 cs q1 u1) ++ wX6 cs q2 u2) ++ wX1 cs q3 u3) ++ wX3 cs q4 u4) ++ [(kp, .inl (cs.2.2, 2, .inr (.inr (.inr (.inr (va_up (va_up (fun _ => none) 0 (some v0)) 1 (some v1)))))))]) ++ wX1 cs v0 y0) ++ wX1 cs v1 y1) ++ [(ik, .inl (cs.2.1, 2, .inl z0))]) ++ wX0 cs q2 q3 q5 u5) ++ wX2 cs q2 q3 q6 u6) ++ wX4 cs q2 q7 u7)) kc hi kX7f66 qX7_fin8 0 rfl rfl rfl (Nat.le_of_ble_eq_true rfl) rfl dX7_init_139 (fun κ kc => ?_)
  refine z_aload_n kc.cx 0 dX7_init_142 rfl rfl ?_
  refine z_get (q := 0) kc.cx kX7f26 rfl rfl dX7_init_143 ?_
  refine z_aload_n kc.cx 0 dX7_init_146 rfl rfl ?_
  refine z_get (q := 0) kc.cx kX7f19 rfl rfl dX7_init_147 ?_
  obtain ⟨ad, e0, e6, e12, hPf, hDf⟩ := WF_fin D cs x h0 q1 u1 q2 u2 q3 u3 q4 u4 kp v0 y0 v1 y1 ik q5 u5 q6 u6 q7 u7
  refine k_eqv (ws' := [] ++ (wdG 123 ad (cE (gK D cs x ad)) (fun _ => z0) ++ [])) kc (fun H h => by rw [List.nil_append, List.append_nil]; exact hPf H h) (fun h => by rw [List.nil_append, List.append_nil]; exact hDf _ h) (fun κ kc => ?_)
  refine z_eq (st2 := [.ref (ad 6), .ref (ad 12)]) rfl rfl (by rw [e6, e12]) ?_
  have hD : va_D (va_A [(h0, .inr (7, [.null, .null, .null, .null, .null, .null, .null, .null, .null]))] sz) (wdG 123 ad (cE (gK D cs x ad)) (fun _ => z0)) := by
    have h1 : va_D (va_A [(h0, .inr (7, [.null, .null, .null, .null, .null, .null, .null, .null, .null]))] sz) ([] ++ (wdG 123 ad (cE (gK D cs x ad)) (fun _ => z0) ++ [])) := kc.1.2.2.2.2.2.2.1.1 (fun _ _ => 0)
    rw [List.nil_append, List.append_nil] at h1
    exact h1
  obtain ⟨hg, hin⟩ := apG_of hD
  refine k_callV (wd := wdG 123 ad (cE (gK D cs x ad))) (A' := inG 123 ad) (SF' := SFC (gK D cs x ad)) (wa := []) (wb := []) (As := [.ref (ad 6)]) (b := ad 12) (q := 12) (rest := []) kc (okC (g := gK D cs x ad) hg) (fun U hU => SFQ.C (g := gK D cs x ad) (hU.narrow hin)) hin (fun σ2 => wdG_fst _ _) (fun k p h => by simp at h) (fun k p h => by simp at h) vX1_startAnew kX7_70 (c_X1_startAnew (g := gK D cs x ad) hg (fun _ => z0)) (by decide) (hC12 (g := gK D cs x ad)) rfl rfl rfl rfl (Nat.le_of_ble_eq_true rfl) dX7_init_150 (fun r σ2 κ hp kc => ?_)
  obtain ⟨rfl, hp⟩ := hp
  refine k_vret kc hR (ad, σ2) ⟨e0, hp⟩ (fun H h => ?_) (fun h => ?_) dX7_init_153
  · rw [List.nil_append, List.append_nil] at h; exact h
  · rw [List.nil_append, List.append_nil] at h; exact h
