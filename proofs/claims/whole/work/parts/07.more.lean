section ZM
variable {κ : Kx} {O : Om} {own : String} {cc : ByteArray} {d : Nat} {σ : Mem} {pc : Nat} {lv : List (Option Value)} {rest : List Value}
theorem z_look2 (cx : Cx κ O own cc d) {x : Int32} (k1 k2 : Int32) {a1 a2 o1 o2 dflt : Int} {len : Nat} (t1 t2 t3 : Nat) (hd : decode cc pc = .ok (.lookupswitch dflt #[(a1, o1), (a2, o2)], len)) (h1 : k1.toInt = a1) (h2 : k2.toInt = a2) (hlt : a1 < a2) (g1 : (pc : Int) + o1 = (t1 : Int)) (g2 : (pc : Int) + o2 = (t2 : Int)) (g3 : (pc : Int) + dflt = (t3 : Int))
    (kt1 : x = k1 → Z κ O σ t1 lv rest) (kt2 : ¬ x = k1 → x = k2 → Z κ O σ t2 lv rest) (kd : ¬ x = k1 → ¬ x = k2 → Z κ O σ t3 lv rest) : Z κ O σ pc lv (.int x :: rest) := by
  have hp : ((#[(a1, o1), (a2, o2)] : Array (Int × Int)).toList.zip ((#[(a1, o1), (a2, o2)] : Array (Int × Int)).toList.drop 1)).all (fun (a, next) => a.1 < next.1) = true := by simp [hlt]
  by_cases e1 : x = k1
  · refine z_lookup cx hd hp (off := o1) ?_ g1 (kt1 e1)
    show Op.lookupswitch.offset [(a1, o1), (a2, o2)] dflt x.toInt = o1
    rw [Op.lookupswitch.offset_cons, if_pos (by rw [e1, h1])]
  · by_cases e2 : x = k2
    · refine z_lookup cx hd hp (off := o2) ?_ g2 (kt2 e1 e2)
      show Op.lookupswitch.offset [(a1, o1), (a2, o2)] dflt x.toInt = o2
      rw [lv_osw e1 h1, Op.lookupswitch.offset_cons, if_pos (by rw [e2, h2])]
    · refine z_lookup cx hd hp (off := dflt) ?_ g3 (kd e1 e2)
      show Op.lookupswitch.offset [(a1, o1), (a2, o2)] dflt x.toInt = dflt
      rw [lv_osw e1 h1, lv_osw e2 h2]
      rfl
end ZM
theorem tsw (x : Int32) {n : Nat} (hn : n < 2 ^ 31 - 1) : (x.toInt < 0 ∨ (n : Int) < x.toInt) ∨ ∃ j : Nat, j ≤ n ∧ x = nI j := by
  rcases pk_ix x (n := n + 1) (by omega) with h | h | ⟨j, hj, rfl⟩
  · left; left; have := Int32.lt_iff_toInt_lt.mp h; simpa using this
  · left; right
    have h2 := Int32.le_iff_toInt_le.mp h
    rw [nI_toInt (by omega)] at h2; omega
  · exact Or.inr ⟨j, by omega, rfl⟩
theorem up2_at (σ : Mem) (i k : Nat) (v : Int32) : up2 σ i k v i = upd (σ i) k v := by simp [up2, upA]
theorem up2_ne (σ : Mem) {i j : Nat} (k : Nat) (v : Int32) (h : j ≠ i) : up2 σ i k v j = σ j := by simp [up2, upA, h]
theorem upA_at (σ : Mem) (i : Nat) (f : Nat → Int32) : upA σ i f i = f := by simp [upA]
theorem upA_ne (σ : Mem) {i j : Nat} (f : Nat → Int32) (h : j ≠ i) : upA σ i f j = σ j := by simp [upA, h]
theorem upd_at (f : Nat → Int32) (k : Nat) (v : Int32) : upd f k v k = v := by simp [upd]
theorem upd_ne (f : Nat → Int32) {k j : Nat} (v : Int32) (h : j ≠ k) : upd f k v j = f j := by simp [upd, h]
/-- the number is within, from 0 up to top; below n -/
def inW (n top : Int32) : Bool := !decide (n < 0) && !decide (top < n)
def inR (e n : Int32) : Bool := !decide (e < 0) && !decide (n ≤ e)
theorem inW_of {x : Int32} {n : Nat} (h : inW x (nI n) = true) (hn : n < 2 ^ 31 - 1) : ∃ j : Nat, j ≤ n ∧ x = nI j := by
  simp [inW] at h
  rcases pk_ix x (n := n + 1) (by omega) with q | q | ⟨j, hj, e⟩
  · exact absurd q (Int32.not_lt.mpr h.1)
  · have h2 := Int32.le_trans q h.2
    rw [nI_leI (by omega) (by omega)] at h2; omega
  · exact ⟨j, by omega, e⟩
theorem inR_of {x : Int32} {n : Nat} (h : inR x (nI n) = true) (hn : n < 2 ^ 31) : ∃ j : Nat, j < n ∧ x = nI j := by
  simp [inR] at h
  rcases pk_ix x (n := n) hn with q | q | ⟨j, hj, e⟩
  · exact absurd q (Int32.not_lt.mpr h.1)
  · exact absurd q (Int32.not_le.mpr h.2)
  · exact ⟨j, hj, e⟩
theorem inR_nI {j n : Nat} (hj : j < 2 ^ 31) (hn : n < 2 ^ 31) : inR (nI j) (nI n) = decide (j < n) := by
  have h1 := nI_pos hj
  simp only [inR, h1, nI_leI hn hj, decide_false, Bool.not_false, Bool.true_and]
  by_cases h : j < n
  · simp [h, Nat.not_le.mpr h]
  · simp [h, Nat.not_lt.mp h]
theorem inW_nI {j n : Nat} (hj : j < 2 ^ 31) (hn : n < 2 ^ 31) : inW (nI j) (nI n) = decide (j ≤ n) := by
  have h1 := nI_pos hj
  simp only [inW, h1, nI_ltI hn hj, decide_false, Bool.not_false, Bool.true_and]
  by_cases h : j ≤ n
  · simp [h, Nat.not_lt.mpr h]
  · simp [h, Nat.not_le.mp h]
