def CH (σ : Mem) (E B t : Nat) : Prop := (E ≤ 7 ∧ σ 6 3 = nI E) ∧ (B ≤ 5 ∧ σ 6 4 = nI B) ∧ t ≤ E ∧ σ 12 0 = nI t
def toN (x : Int32) : Nat := x.toNatClampNeg
def nit (σ : Mem) : Bool := inR (σ 12 0) (σ 6 3)
def gaA (σ : Mem) (b e p : Int32) : Int32 := if inR b (σ 6 4) = false then -2 else if inR e (σ 6 3) = false then -2 else if inW p 99 = false then -3 else gn (σ 9 (toN b)) (σ 10 (toN b)) (σ 8 (toN e)) (σ 7 (toN e)) (σ 6 2) p + 99999
def liA (σ : Mem) (t : Nat) (b : Int32) : Int32 := if inR b (σ 6 4) = false then -2 else if nit σ = false then -4 else dP (fun pr => gn (σ 9 (toN b)) (σ 10 (toN b)) (σ 8 t) (σ 7 t) (σ 6 2) pr) (tpN (toN (σ 13 (toN b))))
def haA (σ : Mem) (B t : Nat) (b : Int32) : Int32 := if inR b (σ 6 4) = false then -2 else if nit σ = false then -4 else hsG (σ 6 0) (σ 6 1) (σ 6 2) (σ 9) (σ 10) (σ 8 t) (σ 7 t) (σ 15) B (toN b) + 99999
def rpA (σ : Mem) (B t : Nat) (b w : Int32) : Int32 := if inR b (σ 6 4) = false then -2 else if inW w 1 = false then -3 else if nit σ = false then -4 else if w = 0 then (rpG (rpF σ B t (toN b)) (tpN (toN (σ 13 (toN b))) + 1)).1 else (rpG (rpF σ B t (toN b)) (tpN (toN (σ 13 (toN b))) + 1)).2 + 99999
def tmA (σ : Mem) (B t : Nat) : Int32 := if nit σ = false then -4 else tpS (tmT σ B t) B
def caX (σ : Mem) (B : Nat) : Int32 × Int32 := if slW σ B = -1 then (-1, -1) else caG (caS σ B (slW σ B).toNatClampNeg) (slW σ B).toNatClampNeg (2 ^ B)
def caA (σ : Mem) (B : Nat) (w : Int32) : Int32 := if inW w 1 = false then -3 else if nit σ = false then -4 else if w = 0 then (caX σ B).1 else (caX σ B).2
def otA (σ : Mem) (B : Nat) : Int32 := if nit σ = false then -4 else if slW σ B = -1 then -1 else pay (if σ 6 0 = 0 then 1 else 0) (σ 6 1) (σ 15) (toN (slW σ B)) B
def seA (σ : Mem) (t E : Nat) (b w : Int32) : Int32 := if inR b (σ 6 4) = false then -2 else if inW w 1 = false then -3 else if w = 0 then (seF σ (toN b) t E).1 else (seF σ (toN b) t E).2
def gdF (σ : Mem) (t E k : Nat) : Nat := toN (suF (wyN (σ 8) t (E - t)) k (8 - k))
def brA (σ : Mem) (t E : Nat) (k p : Int32) : Int32 := if inW k 7 = false then -3 else if inW p 1 = false then -3 else if p = 0 then nI (gdF σ t E (toN k) / Nat.gcd (10 ^ (E - t)) (gdF σ t E (toN k))) else nI (10 ^ (E - t) / Nat.gcd (10 ^ (E - t)) (gdF σ t E (toN k)))
def scA (σ : Mem) (t : Nat) (k : Int32) : Int32 := if inW k 2 = false then -2 else scT (σ 20) (σ 19) (toN k) t
def bs3 (S : Nat → Int32) : Nat := if S 2 < S (if S 1 < S 0 then 1 else 0) then 2 else if S 1 < S 0 then 1 else 0
def btA (σ : Mem) (t : Nat) : Int32 := if t = 0 then -1 else nI (bs3 (fun k => scT (σ 20) (σ 19) k t))
def snC (σ : Mem) (b dn : Int32) : Int32 := if inR b (σ 6 4) = false then -2 else if inW dn 1 = false then -3 else if σ 120 3 < 6 then 0 else -5
def coA (σ : Mem) (w : Int32) : Int32 := if w = 0 then σ 6 3 else if w = 1 then σ 6 4 else if w = 2 then σ 12 0 else if w = 3 then σ 6 0 else if w = 4 then σ 6 1 else if w = 5 then σ 6 2 else if w = 6 then nI (cnB (σ 15) 5) else if w = 7 then σ 12 1 else if w = 8 then smI (σ 14) 5 else if w = 9 then σ 120 3 else if w = 10 then σ 21 1 else if w = 11 then σ 1 1 else -3
theorem toN_nI {j : Nat} (h : j < 2 ^ 31) : toN (nI j) = j := nI_clamp h
set_option maxRecDepth 100000 in
set_option maxHeartbeats 4000000 in
theorem c_X7_gain {l : Launch} {g : Gx} (hg : ApG 123 g.ad) (σ : Mem) {E B t : Nat} (hC : CH σ E B t) (b e p : Int32) : Ct l (OC g) 3 mX7_gain [.ref (g.ad 0), .int b, .int e, .int p] σ (some (.int (gaA σ b e p))) σ := by
  refine ct_of (lv := [some (.ref (g.ad 0)), some (.int b), some (.int e), some (.int p)]) (okC hg) (by decide +kernel) (Nat.le_of_ble_eq_true rfl) (fun ls h => lvh_entry h rfl 0) ?_
  intro κ hl hnL cx hR
  subst hl
  have cx : Cx κ (OC g) RX7 cX7_gain 3 := cx
  have hnL : κ.nL = 4 := hnL
  obtain ⟨⟨hE, eE⟩, ⟨hB, eB⟩, hte, eT⟩ := hC
  refine z_aload_n cx 0 dX7_gain_0 rfl rfl ?_
  refine gX7_19 cx dX7_gain_1 ?_
  refine z_iload_n cx 1 dX7_gain_4 rfl rfl ?_
  refine z_V1i cx vX6_isBidder kX7_138 (c_X6_isBidder hg σ _) (by decide) hC6 rfl rfl (Nat.le_of_ble_eq_true rfl) dX7_gain_5 ?_
  refine z_ifb_eq (tgt := 22) cx dX7_gain_8 (by decide) (fun c_8 => ?_) (fun c_8 => ?_)
  · refine z_bipush cx dX7_gain_22 bi_m2 ?_
    exact z_iret cx hR ⟨by simp [gaA, c_8], rfl⟩ dX7_gain_24
  · obtain ⟨j, hj, rfl⟩ := inR_of (show inR b (nI B) = true by rw [← eB]; exact c_8) (by omega)
    have ej : toN (nI j) = j := toN_nI (by omega)
    refine z_aload_n cx 0 dX7_gain_11 rfl rfl ?_
    refine gX7_19 cx dX7_gain_12 ?_
    refine z_iload_n cx 2 dX7_gain_15 rfl rfl ?_
    refine z_V1i cx vX6_isEvening kX7_116 (c_X6_isEvening hg σ _) (by decide) hC6 rfl rfl (Nat.le_of_ble_eq_true rfl) dX7_gain_16 ?_
    refine z_ifb_ne (tgt := 25) cx dX7_gain_19 (by decide) (fun c_19 => ?_) (fun c_19 => ?_)
    · obtain ⟨i, hi, rfl⟩ := inR_of (show inR e (nI E) = true by rw [← eE]; exact c_19) (by omega)
      have ei : toN (nI i) = i := toN_nI (by omega)
      refine z_iload_n cx 3 dX7_gain_25 rfl rfl ?_
      refine z_bipush cx dX7_gain_26 bi_99 ?_
      refine z_S2i cx sX7_isWithin kX7_73 (c_X7_isWithin hg σ _ _) (by decide) (Nat.le_of_ble_eq_true rfl) dX7_gain_28 ?_
      refine z_ifb_ne (tgt := 37) cx dX7_gain_31 (by decide) (fun c_31 => ?_) (fun c_31 => ?_)
      · refine z_aload_n cx 0 dX7_gain_37 rfl rfl ?_
        refine gX7_19 cx dX7_gain_38 ?_
        refine z_iload_n cx 1 dX7_gain_41 rfl rfl ?_
        refine z_iload_n cx 2 dX7_gain_42 rfl rfl ?_
        refine z_iload_n cx 3 dX7_gain_43 rfl rfl ?_
        refine z_V3i cx vX6_gainOf kX7_209 (c_X6_gainOf hg σ (j := j) (i := i) (by omega) (by omega) _) (by decide) hC6 rfl rfl (Nat.le_of_ble_eq_true rfl) dX7_gain_44 ?_
        refine z_ldc cx qX7_213 dX7_gain_47 ?_
        refine z_iadd cx dX7_gain_49 ?_
        exact z_iret cx hR ⟨by simp [gaA, c_8, c_19, c_31, ei, ej], rfl⟩ dX7_gain_50
      · refine z_bipush cx dX7_gain_34 bi_m3 ?_
        exact z_iret cx hR ⟨by simp [gaA, c_8, c_19, c_31], rfl⟩ dX7_gain_36
    · refine z_bipush cx dX7_gain_22 bi_m2 ?_
      exact z_iret cx hR ⟨by simp [gaA, c_8, c_19], rfl⟩ dX7_gain_24
set_option maxRecDepth 100000 in
set_option maxHeartbeats 4000000 in
theorem c_X7_limit {l : Launch} {g : Gx} (hg : ApG 123 g.ad) (σ : Mem) {E B t : Nat} (hC : CH σ E B t) (hP : ∀ b, b < B → ∃ pu, pu < 2 ^ 31 ∧ σ 13 b = nI pu) (b : Int32) : Ct l (OC g) 4 mX7_limit [.ref (g.ad 0), .int b] σ (some (.int (liA σ t b))) σ := by
  refine ct_of (lv := [some (.ref (g.ad 0)), some (.int b)]) (okC hg) (by decide +kernel) (Nat.le_of_ble_eq_true rfl) (fun ls h => lvh_entry h rfl 0) ?_
  intro κ hl hnL cx hR
  subst hl
  have cx : Cx κ (OC g) RX7 cX7_limit 4 := cx
  have hnL : κ.nL = 2 := hnL
  obtain ⟨⟨hE, eE⟩, ⟨hB, eB⟩, hte, eT⟩ := hC
  refine z_aload_n cx 0 dX7_limit_0 rfl rfl ?_
  refine gX7_19 cx dX7_limit_1 ?_
  refine z_iload_n cx 1 dX7_limit_4 rfl rfl ?_
  refine z_V1i cx vX6_isBidder kX7_138 (c_X6_isBidder hg σ _) (by decide) hC6 rfl rfl (Nat.le_of_ble_eq_true rfl) dX7_limit_5 ?_
  refine z_ifb_ne (tgt := 14) cx dX7_limit_8 (by decide) (fun c_8 => ?_) (fun c_8 => ?_)
  · obtain ⟨j, hj, rfl⟩ := inR_of (show inR b (nI B) = true by rw [← eB]; exact c_8) (by omega)
    have ej : toN (nI j) = j := toN_nI (by omega)
    obtain ⟨pu, hpu, ePu⟩ := hP j hj
    have epu : toN (σ 13 j) = pu := by rw [ePu]; exact toN_nI hpu
    refine z_aload_n cx 0 dX7_limit_14 rfl rfl ?_
    refine z_V0i cx vX7_isTonight kX7_176 (c_X7_isTonight hg σ) (by decide) hC0 rfl rfl (Nat.le_of_ble_eq_true rfl) dX7_limit_15 ?_
    refine z_ifb_ne (tgt := 24) cx dX7_limit_18 (by decide) (fun c_18 => ?_) (fun c_18 => ?_)
    · have c9t : nit σ = true := c_18
      have ht : t < E := by
        have := c_18
        rw [eT, eE, inR_nI (by omega) (by omega)] at this
        simpa using this
      refine z_aload_n cx 0 dX7_limit_24 rfl rfl ?_
      refine gX7_50 cx dX7_limit_25 ?_
      refine z_iload_n cx 1 dX7_limit_28 rfl rfl ?_
      refine z_V1i cx vX0_dearestPrice kX7_214 (c_X0_dearestPrice (n := B) (t := t) hg σ ⟨hB, eB, by omega, eT⟩ (j := j) (by omega) hpu ePu) (by decide) hC115 rfl rfl (Nat.le_of_ble_eq_true rfl) dX7_limit_29 ?_
      exact z_iret cx hR ⟨by simp [liA, c_8, c_18, c9t, ej, epu], rfl⟩ dX7_limit_32
    · have c9f : nit σ = false := c_18
      refine z_bipush cx dX7_limit_21 bi_m4 ?_
      exact z_iret cx hR ⟨by simp [liA, c_8, c_18, c9f], rfl⟩ dX7_limit_23
  · refine z_bipush cx dX7_limit_11 bi_m2 ?_
    exact z_iret cx hR ⟨by simp [liA, c_8], rfl⟩ dX7_limit_13
set_option maxRecDepth 100000 in
set_option maxHeartbeats 4000000 in
theorem c_X7_has {l : Launch} {g : Gx} (hg : ApG 123 g.ad) (σ : Mem) {E B t : Nat} (hC : CH σ E B t) (b : Int32) : Ct l (OC g) 4 mX7_has [.ref (g.ad 0), .int b] σ (some (.int (haA σ B t b))) σ := by
  refine ct_of (lv := [some (.ref (g.ad 0)), some (.int b)]) (okC hg) (by decide +kernel) (Nat.le_of_ble_eq_true rfl) (fun ls h => lvh_entry h rfl 0) ?_
  intro κ hl hnL cx hR
  subst hl
  have cx : Cx κ (OC g) RX7 cX7_has 4 := cx
  have hnL : κ.nL = 2 := hnL
  obtain ⟨⟨hE, eE⟩, ⟨hB, eB⟩, hte, eT⟩ := hC
  refine z_aload_n cx 0 dX7_has_0 rfl rfl ?_
  refine gX7_19 cx dX7_has_1 ?_
  refine z_iload_n cx 1 dX7_has_4 rfl rfl ?_
  refine z_V1i cx vX6_isBidder kX7_138 (c_X6_isBidder hg σ _) (by decide) hC6 rfl rfl (Nat.le_of_ble_eq_true rfl) dX7_has_5 ?_
  refine z_ifb_ne (tgt := 14) cx dX7_has_8 (by decide) (fun c_8 => ?_) (fun c_8 => ?_)
  · obtain ⟨j, hj, rfl⟩ := inR_of (show inR b (nI B) = true by rw [← eB]; exact c_8) (by omega)
    have ej : toN (nI j) = j := toN_nI (by omega)
    refine z_aload_n cx 0 dX7_has_14 rfl rfl ?_
    refine z_V0i cx vX7_isTonight kX7_176 (c_X7_isTonight hg σ) (by decide) hC0 rfl rfl (Nat.le_of_ble_eq_true rfl) dX7_has_15 ?_
    refine z_ifb_ne (tgt := 24) cx dX7_has_18 (by decide) (fun c_18 => ?_) (fun c_18 => ?_)
    · have c9t : nit σ = true := c_18
      have ht : t < E := by
        have := c_18
        rw [eT, eE, inR_nI (by omega) (by omega)] at this
        simpa using this
      refine z_aload_n cx 0 dX7_has_24 rfl rfl ?_
      refine gX7_50 cx dX7_has_25 ?_
      refine z_aload_n cx 0 dX7_has_28 rfl rfl ?_
      refine gX7_26 cx dX7_has_29 ?_
      refine gX7_153 cx dX7_has_32 ?_
      refine z_iload_n cx 1 dX7_has_35 rfl rfl ?_
      refine z_V2i cx vX0_gainBy kX7_217 (c_X0_gainBy (n := B) (t := t) hg σ (by decide) (fun _ => rfl) ⟨hB, eB, by omega, eT⟩ (j := j) (by omega)) (by decide) hC115 rfl rfl (Nat.le_of_ble_eq_true rfl) dX7_has_36 ?_
      refine z_ldc cx qX7_213 dX7_has_39 ?_
      refine z_iadd cx dX7_has_41 ?_
      exact z_iret cx hR ⟨by simp [haA, c_8, c_18, c9t, ej], rfl⟩ dX7_has_42
    · have c9f : nit σ = false := c_18
      refine z_bipush cx dX7_has_21 bi_m4 ?_
      exact z_iret cx hR ⟨by simp [haA, c_8, c_18, c9f], rfl⟩ dX7_has_23
  · refine z_bipush cx dX7_has_11 bi_m2 ?_
    exact z_iret cx hR ⟨by simp [haA, c_8], rfl⟩ dX7_has_13
set_option maxRecDepth 100000 in
set_option maxHeartbeats 4000000 in
theorem c_X7_reply {l : Launch} {g : Gx} (hg : ApG 123 g.ad) (σ : Mem) {E B t : Nat} (hC : CH σ E B t) (hP : ∀ b, b < B → ∃ pu, pu < 2 ^ 31 ∧ σ 13 b = nI pu) (b w : Int32) : CtI l (OC g) 5 mX7_reply [.ref (g.ad 0), .int b, .int w] σ (fun v σ' => v = rpA σ B t b w ∧ OffA σ' σ) := by
  refine ct_of (lv := [some (.ref (g.ad 0)), some (.int b), some (.int w)]) (okC hg) (by decide +kernel) (Nat.le_of_ble_eq_true rfl) (fun ls h => lvh_entry h rfl 0) ?_
  intro κ hl hnL cx hR
  subst hl
  have cx : Cx κ (OC g) RX7 cX7_reply 5 := cx
  have hnL : κ.nL = 3 := hnL
  obtain ⟨⟨hE, eE⟩, ⟨hB, eB⟩, hte, eT⟩ := hC
  refine z_aload_n cx 0 dX7_reply_0 rfl rfl ?_
  refine gX7_19 cx dX7_reply_1 ?_
  refine z_iload_n cx 1 dX7_reply_4 rfl rfl ?_
  refine z_V1i cx vX6_isBidder kX7_138 (c_X6_isBidder hg σ _) (by decide) hC6 rfl rfl (Nat.le_of_ble_eq_true rfl) dX7_reply_5 ?_
  refine z_ifb_ne (tgt := 14) cx dX7_reply_8 (by decide) (fun c_8 => ?_) (fun c_8 => ?_)
  · obtain ⟨j, hj, rfl⟩ := inR_of (show inR b (nI B) = true by rw [← eB]; exact c_8) (by omega)
    have ej : toN (nI j) = j := toN_nI (by omega)
    obtain ⟨pu, hpu, ePu⟩ := hP j hj
    have epu : toN (σ 13 j) = pu := by rw [ePu]; exact toN_nI hpu
    refine z_iload_n cx 2 dX7_reply_14 rfl rfl ?_
    refine z_iconst cx dX7_reply_15 ic_1 ?_
    refine z_S2i cx sX7_isWithin kX7_73 (c_X7_isWithin hg σ _ _) (by decide) (Nat.le_of_ble_eq_true rfl) dX7_reply_16 ?_
    refine z_ifb_ne (tgt := 25) cx dX7_reply_19 (by decide) (fun c_19 => ?_) (fun c_19 => ?_)
    · refine z_aload_n cx 0 dX7_reply_25 rfl rfl ?_
      refine z_V0i cx vX7_isTonight kX7_176 (c_X7_isTonight hg σ) (by decide) hC0 rfl rfl (Nat.le_of_ble_eq_true rfl) dX7_reply_26 ?_
      refine z_ifb_ne (tgt := 35) cx dX7_reply_29 (by decide) (fun c_29 => ?_) (fun c_29 => ?_)
      · have c9t : nit σ = true := c_29
        have ht : t < E := by
          have := c_29
          rw [eT, eE, inR_nI (by omega) (by omega)] at this
          simpa using this
        refine z_aload_n cx 0 dX7_reply_35 rfl rfl ?_
        refine gX7_50 cx dX7_reply_36 ?_
        refine z_iload_n cx 1 dX7_reply_39 rfl rfl ?_
        refine z_V1V cx vX0_findReply kX7_221 (c_X0_findReply (n := B) (t := t) hg σ ⟨hB, eB, by omega, eT⟩ (j := j) hj hpu ePu) (by decide) hC115 rfl rfl (Nat.le_of_ble_eq_true rfl) dX7_reply_40 (fun σ_40 h_40 => ?_)
        obtain ⟨⟨k3, k4⟩, kO⟩ := h_40
        refine z_iload_n cx 2 dX7_reply_43 rfl rfl ?_
        refine z_if_ne (tgt := 57) cx dX7_reply_44 (by decide) (fun c_44 => ?_) (fun c_44 => ?_)
        · refine z_aload_n cx 0 dX7_reply_57 rfl rfl ?_
          refine gX7_50 cx dX7_reply_58 ?_
          refine gX7_227 cx dX7_reply_61 ?_
          refine z_ldc cx qX7_213 dX7_reply_64 ?_
          refine z_iadd cx dX7_reply_66 ?_
          exact z_iret cx hR ⟨_, rfl, by rw [rpA, if_neg (by rw [c_8]; decide), if_neg (by rw [c_19]; decide), if_neg (by rw [c9t]; decide), if_neg c_44, ej, epu, k4], kO⟩ dX7_reply_67
        · refine z_aload_n cx 0 dX7_reply_47 rfl rfl ?_
          refine gX7_50 cx dX7_reply_48 ?_
          refine gX7_224 cx dX7_reply_51 ?_
          refine z_goto (tgt := 67) cx dX7_reply_54 (by decide) ?_
          exact z_iret cx hR ⟨_, rfl, by rw [rpA, if_neg (by rw [c_8]; decide), if_neg (by rw [c_19]; decide), if_neg (by rw [c9t]; decide), if_pos c_44, ej, epu, k3], kO⟩ dX7_reply_67
      · have c9f : nit σ = false := c_29
        refine z_bipush cx dX7_reply_32 bi_m4 ?_
        exact z_iret cx hR ⟨_, rfl, by simp [rpA, c_8, c_19, c_29, c9f], fun _ _ _ => rfl⟩ dX7_reply_34
    · refine z_bipush cx dX7_reply_22 bi_m3 ?_
      exact z_iret cx hR ⟨_, rfl, by simp [rpA, c_8, c_19], fun _ _ _ => rfl⟩ dX7_reply_24
  · refine z_bipush cx dX7_reply_11 bi_m2 ?_
    exact z_iret cx hR ⟨_, rfl, by simp [rpA, c_8], fun _ _ _ => rfl⟩ dX7_reply_13
set_option maxRecDepth 100000 in
set_option maxHeartbeats 4000000 in
theorem c_X7_tempted {l : Launch} {g : Gx} (hg : ApG 123 g.ad) (σ : Mem) {E B t : Nat} (hC : CH σ E B t) (hP : ∀ b, b < B → ∃ pu, pu < 2 ^ 31 ∧ σ 13 b = nI pu) : CtI l (OC g) 6 mX7_tempted [.ref (g.ad 0)] σ (fun v σ' => v = tmA σ B t ∧ OffA σ' σ) := by
  refine ct_of (lv := [some (.ref (g.ad 0))]) (okC hg) (by decide +kernel) (Nat.le_of_ble_eq_true rfl) (fun ls h => lvh_entry h rfl 0) ?_
  intro κ hl hnL cx hR
  subst hl
  have cx : Cx κ (OC g) RX7 cX7_tempted 6 := cx
  have hnL : κ.nL = 1 := hnL
  obtain ⟨⟨hE, eE⟩, ⟨hB, eB⟩, hte, eT⟩ := hC
  refine z_aload_n cx 0 dX7_tempted_0 rfl rfl ?_
  refine z_V0i cx vX7_isTonight kX7_176 (c_X7_isTonight hg σ) (by decide) hC0 rfl rfl (Nat.le_of_ble_eq_true rfl) dX7_tempted_1 ?_
  refine z_ifb_eq (tgt := 17) cx dX7_tempted_4 (by decide) (fun c_4 => ?_) (fun c_4 => ?_)
  · have c9f : nit σ = false := c_4
    refine z_bipush cx dX7_tempted_17 bi_m4 ?_
    exact z_iret cx hR ⟨_, rfl, by simp [tmA, c9f], fun _ _ _ => rfl⟩ dX7_tempted_19
  · have c9t : nit σ = true := c_4
    have ht : t < E := by
      have := c_4
      rw [eT, eE, inR_nI (by omega) (by omega)] at this
      simpa using this
    refine z_aload_n cx 0 dX7_tempted_7 rfl rfl ?_
    refine gX7_50 cx dX7_tempted_8 ?_
    refine z_V0I cx vX0_findTempted kX7_230 (c_X0_findTempted (n := B) (t := t) hg σ ⟨hB, eB, by omega, eT⟩ hP) (by decide) hC115 rfl rfl (Nat.le_of_ble_eq_true rfl) dX7_tempted_11 (fun v_11 σ_11 h_11 => ?_)
    refine z_goto (tgt := 19) cx dX7_tempted_14 (by decide) ?_
    exact z_iret cx hR ⟨_, rfl, by simp [tmA, c9t, h_11.1], h_11.2⟩ dX7_tempted_19
set_option maxRecDepth 100000 in
set_option maxHeartbeats 4000000 in
theorem c_X7_cartel {l : Launch} {g : Gx} (hg : ApG 123 g.ad) (σ : Mem) {E B t : Nat} (hC : CH σ E B t) (w : Int32) : CtI l (OC g) 4 mX7_cartel [.ref (g.ad 0), .int w] σ (fun v σ' => v = caA σ B w ∧ OffA σ' σ) := by
  refine ct_of (lv := [some (.ref (g.ad 0)), some (.int w)]) (okC hg) (by decide +kernel) (Nat.le_of_ble_eq_true rfl) (fun ls h => lvh_entry h rfl 0) ?_
  intro κ hl hnL cx hR
  subst hl
  have cx : Cx κ (OC g) RX7 cX7_cartel 4 := cx
  have hnL : κ.nL = 2 := hnL
  obtain ⟨⟨hE, eE⟩, ⟨hB, eB⟩, hte, eT⟩ := hC
  refine z_iload_n cx 1 dX7_cartel_0 rfl rfl ?_
  refine z_iconst cx dX7_cartel_1 ic_1 ?_
  refine z_S2i cx sX7_isWithin kX7_73 (c_X7_isWithin hg σ _ _) (by decide) (Nat.le_of_ble_eq_true rfl) dX7_cartel_2 ?_
  refine z_ifb_ne (tgt := 11) cx dX7_cartel_5 (by decide) (fun c_5 => ?_) (fun c_5 => ?_)
  · refine z_aload_n cx 0 dX7_cartel_11 rfl rfl ?_
    refine z_V0i cx vX7_isTonight kX7_176 (c_X7_isTonight hg σ) (by decide) hC0 rfl rfl (Nat.le_of_ble_eq_true rfl) dX7_cartel_12 ?_
    refine z_ifb_ne (tgt := 21) cx dX7_cartel_15 (by decide) (fun c_15 => ?_) (fun c_15 => ?_)
    · have c9t : nit σ = true := c_15
      have ht : t < E := by
        have := c_15
        rw [eT, eE, inR_nI (by omega) (by omega)] at this
        simpa using this
      refine z_aload_n cx 0 dX7_cartel_21 rfl rfl ?_
      refine gX7_50 cx dX7_cartel_22 ?_
      refine z_V0V cx vX0_findCartel kX7_233 (c_X0_findCartel (n := B) (t := t) hg σ ⟨hB, eB, by omega, eT⟩) (by decide) hC115 rfl rfl (Nat.le_of_ble_eq_true rfl) dX7_cartel_25 (fun σ_25 h_25 => ?_)
      obtain ⟨⟨k3, k4⟩, kO⟩ := h_25
      refine z_iload_n cx 1 dX7_cartel_28 rfl rfl ?_
      refine z_if_ne (tgt := 42) cx dX7_cartel_29 (by decide) (fun c_29 => ?_) (fun c_29 => ?_)
      · refine z_aload_n cx 0 dX7_cartel_42 rfl rfl ?_
        refine gX7_50 cx dX7_cartel_43 ?_
        refine gX7_239 cx dX7_cartel_46 ?_
        exact z_iret cx hR ⟨_, rfl, by rw [caA, if_neg (by rw [c_5]; decide), if_neg (by rw [c9t]; decide), if_neg c_29, k4]; rfl, kO⟩ dX7_cartel_49
      · refine z_aload_n cx 0 dX7_cartel_32 rfl rfl ?_
        refine gX7_50 cx dX7_cartel_33 ?_
        refine gX7_236 cx dX7_cartel_36 ?_
        refine z_goto (tgt := 49) cx dX7_cartel_39 (by decide) ?_
        exact z_iret cx hR ⟨_, rfl, by rw [caA, if_neg (by rw [c_5]; decide), if_neg (by rw [c9t]; decide), if_pos c_29, k3]; rfl, kO⟩ dX7_cartel_49
    · have c9f : nit σ = false := c_15
      refine z_bipush cx dX7_cartel_18 bi_m4 ?_
      exact z_iret cx hR ⟨_, rfl, by simp [caA, c_5, c_15, c9f], fun _ _ _ => rfl⟩ dX7_cartel_20
  · refine z_bipush cx dX7_cartel_8 bi_m3 ?_
    exact z_iret cx hR ⟨_, rfl, by simp [caA, c_5], fun _ _ _ => rfl⟩ dX7_cartel_10
set_option maxRecDepth 100000 in
set_option maxHeartbeats 4000000 in
theorem c_X7_otherwise {l : Launch} {g : Gx} (hg : ApG 123 g.ad) (σ : Mem) {E B t : Nat} (hC : CH σ E B t) : Ct l (OC g) 2 mX7_otherwise [.ref (g.ad 0)] σ (some (.int (otA σ B))) σ := by
  refine ct_of (lv := [some (.ref (g.ad 0)), none]) (okC hg) (by decide +kernel) (Nat.le_of_ble_eq_true rfl) (fun ls h => lvh_entry h rfl 1) ?_
  intro κ hl hnL cx hR
  subst hl
  have cx : Cx κ (OC g) RX7 cX7_otherwise 2 := cx
  have hnL : κ.nL = 2 := hnL
  obtain ⟨⟨hE, eE⟩, ⟨hB, eB⟩, hte, eT⟩ := hC
  refine z_aload_n cx 0 dX7_otherwise_0 rfl rfl ?_
  refine z_V0i cx vX7_isTonight kX7_176 (c_X7_isTonight hg σ) (by decide) hC0 rfl rfl (Nat.le_of_ble_eq_true rfl) dX7_otherwise_1 ?_
  refine z_ifb_ne (tgt := 10) cx dX7_otherwise_4 (by decide) (fun c_4 => ?_) (fun c_4 => ?_)
  · have c9t : nit σ = true := c_4
    have ht : t < E := by
      have := c_4
      rw [eT, eE, inR_nI (by omega) (by omega)] at this
      simpa using this
    refine z_aload_n cx 0 dX7_otherwise_10 rfl rfl ?_
    refine gX7_50 cx dX7_otherwise_11 ?_
    refine z_aload_n cx 0 dX7_otherwise_14 rfl rfl ?_
    refine gX7_26 cx dX7_otherwise_15 ?_
    refine gX7_153 cx dX7_otherwise_18 ?_
    refine z_V1i cx vX0_ownerBy kX7_242 (c_X0_ownerBy hg σ (by decide) (fun _ => rfl) hB eB) (by decide) hC115 rfl rfl (Nat.le_of_ble_eq_true rfl) dX7_otherwise_21 ?_
    rw [show ow (σ 6 1) (σ 15) B = slW σ B from rfl]
    refine z_istore_n cx 1 dX7_otherwise_24 rfl hnL (by decide) rfl ?_
    refine z_iload_n cx 1 dX7_otherwise_25 rfl rfl ?_
    refine z_iconst cx dX7_otherwise_26 ic_m1 ?_
    refine z_icmp_ne (tgt := 32) cx dX7_otherwise_27 (by decide) (fun c_27 => ?_) (fun c_27 => ?_)
    · obtain ⟨w, hw, ew⟩ := (ow_rng (σ 6 1) (σ 15) B).resolve_left c_27
      have ew : slW σ B = nI w := ew
      have ew2 : toN (slW σ B) = w := by rw [ew]; exact toN_nI (by omega)
      rw [ew]
      refine z_aload_n cx 0 dX7_otherwise_32 rfl rfl ?_
      refine gX7_50 cx dX7_otherwise_33 ?_
      refine z_aload_n cx 0 dX7_otherwise_36 rfl rfl ?_
      refine gX7_26 cx dX7_otherwise_37 ?_
      refine gX7_153 cx dX7_otherwise_40 ?_
      refine z_iload_n cx 1 dX7_otherwise_43 rfl rfl ?_
      refine z_aload_n cx 0 dX7_otherwise_44 rfl rfl ?_
      refine gX7_19 cx dX7_otherwise_45 ?_
      refine gX7_246 cx dX7_otherwise_48 ?_
      refine z_if_ne (tgt := 58) cx dX7_otherwise_51 (by decide) (fun c_51 => ?_) (fun c_51 => ?_)
      · refine z_iconst cx dX7_otherwise_58 ic_0 ?_
        refine z_V3i cx vX0_paymentBy kX7_249 (c_X0_paymentBy hg σ (by decide) (fun _ => rfl) hB eB (w := w) (by omega) _) (by decide) hC115 rfl rfl (Nat.le_of_ble_eq_true rfl) dX7_otherwise_59 ?_
        exact z_iret cx hR ⟨by rw [otA, if_neg (by rw [c9t]; decide), if_neg c_27, ew2, if_neg c_51], rfl⟩ dX7_otherwise_62
      · refine z_iconst cx dX7_otherwise_54 ic_1 ?_
        refine z_goto (tgt := 59) cx dX7_otherwise_55 (by decide) ?_
        refine z_V3i cx vX0_paymentBy kX7_249 (c_X0_paymentBy hg σ (by decide) (fun _ => rfl) hB eB (w := w) (by omega) _) (by decide) hC115 rfl rfl (Nat.le_of_ble_eq_true rfl) dX7_otherwise_59 ?_
        exact z_iret cx hR ⟨by rw [otA, if_neg (by rw [c9t]; decide), if_neg c_27, ew2, if_pos c_51], rfl⟩ dX7_otherwise_62
    · refine z_iconst cx dX7_otherwise_30 ic_m1 ?_
      exact z_iret cx hR ⟨by rw [otA, if_neg (by rw [c9t]; decide), if_pos c_27], rfl⟩ dX7_otherwise_31
  · have c9f : nit σ = false := c_4
    refine z_bipush cx dX7_otherwise_7 bi_m4 ?_
    exact z_iret cx hR ⟨by simp [otA, c_4, c9f], rfl⟩ dX7_otherwise_9
set_option maxRecDepth 100000 in
set_option maxHeartbeats 4000000 in
theorem c_X7_season {l : Launch} {g : Gx} (hg : ApG 123 g.ad) (σ : Mem) {E B t : Nat} (hC : CH σ E B t) (b w : Int32) : CtI l (OC g) 4 mX7_season [.ref (g.ad 0), .int b, .int w] σ (fun v σ' => v = seA σ t E b w ∧ OffO σ' σ) := by
  refine ct_of (lv := [some (.ref (g.ad 0)), some (.int b), some (.int w)]) (okC hg) (by decide +kernel) (Nat.le_of_ble_eq_true rfl) (fun ls h => lvh_entry h rfl 0) ?_
  intro κ hl hnL cx hR
  subst hl
  have cx : Cx κ (OC g) RX7 cX7_season 4 := cx
  have hnL : κ.nL = 3 := hnL
  obtain ⟨⟨hE, eE⟩, ⟨hB, eB⟩, hte, eT⟩ := hC
  refine z_aload_n cx 0 dX7_season_0 rfl rfl ?_
  refine gX7_19 cx dX7_season_1 ?_
  refine z_iload_n cx 1 dX7_season_4 rfl rfl ?_
  refine z_V1i cx vX6_isBidder kX7_138 (c_X6_isBidder hg σ _) (by decide) hC6 rfl rfl (Nat.le_of_ble_eq_true rfl) dX7_season_5 ?_
  refine z_ifb_ne (tgt := 14) cx dX7_season_8 (by decide) (fun c_8 => ?_) (fun c_8 => ?_)
  · obtain ⟨j, hj, rfl⟩ := inR_of (show inR b (nI B) = true by rw [← eB]; exact c_8) (by omega)
    have ej : toN (nI j) = j := toN_nI (by omega)
    refine z_iload_n cx 2 dX7_season_14 rfl rfl ?_
    refine z_iconst cx dX7_season_15 ic_1 ?_
    refine z_S2i cx sX7_isWithin kX7_73 (c_X7_isWithin hg σ _ _) (by decide) (Nat.le_of_ble_eq_true rfl) dX7_season_16 ?_
    refine z_ifb_ne (tgt := 25) cx dX7_season_19 (by decide) (fun c_19 => ?_) (fun c_19 => ?_)
    · refine z_aload_n cx 0 dX7_season_25 rfl rfl ?_
      refine gX7_57 cx dX7_season_26 ?_
      refine z_iload_n cx 1 dX7_season_29 rfl rfl ?_
      refine z_V1V cx vX2_findSeason kX7_253 (c_X2_findSeason (t := t) (e := E) hg σ ⟨hte, hE, eT, eE⟩ (j := j) (by omega)) (by decide) hC117 rfl rfl (Nat.le_of_ble_eq_true rfl) dX7_season_30 (fun σ_30 h_30 => ?_)
      obtain ⟨⟨k3, k4⟩, kO⟩ := h_30
      refine z_iload_n cx 2 dX7_season_33 rfl rfl ?_
      refine z_if_ne (tgt := 47) cx dX7_season_34 (by decide) (fun c_34 => ?_) (fun c_34 => ?_)
      · refine z_aload_n cx 0 dX7_season_47 rfl rfl ?_
        refine gX7_57 cx dX7_season_48 ?_
        refine gX7_259 cx dX7_season_51 ?_
        exact z_iret cx hR ⟨_, rfl, by rw [seA, if_neg (by rw [c_8]; decide), if_neg (by rw [c_19]; decide), if_neg c_34, ej, k4], kO⟩ dX7_season_54
      · refine z_aload_n cx 0 dX7_season_37 rfl rfl ?_
        refine gX7_57 cx dX7_season_38 ?_
        refine gX7_256 cx dX7_season_41 ?_
        refine z_goto (tgt := 54) cx dX7_season_44 (by decide) ?_
        exact z_iret cx hR ⟨_, rfl, by rw [seA, if_neg (by rw [c_8]; decide), if_neg (by rw [c_19]; decide), if_pos c_34, ej, k3], kO⟩ dX7_season_54
    · refine z_bipush cx dX7_season_22 bi_m3 ?_
      exact z_iret cx hR ⟨_, rfl, by simp [seA, c_8, c_19], fun _ _ _ _ => rfl⟩ dX7_season_24
  · refine z_bipush cx dX7_season_11 bi_m2 ?_
    exact z_iret cx hR ⟨_, rfl, by simp [seA, c_8], fun _ _ _ _ => rfl⟩ dX7_season_13
set_option maxRecDepth 100000 in
set_option maxHeartbeats 4000000 in
theorem c_X7_bright {l : Launch} {g : Gx} (hg : ApG 123 g.ad) (σ : Mem) {E B t : Nat} (hC : CH σ E B t) (hG : ∀ k, k ≤ 7 → ∃ gd, gd < 2 ^ 31 ∧ suF (wyN (σ 8) t (E - t)) k (8 - k) = nI gd) (k p : Int32) : CtI l (OC g) 3 mX7_bright [.ref (g.ad 0), .int k, .int p] σ (fun v σ' => v = brA σ t E k p ∧ OffO σ' σ) := by
  refine ct_of (lv := [some (.ref (g.ad 0)), some (.int k), some (.int p)]) (okC hg) (by decide +kernel) (Nat.le_of_ble_eq_true rfl) (fun ls h => lvh_entry h rfl 0) ?_
  intro κ hl hnL cx hR
  subst hl
  have cx : Cx κ (OC g) RX7 cX7_bright 3 := cx
  have hnL : κ.nL = 3 := hnL
  obtain ⟨⟨hE, eE⟩, ⟨hB, eB⟩, hte, eT⟩ := hC
  refine z_iload_n cx 1 dX7_bright_0 rfl rfl ?_
  refine z_bipush cx dX7_bright_1 bi_7 ?_
  refine z_S2i cx sX7_isWithin kX7_73 (c_X7_isWithin hg σ _ _) (by decide) (Nat.le_of_ble_eq_true rfl) dX7_bright_3 ?_
  refine z_ifb_eq (tgt := 17) cx dX7_bright_6 (by decide) (fun c_6 => ?_) (fun c_6 => ?_)
  · refine z_bipush cx dX7_bright_17 bi_m3 ?_
    exact z_iret cx hR ⟨_, rfl, by simp [brA, c_6], fun _ _ _ _ => rfl⟩ dX7_bright_19
  · obtain ⟨i, hi, rfl⟩ := inW_of (n := 7) c_6 (by decide)
    have ei : toN (nI i) = i := toN_nI (by omega)
    obtain ⟨gd, hgd, egd⟩ := hG i hi
    have eg : gdF σ t E i = gd := by rw [gdF, egd]; exact toN_nI hgd
    refine z_iload_n cx 2 dX7_bright_9 rfl rfl ?_
    refine z_iconst cx dX7_bright_10 ic_1 ?_
    refine z_S2i cx sX7_isWithin kX7_73 (c_X7_isWithin hg σ _ _) (by decide) (Nat.le_of_ble_eq_true rfl) dX7_bright_11 ?_
    refine z_ifb_ne (tgt := 20) cx dX7_bright_14 (by decide) (fun c_14 => ?_) (fun c_14 => ?_)
    · refine z_aload_n cx 0 dX7_bright_20 rfl rfl ?_
      refine gX7_57 cx dX7_bright_21 ?_
      refine z_iload_n cx 1 dX7_bright_24 rfl rfl ?_
      refine z_V1V cx vX2_findOdds kX7_262 (c_X2_findOdds (t := t) (e := E) hg σ ⟨hte, hE, eT, eE⟩ hi egd hgd) (by decide) hC117 rfl rfl (Nat.le_of_ble_eq_true rfl) dX7_bright_25 (fun σ_25 h_25 => ?_)
      obtain ⟨⟨k3, k4⟩, kO⟩ := h_25
      refine z_iload_n cx 2 dX7_bright_28 rfl rfl ?_
      refine z_if_ne (tgt := 42) cx dX7_bright_29 (by decide) (fun c_29 => ?_) (fun c_29 => ?_)
      · refine z_aload_n cx 0 dX7_bright_42 rfl rfl ?_
        refine gX7_57 cx dX7_bright_43 ?_
        refine gX7_268 cx dX7_bright_46 ?_
        exact z_iret cx hR ⟨_, rfl, by rw [brA, if_neg (by rw [c_6]; decide), if_neg (by rw [c_14]; decide), if_neg c_29, ei, eg, k4], kO⟩ dX7_bright_49
      · refine z_aload_n cx 0 dX7_bright_32 rfl rfl ?_
        refine gX7_57 cx dX7_bright_33 ?_
        refine gX7_265 cx dX7_bright_36 ?_
        refine z_goto (tgt := 49) cx dX7_bright_39 (by decide) ?_
        exact z_iret cx hR ⟨_, rfl, by rw [brA, if_neg (by rw [c_6]; decide), if_neg (by rw [c_14]; decide), if_pos c_29, ei, eg, k3], kO⟩ dX7_bright_49
    · refine z_bipush cx dX7_bright_17 bi_m3 ?_
      exact z_iret cx hR ⟨_, rfl, by simp [brA, c_6, c_14], fun _ _ _ _ => rfl⟩ dX7_bright_19
set_option maxRecDepth 100000 in
set_option maxHeartbeats 4000000 in
theorem c_X7_score {l : Launch} {g : Gx} (hg : ApG 123 g.ad) (σ : Mem) {E B t : Nat} (hC : CH σ E B t) (k : Int32) : Ct l (OC g) 2 mX7_score [.ref (g.ad 0), .int k] σ (some (.int (scA σ t k))) σ := by
  refine ct_of (lv := [some (.ref (g.ad 0)), some (.int k)]) (okC hg) (by decide +kernel) (Nat.le_of_ble_eq_true rfl) (fun ls h => lvh_entry h rfl 0) ?_
  intro κ hl hnL cx hR
  subst hl
  have cx : Cx κ (OC g) RX7 cX7_score 2 := cx
  have hnL : κ.nL = 2 := hnL
  obtain ⟨⟨hE, eE⟩, ⟨hB, eB⟩, hte, eT⟩ := hC
  refine z_iload_n cx 1 dX7_score_0 rfl rfl ?_
  refine z_S1i cx sX7_isTeller kX7_191 (c_X7_isTeller hg σ _) (by decide) (Nat.le_of_ble_eq_true rfl) dX7_score_1 ?_
  refine z_ifb_eq (tgt := 18) cx dX7_score_4 (by decide) (fun c_4 => ?_) (fun c_4 => ?_)
  · refine z_bipush cx dX7_score_18 bi_m2 ?_
    exact z_iret cx hR ⟨by simp [scA, c_4], rfl⟩ dX7_score_20
  · obtain ⟨i, hi, rfl⟩ := inW_of (n := 2) c_4 (by decide)
    have ei : toN (nI i) = i := toN_nI (by omega)
    refine z_aload_n cx 0 dX7_score_7 rfl rfl ?_
    refine gX7_26 cx dX7_score_8 ?_
    refine z_iload_n cx 1 dX7_score_11 rfl rfl ?_
    refine z_V1i cx vX1_scoreOf kX7_271 (c_X1_scoreOf hg σ (t := i) (n := t) (by omega) (by omega) eT) (by decide) hC12 rfl rfl (Nat.le_of_ble_eq_true rfl) dX7_score_12 ?_
    refine z_goto (tgt := 20) cx dX7_score_15 (by decide) ?_
    exact z_iret cx hR ⟨by simp [scA, c_4, ei], rfl⟩ dX7_score_20
set_option maxRecDepth 100000 in
set_option maxHeartbeats 4000000 in
theorem c_X7_best {l : Launch} {g : Gx} (hg : ApG 123 g.ad) (σ : Mem) {E B t : Nat} (hC : CH σ E B t) : Ct l (OC g) 2 mX7_best [.ref (g.ad 0)] σ (some (.int (btA σ t))) σ := by
  refine ct_of (lv := [some (.ref (g.ad 0)), none, none]) (okC hg) (by decide +kernel) (Nat.le_of_ble_eq_true rfl) (fun ls h => lvh_entry h rfl 2) ?_
  intro κ hl hnL cx hR
  subst hl
  have cx : Cx κ (OC g) RX7 cX7_best 2 := cx
  have hnL : κ.nL = 3 := hnL
  obtain ⟨⟨hE, eE⟩, ⟨hB, eB⟩, hte, eT⟩ := hC
  refine z_aload_n cx 0 dX7_best_0 rfl rfl ?_
  refine gX7_26 cx dX7_best_1 ?_
  refine gX7_194 cx dX7_best_4 ?_
  rw [eT]
  refine z_if_ne (tgt := 12) cx dX7_best_7 (by decide) (fun c_7 => ?_) (fun c_7 => ?_)
  · have c7 : ¬ t = 0 := fun z => c_7 (by rw [z]; rfl)
    refine z_iconst cx dX7_best_12 ic_0 ?_
    refine z_istore_n cx 1 dX7_best_13 rfl hnL (by decide) rfl ?_
    refine z_iconst cx dX7_best_14 ic_1 ?_
    refine z_istore_n cx 2 dX7_best_15 rfl hnL (by decide) rfl ?_
    have step : ∀ (b k : Nat), b < 3 → k < 3 → Z κ (OC g) σ 16 [some (.ref (g.ad 0)), some (.int (nI (if scT (σ 20) (σ 19) k t < scT (σ 20) (σ 19) b t then k else b))), some (.int (nI (k + 1)))] [] → Z κ (OC g) σ 16 [some (.ref (g.ad 0)), some (.int (nI b)), some (.int (nI k))] [] := by
      intro b k hb hk kk
      refine z_iload_n cx 2 dX7_best_16 rfl rfl ?_
      refine z_iconst cx dX7_best_17 ic_3 ?_
      refine z_icmp_ge (tgt := 48) cx dX7_best_18 (by decide) (fun c_18 => ?_) (fun c_18 => ?_)
      · exact absurd ((nI_leI (a := 3) (by decide) (by omega)).mp c_18) (by omega)
      · refine z_aload_n cx 0 dX7_best_21 rfl rfl ?_
        refine gX7_26 cx dX7_best_22 ?_
        refine z_iload_n cx 2 dX7_best_25 rfl rfl ?_
        refine z_V1i cx vX1_scoreOf kX7_271 (c_X1_scoreOf hg σ (t := k) (n := t) (by omega) (by omega) eT) (by decide) hC12 rfl rfl (Nat.le_of_ble_eq_true rfl) dX7_best_26 ?_
        refine z_aload_n cx 0 dX7_best_29 rfl rfl ?_
        refine gX7_26 cx dX7_best_30 ?_
        refine z_iload_n cx 1 dX7_best_33 rfl rfl ?_
        refine z_V1i cx vX1_scoreOf kX7_271 (c_X1_scoreOf hg σ (t := b) (n := t) (by omega) (by omega) eT) (by decide) hC12 rfl rfl (Nat.le_of_ble_eq_true rfl) dX7_best_34 ?_
        refine z_icmp_ge (tgt := 42) cx dX7_best_37 (by decide) (fun c_37 => ?_) (fun c_37 => ?_)
        · rw [if_neg (Int32.not_lt.mpr c_37)] at kk
          refine z_iinc cx dX7_best_42 rfl ic_1 (nI_1 k) hnL (by decide) rfl ?_
          refine z_goto (tgt := 16) cx dX7_best_45 (by decide) ?_
          exact kk
        · rw [if_pos (Int32.not_le.mp c_37)] at kk
          refine z_iload_n cx 2 dX7_best_40 rfl rfl ?_
          refine z_istore_n cx 1 dX7_best_41 rfl hnL (by decide) rfl ?_
          refine z_iinc cx dX7_best_42 rfl ic_1 (nI_1 k) hnL (by decide) rfl ?_
          refine z_goto (tgt := 16) cx dX7_best_45 (by decide) ?_
          exact kk
    refine step 0 1 (by decide) (by decide) (step _ 2 (by split <;> decide) (by decide) ?_)
    refine z_iload_n cx 2 dX7_best_16 rfl rfl ?_
    refine z_iconst cx dX7_best_17 ic_3 ?_
    refine z_icmp_ge (tgt := 48) cx dX7_best_18 (by decide) (fun c_18 => ?_) (fun c_18 => ?_)
    · refine z_iload_n cx 1 dX7_best_48 rfl rfl ?_
      refine z_iret cx hR ⟨?_, rfl⟩ dX7_best_49
      rw [btA, if_neg c7, bs3]
    · exact absurd (show (3 : Int32) ≤ nI 3 by decide) c_18
  · have c7 : t = 0 := (nI_eq (b := 0) (by omega) (by decide)).mp c_7
    refine z_iconst cx dX7_best_10 ic_m1 ?_
    exact z_iret cx hR ⟨by rw [btA, if_pos c7], rfl⟩ dX7_best_11
set_option maxRecDepth 100000 in
set_option maxHeartbeats 4000000 in
theorem c_X7_seen {l : Launch} {g : Gx} (hg : ApG 123 g.ad) (σ : Mem) {E B t n : Nat} (hC : CH σ E B t) (hn : n ≤ 6) (eN : σ 120 3 = nI n) (b dn : Int32) : CtI l (OC g) 1 mX7_seen [.ref (g.ad 0), .int b, .int dn] σ (fun v σ' => (snC σ b dn = 0 → n < 6 ∧ v = nI (n + 1) ∧ σ' = up2 (up2 (up2 σ 121 n b) 122 n dn) 120 3 (nI (n + 1))) ∧ (¬ snC σ b dn = 0 → v = snC σ b dn ∧ σ' = σ)) := by
  refine ct_of (lv := [some (.ref (g.ad 0)), some (.int b), some (.int dn)]) (okC hg) (by decide +kernel) (Nat.le_of_ble_eq_true rfl) (fun ls h => lvh_entry h rfl 0) ?_
  intro κ hl hnL cx hR
  subst hl
  have cx : Cx κ (OC g) RX7 cX7_seen 1 := cx
  have hnL : κ.nL = 3 := hnL
  obtain ⟨⟨hE, eE⟩, ⟨hB, eB⟩, hte, eT⟩ := hC
  refine z_aload_n cx 0 dX7_seen_0 rfl rfl ?_
  refine gX7_19 cx dX7_seen_1 ?_
  refine z_iload_n cx 1 dX7_seen_4 rfl rfl ?_
  refine z_V1i cx vX6_isBidder kX7_138 (c_X6_isBidder hg σ _) (by decide) hC6 rfl rfl (Nat.le_of_ble_eq_true rfl) dX7_seen_5 ?_
  refine z_ifb_ne (tgt := 14) cx dX7_seen_8 (by decide) (fun c_8 => ?_) (fun c_8 => ?_)
  · refine z_iload_n cx 2 dX7_seen_14 rfl rfl ?_
    refine z_iconst cx dX7_seen_15 ic_1 ?_
    refine z_S2i cx sX7_isWithin kX7_73 (c_X7_isWithin hg σ _ _) (by decide) (Nat.le_of_ble_eq_true rfl) dX7_seen_16 ?_
    refine z_ifb_ne (tgt := 25) cx dX7_seen_19 (by decide) (fun c_19 => ?_) (fun c_19 => ?_)
    · refine z_aload_n cx 0 dX7_seen_25 rfl rfl ?_
      refine gX7_66 cx dX7_seen_26 ?_
      refine gX7_112 cx dX7_seen_29 ?_
      refine z_bipush cx dX7_seen_32 bi_6 ?_
      refine z_icmp_lt (tgt := 40) cx dX7_seen_34 (by decide) (fun c_34 => ?_) (fun c_34 => ?_)
      · have c34 : n < 6 := (nI_ltI (b := 6) (by omega) (by decide)).mp (by rw [← eN]; exact c_34)
        refine z_aload_n cx 0 dX7_seen_40 rfl rfl ?_
        refine gX7_66 cx dX7_seen_41 ?_
        refine z_iload_n cx 1 dX7_seen_44 rfl rfl ?_
        refine z_iload_n cx 2 dX7_seen_45 rfl rfl ?_
        refine z_V2v cx vX4_add kX7_274 (c_X4_add hg σ c34 eN _ _) (by decide) hC120 rfl rfl (Nat.le_of_ble_eq_true rfl) dX7_seen_46 ?_
        refine z_aload_n cx 0 dX7_seen_49 rfl rfl ?_
        refine gX7_66 cx dX7_seen_50 ?_
        refine gX7_112 cx dX7_seen_53 ?_
        have e9 : snC σ b dn = 0 := by simp [snC, c_8, c_19, c_34]
        exact z_iret cx hR ⟨_, rfl, fun _ => ⟨c34, rfl, rfl⟩, fun z => absurd e9 z⟩ dX7_seen_56
      · refine z_bipush cx dX7_seen_37 bi_m5 ?_
        have e9 : snC σ b dn = -5 := by simp [snC, c_8, c_19, c_34]
        exact z_iret cx hR ⟨_, rfl, fun z => absurd (e9.symm.trans z) (by decide), fun _ => ⟨e9.symm, rfl⟩⟩ dX7_seen_39
    · refine z_bipush cx dX7_seen_22 bi_m3 ?_
      have e9 : snC σ b dn = -3 := by simp [snC, c_8, c_19]
      exact z_iret cx hR ⟨_, rfl, fun z => absurd (e9.symm.trans z) (by decide), fun _ => ⟨e9.symm, rfl⟩⟩ dX7_seen_24
  · refine z_bipush cx dX7_seen_11 bi_m2 ?_
    have e9 : snC σ b dn = -2 := by simp [snC, c_8]
    exact z_iret cx hR ⟨_, rfl, fun z => absurd (e9.symm.trans z) (by decide), fun _ => ⟨e9.symm, rfl⟩⟩ dX7_seen_13
set_option maxRecDepth 100000 in
set_option maxHeartbeats 4000000 in
theorem c_X7_forget {l : Launch} {g : Gx} (hg : ApG 123 g.ad) (σ : Mem) : Ct l (OC g) 0 mX7_forget [.ref (g.ad 0)] σ (some (.int (σ 120 3))) (up2 σ 120 3 0) := by
  refine ct_of (lv := [some (.ref (g.ad 0)), none]) (okC hg) (by decide +kernel) (Nat.le_of_ble_eq_true rfl) (fun ls h => lvh_entry h rfl 1) ?_
  intro κ hl hnL cx hR
  subst hl
  have cx : Cx κ (OC g) RX7 cX7_forget 0 := cx
  have hnL : κ.nL = 2 := hnL
  refine z_aload_n cx 0 dX7_forget_0 rfl rfl ?_
  refine gX7_66 cx dX7_forget_1 ?_
  refine gX7_112 cx dX7_forget_4 ?_
  refine z_istore_n cx 1 dX7_forget_7 rfl hnL (by decide) rfl ?_
  refine z_aload_n cx 0 dX7_forget_8 rfl rfl ?_
  refine gX7_66 cx dX7_forget_9 ?_
  refine z_iconst cx dX7_forget_12 ic_0 ?_
  refine pX7_112 cx dX7_forget_13 ?_
  refine z_iload_n cx 1 dX7_forget_16 rfl rfl ?_
  exact z_iret cx hR ⟨rfl, rfl⟩ dX7_forget_17
set_option maxRecDepth 100000 in
set_option maxHeartbeats 4000000 in
theorem c_X7_buyers {l : Launch} {g : Gx} (hg : ApG 123 g.ad) (σ : Mem) {E B t s : Nat} (hC : CH σ E B t) (hS : SiH σ s) : Ct l (OC g) 3 mX7_buyers [.ref (g.ad 0)] σ (some (.int (buS σ B s))) σ := by
  refine ct_of (lv := [some (.ref (g.ad 0))]) (okC hg) (by decide +kernel) (Nat.le_of_ble_eq_true rfl) (fun ls h => lvh_entry h rfl 0) ?_
  intro κ hl hnL cx hR
  subst hl
  have cx : Cx κ (OC g) RX7 cX7_buyers 3 := cx
  have hnL : κ.nL = 1 := hnL
  obtain ⟨⟨hE, eE⟩, ⟨hB, eB⟩, hte, eT⟩ := hC
  refine z_aload_n cx 0 dX7_buyers_0 rfl rfl ?_
  refine gX7_66 cx dX7_buyers_1 ?_
  refine z_V0i cx vX4_findBuyers kX7_277 (c_X4_findBuyers hg σ hS hB eB) (by decide) hC120 rfl rfl (Nat.le_of_ble_eq_true rfl) dX7_buyers_4 ?_
  exact z_iret cx hR ⟨rfl, rfl⟩ dX7_buyers_7
set_option maxRecDepth 100000 in
set_option maxHeartbeats 4000000 in
theorem c_X7_count {l : Launch} {g : Gx} (hg : ApG 123 g.ad) (σ : Mem) (w : Int32) : Ct l (OC g) 1 mX7_count [.ref (g.ad 0), .int w] σ (some (.int (coA σ w))) σ := by
  refine ct_of (lv := [some (.ref (g.ad 0)), some (.int w)]) (okC hg) (by decide +kernel) (Nat.le_of_ble_eq_true rfl) (fun ls h => lvh_entry h rfl 0) ?_
  intro κ hl hnL cx hR
  subst hl
  have cx : Cx κ (OC g) RX7 cX7_count 1 := cx
  have hnL : κ.nL = 2 := hnL
  refine z_iload_n cx 1 dX7_count_0 rfl rfl ?_
  rcases tsw w (n := 11) (by decide) with hout | ⟨i, hi, rfl⟩
  · refine z_tableOut (tgt := 160) cx dX7_count_1 hout (by decide) ?_
    refine z_bipush cx dX7_count_160 bi_m3 ?_
    refine z_iret cx hR ⟨?_, rfl⟩ dX7_count_162
    have hne : ∀ k : Nat, k ≤ 11 → ¬ w = nI k := fun k hk z => by
      rw [z, nI_toInt (by omega)] at hout; omega
    rw [coA, if_neg (show ¬ w = 0 from hne 0 (by decide)), if_neg (show ¬ w = 1 from hne 1 (by decide)), if_neg (show ¬ w = 2 from hne 2 (by decide)), if_neg (show ¬ w = 3 from hne 3 (by decide)), if_neg (show ¬ w = 4 from hne 4 (by decide)), if_neg (show ¬ w = 5 from hne 5 (by decide)), if_neg (show ¬ w = 6 from hne 6 (by decide)), if_neg (show ¬ w = 7 from hne 7 (by decide)), if_neg (show ¬ w = 8 from hne 8 (by decide)), if_neg (show ¬ w = 9 from hne 9 (by decide)), if_neg (show ¬ w = 10 from hne 10 (by decide)), if_neg (show ¬ w = 11 from hne 11 (by decide))]
  · rcases (show i = 0 ∨ i = 1 ∨ i = 2 ∨ i = 3 ∨ i = 4 ∨ i = 5 ∨ i = 6 ∨ i = 7 ∨ i = 8 ∨ i = 9 ∨ i = 10 ∨ i = 11 by omega) with rfl | rfl | rfl | rfl | rfl | rfl | rfl | rfl | rfl | rfl | rfl | rfl
    · refine z_tableIn (off := 63) (tgt := 64) cx dX7_count_1 (by decide) (by decide) (by decide) (by decide) ?_
      refine z_aload_n cx 0 dX7_count_64 rfl rfl ?_
      refine gX7_19 cx dX7_count_65 ?_
      refine gX7_85 cx dX7_count_68 ?_
      exact z_iret cx hR ⟨rfl, rfl⟩ dX7_count_71
    · refine z_tableIn (off := 71) (tgt := 72) cx dX7_count_1 (by decide) (by decide) (by decide) (by decide) ?_
      refine z_aload_n cx 0 dX7_count_72 rfl rfl ?_
      refine gX7_19 cx dX7_count_73 ?_
      refine gX7_88 cx dX7_count_76 ?_
      exact z_iret cx hR ⟨rfl, rfl⟩ dX7_count_79
    · refine z_tableIn (off := 79) (tgt := 80) cx dX7_count_1 (by decide) (by decide) (by decide) (by decide) ?_
      refine z_aload_n cx 0 dX7_count_80 rfl rfl ?_
      refine gX7_26 cx dX7_count_81 ?_
      refine gX7_194 cx dX7_count_84 ?_
      exact z_iret cx hR ⟨rfl, rfl⟩ dX7_count_87
    · refine z_tableIn (off := 87) (tgt := 88) cx dX7_count_1 (by decide) (by decide) (by decide) (by decide) ?_
      refine z_aload_n cx 0 dX7_count_88 rfl rfl ?_
      refine gX7_19 cx dX7_count_89 ?_
      refine gX7_246 cx dX7_count_92 ?_
      exact z_iret cx hR ⟨rfl, rfl⟩ dX7_count_95
    · refine z_tableIn (off := 95) (tgt := 96) cx dX7_count_1 (by decide) (by decide) (by decide) (by decide) ?_
      refine z_aload_n cx 0 dX7_count_96 rfl rfl ?_
      refine gX7_19 cx dX7_count_97 ?_
      refine gX7_280 cx dX7_count_100 ?_
      exact z_iret cx hR ⟨rfl, rfl⟩ dX7_count_103
    · refine z_tableIn (off := 103) (tgt := 104) cx dX7_count_1 (by decide) (by decide) (by decide) (by decide) ?_
      refine z_aload_n cx 0 dX7_count_104 rfl rfl ?_
      refine gX7_19 cx dX7_count_105 ?_
      refine gX7_283 cx dX7_count_108 ?_
      exact z_iret cx hR ⟨rfl, rfl⟩ dX7_count_111
    · refine z_tableIn (off := 111) (tgt := 112) cx dX7_count_1 (by decide) (by decide) (by decide) (by decide) ?_
      refine z_aload_n cx 0 dX7_count_112 rfl rfl ?_
      refine gX7_26 cx dX7_count_113 ?_
      refine z_V0i cx vX1_countBids kX7_184 (c_X1_countBids hg σ) (by decide) hC12 rfl rfl (Nat.le_of_ble_eq_true rfl) dX7_count_116 ?_
      exact z_iret cx hR ⟨rfl, rfl⟩ dX7_count_119
    · refine z_tableIn (off := 119) (tgt := 120) cx dX7_count_1 (by decide) (by decide) (by decide) (by decide) ?_
      refine z_aload_n cx 0 dX7_count_120 rfl rfl ?_
      refine gX7_26 cx dX7_count_121 ?_
      refine gX7_286 cx dX7_count_124 ?_
      exact z_iret cx hR ⟨rfl, rfl⟩ dX7_count_127
    · refine z_tableIn (off := 127) (tgt := 128) cx dX7_count_1 (by decide) (by decide) (by decide) (by decide) ?_
      refine z_aload_n cx 0 dX7_count_128 rfl rfl ?_
      refine gX7_26 cx dX7_count_129 ?_
      refine z_V0i cx vX1_joyOfAll kX7_289 (c_X1_joyOfAll hg σ) (by decide) hC12 rfl rfl (Nat.le_of_ble_eq_true rfl) dX7_count_132 ?_
      exact z_iret cx hR ⟨rfl, rfl⟩ dX7_count_135
    · refine z_tableIn (off := 135) (tgt := 136) cx dX7_count_1 (by decide) (by decide) (by decide) (by decide) ?_
      refine z_aload_n cx 0 dX7_count_136 rfl rfl ?_
      refine gX7_66 cx dX7_count_137 ?_
      refine gX7_112 cx dX7_count_140 ?_
      exact z_iret cx hR ⟨rfl, rfl⟩ dX7_count_143
    · refine z_tableIn (off := 143) (tgt := 144) cx dX7_count_1 (by decide) (by decide) (by decide) (by decide) ?_
      refine z_aload_n cx 0 dX7_count_144 rfl rfl ?_
      refine gX7_33 cx dX7_count_145 ?_
      refine gX7_115 cx dX7_count_148 ?_
      exact z_iret cx hR ⟨rfl, rfl⟩ dX7_count_151
    · refine z_tableIn (off := 151) (tgt := 152) cx dX7_count_1 (by decide) (by decide) (by decide) (by decide) ?_
      refine z_aload_n cx 0 dX7_count_152 rfl rfl ?_
      refine gX7_10 cx dX7_count_153 ?_
      refine gX7_77 cx dX7_count_156 ?_
      exact z_iret cx hR ⟨rfl, rfl⟩ dX7_count_159
