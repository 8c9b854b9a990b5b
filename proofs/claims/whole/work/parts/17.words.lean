section ZS
variable {κ : Kx} {O : Om} {own : String} {cc : ByteArray} {d : Nat} {σ σ' : Mem} {pc : Nat} {lv : List (Option Value)} {rest : List Value}
theorem z_callVX (cx : Cx κ O own cc d) {μ : Md} {n idx d' b : Nat} {As st0 : List Value} {Po : Option Value → Mem → Prop} (hm : Vm μ n) (hl : Cond.methodLink own idx μ.1 ∈ tb) (hc : CtR κ.l O d' μ (.ref b :: As) σ Po) (hdd : d' + 1 ≤ d) (hrec : ∀ (H : Heap) (locs : List Loc), va_S O.A κ.s.heap H locs → ∃ cell : Cell, H[b]? = some cell ∧ cell.vm.isStatics = false ∧ κ.s.vm.findClass μ.1.cls = some cell.cls) (hn : As.length = n) (hst : st0 = As.reverse ++ .ref b :: rest) (hroom : (rest.map fun v => v.category).sum ≤ 8) (hd : decode cc pc = .ok (.invokevirtual idx, 3)) (kk : ∀ (r : Option Value) (σ' : Mem), Po r σ' → Z κ O σ' (pc + 3) lv (r.toList ++ rest)) : Z κ O σ pc lv st0 := by
  intro H locs ls hP hS h
  obtain ⟨⟨m1, m2, m3, m4⟩, m5, m6⟩ := hm
  refine run_go (va_runV (As := As) (rest := rest) (bytes := μ.2.1) (maxL := μ.2.2.1) (ret := μ.2.2.2) (C := μ.1.cls) (b := b) ⟨cx.1, cx.2.1, cx.2.2.1, cx.2.2.2.1, cx.2.2.2.2.1⟩ hc (cwV n cx.2.2.2.2.1 (tb_good ?_) rfl rfl rfl ⟨rfl, m3⟩ ⟨?_, ?_⟩) ⟨pre_blind cx.2.2.2.2.2.2.1 _ _, hrec H locs hS, pre_at cx hP hS⟩ rfl hn h.1 hst (lv_room hroom) hd ⟨cx.2.2.2.2.2.2.2.2.2.2.1, cx.2.2.2.2.2.2.2.2.2.2.2⟩) hS h kk
  · intro w hw
    simp only [wsV, List.mem_append, List.mem_cons, List.not_mem_nil, or_false] at hw
    rcases hw with (rfl | rfl | rfl | rfl) | rfl | hw
    · exact hl
    · exact m5
    · exact m6
    · exact m2
    · exact m1
    · exact hw
  · exact Nat.le_trans hdd cx.2.2.2.2.2.2.2.2.1
  · have h9 := cx.2.2.2.2.2.2.2.2.2.1
    show 8 + (μ.2.2.1 + 11) + 36 * d' ≤ κ.R.locals
    omega
theorem z_X0 (cx : Cx κ O own cc d) {μ : Md} {idx d' b : Nat} {v : Value} (hm : Vm μ 0) (hl : Cond.methodLink own idx μ.1 ∈ tb) (hc : Ct κ.l O d' μ [.ref b] σ (some v) σ') (hdd : d' + 1 ≤ d) (hrec : ∀ (H : Heap) (locs : List Loc), va_S O.A κ.s.heap H locs → ∃ cell : Cell, H[b]? = some cell ∧ cell.vm.isStatics = false ∧ κ.s.vm.findClass μ.1.cls = some cell.cls) (hroom : (rest.map fun v => v.category).sum ≤ 8) (hd : decode cc pc = .ok (.invokevirtual idx, 3)) (kk : Z κ O σ' (pc + 3) lv (v :: rest)) : Z κ O σ pc lv (.ref b :: rest) := z_callVX (As := []) cx hm hl hc hdd hrec rfl rfl hroom hd (fun _ _ hq => by obtain ⟨rfl, rfl⟩ := hq; exact kk)
theorem z_X1 (cx : Cx κ O own cc d) {μ : Md} {idx d' b : Nat} {a v : Value} (hm : Vm μ 1) (hl : Cond.methodLink own idx μ.1 ∈ tb) (hc : Ct κ.l O d' μ [.ref b, a] σ (some v) σ') (hdd : d' + 1 ≤ d) (hrec : ∀ (H : Heap) (locs : List Loc), va_S O.A κ.s.heap H locs → ∃ cell : Cell, H[b]? = some cell ∧ cell.vm.isStatics = false ∧ κ.s.vm.findClass μ.1.cls = some cell.cls) (hroom : (rest.map fun v => v.category).sum ≤ 8) (hd : decode cc pc = .ok (.invokevirtual idx, 3)) (kk : Z κ O σ' (pc + 3) lv (v :: rest)) : Z κ O σ pc lv (a :: .ref b :: rest) := z_callVX (As := [a]) cx hm hl hc hdd hrec rfl rfl hroom hd (fun _ _ hq => by obtain ⟨rfl, rfl⟩ := hq; exact kk)
theorem z_kget (cx : Cx κ O own cc d) {n ds : String} {idx q : Nat} {v : Value} (hE : va_OF own n ds v q O.A κ.s κ.s.heap) (hl : Cond.fieldLink own idx own n ds ∈ tb) (hd : decode cc pc = .ok (.getfield idx, 3)) (kk : Z κ O σ (pc + 3) lv (v :: rest)) : Z κ O σ pc lv (.ref q :: rest) :=
  fun H locs ls hP hS h => vk_getf cx.1 cx.2.1 hE hS cx.2.2.2.1 (cx.2.2.2.2.1 _ hl) (fun _ h9 => h9) hd (kk H locs ls hP hS h)
theorem z_tbald (cx : Cx κ O own cc d) {t N : Nat} {f : Nat → Int32} {i : Int32} (hT : va_T .byte t N (fun j => .int (f j)) O.A κ.s κ.s.heap) (hin : vp_in i N) (hd : decode cc pc = .ok (.baload, 1)) (kk : Z κ O σ (pc + 1) lv (.int (f i.toNatClampNeg) :: rest)) : Z κ O σ pc lv (.int i :: .ref t :: rest) :=
  fun H locs ls hP hS h => va_tb cx.1 cx.2.1 hT hS hin rfl hd (kk H locs ls hP hS h)
theorem z_ldcS (cx : Cx κ O own cc d) {tx : String} {idx q : Nat} (hZ : vk_R own idx tx q κ.s) (hd : decode cc pc = .ok (.ldc idx, 2)) (kk : Z κ O σ (pc + 2) lv (.ref q :: rest)) : Z κ O σ pc lv rest :=
  fun H locs ls hP hS h => va_ldcS cx.1 cx.2.1 cx.2.2.2.1 hZ hd (kk H locs ls hP hS h)
theorem cx_str {g : Gx} (cx : Cx κ (OC g) own cc d) : vk_S 13 sLen sByt g.aK g.aV (inG 123 g.ad) κ.s κ.s.heap := cx.2.2.2.2.2.2.2.1.2.2.1.2.2
theorem cx_rec {g : Gx} (cx : Cx κ (OC g) own cc d) {w : Nat} (hw : w < 13) : ∀ (H : Heap) (locs : List Loc), va_S (OC g).A κ.s.heap H locs → ∃ cell : Cell, H[g.aK w]? = some cell ∧ cell.vm.isStatics = false ∧ κ.s.vm.findClass RJ0 = some cell.cls := fun H locs hS => vk_recv (cx_str cx) hw hS
end ZS
def sL (w : Nat) : Nat := sLen.getD w 0
def sB (w i : Nat) : Int32 := (sByt.getD w []).getD i 0
theorem sL_le : ∀ w, w < 13 → sL w ≤ 7 ∧ 4 ≤ sL w := by decide +kernel
theorem sB_ok : ∀ w, w < 13 → ∀ i, i < sL w → ((sB w i &&& 255).toUInt32 % 65536).toInt32 = sB w i ∧ narrow .char (.int (sB w i)) = .int (sB w i) := by
  have h : ∀ w, w < 13 → ∀ i, i < 7 → ((sB w i &&& 255).toUInt32 % 65536).toInt32 = sB w i := by decide +kernel
  intro w hw i hi
  have e := h w hw i (by have := (sL_le w hw).1; omega)
  refine ⟨e, ?_⟩
  rw [← e]
  exact pk_nc _
set_option maxRecDepth 100000 in
set_option maxHeartbeats 4000000 in
theorem c_J0_coder_7d493 {l : Launch} {g : Gx} (hg : ApG 123 g.ad) (σ : Mem) {w : Nat} (hw : w < 13) : Ct l (OC g) 0 mJ0_coder_7d493 [.ref (g.aK w)] σ (some (.int 0)) σ := by
  refine ct_of (lv := [some (.ref (g.aK w))]) (okC hg) (by decide +kernel) (Nat.le_of_ble_eq_true rfl) (fun ls h => lvh_entry h rfl 0) ?_
  intro κ hl hnL cx hR
  subst hl
  have cx : Cx κ (OC g) RJ0 cJ0_coder_7d493 0 := cx
  have hnL : κ.nL = 1 := hnL
  refine z_gets cx cx.2.2.2.2.2.2.2.1.2.2.1.1 fJ0_38 dJ0_coder_7d493_0 ?_
  refine z_if_eq (tgt := 13) cx dJ0_coder_7d493_3 (by decide) (fun c_3 => ?_) (fun c_3 => ?_)
  · exact absurd c_3 (by decide)
  · refine z_aload_n cx 0 dJ0_coder_7d493_6 rfl rfl ?_
    refine z_kget cx ((cx_str cx).1 w hw).2.1 fJ0_15 dJ0_coder_7d493_7 ?_
    refine z_goto (tgt := 14) cx dJ0_coder_7d493_10 (by decide) ?_
    exact z_zret cx hR rfl ⟨rfl, rfl⟩ dJ0_coder_7d493_14
set_option maxRecDepth 100000 in
set_option maxHeartbeats 4000000 in
theorem c_J0_isLatin1_aae02 {l : Launch} {g : Gx} (hg : ApG 123 g.ad) (σ : Mem) {w : Nat} (hw : w < 13) : Ct l (OC g) 0 mJ0_isLatin1_aae02 [.ref (g.aK w)] σ (some (.int (bI true))) σ := by
  refine ct_of (lv := [some (.ref (g.aK w))]) (okC hg) (by decide +kernel) (Nat.le_of_ble_eq_true rfl) (fun ls h => lvh_entry h rfl 0) ?_
  intro κ hl hnL cx hR
  subst hl
  have cx : Cx κ (OC g) RJ0 cJ0_isLatin1_aae02 0 := cx
  have hnL : κ.nL = 1 := hnL
  refine z_gets cx cx.2.2.2.2.2.2.2.1.2.2.1.1 fJ0_38 dJ0_isLatin1_aae02_0 ?_
  refine z_if_eq (tgt := 17) cx dJ0_isLatin1_aae02_3 (by decide) (fun c_3 => ?_) (fun c_3 => ?_)
  · exact absurd c_3 (by decide)
  · refine z_aload_n cx 0 dJ0_isLatin1_aae02_6 rfl rfl ?_
    refine z_kget cx ((cx_str cx).1 w hw).2.1 fJ0_15 dJ0_isLatin1_aae02_7 ?_
    refine z_if_ne (tgt := 17) cx dJ0_isLatin1_aae02_10 (by decide) (fun c_10 => ?_) (fun c_10 => ?_)
    · exact absurd rfl c_10
    · refine z_iconst cx dJ0_isLatin1_aae02_13 ic_1 ?_
      refine z_goto (tgt := 18) cx dJ0_isLatin1_aae02_14 (by decide) ?_
      exact z_zret cx hR rfl ⟨rfl, rfl⟩ dJ0_isLatin1_aae02_18
set_option maxRecDepth 100000 in
set_option maxHeartbeats 4000000 in
theorem c_J0_length_8abf5 {l : Launch} {g : Gx} (hg : ApG 123 g.ad) (σ : Mem) {w : Nat} (hw : w < 13) : Ct l (OC g) 1 mJ0_length_8abf5 [.ref (g.aK w)] σ (some (.int (nI (sL w)))) σ := by
  refine ct_of (lv := [some (.ref (g.aK w))]) (okC hg) (by decide +kernel) (Nat.le_of_ble_eq_true rfl) (fun ls h => lvh_entry h rfl 0) ?_
  intro κ hl hnL cx hR
  subst hl
  have cx : Cx κ (OC g) RJ0 cJ0_length_8abf5 1 := cx
  have hnL : κ.nL = 1 := hnL
  refine z_aload_n cx 0 dJ0_length_8abf5_0 rfl rfl ?_
  refine z_kget cx ((cx_str cx).1 w hw).2.2.1 fJ0_9 dJ0_length_8abf5_1 ?_
  refine z_tlen (v := nI (sL w)) cx ((cx_str cx).1 w hw).2.2.2 rfl dJ0_length_8abf5_4 ?_
  refine z_aload_n cx 0 dJ0_length_8abf5_5 rfl rfl ?_
  refine z_X0 cx vJ0_coder_7d493 kJ0_335 (c_J0_coder_7d493 hg σ hw) (by decide) (cx_rec cx hw) (Nat.le_of_ble_eq_true rfl) dJ0_length_8abf5_6 ?_
  refine z_ishr cx dJ0_length_8abf5_9 ?_
  exact z_iret cx hR ⟨by rw [sb_shr0], rfl⟩ dJ0_length_8abf5_10
set_option maxRecDepth 100000 in
set_option maxHeartbeats 4000000 in
theorem c_ckP_n {l : Launch} {g : Gx} (hg : ApG 123 g.ad) (σ : Mem) {k n : Nat} (hk : k < n) (hn : n < 2 ^ 31) : Ct l (OC g) 0 mJ3_checkIndex_8e157 [.int (nI k), .int (nI n), .null] σ (some (.int (nI k))) σ := by
  refine ct_of (lv := [some (.int (nI k)), some (.int (nI n)), some (.null)]) (okC hg) (by decide +kernel) (Nat.le_of_ble_eq_true rfl) (fun ls h => lvh_entry h rfl 0) ?_
  intro κ hl hnL cx hR
  subst hl
  have cx : Cx κ (OC g) RJ3 cJ3_checkIndex_8e157 0 := cx
  have hnL : κ.nL = 3 := hnL
  refine z_iload_n cx 0 dJ3_checkIndex_8e157_0 rfl rfl ?_
  refine z_if_lt (tgt := 9) cx dJ3_checkIndex_8e157_1 (by decide) (fun c_1 => ?_) (fun c_1 => ?_)
  · exact absurd c_1 (nI_pos (by omega))
  · refine z_iload_n cx 0 dJ3_checkIndex_8e157_4 rfl rfl ?_
    refine z_iload_n cx 1 dJ3_checkIndex_8e157_5 rfl rfl ?_
    refine z_icmp_lt (tgt := 16) cx dJ3_checkIndex_8e157_6 (by decide) (fun c_6 => ?_) (fun c_6 => ?_)
    · refine z_iload_n cx 0 dJ3_checkIndex_8e157_16 rfl rfl ?_
      exact z_iret cx hR ⟨rfl, rfl⟩ dJ3_checkIndex_8e157_17
    · exact absurd (nI_lt hk hn) c_6
set_option maxRecDepth 100000 in
set_option maxHeartbeats 4000000 in
theorem c_ckP_r {l : Launch} {g : Gx} (hg : ApG 123 g.ad) (σ : Mem) {k n : Nat} (hk : k < n) (hn : n < 2 ^ 31) (t9 : Nat) : Ct l (OC g) 0 mJ3_checkIndex_8e157 [.int (nI k), .int (nI n), .ref t9] σ (some (.int (nI k))) σ := by
  refine ct_of (lv := [some (.int (nI k)), some (.int (nI n)), some (.ref t9)]) (okC hg) (by decide +kernel) (Nat.le_of_ble_eq_true rfl) (fun ls h => lvh_entry h rfl 0) ?_
  intro κ hl hnL cx hR
  subst hl
  have cx : Cx κ (OC g) RJ3 cJ3_checkIndex_8e157 0 := cx
  have hnL : κ.nL = 3 := hnL
  refine z_iload_n cx 0 dJ3_checkIndex_8e157_0 rfl rfl ?_
  refine z_if_lt (tgt := 9) cx dJ3_checkIndex_8e157_1 (by decide) (fun c_1 => ?_) (fun c_1 => ?_)
  · exact absurd c_1 (nI_pos (by omega))
  · refine z_iload_n cx 0 dJ3_checkIndex_8e157_4 rfl rfl ?_
    refine z_iload_n cx 1 dJ3_checkIndex_8e157_5 rfl rfl ?_
    refine z_icmp_lt (tgt := 16) cx dJ3_checkIndex_8e157_6 (by decide) (fun c_6 => ?_) (fun c_6 => ?_)
    · refine z_iload_n cx 0 dJ3_checkIndex_8e157_16 rfl rfl ?_
      exact z_iret cx hR ⟨rfl, rfl⟩ dJ3_checkIndex_8e157_17
    · exact absurd (nI_lt hk hn) c_6
set_option maxRecDepth 100000 in
set_option maxHeartbeats 4000000 in
theorem c_J0_checkIndex_df160 {l : Launch} {g : Gx} (hg : ApG 123 g.ad) (σ : Mem) {k n : Nat} (hk : k < n) (hn : n < 2 ^ 31) : Ct l (OC g) 1 mJ0_checkIndex_df160 [.int (nI k), .int (nI n)] σ none σ := by
  refine ct_of (lv := [some (.int (nI k)), some (.int (nI n))]) (okC hg) (by decide +kernel) (Nat.le_of_ble_eq_true rfl) (fun ls h => lvh_entry h rfl 0) ?_
  intro κ hl hnL cx hR
  subst hl
  have cx : Cx κ (OC g) RJ0 cJ0_checkIndex_df160 1 := cx
  have hnL : κ.nL = 2 := hnL
  have hf := cx.2.2.2.2.2.2.2.1.2.2.1.2.1
  rcases hf with hf | ⟨t9, hf⟩
  · refine z_iload_n cx 0 dJ0_checkIndex_df160_0 rfl rfl ?_
    refine z_iload_n cx 1 dJ0_checkIndex_df160_1 rfl rfl ?_
    refine z_gets cx hf fJ0_1053 dJ0_checkIndex_df160_2 ?_
    refine z_S3i cx sJ3_checkIndex_8e157 kJ0_1059 (c_ckP_n hg σ hk hn) (by decide) (Nat.le_of_ble_eq_true rfl) dJ0_checkIndex_df160_5 ?_
    refine z_pop cx dJ0_checkIndex_df160_8 rfl ?_
    exact z_vret cx hR ⟨rfl, rfl⟩ dJ0_checkIndex_df160_9
  · refine z_iload_n cx 0 dJ0_checkIndex_df160_0 rfl rfl ?_
    refine z_iload_n cx 1 dJ0_checkIndex_df160_1 rfl rfl ?_
    refine z_gets cx hf fJ0_1053 dJ0_checkIndex_df160_2 ?_
    refine z_S3i cx sJ3_checkIndex_8e157 kJ0_1059 (c_ckP_r hg σ hk hn t9) (by decide) (Nat.le_of_ble_eq_true rfl) dJ0_checkIndex_df160_5 ?_
    refine z_pop cx dJ0_checkIndex_df160_8 rfl ?_
    exact z_vret cx hR ⟨rfl, rfl⟩ dJ0_checkIndex_df160_9
set_option maxRecDepth 100000 in
set_option maxHeartbeats 4000000 in
theorem c_J1_charAt_3b067 {l : Launch} {g : Gx} (hg : ApG 123 g.ad) (σ : Mem) {w i : Nat} (hw : w < 13) (hi : i < sL w) : Ct l (OC g) 2 mJ1_charAt_3b067 [.ref (g.aV w), .int (nI i)] σ (some (.int (sB w i))) σ := by
  refine ct_of (lv := [some (.ref (g.aV w)), some (.int (nI i))]) (okC hg) (by decide +kernel) (Nat.le_of_ble_eq_true rfl) (fun ls h => lvh_entry h rfl 0) ?_
  intro κ hl hnL cx hR
  subst hl
  have cx : Cx κ (OC g) RJ1 cJ1_charAt_3b067 2 := cx
  have hnL : κ.nL = 2 := hnL
  have h7 := sL_le w hw
  refine z_iload_n cx 1 dJ1_charAt_3b067_0 rfl rfl ?_
  refine z_aload_n cx 0 dJ1_charAt_3b067_1 rfl rfl ?_
  refine z_tlen (v := nI (sL w)) cx ((cx_str cx).1 w hw).2.2.2 rfl dJ1_charAt_3b067_2 ?_
  refine z_S2v cx sJ0_checkIndex_df160 kJ1_9 (c_J0_checkIndex_df160 hg σ hi (by omega)) (by decide) (Nat.le_of_ble_eq_true rfl) dJ1_charAt_3b067_3 ?_
  refine z_aload_n cx 0 dJ1_charAt_3b067_6 rfl rfl ?_
  refine z_iload_n cx 1 dJ1_charAt_3b067_7 rfl rfl ?_
  refine z_tbald (f := fun j => sB w j) cx ((cx_str cx).1 w hw).2.2.2 (vp_in_nI (N := sL w) hi (by omega)) dJ1_charAt_3b067_8 ?_
  rw [nI_clamp (by omega)]
  refine z_sipush cx dJ1_charAt_3b067_9 si_255 ?_
  refine z_iand cx dJ1_charAt_3b067_12 ?_
  refine z_i2c cx dJ1_charAt_3b067_13 ((sB_ok w hw i hi).1) ?_
  exact z_zret cx hR (sB_ok w hw i hi).2 ⟨rfl, rfl⟩ dJ1_charAt_3b067_14
set_option maxRecDepth 100000 in
set_option maxHeartbeats 4000000 in
theorem c_J0_charAt_5068e {l : Launch} {g : Gx} (hg : ApG 123 g.ad) (σ : Mem) {w i : Nat} (hw : w < 13) (hi : i < sL w) : Ct l (OC g) 3 mJ0_charAt_5068e [.ref (g.aK w), .int (nI i)] σ (some (.int (sB w i))) σ := by
  refine ct_of (lv := [some (.ref (g.aK w)), some (.int (nI i))]) (okC hg) (by decide +kernel) (Nat.le_of_ble_eq_true rfl) (fun ls h => lvh_entry h rfl 0) ?_
  intro κ hl hnL cx hR
  subst hl
  have cx : Cx κ (OC g) RJ0 cJ0_charAt_5068e 3 := cx
  have hnL : κ.nL = 2 := hnL
  refine z_aload_n cx 0 dJ0_charAt_5068e_0 rfl rfl ?_
  refine z_X0 cx vJ0_isLatin1_aae02 kJ0_492 (c_J0_isLatin1_aae02 hg σ hw) (by decide) (cx_rec cx hw) (Nat.le_of_ble_eq_true rfl) dJ0_charAt_5068e_1 ?_
  refine z_ifb_eq (tgt := 16) cx dJ0_charAt_5068e_4 (by decide) (fun c_4 => ?_) (fun c_4 => ?_)
  · exact absurd c_4 (by decide)
  · refine z_aload_n cx 0 dJ0_charAt_5068e_7 rfl rfl ?_
    refine z_kget cx ((cx_str cx).1 w hw).2.2.1 fJ0_9 dJ0_charAt_5068e_8 ?_
    refine z_iload_n cx 1 dJ0_charAt_5068e_11 rfl rfl ?_
    refine z_S2i cx sJ1_charAt_3b067 kJ0_495 (c_J1_charAt_3b067 hg σ hw hi) (by decide) (Nat.le_of_ble_eq_true rfl) dJ0_charAt_5068e_12 ?_
    exact z_zret cx hR (sB_ok w hw i hi).2 ⟨rfl, rfl⟩ dJ0_charAt_5068e_15
set_option maxRecDepth 100000 in
set_option maxHeartbeats 4000000 in
theorem c_X5_spelling {l : Launch} {g : Gx} (hg : ApG 123 g.ad) (σ : Mem) {w : Nat} (hw : w < 13) : Ct l (OC g) 0 mX5_spelling [.int (nI w)] σ (some (.ref (g.aK w))) σ := by
  refine ct_of (lv := [some (.int (nI w))]) (okC hg) (by decide +kernel) (Nat.le_of_ble_eq_true rfl) (fun ls h => lvh_entry h rfl 0) ?_
  intro κ hl hnL cx hR
  subst hl
  have cx : Cx κ (OC g) RX5 cX5_spelling 0 := cx
  have hnL : κ.nL = 1 := hnL
  rcases (show w = 0 ∨ w = 1 ∨ w = 2 ∨ w = 3 ∨ w = 4 ∨ w = 5 ∨ w = 6 ∨ w = 7 ∨ w = 8 ∨ w = 9 ∨ w = 10 ∨ w = 11 ∨ w = 12 by omega) with rfl | rfl | rfl | rfl | rfl | rfl | rfl | rfl | rfl | rfl | rfl | rfl | rfl
  · refine z_iload_n cx 0 dX5_spelling_0 rfl rfl ?_
    refine z_tableIn (off := 63) (tgt := 64) cx dX5_spelling_1 (by decide) (by decide) (by decide) (by decide) ?_
    refine z_ldcS cx cx.2.2.2.2.2.2.2.1.2.2.2.1.1 dX5_spelling_64 ?_
    exact z_aret cx hR ⟨rfl, rfl⟩ dX5_spelling_66
  · refine z_iload_n cx 0 dX5_spelling_0 rfl rfl ?_
    refine z_tableIn (off := 66) (tgt := 67) cx dX5_spelling_1 (by decide) (by decide) (by decide) (by decide) ?_
    refine z_ldcS cx cx.2.2.2.2.2.2.2.1.2.2.2.1.2.1 dX5_spelling_67 ?_
    exact z_aret cx hR ⟨rfl, rfl⟩ dX5_spelling_69
  · refine z_iload_n cx 0 dX5_spelling_0 rfl rfl ?_
    refine z_tableIn (off := 69) (tgt := 70) cx dX5_spelling_1 (by decide) (by decide) (by decide) (by decide) ?_
    refine z_ldcS cx cx.2.2.2.2.2.2.2.1.2.2.2.1.2.2.1 dX5_spelling_70 ?_
    exact z_aret cx hR ⟨rfl, rfl⟩ dX5_spelling_72
  · refine z_iload_n cx 0 dX5_spelling_0 rfl rfl ?_
    refine z_tableIn (off := 72) (tgt := 73) cx dX5_spelling_1 (by decide) (by decide) (by decide) (by decide) ?_
    refine z_ldcS cx cx.2.2.2.2.2.2.2.1.2.2.2.1.2.2.2.1 dX5_spelling_73 ?_
    exact z_aret cx hR ⟨rfl, rfl⟩ dX5_spelling_75
  · refine z_iload_n cx 0 dX5_spelling_0 rfl rfl ?_
    refine z_tableIn (off := 75) (tgt := 76) cx dX5_spelling_1 (by decide) (by decide) (by decide) (by decide) ?_
    refine z_ldcS cx cx.2.2.2.2.2.2.2.1.2.2.2.1.2.2.2.2.1 dX5_spelling_76 ?_
    exact z_aret cx hR ⟨rfl, rfl⟩ dX5_spelling_78
  · refine z_iload_n cx 0 dX5_spelling_0 rfl rfl ?_
    refine z_tableIn (off := 78) (tgt := 79) cx dX5_spelling_1 (by decide) (by decide) (by decide) (by decide) ?_
    refine z_ldcS cx cx.2.2.2.2.2.2.2.1.2.2.2.1.2.2.2.2.2.1 dX5_spelling_79 ?_
    exact z_aret cx hR ⟨rfl, rfl⟩ dX5_spelling_81
  · refine z_iload_n cx 0 dX5_spelling_0 rfl rfl ?_
    refine z_tableIn (off := 81) (tgt := 82) cx dX5_spelling_1 (by decide) (by decide) (by decide) (by decide) ?_
    refine z_ldcS cx cx.2.2.2.2.2.2.2.1.2.2.2.1.2.2.2.2.2.2.1 dX5_spelling_82 ?_
    exact z_aret cx hR ⟨rfl, rfl⟩ dX5_spelling_84
  · refine z_iload_n cx 0 dX5_spelling_0 rfl rfl ?_
    refine z_tableIn (off := 84) (tgt := 85) cx dX5_spelling_1 (by decide) (by decide) (by decide) (by decide) ?_
    refine z_ldcS cx cx.2.2.2.2.2.2.2.1.2.2.2.1.2.2.2.2.2.2.2.1 dX5_spelling_85 ?_
    exact z_aret cx hR ⟨rfl, rfl⟩ dX5_spelling_87
  · refine z_iload_n cx 0 dX5_spelling_0 rfl rfl ?_
    refine z_tableIn (off := 87) (tgt := 88) cx dX5_spelling_1 (by decide) (by decide) (by decide) (by decide) ?_
    refine z_ldcS cx cx.2.2.2.2.2.2.2.1.2.2.2.1.2.2.2.2.2.2.2.2.1 dX5_spelling_88 ?_
    exact z_aret cx hR ⟨rfl, rfl⟩ dX5_spelling_90
  · refine z_iload_n cx 0 dX5_spelling_0 rfl rfl ?_
    refine z_tableIn (off := 90) (tgt := 91) cx dX5_spelling_1 (by decide) (by decide) (by decide) (by decide) ?_
    refine z_ldcS cx cx.2.2.2.2.2.2.2.1.2.2.2.1.2.2.2.2.2.2.2.2.2.1 dX5_spelling_91 ?_
    exact z_aret cx hR ⟨rfl, rfl⟩ dX5_spelling_93
  · refine z_iload_n cx 0 dX5_spelling_0 rfl rfl ?_
    refine z_tableIn (off := 93) (tgt := 94) cx dX5_spelling_1 (by decide) (by decide) (by decide) (by decide) ?_
    refine z_ldcS cx cx.2.2.2.2.2.2.2.1.2.2.2.1.2.2.2.2.2.2.2.2.2.2.1 dX5_spelling_94 ?_
    exact z_aret cx hR ⟨rfl, rfl⟩ dX5_spelling_96
  · refine z_iload_n cx 0 dX5_spelling_0 rfl rfl ?_
    refine z_tableIn (off := 96) (tgt := 97) cx dX5_spelling_1 (by decide) (by decide) (by decide) (by decide) ?_
    refine z_ldcS cx cx.2.2.2.2.2.2.2.1.2.2.2.1.2.2.2.2.2.2.2.2.2.2.2.1 dX5_spelling_97 ?_
    exact z_aret cx hR ⟨rfl, rfl⟩ dX5_spelling_99
  · refine z_iload_n cx 0 dX5_spelling_0 rfl rfl ?_
    refine z_tableOut (tgt := 100) cx dX5_spelling_1 (Or.inr (by decide)) (by decide) ?_
    refine z_ldcS cx cx.2.2.2.2.2.2.2.1.2.2.2.1.2.2.2.2.2.2.2.2.2.2.2.2 dX5_spelling_100 ?_
    exact z_aret cx hR ⟨rfl, rfl⟩ dX5_spelling_102
/-- the token from b to e is the word w -/
def eqS (tx : Nat → Int32) (b w : Nat) : Nat → Bool
  | 0 => true
  | i + 1 => eqS tx b w i && decide (tx (b + i) = sB w i)
theorem eqS_no {tx : Nat → Int32} {b w : Nat} : ∀ {n i : Nat}, i ≤ n → eqS tx b w i = false → eqS tx b w n = false
  | 0, i, h, e => by rw [show i = 0 by omega] at e; exact e
  | n + 1, i, h, e => by
    by_cases z : i = n + 1
    · rw [← z]; exact e
    · rw [eqS, eqS_no (n := n) (i := i) (by omega) e]; rfl
def tkQ (tx : Nat → Int32) (b e w : Nat) : Bool := decide (e - b = sL w) && eqS tx b w (sL w)
def fsW (P : Nat → Bool) : Nat → Nat → Nat
  | 0, w => w
  | c + 1, w => if P w = true then w else fsW P c (w + 1)
/-- which word the token is; 13: none -/
def wdN (tx : Nat → Int32) (b e : Nat) : Nat := fsW (tkQ tx b e) 13 0
theorem fsW_le (P : Nat → Bool) : ∀ (c w : Nat), fsW P c w ≤ w + c
  | 0, w => Nat.le_refl _
  | c + 1, w => by
    rw [fsW]; split
    · omega
    · have := fsW_le P c (w + 1); omega
theorem fsW_yes (P : Nat → Bool) : ∀ (c w : Nat), fsW P c w < w + c → P (fsW P c w) = true
  | 0, w, h => absurd h (by rw [fsW]; omega)
  | c + 1, w, h => by
    rw [fsW] at h ⊢
    split
    · assumption
    · rename_i hc; rw [if_neg hc] at h; exact fsW_yes P c (w + 1) (by omega)
theorem fsW_no (P : Nat → Bool) : ∀ (c w x : Nat), w ≤ x → x < fsW P c w → P x = false
  | 0, w, x, h, h2 => absurd h2 (by rw [fsW]; omega)
  | c + 1, w, x, h, h2 => by
    rw [fsW] at h2
    split at h2
    · omega
    · rename_i hc
      by_cases e : x = w
      · subst e; simpa using hc
      · exact fsW_no P c (w + 1) x (by omega) h2
theorem wdN_le (tx : Nat → Int32) (b e : Nat) : wdN tx b e ≤ 13 := by have := fsW_le (tkQ tx b e) 13 0; simpa [wdN] using this
/-- the token's place in the text's object -/
def TkH (σ : Mem) (b e : Nat) : Prop := b ≤ e ∧ e ≤ 160 ∧ σ 1 6 = nI b ∧ σ 1 7 = nI e
def wdI (n : Nat) : Int32 := if n < 13 then nI n else -1
set_option maxRecDepth 100000 in
set_option maxHeartbeats 4000000 in
theorem c_X5_isToken {l : Launch} {g : Gx} (hg : ApG 123 g.ad) (σ : Mem) {b e w : Nat} (hT : TkH σ b e) (hw : w < 13) : Ct l (OC g) 4 mX5_isToken [.ref (g.ad 1), .ref (g.aK w)] σ (some (.int (bI (tkQ (σ 2) b e w)))) σ := by
  refine ct_of (lv := [some (.ref (g.ad 1)), some (.ref (g.aK w)), none]) (okC hg) (by decide +kernel) (Nat.le_of_ble_eq_true rfl) (fun ls h => lvh_entry h rfl 1) ?_
  intro κ hl hnL cx hR
  subst hl
  have cx : Cx κ (OC g) RX5 cX5_isToken 4 := cx
  have hnL : κ.nL = 3 := hnL
  obtain ⟨hbe, he, eB, eE⟩ := hT
  have h7 := sL_le w hw
  have loop : e - b = sL w → ∀ (c i : Nat), sL w + 1 ≤ i + c → i ≤ sL w → eqS (σ 2) b w i = true → Z κ (OC g) σ 20 [some (.ref (g.ad 1)), some (.ref (g.aK w)), some (.int (nI i))] [] := by
    intro hL c
    induction c with
    | zero => intro i h1 h2; exact absurd h1 (by omega)
    | succ c ih =>
      intro i h1 h2 h3
      refine z_iload_n cx 2 dX5_isToken_20 rfl rfl ?_
      refine z_aload_n cx 1 dX5_isToken_21 rfl rfl ?_
      refine z_X0 cx vJ0_length_8abf5 kX5_108 (c_J0_length_8abf5 hg σ hw) (by decide) (cx_rec cx hw) (Nat.le_of_ble_eq_true rfl) dX5_isToken_22 ?_
      refine z_icmp_ge (tgt := 55) cx dX5_isToken_25 (by decide) (fun c_25 => ?_) (fun c_25 => ?_)
      · rw [nI_leI (by omega) (by omega)] at c_25
        have e9 : i = sL w := by omega
        subst e9
        refine z_iconst cx dX5_isToken_55 ic_1 ?_
        exact z_zret cx hR rfl ⟨by rw [tkQ, h3, hL, decide_eq_true rfl]; rfl, rfl⟩ dX5_isToken_56
      · rw [nI_leI (by omega) (by omega)] at c_25
        refine z_aload_n cx 0 dX5_isToken_28 rfl rfl ?_
        refine gX5_9 cx dX5_isToken_29 ?_
        refine z_aload_n cx 0 dX5_isToken_32 rfl rfl ?_
        refine gX5_44 cx dX5_isToken_33 ?_
        refine z_iload_n cx 2 dX5_isToken_36 rfl rfl ?_
        refine z_iadd cx dX5_isToken_37 ?_
        rw [show σ 1 6 + nI i = nI (b + i) by rw [eB, nI_add]]
        refine g_ialdN cx (b + i) (by decide) (fun _ => rfl) rfl (by omega) (by decide) dX5_isToken_38 ?_
        refine z_aload_n cx 1 dX5_isToken_39 rfl rfl ?_
        refine z_iload_n cx 2 dX5_isToken_40 rfl rfl ?_
        refine z_X1 cx vJ0_charAt_5068e kX5_112 (c_J0_charAt_5068e hg σ hw (i := i) (by omega)) (by decide) (cx_rec cx hw) (Nat.le_of_ble_eq_true rfl) dX5_isToken_41 ?_
        refine z_icmp_eq (tgt := 49) cx dX5_isToken_44 (by decide) (fun c_44 => ?_) (fun c_44 => ?_)
        · refine z_iinc cx dX5_isToken_49 rfl ic_1 (nI_1 i) hnL (by decide) rfl ?_
          refine z_goto (tgt := 20) cx dX5_isToken_52 (by decide) ?_
          exact ih (i + 1) (by omega) (by omega) (by rw [eqS, h3]; simpa using c_44)
        · refine z_iconst cx dX5_isToken_47 ic_0 ?_
          exact z_zret cx hR rfl ⟨by rw [tkQ, eqS_no (i := i + 1) (by omega) (by rw [eqS, h3]; simpa using c_44), Bool.and_false]; rfl, rfl⟩ dX5_isToken_48
  refine z_aload_n cx 0 dX5_isToken_0 rfl rfl ?_
  refine gX5_37 cx dX5_isToken_1 ?_
  refine z_aload_n cx 0 dX5_isToken_4 rfl rfl ?_
  refine gX5_44 cx dX5_isToken_5 ?_
  refine z_isub cx dX5_isToken_8 ?_
  rw [show σ 1 7 - σ 1 6 = nI (e - b) by rw [eB, eE]; exact pk_sub hbe]
  refine z_aload_n cx 1 dX5_isToken_9 rfl rfl ?_
  refine z_X0 cx vJ0_length_8abf5 kX5_108 (c_J0_length_8abf5 hg σ hw) (by decide) (cx_rec cx hw) (Nat.le_of_ble_eq_true rfl) dX5_isToken_10 ?_
  refine z_icmp_eq (tgt := 18) cx dX5_isToken_13 (by decide) (fun c_13 => ?_) (fun c_13 => ?_)
  · have c13 : e - b = sL w := (nI_eq (by omega) (by omega)).mp c_13
    refine z_iconst cx dX5_isToken_18 ic_0 ?_
    refine z_istore_n cx 2 dX5_isToken_19 rfl hnL (by decide) rfl ?_
    exact loop c13 (sL w + 1) 0 (by omega) (by omega) rfl
  · have c13 : ¬ e - b = sL w := fun z => c_13 (by rw [z])
    refine z_iconst cx dX5_isToken_16 ic_0 ?_
    exact z_zret cx hR rfl ⟨by simp [tkQ, c13, bI], rfl⟩ dX5_isToken_17
set_option maxRecDepth 100000 in
set_option maxHeartbeats 4000000 in
theorem c_X5_findWord {l : Launch} {g : Gx} (hg : ApG 123 g.ad) (σ : Mem) {b e : Nat} (hT : TkH σ b e) : Ct l (OC g) 5 mX5_findWord [.ref (g.ad 1)] σ (some (.int (wdI (wdN (σ 2) b e)))) σ := by
  refine ct_of (lv := [some (.ref (g.ad 1)), none]) (okC hg) (by decide +kernel) (Nat.le_of_ble_eq_true rfl) (fun ls h => lvh_entry h rfl 1) ?_
  intro κ hl hnL cx hR
  subst hl
  have cx : Cx κ (OC g) RX5 cX5_findWord 5 := cx
  have hnL : κ.nL = 2 := hnL
  have loop : ∀ (c w : Nat), w + c = 13 → fsW (tkQ (σ 2) b e) c w = wdN (σ 2) b e → Z κ (OC g) σ 2 [some (.ref (g.ad 1)), some (.int (nI w))] [] := by
    intro c
    induction c with
    | zero =>
      intro w h1 h2
      refine z_iload_n cx 1 dX5_findWord_2 rfl rfl ?_
      refine z_bipush cx dX5_findWord_3 bi_13 ?_
      refine z_icmp_ge (tgt := 27) cx dX5_findWord_5 (by decide) (fun c_5 => ?_) (fun c_5 => ?_)
      · refine z_iconst cx dX5_findWord_27 ic_m1 ?_
        exact z_iret cx hR ⟨by rw [← h2, fsW, wdI, if_neg (by omega)], rfl⟩ dX5_findWord_28
      · exact absurd (show nI 13 ≤ nI w by rw [show w = 13 by omega]; exact Int32.le_refl _) c_5
    | succ c ih =>
      intro w h1 h2
      refine z_iload_n cx 1 dX5_findWord_2 rfl rfl ?_
      refine z_bipush cx dX5_findWord_3 bi_13 ?_
      refine z_icmp_ge (tgt := 27) cx dX5_findWord_5 (by decide) (fun c_5 => ?_) (fun c_5 => ?_)
      · exact absurd ((nI_leI (a := 13) (by decide) (by omega)).mp c_5) (by omega)
      · refine z_aload_n cx 0 dX5_findWord_8 rfl rfl ?_
        refine z_iload_n cx 1 dX5_findWord_9 rfl rfl ?_
        refine z_S1i cx sX5_spelling kX5_74 (c_X5_spelling hg σ (w := w) (by omega)) (by decide) (Nat.le_of_ble_eq_true rfl) dX5_findWord_10 ?_
        refine z_V1i cx vX5_isToken kX5_78 (c_X5_isToken hg σ hT (w := w) (by omega)) (by decide) hC1 rfl rfl (Nat.le_of_ble_eq_true rfl) dX5_findWord_13 ?_
        refine z_ifb_eq (tgt := 21) cx dX5_findWord_16 (by decide) (fun c_16 => ?_) (fun c_16 => ?_)
        · refine z_iinc cx dX5_findWord_21 rfl ic_1 (nI_1 w) hnL (by decide) rfl ?_
          refine z_goto (tgt := 2) cx dX5_findWord_24 (by decide) ?_
          exact ih (w + 1) (by omega) (by rw [← h2, fsW, if_neg (by rw [c_16]; decide)])
        · refine z_iload_n cx 1 dX5_findWord_19 rfl rfl ?_
          exact z_iret cx hR ⟨by rw [← h2, fsW, if_pos c_16, wdI, if_pos (by omega)], rfl⟩ dX5_findWord_20
  refine z_iconst cx dX5_findWord_0 ic_0 ?_
  refine z_istore_n cx 1 dX5_findWord_1 rfl hnL (by decide) rfl ?_
  exact loop 13 0 (by omega) rfl
