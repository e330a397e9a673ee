/-! sets of books: bits -/
theorem bt_is : ∀ s, s < 512 → ∀ b, b < 9 → ((nI s >>> (nI b &&& 31) &&& 1 = 1) ↔ s.testBit b = true) := by decide +kernel
theorem bt_or : ∀ s, s < 512 → ∀ b, b < 9 → nI s ||| 1 <<< (nI b &&& 31) = nI (s ||| 2 ^ b) ∧ s ||| 2 ^ b < 512 := by decide +kernel
theorem bt_un : ∀ s, s < 512 → ∀ b, b < 9 → s.testBit b = false → nI (s ||| 2 ^ b) &&& (1 <<< (nI b &&& 31) ^^^ -1) = nI s := by decide +kernel
theorem bt_and (a b : Nat) : nI a &&& nI b = nI (a &&& b) := by
  apply Int32.toBitVec_inj.mp
  rw [Int32.toBitVec_and]
  show BitVec.ofNat 32 a &&& BitVec.ofNat 32 b = BitVec.ofNat 32 (a &&& b)
  exact (BitVec.ofNat_and).symm
theorem bt_all : ∀ n, n < 10 → (1 : Int32) <<< (nI n &&& 31) - 1 = nI (2 ^ n - 1) := by decide +kernel
def ab_every (x : ZText) : Nat := 2 ^ ab_num 0 x - 1
/-- what a set of books is worth together; the set is of those that there are -/
def ab_term (x : ZText) (s b : Nat) : Nat := if s.testBit b = true ∧ (ab_lean x b = 99 ∨ s.testBit (ab_lean x b) = true) then ab_alone x b else 0
def ab_useN (x : ZText) (s : Nat) : Nat → Nat
  | 0 => 0
  | n + 1 => ab_useN x s n + ab_term x s n
def ab_use (x : ZText) (s : Nat) : Nat := ab_useN x s 9
def ab_blkN (x : ZText) (s : Nat) : Nat → Nat
  | 0 => 0
  | n + 1 => ab_blkN x s n + (if s.testBit n = true ∧ ab_kind x n = 1 then 1 else 0)
def ab_blk (x : ZText) (s : Nat) : Nat := ab_blkN x s 9
theorem ab_every_lt {x : ZText} (hx : x.1 ≤ 35) : ab_every x < 512 := by
  have h := ab_numB hx
  unfold ab_every
  have : 2 ^ ab_num 0 x ≤ 2 ^ 9 := Nat.pow_le_pow_right (by omega) h
  omega
theorem bt_low {s n b : Nat} (h : s.testBit b = true) (hs : s < 2 ^ n) : b < n := by
  rcases Nat.lt_or_ge b n with q | q
  · exact q
  · rw [Nat.testBit_lt_two_pow (Nat.lt_of_lt_of_le hs (Nat.pow_le_pow_right (by omega) q))] at h
    cases h
theorem ab_mask_lt {x : ZText} (s : Nat) : s &&& ab_every x < 2 ^ ab_num 0 x := by
  have : s &&& ab_every x ≤ ab_every x := Nat.and_le_right
  have : 0 < 2 ^ ab_num 0 x := Nat.two_pow_pos _
  unfold ab_every at *
  omega
theorem ab_lean_le {x : ZText} (hx : x.1 ≤ 35) {j : Nat} (hj : j < ab_num 0 x) : (ab_lean x j = 99 ∧ ab_lean32 x j = -1) ∨ (ab_lean x j ≤ 8 ∧ ab_lean32 x j = nI (ab_lean x j)) := by
  obtain ⟨-, -, -, h⟩ := ab_entB hx hj
  unfold ab_lean ab_lean32
  by_cases e : x.2 (4 * j + 2) = 46
  · simp [e]
  · simp only [if_neg e]
    exact Or.inr ⟨by omega, trivial⟩
theorem ab_alone_le {x : ZText} (hx : x.1 ≤ 35) {j : Nat} (hj : j < ab_num 0 x) : ab_alone x j ≤ 9 ∧ ab_worth x j ≤ 9 ∧ ab_kind x j ≤ 2 := by
  obtain ⟨-, h, -, -⟩ := ab_entB hx hj
  have h1 : ab_worth x j ≤ 9 := by unfold ab_worth; omega
  refine ⟨?_, h1, ?_⟩
  · unfold ab_alone; split
    · omega
    · split <;> omega
  · unfold ab_kind; split
    · omega
    · split <;> omega
theorem ab_term_le {x : ZText} (hx : x.1 ≤ 35) {s b : Nat} (hs : s < 2 ^ ab_num 0 x) : ab_term x s b ≤ 9 := by
  unfold ab_term
  split
  · rename_i h
    exact (ab_alone_le hx (bt_low h.1 hs)).1
  · omega
theorem ab_useN_le {x : ZText} (hx : x.1 ≤ 35) {s : Nat} (hs : s < 2 ^ ab_num 0 x) : ∀ n, ab_useN x s n ≤ 9 * n
  | 0 => Nat.le_refl _
  | n + 1 => by
    have h1 := ab_useN_le hx hs n
    have h2 := ab_term_le hx hs (b := n)
    unfold ab_useN
    omega
theorem ab_blkN_le {x : ZText} {s : Nat} : ∀ n, ab_blkN x s n ≤ n
  | 0 => Nat.le_refl _
  | n + 1 => by
    have h1 := ab_blkN_le (x := x) (s := s) n
    unfold ab_blkN
    split <;> omega
def wp_X0_worth : ZW := fun as S k => match as with
  | [.ref 1, .int v] => ∃ (x : ZText) (j : Nat), v = nI j ∧ x.1 ≤ 35 ∧ j < ab_num 0 x ∧ c_books x S ∧ k (some (.int (nI (ab_worth x j)))) S
  | _ => False
theorem wr_X0_worth {v : Int32} {S : ZS} {k : Option Value → ZS → Prop} : wp_X0_worth [.ref 1, .int v] S k = (∃ (x : ZText) (j : Nat), v = nI j ∧ x.1 ≤ 35 ∧ j < ab_num 0 x ∧ c_books x S ∧ k (some (.int (nI (ab_worth x j)))) S) := rfl
def cs_X0_worth : List (Nat × ZC) := [(28, (3, 0, true, wp_X7_within))]
theorem cr_X0_worth_28 : cs_X0_worth.lookup 28 = some (3, 0, true, wp_X7_within) := rfl
set_option maxRecDepth 20000 in
theorem co_X0_worth {tl : List ZE} : z_csok RX0 ({ frames := 1, cells := 0, slots := 0, locals := 22 } : Room) (z_shC tl) cs_X0_worth := z_cs2 (z_csN (host := "NineBooks") ok_X7_within (z_gn 249 (by decide +kernel) rfl) (z_g 211 (by decide +kernel) rfl) (z_g 44 (by decide +kernel) rfl) (z_g 212 (by decide +kernel) rfl) rfl rfl (by decide +kernel) ⟨by decide, by decide⟩)
  (z_cs0)
set_option maxHeartbeats 4000000 in
set_option maxRecDepth 20000 in
theorem pu_X0_worth {tl : List ZE} : z_Pure cX0_worth 2 (z_shC tl) z_fX0 cs_X0_worth z_kcX0 z_klX0 (some .int) 0 wp_X0_worth := by
  intro as S post h
  unfold wp_X0_worth at h
  split at h
  · rename_i v
    refine ⟨Nat.le_of_ble_eq_true rfl, fun K hK => ?_⟩
    change K 0 0 [some (.ref 1), some (.int v)] [] S
    obtain ⟨x, j, rfl, hx, hj, hb, hk⟩ := h
    have hn := ab_numB hx
    refine hK (z_in []) 60 _ _ _ _ _ (Nat.zero_le _) ?_
    simp (config := { maxSteps := 10000000 }) only [z40, z20, z10, z01, zm0, z0m, ze_s, ze_ok, zt_s, zt_t, zt_f, zl_I, zl_J, zl_R, zl_N, zl_C, zl_K, zl_M, zl_ar0, zl_ar1, zl_ar2, zl_ar3, zl_as0, zl_as1, zl_as2, zl_al, zl_gf, zl_gr, zl_pf, zl_iv, zl_ivn, zlk_n, zlk_c, ztb_n, ztb_c, zin_n, zin_1, zin_c, Int.reduceLT, decide_true, decide_false, Bool.true_and, Bool.and_true, List.length_cons, List.length_nil, Int.reduceSub, Int.reduceEq, Int.natCast_zero, zk_s, z_in_n, z_in_c, z_gt_0, z_gt_s, zst_0, zst_1, zst_s, zsl_0, zsl_1, zsl_s, zc_n, zc_i, zc_l, zc_r, zc_u, zca_n, zca_i, zca_l, zca_r, zca_u, zrt_i, zrt_z, zrt_o, z_cal_0, z_cal_s, true_and, and_true, List.nil_append, List.cons_append, Option.toList_some, Option.toList_none, Nat.reduceAdd, Nat.reduceBEq, Nat.reduceLT, Nat.reduceLeDiff, Nat.reduceSub, Int.reduceAdd, Int.reduceLE, Int.reduceToNat, Int.cast_ofNat_Int, Bool.or_true, Bool.true_or, Bool.or_false, Bool.false_or, Nat.le_refl, Nat.zero_le, or_true, true_or, or_false, false_or, not_true_eq_false, not_false_eq_true, not_false_iff, false_implies, true_implies, eq_self, zo_iconst, zo_bipush, zo_sipush, zo_lconst, zo_ldc, zo_ldc_w, zo_ldc2_w, zo_iload_n, zo_iload, zo_lload_n, zo_lload, zo_aload_n, zo_aload, zo_istore_n, zo_istore, zo_lstore_n, zo_lstore, zo_astore_n, zo_astore, zo_iinc, zo_iadd, zo_isub, zo_imul, zo_iand, zo_ior, zo_ixor, zo_ishl, zo_ishr, zo_iushr, zo_idiv, zo_irem, zo_ladd, zo_lsub, zo_lmul, zo_ldiv, zo_lrem, zo_lcmp, zo_i2l, zo_i2b, zo_i2s, zo_dup, zo_dup2, zo_aconst_null, zo_if_icmp, zo_ifCond, zo_goto, zo_ifnull, zo_ifnonnull, zo_iaload, zo_baload, zo_laload, zo_aaload, zo_iastore, zo_bastore, zo_lastore, zo_arraylength, zo_getfield, zo_putfield, zo_tableswitch, zo_lookupswitch, zo_ireturn, zo_lreturn, zo_areturn, zo_return, zo_invokestatic, zo_invokevirtual, zo_new, zo_invokespecial, zo_newarray, zo_anewarray, zo_aastore, zy_0_1, zy_0_2, zy_0_3, zy_1_1, zy_1_2, zy_2_1, zy_2_2, zy_2_3, zy_3_0, zy_4_3, zy_5_1, zy_5_2, zy_6_5, zy_6_6, zy_6_7, zy_6_8, zy_6_9, zy_6_10, zy_7_2, zy_7_6, zy_7_9, zy_7_10, zy_7_11, zy_7_12, zy_7_14, zy_7_21, zy_7_30, zq_iconst, zq_bipush, zq_sipush, zq_lconst0, zq_lconst1, zq_ldc, zq_ldc_w, zq_ldc2_w, zq_iload0, zq_iload1, zq_iload2, zq_iload3, zq_iload, zq_lload0, zq_lload1, zq_lload2, zq_lload3, zq_lload, zq_aload0, zq_aload1, zq_aload2, zq_aload3, zq_aload, zq_istore0, zq_istore1, zq_istore2, zq_istore3, zq_istore, zq_lstore0, zq_lstore1, zq_lstore2, zq_lstore3, zq_lstore, zq_astore0, zq_astore0N, zq_astore1, zq_astore1N, zq_astore2, zq_astore2N, zq_astore3, zq_astore3N, zq_astore, zq_astoreN, zq_iinc, zq_iadd, zq_isub, zq_imul, zq_iand, zq_ior, zq_ixor, zq_ishl, zq_ishr, zq_iushr, zq_idiv, zq_irem, zq_ladd, zq_lsub, zq_lmul, zq_ldiv, zq_lrem, zq_lcmp, zq_i2l, zq_i2b, zq_i2s, zq_dup_i, zq_dup_r, zq_dup2, zq_null, zq_icmp_eq, zq_if_eq, zq_icmp_ne, zq_if_ne, zq_icmp_lt, zq_if_lt, zq_icmp_ge, zq_if_ge, zq_icmp_gt, zq_if_gt, zq_icmp_le, zq_if_le, zq_goto, zq_ifnull_r, zq_ifnull_n, zq_ifnonnull_r, zq_ifnonnull_n, zq_iaload, zq_baload, zq_laload, zq_aaload, zq_iastore, zq_bastore, zq_lastore, zq_alen, zq_getf, zq_put, zq_tsw, zq_lsw, zq_ireturn, zq_lreturn, zq_areturn, zq_areturnN, zq_return, zq_invokestatic, zq_invokevirtual, zq_new, zq_invokespecial, zq_newarray, zq_anewarray, zq_aastore, zi_m1, zi_0, zi_1, zi_2, zi_3, zi_4, zi_5, zi_6, zi_8, zi_16, zb_m10, zb_m4, zb_m3, zb_m2, zb_6, zb_7, zb_8, zb_9, zb_10, zb_16, zb_20, zb_23, zb_30, zb_32, zb_35, zb_46, zb_48, zb_56, zb_57, zb_59, zb_63, zb_70, zb_98, zb_99, zb_100, zb_111, zb_112, zs_192, zs_255, zs_256, zs_511, zs_512, zs_12345, zf_X0_9_1, zf_X0_15_1, zf_X0_18_1, zf_X0_21_1, za_C_2, za_C_3, za_C_4, za_C_5, za_C_6, za_C_8, za_C_9, za_C_10, za_C_12, za_C_14, za_C_15, za_C_16, za_C_17, za_C_22, za_C_23, za_C_24, za_C_25, dX0_worth_0, dX0_worth_1, dX0_worth_2, dX0_worth_4, dX0_worth_7, dX0_worth_10, dX0_worth_11, dX0_worth_14, dX0_worth_15, dX0_worth_16, dX0_worth_19, dX0_worth_20, cr_X0_worth_28, wr_X7_within]
    simp only [n_geL (n := j) (M := 0) 0 rfl (by omega) (by omega), n_leL (n := j) (M := 0) 0 rfl (by omega) (by omega), n_ltL (n := j) (M := 0) 0 rfl (by omega) (by omega), n_gtL (n := j) (M := 0) 0 rfl (by omega) (by omega), n_eqL (n := j) (M := 0) 0 rfl (by omega) (by omega), n_geL (n := j) (M := 8) 8 rfl (by omega) (by omega), n_leL (n := j) (M := 8) 8 rfl (by omega) (by omega), n_ltL (n := j) (M := 8) 8 rfl (by omega) (by omega), n_gtL (n := j) (M := 8) 8 rfl (by omega) (by omega), n_eqL (n := j) (M := 8) 8 rfl (by omega) (by omega), n_cl (show j < 2147483648 by omega), (hb.2.2.2.2 j hj).1]
    exact ⟨fun _ => ⟨n_in (by omega) (by omega), hk⟩, fun c => absurd ⟨by omega, by omega⟩ c⟩
  · exact h.elim
theorem ok_X0_worth {tl : List ZE} : z_Ok (z_shC tl) yX0_worth cX0_worth 2 (some .int) ({ frames := 1, cells := 0, slots := 0, locals := 22 } : Room) 0 wp_X0_worth := z_Ok_of pu_X0_worth z_fX0_ok z_kX0_ok co_X0_worth ⟨by decide, by decide⟩ (by decide +kernel)
theorem rec_X0_worth {tl : List ZE} : z_rec (z_shC tl) wp_X0_worth 0 := by
  intro as S post h
  unfold wp_X0_worth at h
  split at h
  · exact ⟨_, _, _, rfl, rfl⟩
  · exact h.elim
def wp_X0_kind : ZW := fun as S k => match as with
  | [.ref 1, .int v] => ∃ (x : ZText) (j : Nat), v = nI j ∧ x.1 ≤ 35 ∧ j < ab_num 0 x ∧ c_books x S ∧ k (some (.int (nI (ab_kind x j)))) S
  | _ => False
theorem wr_X0_kind {v : Int32} {S : ZS} {k : Option Value → ZS → Prop} : wp_X0_kind [.ref 1, .int v] S k = (∃ (x : ZText) (j : Nat), v = nI j ∧ x.1 ≤ 35 ∧ j < ab_num 0 x ∧ c_books x S ∧ k (some (.int (nI (ab_kind x j)))) S) := rfl
def cs_X0_kind : List (Nat × ZC) := [(28, (3, 0, true, wp_X7_within))]
theorem cr_X0_kind_28 : cs_X0_kind.lookup 28 = some (3, 0, true, wp_X7_within) := rfl
set_option maxRecDepth 20000 in
theorem co_X0_kind {tl : List ZE} : z_csok RX0 ({ frames := 1, cells := 0, slots := 0, locals := 22 } : Room) (z_shC tl) cs_X0_kind := z_cs2 (z_csN (host := "NineBooks") ok_X7_within (z_gn 249 (by decide +kernel) rfl) (z_g 211 (by decide +kernel) rfl) (z_g 44 (by decide +kernel) rfl) (z_g 212 (by decide +kernel) rfl) rfl rfl (by decide +kernel) ⟨by decide, by decide⟩)
  (z_cs0)
set_option maxHeartbeats 4000000 in
set_option maxRecDepth 20000 in
theorem pu_X0_kind {tl : List ZE} : z_Pure cX0_kind 2 (z_shC tl) z_fX0 cs_X0_kind z_kcX0 z_klX0 (some .int) 0 wp_X0_kind := by
  intro as S post h
  unfold wp_X0_kind at h
  split at h
  · rename_i v
    refine ⟨Nat.le_of_ble_eq_true rfl, fun K hK => ?_⟩
    change K 0 0 [some (.ref 1), some (.int v)] [] S
    obtain ⟨x, j, rfl, hx, hj, hb, hk⟩ := h
    have hn := ab_numB hx
    refine hK (z_in []) 60 _ _ _ _ _ (Nat.zero_le _) ?_
    simp (config := { maxSteps := 10000000 }) only [z40, z20, z10, z01, zm0, z0m, ze_s, ze_ok, zt_s, zt_t, zt_f, zl_I, zl_J, zl_R, zl_N, zl_C, zl_K, zl_M, zl_ar0, zl_ar1, zl_ar2, zl_ar3, zl_as0, zl_as1, zl_as2, zl_al, zl_gf, zl_gr, zl_pf, zl_iv, zl_ivn, zlk_n, zlk_c, ztb_n, ztb_c, zin_n, zin_1, zin_c, Int.reduceLT, decide_true, decide_false, Bool.true_and, Bool.and_true, List.length_cons, List.length_nil, Int.reduceSub, Int.reduceEq, Int.natCast_zero, zk_s, z_in_n, z_in_c, z_gt_0, z_gt_s, zst_0, zst_1, zst_s, zsl_0, zsl_1, zsl_s, zc_n, zc_i, zc_l, zc_r, zc_u, zca_n, zca_i, zca_l, zca_r, zca_u, zrt_i, zrt_z, zrt_o, z_cal_0, z_cal_s, true_and, and_true, List.nil_append, List.cons_append, Option.toList_some, Option.toList_none, Nat.reduceAdd, Nat.reduceBEq, Nat.reduceLT, Nat.reduceLeDiff, Nat.reduceSub, Int.reduceAdd, Int.reduceLE, Int.reduceToNat, Int.cast_ofNat_Int, Bool.or_true, Bool.true_or, Bool.or_false, Bool.false_or, Nat.le_refl, Nat.zero_le, or_true, true_or, or_false, false_or, not_true_eq_false, not_false_eq_true, not_false_iff, false_implies, true_implies, eq_self, zo_iconst, zo_bipush, zo_sipush, zo_lconst, zo_ldc, zo_ldc_w, zo_ldc2_w, zo_iload_n, zo_iload, zo_lload_n, zo_lload, zo_aload_n, zo_aload, zo_istore_n, zo_istore, zo_lstore_n, zo_lstore, zo_astore_n, zo_astore, zo_iinc, zo_iadd, zo_isub, zo_imul, zo_iand, zo_ior, zo_ixor, zo_ishl, zo_ishr, zo_iushr, zo_idiv, zo_irem, zo_ladd, zo_lsub, zo_lmul, zo_ldiv, zo_lrem, zo_lcmp, zo_i2l, zo_i2b, zo_i2s, zo_dup, zo_dup2, zo_aconst_null, zo_if_icmp, zo_ifCond, zo_goto, zo_ifnull, zo_ifnonnull, zo_iaload, zo_baload, zo_laload, zo_aaload, zo_iastore, zo_bastore, zo_lastore, zo_arraylength, zo_getfield, zo_putfield, zo_tableswitch, zo_lookupswitch, zo_ireturn, zo_lreturn, zo_areturn, zo_return, zo_invokestatic, zo_invokevirtual, zo_new, zo_invokespecial, zo_newarray, zo_anewarray, zo_aastore, zy_0_1, zy_0_2, zy_0_3, zy_1_1, zy_1_2, zy_2_1, zy_2_2, zy_2_3, zy_3_0, zy_4_3, zy_5_1, zy_5_2, zy_6_5, zy_6_6, zy_6_7, zy_6_8, zy_6_9, zy_6_10, zy_7_2, zy_7_6, zy_7_9, zy_7_10, zy_7_11, zy_7_12, zy_7_14, zy_7_21, zy_7_30, zq_iconst, zq_bipush, zq_sipush, zq_lconst0, zq_lconst1, zq_ldc, zq_ldc_w, zq_ldc2_w, zq_iload0, zq_iload1, zq_iload2, zq_iload3, zq_iload, zq_lload0, zq_lload1, zq_lload2, zq_lload3, zq_lload, zq_aload0, zq_aload1, zq_aload2, zq_aload3, zq_aload, zq_istore0, zq_istore1, zq_istore2, zq_istore3, zq_istore, zq_lstore0, zq_lstore1, zq_lstore2, zq_lstore3, zq_lstore, zq_astore0, zq_astore0N, zq_astore1, zq_astore1N, zq_astore2, zq_astore2N, zq_astore3, zq_astore3N, zq_astore, zq_astoreN, zq_iinc, zq_iadd, zq_isub, zq_imul, zq_iand, zq_ior, zq_ixor, zq_ishl, zq_ishr, zq_iushr, zq_idiv, zq_irem, zq_ladd, zq_lsub, zq_lmul, zq_ldiv, zq_lrem, zq_lcmp, zq_i2l, zq_i2b, zq_i2s, zq_dup_i, zq_dup_r, zq_dup2, zq_null, zq_icmp_eq, zq_if_eq, zq_icmp_ne, zq_if_ne, zq_icmp_lt, zq_if_lt, zq_icmp_ge, zq_if_ge, zq_icmp_gt, zq_if_gt, zq_icmp_le, zq_if_le, zq_goto, zq_ifnull_r, zq_ifnull_n, zq_ifnonnull_r, zq_ifnonnull_n, zq_iaload, zq_baload, zq_laload, zq_aaload, zq_iastore, zq_bastore, zq_lastore, zq_alen, zq_getf, zq_put, zq_tsw, zq_lsw, zq_ireturn, zq_lreturn, zq_areturn, zq_areturnN, zq_return, zq_invokestatic, zq_invokevirtual, zq_new, zq_invokespecial, zq_newarray, zq_anewarray, zq_aastore, zi_m1, zi_0, zi_1, zi_2, zi_3, zi_4, zi_5, zi_6, zi_8, zi_16, zb_m10, zb_m4, zb_m3, zb_m2, zb_6, zb_7, zb_8, zb_9, zb_10, zb_16, zb_20, zb_23, zb_30, zb_32, zb_35, zb_46, zb_48, zb_56, zb_57, zb_59, zb_63, zb_70, zb_98, zb_99, zb_100, zb_111, zb_112, zs_192, zs_255, zs_256, zs_511, zs_512, zs_12345, zf_X0_9_1, zf_X0_15_1, zf_X0_18_1, zf_X0_21_1, za_C_2, za_C_3, za_C_4, za_C_5, za_C_6, za_C_8, za_C_9, za_C_10, za_C_12, za_C_14, za_C_15, za_C_16, za_C_17, za_C_22, za_C_23, za_C_24, za_C_25, dX0_kind_0, dX0_kind_1, dX0_kind_2, dX0_kind_4, dX0_kind_7, dX0_kind_10, dX0_kind_11, dX0_kind_14, dX0_kind_15, dX0_kind_16, dX0_kind_19, dX0_kind_20, cr_X0_kind_28, wr_X7_within]
    simp only [n_geL (n := j) (M := 0) 0 rfl (by omega) (by omega), n_leL (n := j) (M := 0) 0 rfl (by omega) (by omega), n_ltL (n := j) (M := 0) 0 rfl (by omega) (by omega), n_gtL (n := j) (M := 0) 0 rfl (by omega) (by omega), n_eqL (n := j) (M := 0) 0 rfl (by omega) (by omega), n_geL (n := j) (M := 8) 8 rfl (by omega) (by omega), n_leL (n := j) (M := 8) 8 rfl (by omega) (by omega), n_ltL (n := j) (M := 8) 8 rfl (by omega) (by omega), n_gtL (n := j) (M := 8) 8 rfl (by omega) (by omega), n_eqL (n := j) (M := 8) 8 rfl (by omega) (by omega), n_cl (show j < 2147483648 by omega), (hb.2.2.2.2 j hj).2.1]
    exact ⟨fun _ => ⟨n_in (by omega) (by omega), hk⟩, fun c => absurd ⟨by omega, by omega⟩ c⟩
  · exact h.elim
theorem ok_X0_kind {tl : List ZE} : z_Ok (z_shC tl) yX0_kind cX0_kind 2 (some .int) ({ frames := 1, cells := 0, slots := 0, locals := 22 } : Room) 0 wp_X0_kind := z_Ok_of pu_X0_kind z_fX0_ok z_kX0_ok co_X0_kind ⟨by decide, by decide⟩ (by decide +kernel)
theorem rec_X0_kind {tl : List ZE} : z_rec (z_shC tl) wp_X0_kind 0 := by
  intro as S post h
  unfold wp_X0_kind at h
  split at h
  · exact ⟨_, _, _, rfl, rfl⟩
  · exact h.elim
def wp_X0_leansOn : ZW := fun as S k => match as with
  | [.ref 1, .int v] => ∃ (x : ZText) (j : Nat), v = nI j ∧ x.1 ≤ 35 ∧ j < ab_num 0 x ∧ c_books x S ∧ k (some (.int (ab_lean32 x j))) S
  | _ => False
theorem wr_X0_leansOn {v : Int32} {S : ZS} {k : Option Value → ZS → Prop} : wp_X0_leansOn [.ref 1, .int v] S k = (∃ (x : ZText) (j : Nat), v = nI j ∧ x.1 ≤ 35 ∧ j < ab_num 0 x ∧ c_books x S ∧ k (some (.int (ab_lean32 x j))) S) := rfl
def cs_X0_leansOn : List (Nat × ZC) := [(28, (3, 0, true, wp_X7_within))]
theorem cr_X0_leansOn_28 : cs_X0_leansOn.lookup 28 = some (3, 0, true, wp_X7_within) := rfl
set_option maxRecDepth 20000 in
theorem co_X0_leansOn {tl : List ZE} : z_csok RX0 ({ frames := 1, cells := 0, slots := 0, locals := 22 } : Room) (z_shC tl) cs_X0_leansOn := z_cs2 (z_csN (host := "NineBooks") ok_X7_within (z_gn 249 (by decide +kernel) rfl) (z_g 211 (by decide +kernel) rfl) (z_g 44 (by decide +kernel) rfl) (z_g 212 (by decide +kernel) rfl) rfl rfl (by decide +kernel) ⟨by decide, by decide⟩)
  (z_cs0)
set_option maxHeartbeats 4000000 in
set_option maxRecDepth 20000 in
theorem pu_X0_leansOn {tl : List ZE} : z_Pure cX0_leansOn 2 (z_shC tl) z_fX0 cs_X0_leansOn z_kcX0 z_klX0 (some .int) 0 wp_X0_leansOn := by
  intro as S post h
  unfold wp_X0_leansOn at h
  split at h
  · rename_i v
    refine ⟨Nat.le_of_ble_eq_true rfl, fun K hK => ?_⟩
    change K 0 0 [some (.ref 1), some (.int v)] [] S
    obtain ⟨x, j, rfl, hx, hj, hb, hk⟩ := h
    have hn := ab_numB hx
    refine hK (z_in []) 60 _ _ _ _ _ (Nat.zero_le _) ?_
    simp (config := { maxSteps := 10000000 }) only [z40, z20, z10, z01, zm0, z0m, ze_s, ze_ok, zt_s, zt_t, zt_f, zl_I, zl_J, zl_R, zl_N, zl_C, zl_K, zl_M, zl_ar0, zl_ar1, zl_ar2, zl_ar3, zl_as0, zl_as1, zl_as2, zl_al, zl_gf, zl_gr, zl_pf, zl_iv, zl_ivn, zlk_n, zlk_c, ztb_n, ztb_c, zin_n, zin_1, zin_c, Int.reduceLT, decide_true, decide_false, Bool.true_and, Bool.and_true, List.length_cons, List.length_nil, Int.reduceSub, Int.reduceEq, Int.natCast_zero, zk_s, z_in_n, z_in_c, z_gt_0, z_gt_s, zst_0, zst_1, zst_s, zsl_0, zsl_1, zsl_s, zc_n, zc_i, zc_l, zc_r, zc_u, zca_n, zca_i, zca_l, zca_r, zca_u, zrt_i, zrt_z, zrt_o, z_cal_0, z_cal_s, true_and, and_true, List.nil_append, List.cons_append, Option.toList_some, Option.toList_none, Nat.reduceAdd, Nat.reduceBEq, Nat.reduceLT, Nat.reduceLeDiff, Nat.reduceSub, Int.reduceAdd, Int.reduceLE, Int.reduceToNat, Int.cast_ofNat_Int, Bool.or_true, Bool.true_or, Bool.or_false, Bool.false_or, Nat.le_refl, Nat.zero_le, or_true, true_or, or_false, false_or, not_true_eq_false, not_false_eq_true, not_false_iff, false_implies, true_implies, eq_self, zo_iconst, zo_bipush, zo_sipush, zo_lconst, zo_ldc, zo_ldc_w, zo_ldc2_w, zo_iload_n, zo_iload, zo_lload_n, zo_lload, zo_aload_n, zo_aload, zo_istore_n, zo_istore, zo_lstore_n, zo_lstore, zo_astore_n, zo_astore, zo_iinc, zo_iadd, zo_isub, zo_imul, zo_iand, zo_ior, zo_ixor, zo_ishl, zo_ishr, zo_iushr, zo_idiv, zo_irem, zo_ladd, zo_lsub, zo_lmul, zo_ldiv, zo_lrem, zo_lcmp, zo_i2l, zo_i2b, zo_i2s, zo_dup, zo_dup2, zo_aconst_null, zo_if_icmp, zo_ifCond, zo_goto, zo_ifnull, zo_ifnonnull, zo_iaload, zo_baload, zo_laload, zo_aaload, zo_iastore, zo_bastore, zo_lastore, zo_arraylength, zo_getfield, zo_putfield, zo_tableswitch, zo_lookupswitch, zo_ireturn, zo_lreturn, zo_areturn, zo_return, zo_invokestatic, zo_invokevirtual, zo_new, zo_invokespecial, zo_newarray, zo_anewarray, zo_aastore, zy_0_1, zy_0_2, zy_0_3, zy_1_1, zy_1_2, zy_2_1, zy_2_2, zy_2_3, zy_3_0, zy_4_3, zy_5_1, zy_5_2, zy_6_5, zy_6_6, zy_6_7, zy_6_8, zy_6_9, zy_6_10, zy_7_2, zy_7_6, zy_7_9, zy_7_10, zy_7_11, zy_7_12, zy_7_14, zy_7_21, zy_7_30, zq_iconst, zq_bipush, zq_sipush, zq_lconst0, zq_lconst1, zq_ldc, zq_ldc_w, zq_ldc2_w, zq_iload0, zq_iload1, zq_iload2, zq_iload3, zq_iload, zq_lload0, zq_lload1, zq_lload2, zq_lload3, zq_lload, zq_aload0, zq_aload1, zq_aload2, zq_aload3, zq_aload, zq_istore0, zq_istore1, zq_istore2, zq_istore3, zq_istore, zq_lstore0, zq_lstore1, zq_lstore2, zq_lstore3, zq_lstore, zq_astore0, zq_astore0N, zq_astore1, zq_astore1N, zq_astore2, zq_astore2N, zq_astore3, zq_astore3N, zq_astore, zq_astoreN, zq_iinc, zq_iadd, zq_isub, zq_imul, zq_iand, zq_ior, zq_ixor, zq_ishl, zq_ishr, zq_iushr, zq_idiv, zq_irem, zq_ladd, zq_lsub, zq_lmul, zq_ldiv, zq_lrem, zq_lcmp, zq_i2l, zq_i2b, zq_i2s, zq_dup_i, zq_dup_r, zq_dup2, zq_null, zq_icmp_eq, zq_if_eq, zq_icmp_ne, zq_if_ne, zq_icmp_lt, zq_if_lt, zq_icmp_ge, zq_if_ge, zq_icmp_gt, zq_if_gt, zq_icmp_le, zq_if_le, zq_goto, zq_ifnull_r, zq_ifnull_n, zq_ifnonnull_r, zq_ifnonnull_n, zq_iaload, zq_baload, zq_laload, zq_aaload, zq_iastore, zq_bastore, zq_lastore, zq_alen, zq_getf, zq_put, zq_tsw, zq_lsw, zq_ireturn, zq_lreturn, zq_areturn, zq_areturnN, zq_return, zq_invokestatic, zq_invokevirtual, zq_new, zq_invokespecial, zq_newarray, zq_anewarray, zq_aastore, zi_m1, zi_0, zi_1, zi_2, zi_3, zi_4, zi_5, zi_6, zi_8, zi_16, zb_m10, zb_m4, zb_m3, zb_m2, zb_6, zb_7, zb_8, zb_9, zb_10, zb_16, zb_20, zb_23, zb_30, zb_32, zb_35, zb_46, zb_48, zb_56, zb_57, zb_59, zb_63, zb_70, zb_98, zb_99, zb_100, zb_111, zb_112, zs_192, zs_255, zs_256, zs_511, zs_512, zs_12345, zf_X0_9_1, zf_X0_15_1, zf_X0_18_1, zf_X0_21_1, za_C_2, za_C_3, za_C_4, za_C_5, za_C_6, za_C_8, za_C_9, za_C_10, za_C_12, za_C_14, za_C_15, za_C_16, za_C_17, za_C_22, za_C_23, za_C_24, za_C_25, dX0_leansOn_0, dX0_leansOn_1, dX0_leansOn_2, dX0_leansOn_4, dX0_leansOn_7, dX0_leansOn_10, dX0_leansOn_11, dX0_leansOn_14, dX0_leansOn_15, dX0_leansOn_16, dX0_leansOn_19, dX0_leansOn_20, cr_X0_leansOn_28, wr_X7_within]
    simp only [n_geL (n := j) (M := 0) 0 rfl (by omega) (by omega), n_leL (n := j) (M := 0) 0 rfl (by omega) (by omega), n_ltL (n := j) (M := 0) 0 rfl (by omega) (by omega), n_gtL (n := j) (M := 0) 0 rfl (by omega) (by omega), n_eqL (n := j) (M := 0) 0 rfl (by omega) (by omega), n_geL (n := j) (M := 8) 8 rfl (by omega) (by omega), n_leL (n := j) (M := 8) 8 rfl (by omega) (by omega), n_ltL (n := j) (M := 8) 8 rfl (by omega) (by omega), n_gtL (n := j) (M := 8) 8 rfl (by omega) (by omega), n_eqL (n := j) (M := 8) 8 rfl (by omega) (by omega), n_cl (show j < 2147483648 by omega), (hb.2.2.2.2 j hj).2.2.1]
    exact ⟨fun _ => ⟨n_in (by omega) (by omega), hk⟩, fun c => absurd ⟨by omega, by omega⟩ c⟩
  · exact h.elim
theorem ok_X0_leansOn {tl : List ZE} : z_Ok (z_shC tl) yX0_leansOn cX0_leansOn 2 (some .int) ({ frames := 1, cells := 0, slots := 0, locals := 22 } : Room) 0 wp_X0_leansOn := z_Ok_of pu_X0_leansOn z_fX0_ok z_kX0_ok co_X0_leansOn ⟨by decide, by decide⟩ (by decide +kernel)
theorem rec_X0_leansOn {tl : List ZE} : z_rec (z_shC tl) wp_X0_leansOn 0 := by
  intro as S post h
  unfold wp_X0_leansOn at h
  split at h
  · exact ⟨_, _, _, rfl, rfl⟩
  · exact h.elim
def wp_X3_has : ZW := fun as S k => match as with
  | [.ref 7, .int v] => ∃ (x : ZText) (j : Nat), v = nI j ∧ x.1 ≤ 23 ∧ j < ab_num 1 x ∧ c_kings x S ∧ k (some (.int (nI (ab_has x j)))) S
  | _ => False
theorem wr_X3_has {v : Int32} {S : ZS} {k : Option Value → ZS → Prop} : wp_X3_has [.ref 7, .int v] S k = (∃ (x : ZText) (j : Nat), v = nI j ∧ x.1 ≤ 23 ∧ j < ab_num 1 x ∧ c_kings x S ∧ k (some (.int (nI (ab_has x j)))) S) := rfl
def cs_X3_has : List (Nat × ZC) := [(20, (3, 0, true, wp_X7_within))]
theorem cr_X3_has_20 : cs_X3_has.lookup 20 = some (3, 0, true, wp_X7_within) := rfl
set_option maxRecDepth 20000 in
theorem co_X3_has {tl : List ZE} : z_csok RX3 ({ frames := 1, cells := 0, slots := 0, locals := 22 } : Room) (z_shC tl) cs_X3_has := z_cs2 (z_csN (host := "NineBooks") ok_X7_within (z_gn 256 (by decide +kernel) rfl) (z_g 211 (by decide +kernel) rfl) (z_g 44 (by decide +kernel) rfl) (z_g 212 (by decide +kernel) rfl) rfl rfl (by decide +kernel) ⟨by decide, by decide⟩)
  (z_cs0)
set_option maxHeartbeats 4000000 in
set_option maxRecDepth 20000 in
theorem pu_X3_has {tl : List ZE} : z_Pure cX3_has 2 (z_shC tl) z_fX3 cs_X3_has z_kcX3 z_klX3 (some .int) 0 wp_X3_has := by
  intro as S post h
  unfold wp_X3_has at h
  split at h
  · rename_i v
    refine ⟨Nat.le_of_ble_eq_true rfl, fun K hK => ?_⟩
    change K 0 0 [some (.ref 7), some (.int v)] [] S
    obtain ⟨x, j, rfl, hx, hj, hb, hk⟩ := h
    have hn := ab_numK hx
    refine hK (z_in []) 60 _ _ _ _ _ (Nat.zero_le _) ?_
    simp (config := { maxSteps := 10000000 }) only [z40, z20, z10, z01, zm0, z0m, ze_s, ze_ok, zt_s, zt_t, zt_f, zl_I, zl_J, zl_R, zl_N, zl_C, zl_K, zl_M, zl_ar0, zl_ar1, zl_ar2, zl_ar3, zl_as0, zl_as1, zl_as2, zl_al, zl_gf, zl_gr, zl_pf, zl_iv, zl_ivn, zlk_n, zlk_c, ztb_n, ztb_c, zin_n, zin_1, zin_c, Int.reduceLT, decide_true, decide_false, Bool.true_and, Bool.and_true, List.length_cons, List.length_nil, Int.reduceSub, Int.reduceEq, Int.natCast_zero, zk_s, z_in_n, z_in_c, z_gt_0, z_gt_s, zst_0, zst_1, zst_s, zsl_0, zsl_1, zsl_s, zc_n, zc_i, zc_l, zc_r, zc_u, zca_n, zca_i, zca_l, zca_r, zca_u, zrt_i, zrt_z, zrt_o, z_cal_0, z_cal_s, true_and, and_true, List.nil_append, List.cons_append, Option.toList_some, Option.toList_none, Nat.reduceAdd, Nat.reduceBEq, Nat.reduceLT, Nat.reduceLeDiff, Nat.reduceSub, Int.reduceAdd, Int.reduceLE, Int.reduceToNat, Int.cast_ofNat_Int, Bool.or_true, Bool.true_or, Bool.or_false, Bool.false_or, Nat.le_refl, Nat.zero_le, or_true, true_or, or_false, false_or, not_true_eq_false, not_false_eq_true, not_false_iff, false_implies, true_implies, eq_self, zo_iconst, zo_bipush, zo_sipush, zo_lconst, zo_ldc, zo_ldc_w, zo_ldc2_w, zo_iload_n, zo_iload, zo_lload_n, zo_lload, zo_aload_n, zo_aload, zo_istore_n, zo_istore, zo_lstore_n, zo_lstore, zo_astore_n, zo_astore, zo_iinc, zo_iadd, zo_isub, zo_imul, zo_iand, zo_ior, zo_ixor, zo_ishl, zo_ishr, zo_iushr, zo_idiv, zo_irem, zo_ladd, zo_lsub, zo_lmul, zo_ldiv, zo_lrem, zo_lcmp, zo_i2l, zo_i2b, zo_i2s, zo_dup, zo_dup2, zo_aconst_null, zo_if_icmp, zo_ifCond, zo_goto, zo_ifnull, zo_ifnonnull, zo_iaload, zo_baload, zo_laload, zo_aaload, zo_iastore, zo_bastore, zo_lastore, zo_arraylength, zo_getfield, zo_putfield, zo_tableswitch, zo_lookupswitch, zo_ireturn, zo_lreturn, zo_areturn, zo_return, zo_invokestatic, zo_invokevirtual, zo_new, zo_invokespecial, zo_newarray, zo_anewarray, zo_aastore, zy_0_1, zy_0_2, zy_0_3, zy_1_1, zy_1_2, zy_2_1, zy_2_2, zy_2_3, zy_3_0, zy_4_3, zy_5_1, zy_5_2, zy_6_5, zy_6_6, zy_6_7, zy_6_8, zy_6_9, zy_6_10, zy_7_2, zy_7_6, zy_7_9, zy_7_10, zy_7_11, zy_7_12, zy_7_14, zy_7_21, zy_7_30, zq_iconst, zq_bipush, zq_sipush, zq_lconst0, zq_lconst1, zq_ldc, zq_ldc_w, zq_ldc2_w, zq_iload0, zq_iload1, zq_iload2, zq_iload3, zq_iload, zq_lload0, zq_lload1, zq_lload2, zq_lload3, zq_lload, zq_aload0, zq_aload1, zq_aload2, zq_aload3, zq_aload, zq_istore0, zq_istore1, zq_istore2, zq_istore3, zq_istore, zq_lstore0, zq_lstore1, zq_lstore2, zq_lstore3, zq_lstore, zq_astore0, zq_astore0N, zq_astore1, zq_astore1N, zq_astore2, zq_astore2N, zq_astore3, zq_astore3N, zq_astore, zq_astoreN, zq_iinc, zq_iadd, zq_isub, zq_imul, zq_iand, zq_ior, zq_ixor, zq_ishl, zq_ishr, zq_iushr, zq_idiv, zq_irem, zq_ladd, zq_lsub, zq_lmul, zq_ldiv, zq_lrem, zq_lcmp, zq_i2l, zq_i2b, zq_i2s, zq_dup_i, zq_dup_r, zq_dup2, zq_null, zq_icmp_eq, zq_if_eq, zq_icmp_ne, zq_if_ne, zq_icmp_lt, zq_if_lt, zq_icmp_ge, zq_if_ge, zq_icmp_gt, zq_if_gt, zq_icmp_le, zq_if_le, zq_goto, zq_ifnull_r, zq_ifnull_n, zq_ifnonnull_r, zq_ifnonnull_n, zq_iaload, zq_baload, zq_laload, zq_aaload, zq_iastore, zq_bastore, zq_lastore, zq_alen, zq_getf, zq_put, zq_tsw, zq_lsw, zq_ireturn, zq_lreturn, zq_areturn, zq_areturnN, zq_return, zq_invokestatic, zq_invokevirtual, zq_new, zq_invokespecial, zq_newarray, zq_anewarray, zq_aastore, zi_m1, zi_0, zi_1, zi_2, zi_3, zi_4, zi_5, zi_6, zi_8, zi_16, zb_m10, zb_m4, zb_m3, zb_m2, zb_6, zb_7, zb_8, zb_9, zb_10, zb_16, zb_20, zb_23, zb_30, zb_32, zb_35, zb_46, zb_48, zb_56, zb_57, zb_59, zb_63, zb_70, zb_98, zb_99, zb_100, zb_111, zb_112, zs_192, zs_255, zs_256, zs_511, zs_512, zs_12345, zf_X3_9_7, zf_X3_13_7, za_C_2, za_C_3, za_C_4, za_C_5, za_C_6, za_C_8, za_C_9, za_C_10, za_C_12, za_C_14, za_C_15, za_C_16, za_C_17, za_C_22, za_C_23, za_C_24, za_C_25, dX3_has_0, dX3_has_1, dX3_has_2, dX3_has_3, dX3_has_6, dX3_has_9, dX3_has_10, dX3_has_13, dX3_has_14, dX3_has_15, dX3_has_18, dX3_has_19, cr_X3_has_20, wr_X7_within]
    simp only [n_geL (n := j) (M := 0) 0 rfl (by omega) (by omega), n_leL (n := j) (M := 0) 0 rfl (by omega) (by omega), n_ltL (n := j) (M := 0) 0 rfl (by omega) (by omega), n_gtL (n := j) (M := 0) 0 rfl (by omega) (by omega), n_eqL (n := j) (M := 0) 0 rfl (by omega) (by omega), n_geL (n := j) (M := 5) 5 rfl (by omega) (by omega), n_leL (n := j) (M := 5) 5 rfl (by omega) (by omega), n_ltL (n := j) (M := 5) 5 rfl (by omega) (by omega), n_gtL (n := j) (M := 5) 5 rfl (by omega) (by omega), n_eqL (n := j) (M := 5) 5 rfl (by omega) (by omega), n_cl (show j < 2147483648 by omega), (hb.2.2.2.2 j hj).1]
    exact ⟨fun _ => ⟨n_in (by omega) (by omega), hk⟩, fun c => absurd ⟨by omega, by omega⟩ c⟩
  · exact h.elim
theorem ok_X3_has {tl : List ZE} : z_Ok (z_shC tl) yX3_has cX3_has 2 (some .int) ({ frames := 1, cells := 0, slots := 0, locals := 22 } : Room) 0 wp_X3_has := z_Ok_of pu_X3_has z_fX3_ok z_kX3_ok co_X3_has ⟨by decide, by decide⟩ (by decide +kernel)
theorem rec_X3_has {tl : List ZE} : z_rec (z_shC tl) wp_X3_has 2 := by
  intro as S post h
  unfold wp_X3_has at h
  split at h
  · exact ⟨_, _, _, rfl, rfl⟩
  · exact h.elim
def wp_X3_need : ZW := fun as S k => match as with
  | [.ref 7, .int v] => ∃ (x : ZText) (j : Nat), v = nI j ∧ x.1 ≤ 23 ∧ j < ab_num 1 x ∧ c_kings x S ∧ k (some (.int (nI (ab_need x j)))) S
  | _ => False
theorem wr_X3_need {v : Int32} {S : ZS} {k : Option Value → ZS → Prop} : wp_X3_need [.ref 7, .int v] S k = (∃ (x : ZText) (j : Nat), v = nI j ∧ x.1 ≤ 23 ∧ j < ab_num 1 x ∧ c_kings x S ∧ k (some (.int (nI (ab_need x j)))) S) := rfl
def cs_X3_need : List (Nat × ZC) := [(20, (3, 0, true, wp_X7_within))]
theorem cr_X3_need_20 : cs_X3_need.lookup 20 = some (3, 0, true, wp_X7_within) := rfl
set_option maxRecDepth 20000 in
theorem co_X3_need {tl : List ZE} : z_csok RX3 ({ frames := 1, cells := 0, slots := 0, locals := 22 } : Room) (z_shC tl) cs_X3_need := z_cs2 (z_csN (host := "NineBooks") ok_X7_within (z_gn 256 (by decide +kernel) rfl) (z_g 211 (by decide +kernel) rfl) (z_g 44 (by decide +kernel) rfl) (z_g 212 (by decide +kernel) rfl) rfl rfl (by decide +kernel) ⟨by decide, by decide⟩)
  (z_cs0)
set_option maxHeartbeats 4000000 in
set_option maxRecDepth 20000 in
theorem pu_X3_need {tl : List ZE} : z_Pure cX3_need 2 (z_shC tl) z_fX3 cs_X3_need z_kcX3 z_klX3 (some .int) 0 wp_X3_need := by
  intro as S post h
  unfold wp_X3_need at h
  split at h
  · rename_i v
    refine ⟨Nat.le_of_ble_eq_true rfl, fun K hK => ?_⟩
    change K 0 0 [some (.ref 7), some (.int v)] [] S
    obtain ⟨x, j, rfl, hx, hj, hb, hk⟩ := h
    have hn := ab_numK hx
    refine hK (z_in []) 60 _ _ _ _ _ (Nat.zero_le _) ?_
    simp (config := { maxSteps := 10000000 }) only [z40, z20, z10, z01, zm0, z0m, ze_s, ze_ok, zt_s, zt_t, zt_f, zl_I, zl_J, zl_R, zl_N, zl_C, zl_K, zl_M, zl_ar0, zl_ar1, zl_ar2, zl_ar3, zl_as0, zl_as1, zl_as2, zl_al, zl_gf, zl_gr, zl_pf, zl_iv, zl_ivn, zlk_n, zlk_c, ztb_n, ztb_c, zin_n, zin_1, zin_c, Int.reduceLT, decide_true, decide_false, Bool.true_and, Bool.and_true, List.length_cons, List.length_nil, Int.reduceSub, Int.reduceEq, Int.natCast_zero, zk_s, z_in_n, z_in_c, z_gt_0, z_gt_s, zst_0, zst_1, zst_s, zsl_0, zsl_1, zsl_s, zc_n, zc_i, zc_l, zc_r, zc_u, zca_n, zca_i, zca_l, zca_r, zca_u, zrt_i, zrt_z, zrt_o, z_cal_0, z_cal_s, true_and, and_true, List.nil_append, List.cons_append, Option.toList_some, Option.toList_none, Nat.reduceAdd, Nat.reduceBEq, Nat.reduceLT, Nat.reduceLeDiff, Nat.reduceSub, Int.reduceAdd, Int.reduceLE, Int.reduceToNat, Int.cast_ofNat_Int, Bool.or_true, Bool.true_or, Bool.or_false, Bool.false_or, Nat.le_refl, Nat.zero_le, or_true, true_or, or_false, false_or, not_true_eq_false, not_false_eq_true, not_false_iff, false_implies, true_implies, eq_self, zo_iconst, zo_bipush, zo_sipush, zo_lconst, zo_ldc, zo_ldc_w, zo_ldc2_w, zo_iload_n, zo_iload, zo_lload_n, zo_lload, zo_aload_n, zo_aload, zo_istore_n, zo_istore, zo_lstore_n, zo_lstore, zo_astore_n, zo_astore, zo_iinc, zo_iadd, zo_isub, zo_imul, zo_iand, zo_ior, zo_ixor, zo_ishl, zo_ishr, zo_iushr, zo_idiv, zo_irem, zo_ladd, zo_lsub, zo_lmul, zo_ldiv, zo_lrem, zo_lcmp, zo_i2l, zo_i2b, zo_i2s, zo_dup, zo_dup2, zo_aconst_null, zo_if_icmp, zo_ifCond, zo_goto, zo_ifnull, zo_ifnonnull, zo_iaload, zo_baload, zo_laload, zo_aaload, zo_iastore, zo_bastore, zo_lastore, zo_arraylength, zo_getfield, zo_putfield, zo_tableswitch, zo_lookupswitch, zo_ireturn, zo_lreturn, zo_areturn, zo_return, zo_invokestatic, zo_invokevirtual, zo_new, zo_invokespecial, zo_newarray, zo_anewarray, zo_aastore, zy_0_1, zy_0_2, zy_0_3, zy_1_1, zy_1_2, zy_2_1, zy_2_2, zy_2_3, zy_3_0, zy_4_3, zy_5_1, zy_5_2, zy_6_5, zy_6_6, zy_6_7, zy_6_8, zy_6_9, zy_6_10, zy_7_2, zy_7_6, zy_7_9, zy_7_10, zy_7_11, zy_7_12, zy_7_14, zy_7_21, zy_7_30, zq_iconst, zq_bipush, zq_sipush, zq_lconst0, zq_lconst1, zq_ldc, zq_ldc_w, zq_ldc2_w, zq_iload0, zq_iload1, zq_iload2, zq_iload3, zq_iload, zq_lload0, zq_lload1, zq_lload2, zq_lload3, zq_lload, zq_aload0, zq_aload1, zq_aload2, zq_aload3, zq_aload, zq_istore0, zq_istore1, zq_istore2, zq_istore3, zq_istore, zq_lstore0, zq_lstore1, zq_lstore2, zq_lstore3, zq_lstore, zq_astore0, zq_astore0N, zq_astore1, zq_astore1N, zq_astore2, zq_astore2N, zq_astore3, zq_astore3N, zq_astore, zq_astoreN, zq_iinc, zq_iadd, zq_isub, zq_imul, zq_iand, zq_ior, zq_ixor, zq_ishl, zq_ishr, zq_iushr, zq_idiv, zq_irem, zq_ladd, zq_lsub, zq_lmul, zq_ldiv, zq_lrem, zq_lcmp, zq_i2l, zq_i2b, zq_i2s, zq_dup_i, zq_dup_r, zq_dup2, zq_null, zq_icmp_eq, zq_if_eq, zq_icmp_ne, zq_if_ne, zq_icmp_lt, zq_if_lt, zq_icmp_ge, zq_if_ge, zq_icmp_gt, zq_if_gt, zq_icmp_le, zq_if_le, zq_goto, zq_ifnull_r, zq_ifnull_n, zq_ifnonnull_r, zq_ifnonnull_n, zq_iaload, zq_baload, zq_laload, zq_aaload, zq_iastore, zq_bastore, zq_lastore, zq_alen, zq_getf, zq_put, zq_tsw, zq_lsw, zq_ireturn, zq_lreturn, zq_areturn, zq_areturnN, zq_return, zq_invokestatic, zq_invokevirtual, zq_new, zq_invokespecial, zq_newarray, zq_anewarray, zq_aastore, zi_m1, zi_0, zi_1, zi_2, zi_3, zi_4, zi_5, zi_6, zi_8, zi_16, zb_m10, zb_m4, zb_m3, zb_m2, zb_6, zb_7, zb_8, zb_9, zb_10, zb_16, zb_20, zb_23, zb_30, zb_32, zb_35, zb_46, zb_48, zb_56, zb_57, zb_59, zb_63, zb_70, zb_98, zb_99, zb_100, zb_111, zb_112, zs_192, zs_255, zs_256, zs_511, zs_512, zs_12345, zf_X3_9_7, zf_X3_13_7, za_C_2, za_C_3, za_C_4, za_C_5, za_C_6, za_C_8, za_C_9, za_C_10, za_C_12, za_C_14, za_C_15, za_C_16, za_C_17, za_C_22, za_C_23, za_C_24, za_C_25, dX3_need_0, dX3_need_1, dX3_need_2, dX3_need_3, dX3_need_6, dX3_need_9, dX3_need_10, dX3_need_13, dX3_need_14, dX3_need_15, dX3_need_18, dX3_need_19, cr_X3_need_20, wr_X7_within]
    simp only [n_geL (n := j) (M := 0) 0 rfl (by omega) (by omega), n_leL (n := j) (M := 0) 0 rfl (by omega) (by omega), n_ltL (n := j) (M := 0) 0 rfl (by omega) (by omega), n_gtL (n := j) (M := 0) 0 rfl (by omega) (by omega), n_eqL (n := j) (M := 0) 0 rfl (by omega) (by omega), n_geL (n := j) (M := 5) 5 rfl (by omega) (by omega), n_leL (n := j) (M := 5) 5 rfl (by omega) (by omega), n_ltL (n := j) (M := 5) 5 rfl (by omega) (by omega), n_gtL (n := j) (M := 5) 5 rfl (by omega) (by omega), n_eqL (n := j) (M := 5) 5 rfl (by omega) (by omega), n_cl (show j < 2147483648 by omega), (hb.2.2.2.2 j hj).2]
    exact ⟨fun _ => ⟨n_in (by omega) (by omega), hk⟩, fun c => absurd ⟨by omega, by omega⟩ c⟩
  · exact h.elim
theorem ok_X3_need {tl : List ZE} : z_Ok (z_shC tl) yX3_need cX3_need 2 (some .int) ({ frames := 1, cells := 0, slots := 0, locals := 22 } : Room) 0 wp_X3_need := z_Ok_of pu_X3_need z_fX3_ok z_kX3_ok co_X3_need ⟨by decide, by decide⟩ (by decide +kernel)
theorem rec_X3_need {tl : List ZE} : z_rec (z_shC tl) wp_X3_need 2 := by
  intro as S post h
  unfold wp_X3_need at h
  split at h
  · exact ⟨_, _, _, rfl, rfl⟩
  · exact h.elim
def wp_X0_useOf : ZW := fun as S k => match as with
  | [.ref 1, .int v] => ∃ (x : ZText) (s : Nat), v = nI s ∧ x.1 ≤ 35 ∧ c_books x S ∧ k (some (.int (nI (ab_use x (s &&& ab_every x))))) S
  | _ => False
theorem wr_X0_useOf {v : Int32} {S : ZS} {k : Option Value → ZS → Prop} : wp_X0_useOf [.ref 1, .int v] S k = (∃ (x : ZText) (s : Nat), v = nI s ∧ x.1 ≤ 35 ∧ c_books x S ∧ k (some (.int (nI (ab_use x (s &&& ab_every x))))) S) := rfl
def cs_X0_useOf : List (Nat × ZC) := [(36, (1, 0, false, wp_X2_every_B))]
theorem cr_X0_useOf_36 : cs_X0_useOf.lookup 36 = some (1, 0, false, wp_X2_every_B) := rfl
set_option maxRecDepth 20000 in
theorem co_X0_useOf {tl : List ZE} : z_csok RX0 ({ frames := 1, cells := 0, slots := 0, locals := 20 } : Room) (z_shC tl) cs_X0_useOf := z_cs2 (z_csU (owner := "NineBooks$Entries") (x := ⟨"NineBooks$Books", "every", "()I"⟩) ok_X2_every_B rec_X2_every_B rfl (Or.inl (z_gn 387 (by decide +kernel) rfl)) (z_g 406 (by decide +kernel) rfl) (z_g 389 (by decide +kernel) rfl) (z_g 388 (by decide +kernel) rfl) (z_g 390 (by decide +kernel) rfl) (z_g 45 (by decide +kernel) rfl) (z_g 386 (by decide +kernel) rfl) rfl rfl (by decide +kernel) ⟨by decide, by decide⟩)
  (z_cs0)
set_option maxHeartbeats 4000000 in
set_option maxRecDepth 20000 in
theorem pu_X0_useOf {tl : List ZE} : z_Pure cX0_useOf 6 (z_shC tl) z_fX0 cs_X0_useOf z_kcX0 z_klX0 (some .int) 0 wp_X0_useOf := by
  intro as S post h
  unfold wp_X0_useOf at h
  split at h
  · rename_i v
    refine ⟨Nat.le_of_ble_eq_true rfl, fun K hK => ?_⟩
    change K 0 0 [some (.ref 1), some (.int v), none, none, none, none] [] S
    obtain ⟨x, s, rfl, hx, hb, hk⟩ := h
    have hn := ab_numB hx
    have hs := ab_mask_lt (x := x) s
    have hs5 : s &&& ab_every x < 512 := by have := ab_every_lt hx; have : s &&& ab_every x ≤ ab_every x := Nat.and_le_right; omega
    have h3 := hb.2.2.2.1
    have key : ∀ (n b : Nat) (c5 : Option Value), b + n = 9 → K 0 12 [some (.ref 1), some (.int (nI s)), some (.int (nI (s &&& ab_every x))), some (.int (nI (ab_useN x (s &&& ab_every x) b))), some (.int (nI b)), c5] [] S := by
      intro n
      induction n with
      | zero =>
        intro b c5 hb9
        refine hK (z_in [12]) 80 _ _ _ _ _ (Nat.zero_le _) ?_
        simp (config := { maxSteps := 10000000 }) only [z40, z20, z10, z01, zm0, z0m, ze_s, ze_ok, zt_s, zt_t, zt_f, zl_I, zl_J, zl_R, zl_N, zl_C, zl_K, zl_M, zl_ar0, zl_ar1, zl_ar2, zl_ar3, zl_as0, zl_as1, zl_as2, zl_al, zl_gf, zl_gr, zl_pf, zl_iv, zl_ivn, zlk_n, zlk_c, ztb_n, ztb_c, zin_n, zin_1, zin_c, Int.reduceLT, decide_true, decide_false, Bool.true_and, Bool.and_true, List.length_cons, List.length_nil, Int.reduceSub, Int.reduceEq, Int.natCast_zero, zk_s, z_in_n, z_in_c, z_gt_0, z_gt_s, zst_0, zst_1, zst_s, zsl_0, zsl_1, zsl_s, zc_n, zc_i, zc_l, zc_r, zc_u, zca_n, zca_i, zca_l, zca_r, zca_u, zrt_i, zrt_z, zrt_o, z_cal_0, z_cal_s, true_and, and_true, List.nil_append, List.cons_append, Option.toList_some, Option.toList_none, Nat.reduceAdd, Nat.reduceBEq, Nat.reduceLT, Nat.reduceLeDiff, Nat.reduceSub, Int.reduceAdd, Int.reduceLE, Int.reduceToNat, Int.cast_ofNat_Int, Bool.or_true, Bool.true_or, Bool.or_false, Bool.false_or, Nat.le_refl, Nat.zero_le, or_true, true_or, or_false, false_or, not_true_eq_false, not_false_eq_true, not_false_iff, false_implies, true_implies, eq_self, zo_iconst, zo_bipush, zo_sipush, zo_lconst, zo_ldc, zo_ldc_w, zo_ldc2_w, zo_iload_n, zo_iload, zo_lload_n, zo_lload, zo_aload_n, zo_aload, zo_istore_n, zo_istore, zo_lstore_n, zo_lstore, zo_astore_n, zo_astore, zo_iinc, zo_iadd, zo_isub, zo_imul, zo_iand, zo_ior, zo_ixor, zo_ishl, zo_ishr, zo_iushr, zo_idiv, zo_irem, zo_ladd, zo_lsub, zo_lmul, zo_ldiv, zo_lrem, zo_lcmp, zo_i2l, zo_i2b, zo_i2s, zo_dup, zo_dup2, zo_aconst_null, zo_if_icmp, zo_ifCond, zo_goto, zo_ifnull, zo_ifnonnull, zo_iaload, zo_baload, zo_laload, zo_aaload, zo_iastore, zo_bastore, zo_lastore, zo_arraylength, zo_getfield, zo_putfield, zo_tableswitch, zo_lookupswitch, zo_ireturn, zo_lreturn, zo_areturn, zo_return, zo_invokestatic, zo_invokevirtual, zo_new, zo_invokespecial, zo_newarray, zo_anewarray, zo_aastore, zy_0_1, zy_0_2, zy_0_3, zy_1_1, zy_1_2, zy_2_1, zy_2_2, zy_2_3, zy_3_0, zy_4_3, zy_5_1, zy_5_2, zy_6_5, zy_6_6, zy_6_7, zy_6_8, zy_6_9, zy_6_10, zy_7_2, zy_7_6, zy_7_9, zy_7_10, zy_7_11, zy_7_12, zy_7_14, zy_7_21, zy_7_30, zq_iconst, zq_bipush, zq_sipush, zq_lconst0, zq_lconst1, zq_ldc, zq_ldc_w, zq_ldc2_w, zq_iload0, zq_iload1, zq_iload2, zq_iload3, zq_iload, zq_lload0, zq_lload1, zq_lload2, zq_lload3, zq_lload, zq_aload0, zq_aload1, zq_aload2, zq_aload3, zq_aload, zq_istore0, zq_istore1, zq_istore2, zq_istore3, zq_istore, zq_lstore0, zq_lstore1, zq_lstore2, zq_lstore3, zq_lstore, zq_astore0, zq_astore0N, zq_astore1, zq_astore1N, zq_astore2, zq_astore2N, zq_astore3, zq_astore3N, zq_astore, zq_astoreN, zq_iinc, zq_iadd, zq_isub, zq_imul, zq_iand, zq_ior, zq_ixor, zq_ishl, zq_ishr, zq_iushr, zq_idiv, zq_irem, zq_ladd, zq_lsub, zq_lmul, zq_ldiv, zq_lrem, zq_lcmp, zq_i2l, zq_i2b, zq_i2s, zq_dup_i, zq_dup_r, zq_dup2, zq_null, zq_icmp_eq, zq_if_eq, zq_icmp_ne, zq_if_ne, zq_icmp_lt, zq_if_lt, zq_icmp_ge, zq_if_ge, zq_icmp_gt, zq_if_gt, zq_icmp_le, zq_if_le, zq_goto, zq_ifnull_r, zq_ifnull_n, zq_ifnonnull_r, zq_ifnonnull_n, zq_iaload, zq_baload, zq_laload, zq_aaload, zq_iastore, zq_bastore, zq_lastore, zq_alen, zq_getf, zq_put, zq_tsw, zq_lsw, zq_ireturn, zq_lreturn, zq_areturn, zq_areturnN, zq_return, zq_invokestatic, zq_invokevirtual, zq_new, zq_invokespecial, zq_newarray, zq_anewarray, zq_aastore, zi_m1, zi_0, zi_1, zi_2, zi_3, zi_4, zi_5, zi_6, zi_8, zi_16, zb_m10, zb_m4, zb_m3, zb_m2, zb_6, zb_7, zb_8, zb_9, zb_10, zb_16, zb_20, zb_23, zb_30, zb_32, zb_35, zb_46, zb_48, zb_56, zb_57, zb_59, zb_63, zb_70, zb_98, zb_99, zb_100, zb_111, zb_112, zs_192, zs_255, zs_256, zs_511, zs_512, zs_12345, zf_X0_9_1, zf_X0_15_1, zf_X0_18_1, zf_X0_21_1, za_C_2, za_C_3, za_C_4, za_C_5, za_C_6, za_C_8, za_C_9, za_C_10, za_C_12, za_C_14, za_C_15, za_C_16, za_C_17, za_C_22, za_C_23, za_C_24, za_C_25, dX0_useOf_0, dX0_useOf_1, dX0_useOf_2, dX0_useOf_5, dX0_useOf_6, dX0_useOf_7, dX0_useOf_8, dX0_useOf_9, dX0_useOf_10, dX0_useOf_12, dX0_useOf_14, dX0_useOf_16, dX0_useOf_19, dX0_useOf_20, dX0_useOf_23, dX0_useOf_25, dX0_useOf_26, dX0_useOf_27, dX0_useOf_30, dX0_useOf_31, dX0_useOf_32, dX0_useOf_35, dX0_useOf_37, dX0_useOf_38, dX0_useOf_39, dX0_useOf_40, dX0_useOf_41, dX0_useOf_42, dX0_useOf_45, dX0_useOf_46, dX0_useOf_49, dX0_useOf_50, dX0_useOf_52, dX0_useOf_53, dX0_useOf_55, dX0_useOf_56, dX0_useOf_57, dX0_useOf_58, dX0_useOf_59, dX0_useOf_62, dX0_useOf_64, dX0_useOf_67, dX0_useOf_68, dX0_useOf_69, dX0_useOf_72, dX0_useOf_74, dX0_useOf_75, dX0_useOf_76, dX0_useOf_77, dX0_useOf_80, dX0_useOf_83, dX0_useOf_84, cr_X0_useOf_36, wr_X2_every_B]
        have e : b = 9 := by omega
        subst e
        exact ⟨fun _ => hk, fun c => absurd (by decide) c⟩
      | succ n ih =>
        intro b c5 hb9
        refine hK (z_in [12]) 80 _ _ _ _ _ (Nat.zero_le _) ?_
        simp (config := { maxSteps := 10000000 }) only [z40, z20, z10, z01, zm0, z0m, ze_s, ze_ok, zt_s, zt_t, zt_f, zl_I, zl_J, zl_R, zl_N, zl_C, zl_K, zl_M, zl_ar0, zl_ar1, zl_ar2, zl_ar3, zl_as0, zl_as1, zl_as2, zl_al, zl_gf, zl_gr, zl_pf, zl_iv, zl_ivn, zlk_n, zlk_c, ztb_n, ztb_c, zin_n, zin_1, zin_c, Int.reduceLT, decide_true, decide_false, Bool.true_and, Bool.and_true, List.length_cons, List.length_nil, Int.reduceSub, Int.reduceEq, Int.natCast_zero, zk_s, z_in_n, z_in_c, z_gt_0, z_gt_s, zst_0, zst_1, zst_s, zsl_0, zsl_1, zsl_s, zc_n, zc_i, zc_l, zc_r, zc_u, zca_n, zca_i, zca_l, zca_r, zca_u, zrt_i, zrt_z, zrt_o, z_cal_0, z_cal_s, true_and, and_true, List.nil_append, List.cons_append, Option.toList_some, Option.toList_none, Nat.reduceAdd, Nat.reduceBEq, Nat.reduceLT, Nat.reduceLeDiff, Nat.reduceSub, Int.reduceAdd, Int.reduceLE, Int.reduceToNat, Int.cast_ofNat_Int, Bool.or_true, Bool.true_or, Bool.or_false, Bool.false_or, Nat.le_refl, Nat.zero_le, or_true, true_or, or_false, false_or, not_true_eq_false, not_false_eq_true, not_false_iff, false_implies, true_implies, eq_self, zo_iconst, zo_bipush, zo_sipush, zo_lconst, zo_ldc, zo_ldc_w, zo_ldc2_w, zo_iload_n, zo_iload, zo_lload_n, zo_lload, zo_aload_n, zo_aload, zo_istore_n, zo_istore, zo_lstore_n, zo_lstore, zo_astore_n, zo_astore, zo_iinc, zo_iadd, zo_isub, zo_imul, zo_iand, zo_ior, zo_ixor, zo_ishl, zo_ishr, zo_iushr, zo_idiv, zo_irem, zo_ladd, zo_lsub, zo_lmul, zo_ldiv, zo_lrem, zo_lcmp, zo_i2l, zo_i2b, zo_i2s, zo_dup, zo_dup2, zo_aconst_null, zo_if_icmp, zo_ifCond, zo_goto, zo_ifnull, zo_ifnonnull, zo_iaload, zo_baload, zo_laload, zo_aaload, zo_iastore, zo_bastore, zo_lastore, zo_arraylength, zo_getfield, zo_putfield, zo_tableswitch, zo_lookupswitch, zo_ireturn, zo_lreturn, zo_areturn, zo_return, zo_invokestatic, zo_invokevirtual, zo_new, zo_invokespecial, zo_newarray, zo_anewarray, zo_aastore, zy_0_1, zy_0_2, zy_0_3, zy_1_1, zy_1_2, zy_2_1, zy_2_2, zy_2_3, zy_3_0, zy_4_3, zy_5_1, zy_5_2, zy_6_5, zy_6_6, zy_6_7, zy_6_8, zy_6_9, zy_6_10, zy_7_2, zy_7_6, zy_7_9, zy_7_10, zy_7_11, zy_7_12, zy_7_14, zy_7_21, zy_7_30, zq_iconst, zq_bipush, zq_sipush, zq_lconst0, zq_lconst1, zq_ldc, zq_ldc_w, zq_ldc2_w, zq_iload0, zq_iload1, zq_iload2, zq_iload3, zq_iload, zq_lload0, zq_lload1, zq_lload2, zq_lload3, zq_lload, zq_aload0, zq_aload1, zq_aload2, zq_aload3, zq_aload, zq_istore0, zq_istore1, zq_istore2, zq_istore3, zq_istore, zq_lstore0, zq_lstore1, zq_lstore2, zq_lstore3, zq_lstore, zq_astore0, zq_astore0N, zq_astore1, zq_astore1N, zq_astore2, zq_astore2N, zq_astore3, zq_astore3N, zq_astore, zq_astoreN, zq_iinc, zq_iadd, zq_isub, zq_imul, zq_iand, zq_ior, zq_ixor, zq_ishl, zq_ishr, zq_iushr, zq_idiv, zq_irem, zq_ladd, zq_lsub, zq_lmul, zq_ldiv, zq_lrem, zq_lcmp, zq_i2l, zq_i2b, zq_i2s, zq_dup_i, zq_dup_r, zq_dup2, zq_null, zq_icmp_eq, zq_if_eq, zq_icmp_ne, zq_if_ne, zq_icmp_lt, zq_if_lt, zq_icmp_ge, zq_if_ge, zq_icmp_gt, zq_if_gt, zq_icmp_le, zq_if_le, zq_goto, zq_ifnull_r, zq_ifnull_n, zq_ifnonnull_r, zq_ifnonnull_n, zq_iaload, zq_baload, zq_laload, zq_aaload, zq_iastore, zq_bastore, zq_lastore, zq_alen, zq_getf, zq_put, zq_tsw, zq_lsw, zq_ireturn, zq_lreturn, zq_areturn, zq_areturnN, zq_return, zq_invokestatic, zq_invokevirtual, zq_new, zq_invokespecial, zq_newarray, zq_anewarray, zq_aastore, zi_m1, zi_0, zi_1, zi_2, zi_3, zi_4, zi_5, zi_6, zi_8, zi_16, zb_m10, zb_m4, zb_m3, zb_m2, zb_6, zb_7, zb_8, zb_9, zb_10, zb_16, zb_20, zb_23, zb_30, zb_32, zb_35, zb_46, zb_48, zb_56, zb_57, zb_59, zb_63, zb_70, zb_98, zb_99, zb_100, zb_111, zb_112, zs_192, zs_255, zs_256, zs_511, zs_512, zs_12345, zf_X0_9_1, zf_X0_15_1, zf_X0_18_1, zf_X0_21_1, za_C_2, za_C_3, za_C_4, za_C_5, za_C_6, za_C_8, za_C_9, za_C_10, za_C_12, za_C_14, za_C_15, za_C_16, za_C_17, za_C_22, za_C_23, za_C_24, za_C_25, dX0_useOf_0, dX0_useOf_1, dX0_useOf_2, dX0_useOf_5, dX0_useOf_6, dX0_useOf_7, dX0_useOf_8, dX0_useOf_9, dX0_useOf_10, dX0_useOf_12, dX0_useOf_14, dX0_useOf_16, dX0_useOf_19, dX0_useOf_20, dX0_useOf_23, dX0_useOf_25, dX0_useOf_26, dX0_useOf_27, dX0_useOf_30, dX0_useOf_31, dX0_useOf_32, dX0_useOf_35, dX0_useOf_37, dX0_useOf_38, dX0_useOf_39, dX0_useOf_40, dX0_useOf_41, dX0_useOf_42, dX0_useOf_45, dX0_useOf_46, dX0_useOf_49, dX0_useOf_50, dX0_useOf_52, dX0_useOf_53, dX0_useOf_55, dX0_useOf_56, dX0_useOf_57, dX0_useOf_58, dX0_useOf_59, dX0_useOf_62, dX0_useOf_64, dX0_useOf_67, dX0_useOf_68, dX0_useOf_69, dX0_useOf_72, dX0_useOf_74, dX0_useOf_75, dX0_useOf_76, dX0_useOf_77, dX0_useOf_80, dX0_useOf_83, dX0_useOf_84, cr_X0_useOf_36, wr_X2_every_B]
        have hin : vp_in (nI b) 9 := n_in (by omega) (by omega)
        generalize hw : s &&& ab_every x = w at *
        simp only [n_cl (show b < 2147483648 by omega), n_geL (n := b) (M := 8) 8 rfl (by omega) (by omega), n_leL (n := b) (M := 8) 8 rfl (by omega) (by omega), n_ltL (n := b) (M := 8) 8 rfl (by omega) (by omega), n_gtL (n := b) (M := 8) 8 rfl (by omega) (by omega), n_eqL (n := b) (M := 8) 8 rfl (by omega) (by omega), nI_1]
        have ebit := bt_is w hs5 b (by omega)
        have efact : w.testBit b = true → S.1 6 b = nI (ab_alone x b) ∧ ((S.1 5 b = -1 ∨ nI w >>> (S.1 5 b &&& 31) &&& 1 = 1) ↔ (ab_lean x b = 99 ∨ w.testBit (ab_lean x b) = true)) := by
          intro hbt
          have hbN := bt_low hbt hs
          obtain ⟨-, -, f5, f6⟩ := hb.2.2.2.2 b hbN
          refine ⟨f6, ?_⟩
          rw [f5]
          rcases ab_lean_le hx hbN with ⟨l1, l2⟩ | ⟨l1, l2⟩
          · rw [l1, l2]; simp
          · rw [l2, bt_is w hs5 _ (by omega)]
            have n1 : ¬ nI (ab_lean x b) = -1 := by
              rw [i_eq, n_ti (by omega)]
              have : (-1 : Int32).toInt = -1 := by decide
              omega
            constructor
            · rintro (q | q)
              · exact absurd q n1
              · exact Or.inr q
            · rintro (q | q)
              · omega
              · exact Or.inr q
        have e1 : ∀ c5 : Option Value, nI w >>> (nI b &&& 31) &&& 1 = 1 → (S.1 5 b = -1 ∨ nI w >>> (S.1 5 b &&& 31) &&& 1 = 1) → K 0 12 [some (.ref 1), some (.int (nI s)), some (.int (nI w)), some (.int (nI (ab_useN x w b) + S.1 6 b)), some (.int (nI (b + 1))), c5] [] S := by
          intro c5 h1 h2
          have hbt := ebit.mp h1
          obtain ⟨f1, f2⟩ := efact hbt
          have := ih (b + 1) c5 (by omega)
          rw [f1, nI_add]
          unfold ab_useN ab_term at this
          rw [if_pos ⟨hbt, f2.mp h2⟩] at this
          exact this
        have e2 : ∀ c5 : Option Value, ¬ (nI w >>> (nI b &&& 31) &&& 1 = 1 ∧ (S.1 5 b = -1 ∨ nI w >>> (S.1 5 b &&& 31) &&& 1 = 1)) → K 0 12 [some (.ref 1), some (.int (nI s)), some (.int (nI w)), some (.int (nI (ab_useN x w b))), some (.int (nI (b + 1))), c5] [] S := by
          intro c5 h1
          have := ih (b + 1) c5 (by omega)
          unfold ab_useN ab_term at this
          rw [if_neg (fun q => h1 ⟨ebit.mpr q.1, (efact q.1).2.mpr q.2⟩)] at this
          exact this
        exact ⟨fun c => absurd c (by omega), fun _ => ⟨hin, fun c1 => ⟨fun c2 => ⟨hin, e1 _ c2 (Or.inl c1)⟩, fun c2 => e2 _ (fun h => c2 h.1)⟩, fun c1 => ⟨hin, fun c2 => ⟨fun c3 => ⟨hin, e1 _ c3 (Or.inr c2)⟩, fun c3 => e2 _ (fun h => c3 h.1)⟩, fun c2 => ⟨fun c3 => e2 _ (fun h => h.2.elim c1 c2), fun c3 => e2 _ (fun h => c3 h.1)⟩⟩⟩⟩
    refine hK (z_in [12]) 80 _ _ _ _ _ (Nat.zero_le _) ?_
    simp (config := { maxSteps := 10000000 }) only [z40, z20, z10, z01, zm0, z0m, ze_s, ze_ok, zt_s, zt_t, zt_f, zl_I, zl_J, zl_R, zl_N, zl_C, zl_K, zl_M, zl_ar0, zl_ar1, zl_ar2, zl_ar3, zl_as0, zl_as1, zl_as2, zl_al, zl_gf, zl_gr, zl_pf, zl_iv, zl_ivn, zlk_n, zlk_c, ztb_n, ztb_c, zin_n, zin_1, zin_c, Int.reduceLT, decide_true, decide_false, Bool.true_and, Bool.and_true, List.length_cons, List.length_nil, Int.reduceSub, Int.reduceEq, Int.natCast_zero, zk_s, z_in_n, z_in_c, z_gt_0, z_gt_s, zst_0, zst_1, zst_s, zsl_0, zsl_1, zsl_s, zc_n, zc_i, zc_l, zc_r, zc_u, zca_n, zca_i, zca_l, zca_r, zca_u, zrt_i, zrt_z, zrt_o, z_cal_0, z_cal_s, true_and, and_true, List.nil_append, List.cons_append, Option.toList_some, Option.toList_none, Nat.reduceAdd, Nat.reduceBEq, Nat.reduceLT, Nat.reduceLeDiff, Nat.reduceSub, Int.reduceAdd, Int.reduceLE, Int.reduceToNat, Int.cast_ofNat_Int, Bool.or_true, Bool.true_or, Bool.or_false, Bool.false_or, Nat.le_refl, Nat.zero_le, or_true, true_or, or_false, false_or, not_true_eq_false, not_false_eq_true, not_false_iff, false_implies, true_implies, eq_self, zo_iconst, zo_bipush, zo_sipush, zo_lconst, zo_ldc, zo_ldc_w, zo_ldc2_w, zo_iload_n, zo_iload, zo_lload_n, zo_lload, zo_aload_n, zo_aload, zo_istore_n, zo_istore, zo_lstore_n, zo_lstore, zo_astore_n, zo_astore, zo_iinc, zo_iadd, zo_isub, zo_imul, zo_iand, zo_ior, zo_ixor, zo_ishl, zo_ishr, zo_iushr, zo_idiv, zo_irem, zo_ladd, zo_lsub, zo_lmul, zo_ldiv, zo_lrem, zo_lcmp, zo_i2l, zo_i2b, zo_i2s, zo_dup, zo_dup2, zo_aconst_null, zo_if_icmp, zo_ifCond, zo_goto, zo_ifnull, zo_ifnonnull, zo_iaload, zo_baload, zo_laload, zo_aaload, zo_iastore, zo_bastore, zo_lastore, zo_arraylength, zo_getfield, zo_putfield, zo_tableswitch, zo_lookupswitch, zo_ireturn, zo_lreturn, zo_areturn, zo_return, zo_invokestatic, zo_invokevirtual, zo_new, zo_invokespecial, zo_newarray, zo_anewarray, zo_aastore, zy_0_1, zy_0_2, zy_0_3, zy_1_1, zy_1_2, zy_2_1, zy_2_2, zy_2_3, zy_3_0, zy_4_3, zy_5_1, zy_5_2, zy_6_5, zy_6_6, zy_6_7, zy_6_8, zy_6_9, zy_6_10, zy_7_2, zy_7_6, zy_7_9, zy_7_10, zy_7_11, zy_7_12, zy_7_14, zy_7_21, zy_7_30, zq_iconst, zq_bipush, zq_sipush, zq_lconst0, zq_lconst1, zq_ldc, zq_ldc_w, zq_ldc2_w, zq_iload0, zq_iload1, zq_iload2, zq_iload3, zq_iload, zq_lload0, zq_lload1, zq_lload2, zq_lload3, zq_lload, zq_aload0, zq_aload1, zq_aload2, zq_aload3, zq_aload, zq_istore0, zq_istore1, zq_istore2, zq_istore3, zq_istore, zq_lstore0, zq_lstore1, zq_lstore2, zq_lstore3, zq_lstore, zq_astore0, zq_astore0N, zq_astore1, zq_astore1N, zq_astore2, zq_astore2N, zq_astore3, zq_astore3N, zq_astore, zq_astoreN, zq_iinc, zq_iadd, zq_isub, zq_imul, zq_iand, zq_ior, zq_ixor, zq_ishl, zq_ishr, zq_iushr, zq_idiv, zq_irem, zq_ladd, zq_lsub, zq_lmul, zq_ldiv, zq_lrem, zq_lcmp, zq_i2l, zq_i2b, zq_i2s, zq_dup_i, zq_dup_r, zq_dup2, zq_null, zq_icmp_eq, zq_if_eq, zq_icmp_ne, zq_if_ne, zq_icmp_lt, zq_if_lt, zq_icmp_ge, zq_if_ge, zq_icmp_gt, zq_if_gt, zq_icmp_le, zq_if_le, zq_goto, zq_ifnull_r, zq_ifnull_n, zq_ifnonnull_r, zq_ifnonnull_n, zq_iaload, zq_baload, zq_laload, zq_aaload, zq_iastore, zq_bastore, zq_lastore, zq_alen, zq_getf, zq_put, zq_tsw, zq_lsw, zq_ireturn, zq_lreturn, zq_areturn, zq_areturnN, zq_return, zq_invokestatic, zq_invokevirtual, zq_new, zq_invokespecial, zq_newarray, zq_anewarray, zq_aastore, zi_m1, zi_0, zi_1, zi_2, zi_3, zi_4, zi_5, zi_6, zi_8, zi_16, zb_m10, zb_m4, zb_m3, zb_m2, zb_6, zb_7, zb_8, zb_9, zb_10, zb_16, zb_20, zb_23, zb_30, zb_32, zb_35, zb_46, zb_48, zb_56, zb_57, zb_59, zb_63, zb_70, zb_98, zb_99, zb_100, zb_111, zb_112, zs_192, zs_255, zs_256, zs_511, zs_512, zs_12345, zf_X0_9_1, zf_X0_15_1, zf_X0_18_1, zf_X0_21_1, za_C_2, za_C_3, za_C_4, za_C_5, za_C_6, za_C_8, za_C_9, za_C_10, za_C_12, za_C_14, za_C_15, za_C_16, za_C_17, za_C_22, za_C_23, za_C_24, za_C_25, dX0_useOf_0, dX0_useOf_1, dX0_useOf_2, dX0_useOf_5, dX0_useOf_6, dX0_useOf_7, dX0_useOf_8, dX0_useOf_9, dX0_useOf_10, dX0_useOf_12, dX0_useOf_14, dX0_useOf_16, dX0_useOf_19, dX0_useOf_20, dX0_useOf_23, dX0_useOf_25, dX0_useOf_26, dX0_useOf_27, dX0_useOf_30, dX0_useOf_31, dX0_useOf_32, dX0_useOf_35, dX0_useOf_37, dX0_useOf_38, dX0_useOf_39, dX0_useOf_40, dX0_useOf_41, dX0_useOf_42, dX0_useOf_45, dX0_useOf_46, dX0_useOf_49, dX0_useOf_50, dX0_useOf_52, dX0_useOf_53, dX0_useOf_55, dX0_useOf_56, dX0_useOf_57, dX0_useOf_58, dX0_useOf_59, dX0_useOf_62, dX0_useOf_64, dX0_useOf_67, dX0_useOf_68, dX0_useOf_69, dX0_useOf_72, dX0_useOf_74, dX0_useOf_75, dX0_useOf_76, dX0_useOf_77, dX0_useOf_80, dX0_useOf_83, dX0_useOf_84, cr_X0_useOf_36, wr_X2_every_B]
    rw [h3, bt_all _ (by omega)]
    have := key 9 0 none rfl
    rwa [← bt_and] at this
  · exact h.elim
theorem ok_X0_useOf {tl : List ZE} : z_Ok (z_shC tl) yX0_useOf cX0_useOf 6 (some .int) ({ frames := 1, cells := 0, slots := 0, locals := 20 } : Room) 0 wp_X0_useOf := z_Ok_of pu_X0_useOf z_fX0_ok z_kX0_ok co_X0_useOf ⟨by decide, by decide⟩ (by decide +kernel)
theorem rec_X0_useOf {tl : List ZE} : z_rec (z_shC tl) wp_X0_useOf 0 := by
  intro as S post h
  unfold wp_X0_useOf at h
  split at h
  · exact ⟨_, _, _, rfl, rfl⟩
  · exact h.elim
def wp_X0_blanksOf : ZW := fun as S k => match as with
  | [.ref 1, .int v] => ∃ (x : ZText) (s : Nat), v = nI s ∧ x.1 ≤ 35 ∧ c_books x S ∧ k (some (.int (nI (ab_blk x (s &&& ab_every x))))) S
  | _ => False
theorem wr_X0_blanksOf {v : Int32} {S : ZS} {k : Option Value → ZS → Prop} : wp_X0_blanksOf [.ref 1, .int v] S k = (∃ (x : ZText) (s : Nat), v = nI s ∧ x.1 ≤ 35 ∧ c_books x S ∧ k (some (.int (nI (ab_blk x (s &&& ab_every x))))) S) := rfl
def cs_X0_blanksOf : List (Nat × ZC) := [(36, (1, 0, false, wp_X2_every_B)), (40, (2, 0, true, wp_X7_holds))]
theorem cr_X0_blanksOf_36 : cs_X0_blanksOf.lookup 36 = some (1, 0, false, wp_X2_every_B) := rfl
theorem cr_X0_blanksOf_40 : cs_X0_blanksOf.lookup 40 = some (2, 0, true, wp_X7_holds) := rfl
set_option maxRecDepth 20000 in
theorem co_X0_blanksOf {tl : List ZE} : z_csok RX0 ({ frames := 2, cells := 0, slots := 0, locals := 43 } : Room) (z_shC tl) cs_X0_blanksOf := z_cs2 (z_csU (owner := "NineBooks$Entries") (x := ⟨"NineBooks$Books", "every", "()I"⟩) ok_X2_every_B rec_X2_every_B rfl (Or.inl (z_gn 387 (by decide +kernel) rfl)) (z_g 406 (by decide +kernel) rfl) (z_g 389 (by decide +kernel) rfl) (z_g 388 (by decide +kernel) rfl) (z_g 390 (by decide +kernel) rfl) (z_g 45 (by decide +kernel) rfl) (z_g 386 (by decide +kernel) rfl) rfl rfl (by decide +kernel) ⟨by decide, by decide⟩)
  (z_cs2 (z_csN (host := "NineBooks") ok_X7_holds (z_gn 496 (by decide +kernel) rfl) (z_g 342 (by decide +kernel) rfl) (z_g 44 (by decide +kernel) rfl) (z_g 343 (by decide +kernel) rfl) rfl rfl (by decide +kernel) ⟨by decide, by decide⟩)
  (z_cs0))
set_option maxHeartbeats 4000000 in
set_option maxRecDepth 20000 in
theorem pu_X0_blanksOf {tl : List ZE} : z_Pure cX0_blanksOf 5 (z_shC tl) z_fX0 cs_X0_blanksOf z_kcX0 z_klX0 (some .int) 0 wp_X0_blanksOf := by
  intro as S post h
  unfold wp_X0_blanksOf at h
  split at h
  · rename_i v
    refine ⟨Nat.le_of_ble_eq_true rfl, fun K hK => ?_⟩
    change K 0 0 [some (.ref 1), some (.int v), none, none, none] [] S
    obtain ⟨x, s, rfl, hx, hb, hk⟩ := h
    have hn := ab_numB hx
    have hs := ab_mask_lt (x := x) s
    have hs5 : s &&& ab_every x < 512 := by have := ab_every_lt hx; have : s &&& ab_every x ≤ ab_every x := Nat.and_le_right; omega
    have h3 := hb.2.2.2.1
    have key : ∀ (n b : Nat), b + n = 9 → K 0 12 [some (.ref 1), some (.int (nI s)), some (.int (nI (s &&& ab_every x))), some (.int (nI (ab_blkN x (s &&& ab_every x) b))), some (.int (nI b))] [] S := by
      intro n
      induction n with
      | zero =>
        intro b hb9
        refine hK (z_in [12]) 80 _ _ _ _ _ (Nat.zero_le _) ?_
        simp (config := { maxSteps := 10000000 }) only [z40, z20, z10, z01, zm0, z0m, ze_s, ze_ok, zt_s, zt_t, zt_f, zl_I, zl_J, zl_R, zl_N, zl_C, zl_K, zl_M, zl_ar0, zl_ar1, zl_ar2, zl_ar3, zl_as0, zl_as1, zl_as2, zl_al, zl_gf, zl_gr, zl_pf, zl_iv, zl_ivn, zlk_n, zlk_c, ztb_n, ztb_c, zin_n, zin_1, zin_c, Int.reduceLT, decide_true, decide_false, Bool.true_and, Bool.and_true, List.length_cons, List.length_nil, Int.reduceSub, Int.reduceEq, Int.natCast_zero, zk_s, z_in_n, z_in_c, z_gt_0, z_gt_s, zst_0, zst_1, zst_s, zsl_0, zsl_1, zsl_s, zc_n, zc_i, zc_l, zc_r, zc_u, zca_n, zca_i, zca_l, zca_r, zca_u, zrt_i, zrt_z, zrt_o, z_cal_0, z_cal_s, true_and, and_true, List.nil_append, List.cons_append, Option.toList_some, Option.toList_none, Nat.reduceAdd, Nat.reduceBEq, Nat.reduceLT, Nat.reduceLeDiff, Nat.reduceSub, Int.reduceAdd, Int.reduceLE, Int.reduceToNat, Int.cast_ofNat_Int, Bool.or_true, Bool.true_or, Bool.or_false, Bool.false_or, Nat.le_refl, Nat.zero_le, or_true, true_or, or_false, false_or, not_true_eq_false, not_false_eq_true, not_false_iff, false_implies, true_implies, eq_self, zo_iconst, zo_bipush, zo_sipush, zo_lconst, zo_ldc, zo_ldc_w, zo_ldc2_w, zo_iload_n, zo_iload, zo_lload_n, zo_lload, zo_aload_n, zo_aload, zo_istore_n, zo_istore, zo_lstore_n, zo_lstore, zo_astore_n, zo_astore, zo_iinc, zo_iadd, zo_isub, zo_imul, zo_iand, zo_ior, zo_ixor, zo_ishl, zo_ishr, zo_iushr, zo_idiv, zo_irem, zo_ladd, zo_lsub, zo_lmul, zo_ldiv, zo_lrem, zo_lcmp, zo_i2l, zo_i2b, zo_i2s, zo_dup, zo_dup2, zo_aconst_null, zo_if_icmp, zo_ifCond, zo_goto, zo_ifnull, zo_ifnonnull, zo_iaload, zo_baload, zo_laload, zo_aaload, zo_iastore, zo_bastore, zo_lastore, zo_arraylength, zo_getfield, zo_putfield, zo_tableswitch, zo_lookupswitch, zo_ireturn, zo_lreturn, zo_areturn, zo_return, zo_invokestatic, zo_invokevirtual, zo_new, zo_invokespecial, zo_newarray, zo_anewarray, zo_aastore, zy_0_1, zy_0_2, zy_0_3, zy_1_1, zy_1_2, zy_2_1, zy_2_2, zy_2_3, zy_3_0, zy_4_3, zy_5_1, zy_5_2, zy_6_5, zy_6_6, zy_6_7, zy_6_8, zy_6_9, zy_6_10, zy_7_2, zy_7_6, zy_7_9, zy_7_10, zy_7_11, zy_7_12, zy_7_14, zy_7_21, zy_7_30, zq_iconst, zq_bipush, zq_sipush, zq_lconst0, zq_lconst1, zq_ldc, zq_ldc_w, zq_ldc2_w, zq_iload0, zq_iload1, zq_iload2, zq_iload3, zq_iload, zq_lload0, zq_lload1, zq_lload2, zq_lload3, zq_lload, zq_aload0, zq_aload1, zq_aload2, zq_aload3, zq_aload, zq_istore0, zq_istore1, zq_istore2, zq_istore3, zq_istore, zq_lstore0, zq_lstore1, zq_lstore2, zq_lstore3, zq_lstore, zq_astore0, zq_astore0N, zq_astore1, zq_astore1N, zq_astore2, zq_astore2N, zq_astore3, zq_astore3N, zq_astore, zq_astoreN, zq_iinc, zq_iadd, zq_isub, zq_imul, zq_iand, zq_ior, zq_ixor, zq_ishl, zq_ishr, zq_iushr, zq_idiv, zq_irem, zq_ladd, zq_lsub, zq_lmul, zq_ldiv, zq_lrem, zq_lcmp, zq_i2l, zq_i2b, zq_i2s, zq_dup_i, zq_dup_r, zq_dup2, zq_null, zq_icmp_eq, zq_if_eq, zq_icmp_ne, zq_if_ne, zq_icmp_lt, zq_if_lt, zq_icmp_ge, zq_if_ge, zq_icmp_gt, zq_if_gt, zq_icmp_le, zq_if_le, zq_goto, zq_ifnull_r, zq_ifnull_n, zq_ifnonnull_r, zq_ifnonnull_n, zq_iaload, zq_baload, zq_laload, zq_aaload, zq_iastore, zq_bastore, zq_lastore, zq_alen, zq_getf, zq_put, zq_tsw, zq_lsw, zq_ireturn, zq_lreturn, zq_areturn, zq_areturnN, zq_return, zq_invokestatic, zq_invokevirtual, zq_new, zq_invokespecial, zq_newarray, zq_anewarray, zq_aastore, zi_m1, zi_0, zi_1, zi_2, zi_3, zi_4, zi_5, zi_6, zi_8, zi_16, zb_m10, zb_m4, zb_m3, zb_m2, zb_6, zb_7, zb_8, zb_9, zb_10, zb_16, zb_20, zb_23, zb_30, zb_32, zb_35, zb_46, zb_48, zb_56, zb_57, zb_59, zb_63, zb_70, zb_98, zb_99, zb_100, zb_111, zb_112, zs_192, zs_255, zs_256, zs_511, zs_512, zs_12345, zf_X0_9_1, zf_X0_15_1, zf_X0_18_1, zf_X0_21_1, za_C_2, za_C_3, za_C_4, za_C_5, za_C_6, za_C_8, za_C_9, za_C_10, za_C_12, za_C_14, za_C_15, za_C_16, za_C_17, za_C_22, za_C_23, za_C_24, za_C_25, dX0_blanksOf_0, dX0_blanksOf_1, dX0_blanksOf_2, dX0_blanksOf_5, dX0_blanksOf_6, dX0_blanksOf_7, dX0_blanksOf_8, dX0_blanksOf_9, dX0_blanksOf_10, dX0_blanksOf_12, dX0_blanksOf_14, dX0_blanksOf_16, dX0_blanksOf_19, dX0_blanksOf_20, dX0_blanksOf_22, dX0_blanksOf_25, dX0_blanksOf_28, dX0_blanksOf_29, dX0_blanksOf_32, dX0_blanksOf_34, dX0_blanksOf_35, dX0_blanksOf_36, dX0_blanksOf_39, dX0_blanksOf_42, dX0_blanksOf_45, dX0_blanksOf_48, dX0_blanksOf_49, cr_X0_blanksOf_36, cr_X0_blanksOf_40, wr_X2_every_B, wr_X7_holds]
        have e : b = 9 := by omega
        subst e
        exact ⟨fun _ => hk, fun c => absurd (by decide) c⟩
      | succ n ih =>
        intro b hb9
        refine hK (z_in [12]) 80 _ _ _ _ _ (Nat.zero_le _) ?_
        simp (config := { maxSteps := 10000000 }) only [z40, z20, z10, z01, zm0, z0m, ze_s, ze_ok, zt_s, zt_t, zt_f, zl_I, zl_J, zl_R, zl_N, zl_C, zl_K, zl_M, zl_ar0, zl_ar1, zl_ar2, zl_ar3, zl_as0, zl_as1, zl_as2, zl_al, zl_gf, zl_gr, zl_pf, zl_iv, zl_ivn, zlk_n, zlk_c, ztb_n, ztb_c, zin_n, zin_1, zin_c, Int.reduceLT, decide_true, decide_false, Bool.true_and, Bool.and_true, List.length_cons, List.length_nil, Int.reduceSub, Int.reduceEq, Int.natCast_zero, zk_s, z_in_n, z_in_c, z_gt_0, z_gt_s, zst_0, zst_1, zst_s, zsl_0, zsl_1, zsl_s, zc_n, zc_i, zc_l, zc_r, zc_u, zca_n, zca_i, zca_l, zca_r, zca_u, zrt_i, zrt_z, zrt_o, z_cal_0, z_cal_s, true_and, and_true, List.nil_append, List.cons_append, Option.toList_some, Option.toList_none, Nat.reduceAdd, Nat.reduceBEq, Nat.reduceLT, Nat.reduceLeDiff, Nat.reduceSub, Int.reduceAdd, Int.reduceLE, Int.reduceToNat, Int.cast_ofNat_Int, Bool.or_true, Bool.true_or, Bool.or_false, Bool.false_or, Nat.le_refl, Nat.zero_le, or_true, true_or, or_false, false_or, not_true_eq_false, not_false_eq_true, not_false_iff, false_implies, true_implies, eq_self, zo_iconst, zo_bipush, zo_sipush, zo_lconst, zo_ldc, zo_ldc_w, zo_ldc2_w, zo_iload_n, zo_iload, zo_lload_n, zo_lload, zo_aload_n, zo_aload, zo_istore_n, zo_istore, zo_lstore_n, zo_lstore, zo_astore_n, zo_astore, zo_iinc, zo_iadd, zo_isub, zo_imul, zo_iand, zo_ior, zo_ixor, zo_ishl, zo_ishr, zo_iushr, zo_idiv, zo_irem, zo_ladd, zo_lsub, zo_lmul, zo_ldiv, zo_lrem, zo_lcmp, zo_i2l, zo_i2b, zo_i2s, zo_dup, zo_dup2, zo_aconst_null, zo_if_icmp, zo_ifCond, zo_goto, zo_ifnull, zo_ifnonnull, zo_iaload, zo_baload, zo_laload, zo_aaload, zo_iastore, zo_bastore, zo_lastore, zo_arraylength, zo_getfield, zo_putfield, zo_tableswitch, zo_lookupswitch, zo_ireturn, zo_lreturn, zo_areturn, zo_return, zo_invokestatic, zo_invokevirtual, zo_new, zo_invokespecial, zo_newarray, zo_anewarray, zo_aastore, zy_0_1, zy_0_2, zy_0_3, zy_1_1, zy_1_2, zy_2_1, zy_2_2, zy_2_3, zy_3_0, zy_4_3, zy_5_1, zy_5_2, zy_6_5, zy_6_6, zy_6_7, zy_6_8, zy_6_9, zy_6_10, zy_7_2, zy_7_6, zy_7_9, zy_7_10, zy_7_11, zy_7_12, zy_7_14, zy_7_21, zy_7_30, zq_iconst, zq_bipush, zq_sipush, zq_lconst0, zq_lconst1, zq_ldc, zq_ldc_w, zq_ldc2_w, zq_iload0, zq_iload1, zq_iload2, zq_iload3, zq_iload, zq_lload0, zq_lload1, zq_lload2, zq_lload3, zq_lload, zq_aload0, zq_aload1, zq_aload2, zq_aload3, zq_aload, zq_istore0, zq_istore1, zq_istore2, zq_istore3, zq_istore, zq_lstore0, zq_lstore1, zq_lstore2, zq_lstore3, zq_lstore, zq_astore0, zq_astore0N, zq_astore1, zq_astore1N, zq_astore2, zq_astore2N, zq_astore3, zq_astore3N, zq_astore, zq_astoreN, zq_iinc, zq_iadd, zq_isub, zq_imul, zq_iand, zq_ior, zq_ixor, zq_ishl, zq_ishr, zq_iushr, zq_idiv, zq_irem, zq_ladd, zq_lsub, zq_lmul, zq_ldiv, zq_lrem, zq_lcmp, zq_i2l, zq_i2b, zq_i2s, zq_dup_i, zq_dup_r, zq_dup2, zq_null, zq_icmp_eq, zq_if_eq, zq_icmp_ne, zq_if_ne, zq_icmp_lt, zq_if_lt, zq_icmp_ge, zq_if_ge, zq_icmp_gt, zq_if_gt, zq_icmp_le, zq_if_le, zq_goto, zq_ifnull_r, zq_ifnull_n, zq_ifnonnull_r, zq_ifnonnull_n, zq_iaload, zq_baload, zq_laload, zq_aaload, zq_iastore, zq_bastore, zq_lastore, zq_alen, zq_getf, zq_put, zq_tsw, zq_lsw, zq_ireturn, zq_lreturn, zq_areturn, zq_areturnN, zq_return, zq_invokestatic, zq_invokevirtual, zq_new, zq_invokespecial, zq_newarray, zq_anewarray, zq_aastore, zi_m1, zi_0, zi_1, zi_2, zi_3, zi_4, zi_5, zi_6, zi_8, zi_16, zb_m10, zb_m4, zb_m3, zb_m2, zb_6, zb_7, zb_8, zb_9, zb_10, zb_16, zb_20, zb_23, zb_30, zb_32, zb_35, zb_46, zb_48, zb_56, zb_57, zb_59, zb_63, zb_70, zb_98, zb_99, zb_100, zb_111, zb_112, zs_192, zs_255, zs_256, zs_511, zs_512, zs_12345, zf_X0_9_1, zf_X0_15_1, zf_X0_18_1, zf_X0_21_1, za_C_2, za_C_3, za_C_4, za_C_5, za_C_6, za_C_8, za_C_9, za_C_10, za_C_12, za_C_14, za_C_15, za_C_16, za_C_17, za_C_22, za_C_23, za_C_24, za_C_25, dX0_blanksOf_0, dX0_blanksOf_1, dX0_blanksOf_2, dX0_blanksOf_5, dX0_blanksOf_6, dX0_blanksOf_7, dX0_blanksOf_8, dX0_blanksOf_9, dX0_blanksOf_10, dX0_blanksOf_12, dX0_blanksOf_14, dX0_blanksOf_16, dX0_blanksOf_19, dX0_blanksOf_20, dX0_blanksOf_22, dX0_blanksOf_25, dX0_blanksOf_28, dX0_blanksOf_29, dX0_blanksOf_32, dX0_blanksOf_34, dX0_blanksOf_35, dX0_blanksOf_36, dX0_blanksOf_39, dX0_blanksOf_42, dX0_blanksOf_45, dX0_blanksOf_48, dX0_blanksOf_49, cr_X0_blanksOf_36, cr_X0_blanksOf_40, wr_X2_every_B, wr_X7_holds]
        generalize hw : s &&& ab_every x = w at *
        have hin : vp_in (nI b) 9 := n_in (by omega) (by omega)
        simp only [n_cl (show b < 2147483648 by omega), n_geL (n := b) (M := 8) 8 rfl (by omega) (by omega), n_leL (n := b) (M := 8) 8 rfl (by omega) (by omega), n_ltL (n := b) (M := 8) 8 rfl (by omega) (by omega), n_gtL (n := b) (M := 8) 8 rfl (by omega) (by omega), n_eqL (n := b) (M := 8) 8 rfl (by omega) (by omega), n_geL (n := b) (M := 0) 0 rfl (by omega) (by omega), n_leL (n := b) (M := 0) 0 rfl (by omega) (by omega), n_ltL (n := b) (M := 0) 0 rfl (by omega) (by omega), n_gtL (n := b) (M := 0) 0 rfl (by omega) (by omega), n_eqL (n := b) (M := 0) 0 rfl (by omega) (by omega), nI_1]
        have ebit := bt_is w hs5 b (by omega)
        have this := ih (b + 1) (by omega)
        unfold ab_blkN at this
        have e2 : ¬ (w.testBit b = true ∧ ab_kind x b = 1) → K 0 12 [some (.ref 1), some (.int (nI s)), some (.int (nI w)), some (.int (nI (ab_blkN x w b))), some (.int (nI (b + 1)))] [] S := by
          intro h1
          rw [if_neg h1] at this
          exact this
        refine ⟨fun c => absurd c (by omega), fun _ => ⟨fun c1 => ⟨hin, fun c2 => ?_, fun c2 => ?_⟩, fun c1 => e2 (fun q => c1 ⟨⟨by omega, by omega⟩, ebit.mpr q.1⟩)⟩⟩
        · have hbt := ebit.mp c1.2
          have hbN := bt_low hbt hs
          rw [(hb.2.2.2.2 b hbN).2.1] at c2
          have hk1 := (ab_alone_le hx hbN).2.2
          rw [n_eqL (n := ab_kind x b) (M := 1) 1 rfl (by omega) (by omega)] at c2
          rw [if_pos ⟨hbt, c2⟩] at this
          exact this
        · refine e2 (fun q => c2 ?_)
          rw [(hb.2.2.2.2 b (bt_low q.1 hs)).2.1, q.2]
          rfl
    refine hK (z_in [12]) 80 _ _ _ _ _ (Nat.zero_le _) ?_
    simp (config := { maxSteps := 10000000 }) only [z40, z20, z10, z01, zm0, z0m, ze_s, ze_ok, zt_s, zt_t, zt_f, zl_I, zl_J, zl_R, zl_N, zl_C, zl_K, zl_M, zl_ar0, zl_ar1, zl_ar2, zl_ar3, zl_as0, zl_as1, zl_as2, zl_al, zl_gf, zl_gr, zl_pf, zl_iv, zl_ivn, zlk_n, zlk_c, ztb_n, ztb_c, zin_n, zin_1, zin_c, Int.reduceLT, decide_true, decide_false, Bool.true_and, Bool.and_true, List.length_cons, List.length_nil, Int.reduceSub, Int.reduceEq, Int.natCast_zero, zk_s, z_in_n, z_in_c, z_gt_0, z_gt_s, zst_0, zst_1, zst_s, zsl_0, zsl_1, zsl_s, zc_n, zc_i, zc_l, zc_r, zc_u, zca_n, zca_i, zca_l, zca_r, zca_u, zrt_i, zrt_z, zrt_o, z_cal_0, z_cal_s, true_and, and_true, List.nil_append, List.cons_append, Option.toList_some, Option.toList_none, Nat.reduceAdd, Nat.reduceBEq, Nat.reduceLT, Nat.reduceLeDiff, Nat.reduceSub, Int.reduceAdd, Int.reduceLE, Int.reduceToNat, Int.cast_ofNat_Int, Bool.or_true, Bool.true_or, Bool.or_false, Bool.false_or, Nat.le_refl, Nat.zero_le, or_true, true_or, or_false, false_or, not_true_eq_false, not_false_eq_true, not_false_iff, false_implies, true_implies, eq_self, zo_iconst, zo_bipush, zo_sipush, zo_lconst, zo_ldc, zo_ldc_w, zo_ldc2_w, zo_iload_n, zo_iload, zo_lload_n, zo_lload, zo_aload_n, zo_aload, zo_istore_n, zo_istore, zo_lstore_n, zo_lstore, zo_astore_n, zo_astore, zo_iinc, zo_iadd, zo_isub, zo_imul, zo_iand, zo_ior, zo_ixor, zo_ishl, zo_ishr, zo_iushr, zo_idiv, zo_irem, zo_ladd, zo_lsub, zo_lmul, zo_ldiv, zo_lrem, zo_lcmp, zo_i2l, zo_i2b, zo_i2s, zo_dup, zo_dup2, zo_aconst_null, zo_if_icmp, zo_ifCond, zo_goto, zo_ifnull, zo_ifnonnull, zo_iaload, zo_baload, zo_laload, zo_aaload, zo_iastore, zo_bastore, zo_lastore, zo_arraylength, zo_getfield, zo_putfield, zo_tableswitch, zo_lookupswitch, zo_ireturn, zo_lreturn, zo_areturn, zo_return, zo_invokestatic, zo_invokevirtual, zo_new, zo_invokespecial, zo_newarray, zo_anewarray, zo_aastore, zy_0_1, zy_0_2, zy_0_3, zy_1_1, zy_1_2, zy_2_1, zy_2_2, zy_2_3, zy_3_0, zy_4_3, zy_5_1, zy_5_2, zy_6_5, zy_6_6, zy_6_7, zy_6_8, zy_6_9, zy_6_10, zy_7_2, zy_7_6, zy_7_9, zy_7_10, zy_7_11, zy_7_12, zy_7_14, zy_7_21, zy_7_30, zq_iconst, zq_bipush, zq_sipush, zq_lconst0, zq_lconst1, zq_ldc, zq_ldc_w, zq_ldc2_w, zq_iload0, zq_iload1, zq_iload2, zq_iload3, zq_iload, zq_lload0, zq_lload1, zq_lload2, zq_lload3, zq_lload, zq_aload0, zq_aload1, zq_aload2, zq_aload3, zq_aload, zq_istore0, zq_istore1, zq_istore2, zq_istore3, zq_istore, zq_lstore0, zq_lstore1, zq_lstore2, zq_lstore3, zq_lstore, zq_astore0, zq_astore0N, zq_astore1, zq_astore1N, zq_astore2, zq_astore2N, zq_astore3, zq_astore3N, zq_astore, zq_astoreN, zq_iinc, zq_iadd, zq_isub, zq_imul, zq_iand, zq_ior, zq_ixor, zq_ishl, zq_ishr, zq_iushr, zq_idiv, zq_irem, zq_ladd, zq_lsub, zq_lmul, zq_ldiv, zq_lrem, zq_lcmp, zq_i2l, zq_i2b, zq_i2s, zq_dup_i, zq_dup_r, zq_dup2, zq_null, zq_icmp_eq, zq_if_eq, zq_icmp_ne, zq_if_ne, zq_icmp_lt, zq_if_lt, zq_icmp_ge, zq_if_ge, zq_icmp_gt, zq_if_gt, zq_icmp_le, zq_if_le, zq_goto, zq_ifnull_r, zq_ifnull_n, zq_ifnonnull_r, zq_ifnonnull_n, zq_iaload, zq_baload, zq_laload, zq_aaload, zq_iastore, zq_bastore, zq_lastore, zq_alen, zq_getf, zq_put, zq_tsw, zq_lsw, zq_ireturn, zq_lreturn, zq_areturn, zq_areturnN, zq_return, zq_invokestatic, zq_invokevirtual, zq_new, zq_invokespecial, zq_newarray, zq_anewarray, zq_aastore, zi_m1, zi_0, zi_1, zi_2, zi_3, zi_4, zi_5, zi_6, zi_8, zi_16, zb_m10, zb_m4, zb_m3, zb_m2, zb_6, zb_7, zb_8, zb_9, zb_10, zb_16, zb_20, zb_23, zb_30, zb_32, zb_35, zb_46, zb_48, zb_56, zb_57, zb_59, zb_63, zb_70, zb_98, zb_99, zb_100, zb_111, zb_112, zs_192, zs_255, zs_256, zs_511, zs_512, zs_12345, zf_X0_9_1, zf_X0_15_1, zf_X0_18_1, zf_X0_21_1, za_C_2, za_C_3, za_C_4, za_C_5, za_C_6, za_C_8, za_C_9, za_C_10, za_C_12, za_C_14, za_C_15, za_C_16, za_C_17, za_C_22, za_C_23, za_C_24, za_C_25, dX0_blanksOf_0, dX0_blanksOf_1, dX0_blanksOf_2, dX0_blanksOf_5, dX0_blanksOf_6, dX0_blanksOf_7, dX0_blanksOf_8, dX0_blanksOf_9, dX0_blanksOf_10, dX0_blanksOf_12, dX0_blanksOf_14, dX0_blanksOf_16, dX0_blanksOf_19, dX0_blanksOf_20, dX0_blanksOf_22, dX0_blanksOf_25, dX0_blanksOf_28, dX0_blanksOf_29, dX0_blanksOf_32, dX0_blanksOf_34, dX0_blanksOf_35, dX0_blanksOf_36, dX0_blanksOf_39, dX0_blanksOf_42, dX0_blanksOf_45, dX0_blanksOf_48, dX0_blanksOf_49, cr_X0_blanksOf_36, cr_X0_blanksOf_40, wr_X2_every_B, wr_X7_holds]
    rw [h3, bt_all _ (by omega)]
    have := key 9 0 rfl
    rwa [← bt_and] at this
  · exact h.elim
theorem ok_X0_blanksOf {tl : List ZE} : z_Ok (z_shC tl) yX0_blanksOf cX0_blanksOf 5 (some .int) ({ frames := 2, cells := 0, slots := 0, locals := 43 } : Room) 0 wp_X0_blanksOf := z_Ok_of pu_X0_blanksOf z_fX0_ok z_kX0_ok co_X0_blanksOf ⟨by decide, by decide⟩ (by decide +kernel)
theorem rec_X0_blanksOf {tl : List ZE} : z_rec (z_shC tl) wp_X0_blanksOf 0 := by
  intro as S post h
  unfold wp_X0_blanksOf at h
  split at h
  · exact ⟨_, _, _, rfl, rfl⟩
  · exact h.elim

