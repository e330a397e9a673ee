/-! the model holds the state -/
def m_num (T : ZT) (S : ZS) : Prop := S.1 0 9 = nI (tpr T) ∧ S.1 0 10 = nI (tbu T) ∧ S.1 0 11 = nI (tdt T)
def m_brn (T : ZT) (S : ZS) : Prop := S.1 0 12 = nI (tnb T) ∧ S.1 0 14 = nI (tB T) ∧ ∀ i, i < tnb T → S.1 8 i = nI (tod T i)
def m_pg (T : ZT) (S : ZS) : Prop := S.1 14 0 = nI (tpb T) ∧ S.1 14 1 = nI (tpo T)
def m_sai (T : ZT) (S : ZS) : Prop := S.1 0 21 = nI (tns T) ∧ ∀ i, i < tns T → S.1 15 i = nI (tsd T i).1 ∧ S.1 16 i = (tsd T i).2.1 ∧ S.1 17 i = nI (tsd T i).2.2
def m_fd (T : ZT) (S : ZS) : Prop := S.1 0 30 = nI (tfd T)
def m_she (T : ZT) (S : ZS) (s : Nat) : Prop := ((tsh T s).1 = true → S.1 18 s = 1 ∧ S.1 19 s = nI (tsh T s).2.1 ∧ S.1 20 s = nI (tsh T s).2.2 ∧ ∀ i, i < (tsh T s).2.2 → S.1 21 (48 * s + i) = tit T s i) ∧ ((tsh T s).1 = false → S.1 18 s = 0)
def m_pop (S : ZS) : Prop := ∀ s, s < 512 → S.1 12 s = nI (ab_pop s)
def MR (T : ZT) (S : ZS) : Prop := tI T ∧ (m_tx 0 (tx0 T) S ∧ m_tx 1 (tx1 T) S) ∧ m_num T S ∧ m_brn T S ∧ m_pg T S ∧ m_sai T S ∧ m_fd T S ∧ (∀ s, s < 4 → m_she T S s) ∧ m_pop S
def MP (T : ZT) (S : ZS) : Prop := MR T S ∧ m_tb 0 (tx0 T) S ∧ m_tb 1 (tx1 T) S
def mfr (S S' : ZS) : Prop := (∀ a, ¬ (a = 0 ∨ (3 ≤ a ∧ a ≤ 7)) → S'.1 a = S.1 a) ∧ S'.2 = S.2
theorem m_num_c {T : ZT} {S S' : ZS} (h : m_num T S) (h1 : S'.1 0 9 = S.1 0 9) (h2 : S'.1 0 10 = S.1 0 10) (h3 : S'.1 0 11 = S.1 0 11) : m_num T S' := by unfold m_num at *; rw [h1, h2, h3]; exact h
theorem m_brn_c {T : ZT} {S S' : ZS} (h : m_brn T S) (h1 : S'.1 0 12 = S.1 0 12) (h2 : S'.1 0 14 = S.1 0 14) (h3 : S'.1 8 = S.1 8) : m_brn T S' := by unfold m_brn at *; rw [h1, h2, h3]; exact h
theorem m_pg_c {T : ZT} {S S' : ZS} (h : m_pg T S) (h1 : S'.1 14 = S.1 14) : m_pg T S' := by unfold m_pg at *; rw [h1]; exact h
theorem m_sai_c {T : ZT} {S S' : ZS} (h : m_sai T S) (h1 : S'.1 0 21 = S.1 0 21) (h2 : S'.1 15 = S.1 15) (h3 : S'.1 16 = S.1 16) (h4 : S'.1 17 = S.1 17) : m_sai T S' := by unfold m_sai at *; rw [h1, h2, h3, h4]; exact h
theorem m_fd_c {T : ZT} {S S' : ZS} (h : m_fd T S) (h1 : S'.1 0 30 = S.1 0 30) : m_fd T S' := by unfold m_fd at *; rw [h1]; exact h
theorem m_she_c {T : ZT} {S S' : ZS} {s : Nat} (h : m_she T S s) (h1 : S'.1 18 = S.1 18) (h2 : S'.1 19 = S.1 19) (h3 : S'.1 20 = S.1 20) (h4 : S'.1 21 = S.1 21) : m_she T S' s := by unfold m_she at *; rw [h1, h2, h3, h4]; exact h
theorem m_pop_c {S S' : ZS} (h : m_pop S) (h1 : S'.1 12 = S.1 12) : m_pop S' := by unfold m_pop at *; rw [h1]; exact h
theorem m_tb_c {t : Nat} (ht : t = 0 ∨ t = 1) {x : ZText} {S S' : ZS} (h : m_tb t x S) (h0 : S'.1 0 (m_f t) = S.1 0 (m_f t)) (h1 : ∀ a, 3 ≤ a → a ≤ 7 → S'.1 a = S.1 a) : m_tb t x S' := by
  unfold m_tb at *
  rw [h0]
  refine ⟨h.1, fun j hj => ?_⟩
  have := h.2 j hj
  rcases ht with rfl | rfl
  · rw [m_en_0] at *; rw [h1 3 (by omega) (by omega), h1 4 (by omega) (by omega), h1 5 (by omega) (by omega)]; exact this
  · rw [m_en_1] at *; rw [h1 6 (by omega) (by omega), h1 7 (by omega) (by omega)]; exact this
theorem MR_cg {T : ZT} {S S' : ZS} (h : MR T S) (h1 : ∀ a, (a = 1 ∨ a = 2 ∨ a = 8 ∨ a = 12 ∨ (14 ≤ a ∧ a ≤ 21)) → S'.1 a = S.1 a) (h2 : ∀ j, 9 ≤ j → S'.1 0 j = S.1 0 j) : MR T S' := by
  obtain ⟨b0, ⟨b1, b2⟩, b3, b4, b5, b6, b7, b8, b9⟩ := h
  exact ⟨b0, ⟨m_tx_c b1 (h1 1 (by omega)) (h1 2 (by omega)), m_tx_c b2 (h1 1 (by omega)) (h1 2 (by omega))⟩, m_num_c b3 (h2 9 (by omega)) (h2 10 (by omega)) (h2 11 (by omega)), m_brn_c b4 (h2 12 (by omega)) (h2 14 (by omega)) (h1 8 (by omega)), m_pg_c b5 (h1 14 (by omega)), m_sai_c b6 (h2 21 (by omega)) (h1 15 (by omega)) (h1 16 (by omega)) (h1 17 (by omega)), m_fd_c b7 (h2 30 (by omega)),
    fun s hs => m_she_c (b8 s hs) (h1 18 (by omega)) (h1 19 (by omega)) (h1 20 (by omega)) (h1 21 (by omega)), m_pop_c b9 (h1 12 (by omega))⟩
theorem MP_cg {T : ZT} {S S' : ZS} (h : MP T S) (h1 : ∀ a, (a ≤ 8 ∨ a = 12 ∨ (14 ≤ a ∧ a ≤ 21)) → S'.1 a = S.1 a) : MP T S' :=
  ⟨MR_cg h.1 (fun a ha => h1 a (by omega)) (fun j _ => by rw [h1 0 (by omega)]), m_tb_c (Or.inl rfl) h.2.1 (by rw [h1 0 (by omega)]) (fun a _ ha => h1 a (by omega)), m_tb_c (Or.inr rfl) h.2.2 (by rw [h1 0 (by omega)]) (fun a _ ha => h1 a (by omega))⟩
theorem mfr_t {S S' S'' : ZS} (h : mfr S S') (h' : mfr S' S'') : mfr S S'' := ⟨fun a ha => (h'.1 a ha).trans (h.1 a ha), h'.2.trans h.2⟩
theorem m_fr_r {T : ZT} {t : Nat} {S S' : ZS} (ht : t = 0 ∨ t = 1) (h : MR T S) (hf : m_fr t S S') : MR T S' ∧ mfr S S' := by
  rcases ht with rfl | rfl
  · refine ⟨MR_cg h (fun a ha => hf.1 a (by rw [if_pos rfl]; omega)) (fun j hj => hf.2.1 j (by unfold m_f; rw [if_pos rfl]; omega)), fun a ha => hf.1 a (by rw [if_pos rfl]; omega), hf.2.2⟩
  · refine ⟨MR_cg h (fun a ha => hf.1 a (by rw [if_neg (by omega)]; omega)) (fun j hj => hf.2.1 j (by unfold m_f; rw [if_neg (by omega)]; omega)), fun a ha => hf.1 a (by rw [if_neg (by omega)]; omega), hf.2.2⟩
theorem MR_x0 {T : ZT} {S : ZS} (h : MR T S) : (tx0 T).1 ≤ 35 := by simpa [ab_textI] using h.1.1.1
theorem MR_x1 {T : ZT} {S : ZS} (h : MR T S) : (tx1 T).1 ≤ 23 := by simpa [ab_textI] using h.1.2.1.1
theorem MR_M {T : ZT} {S : ZS} (h : MR T S) : tM T ≤ 6 := ab_numK (MR_x1 h)
theorem MR_N {T : ZT} {S : ZS} (h : MR T S) : tN T ≤ 9 := ab_numB (MR_x0 h)
def wp_X8_faultOf : ZW := fun as S k => match as with
  | [.ref 0, .int u] => ∃ T : ZT, MR T S ∧ ∀ S', MP T S' → mfr S S' → k (some (.int (if u = 0 then ab_fault 0 (tx0 T) else ab_fault 1 (tx1 T)))) S'
  | _ => False
theorem wr_X8_faultOf {u : Int32} {S : ZS} {k : Option Value → ZS → Prop} : wp_X8_faultOf [.ref 0, .int u] S k = (∃ T : ZT, MR T S ∧ ∀ S', MP T S' → mfr S S' → k (some (.int (if u = 0 then ab_fault 0 (tx0 T) else ab_fault 1 (tx1 T)))) S') := rfl
def cs_X8_faultOf : List (Nat × ZC) := [(122, (2, 0, false, wp_X8_readsText))]
theorem cr_X8_faultOf_122 : cs_X8_faultOf.lookup 122 = some (2, 0, false, wp_X8_readsText) := rfl
set_option maxRecDepth 20000 in
theorem co_X8_faultOf : z_csok RX8 ({ frames := 4, cells := 0, slots := 0, locals := 96 } : Room) z_shM cs_X8_faultOf := z_cs2 (z_csV ok_X8_readsText rec_X8_readsText rfl (z_g 811 (by decide +kernel) rfl) (z_g 813 (by decide +kernel) rfl) (z_g 11 (by decide +kernel) rfl) (z_g 814 (by decide +kernel) rfl) (z_g 51 (by decide +kernel) rfl) rfl rfl (by decide +kernel) ⟨by decide, by decide⟩)
  (z_cs0)
set_option maxHeartbeats 4000000 in
set_option maxRecDepth 20000 in
theorem pu_X8_faultOf : z_Pure cX8_faultOf 4 z_shM z_fX8 cs_X8_faultOf z_kcX8 z_klX8 (some .int) 0 wp_X8_faultOf := by
  intro as S post h
  unfold wp_X8_faultOf at h
  split at h
  · rename_i u
    refine ⟨Nat.le_of_ble_eq_true rfl, fun K hK => ?_⟩
    change K 0 0 [some (.ref 0), some (.int u), none, none] [] S
    obtain ⟨T, hM, hk⟩ := h
    refine hK (z_in []) 60 _ _ _ _ _ (Nat.zero_le _) ?_
    simp (config := { maxSteps := 10000000 }) only [z40, z20, z10, z01, zm0, z0m, ze_s, ze_ok, zt_s, zt_t, zt_f, zl_I, zl_J, zl_R, zl_N, zl_C, zl_K, zl_M, zl_ar0, zl_ar1, zl_ar2, zl_ar3, zl_as0, zl_as1, zl_as2, zl_al, zl_gf, zl_gr, zl_pf, zl_iv, zl_ivn, zlk_n, zlk_c, ztb_n, ztb_c, zin_n, zin_1, zin_c, Int.reduceLT, decide_true, decide_false, Bool.true_and, Bool.and_true, List.length_cons, List.length_nil, Int.reduceSub, Int.reduceEq, Int.natCast_zero, zk_s, z_in_n, z_in_c, z_gt_0, z_gt_s, zst_0, zst_1, zst_s, zsl_0, zsl_1, zsl_s, zc_n, zc_i, zc_l, zc_r, zc_u, zca_n, zca_i, zca_l, zca_r, zca_u, zrt_i, zrt_z, zrt_o, z_cal_0, z_cal_s, true_and, and_true, List.nil_append, List.cons_append, Option.toList_some, Option.toList_none, Nat.reduceAdd, Nat.reduceBEq, Nat.reduceLT, Nat.reduceLeDiff, Nat.reduceSub, Int.reduceAdd, Int.reduceLE, Int.reduceToNat, Int.cast_ofNat_Int, Bool.or_true, Bool.true_or, Bool.or_false, Bool.false_or, Nat.le_refl, Nat.zero_le, or_true, true_or, or_false, false_or, not_true_eq_false, not_false_eq_true, not_false_iff, false_implies, true_implies, eq_self, zo_iconst, zo_bipush, zo_sipush, zo_lconst, zo_ldc, zo_ldc_w, zo_ldc2_w, zo_iload_n, zo_iload, zo_lload_n, zo_lload, zo_aload_n, zo_aload, zo_istore_n, zo_istore, zo_lstore_n, zo_lstore, zo_astore_n, zo_astore, zo_iinc, zo_iadd, zo_isub, zo_imul, zo_iand, zo_ior, zo_ixor, zo_ishl, zo_ishr, zo_iushr, zo_idiv, zo_irem, zo_ladd, zo_lsub, zo_lmul, zo_ldiv, zo_lrem, zo_lcmp, zo_i2l, zo_i2b, zo_i2s, zo_dup, zo_dup2, zo_aconst_null, zo_if_icmp, zo_ifCond, zo_goto, zo_ifnull, zo_ifnonnull, zo_iaload, zo_baload, zo_laload, zo_aaload, zo_iastore, zo_bastore, zo_lastore, zo_arraylength, zo_getfield, zo_putfield, zo_tableswitch, zo_lookupswitch, zo_ireturn, zo_lreturn, zo_areturn, zo_return, zo_invokestatic, zo_invokevirtual, zo_new, zo_invokespecial, zo_newarray, zo_anewarray, zo_aastore, zy_0_1, zy_0_2, zy_0_3, zy_1_1, zy_1_2, zy_2_1, zy_2_2, zy_2_3, zy_3_0, zy_4_3, zy_5_1, zy_5_2, zy_6_5, zy_6_6, zy_6_7, zy_6_8, zy_6_9, zy_6_10, zy_7_2, zy_7_6, zy_7_9, zy_7_10, zy_7_11, zy_7_12, zy_7_14, zy_7_21, zy_7_30, zq_iconst, zq_bipush, zq_sipush, zq_lconst0, zq_lconst1, zq_ldc, zq_ldc_w, zq_ldc2_w, zq_iload0, zq_iload1, zq_iload2, zq_iload3, zq_iload, zq_lload0, zq_lload1, zq_lload2, zq_lload3, zq_lload, zq_aload0, zq_aload1, zq_aload2, zq_aload3, zq_aload, zq_istore0, zq_istore1, zq_istore2, zq_istore3, zq_istore, zq_lstore0, zq_lstore1, zq_lstore2, zq_lstore3, zq_lstore, zq_astore0, zq_astore0N, zq_astore1, zq_astore1N, zq_astore2, zq_astore2N, zq_astore3, zq_astore3N, zq_astore, zq_astoreN, zq_iinc, zq_iadd, zq_isub, zq_imul, zq_iand, zq_ior, zq_ixor, zq_ishl, zq_ishr, zq_iushr, zq_idiv, zq_irem, zq_ladd, zq_lsub, zq_lmul, zq_ldiv, zq_lrem, zq_lcmp, zq_i2l, zq_i2b, zq_i2s, zq_dup_i, zq_dup_r, zq_dup2, zq_null, zq_icmp_eq, zq_if_eq, zq_icmp_ne, zq_if_ne, zq_icmp_lt, zq_if_lt, zq_icmp_ge, zq_if_ge, zq_icmp_gt, zq_if_gt, zq_icmp_le, zq_if_le, zq_goto, zq_ifnull_r, zq_ifnull_n, zq_ifnonnull_r, zq_ifnonnull_n, zq_iaload, zq_baload, zq_laload, zq_aaload, zq_iastore, zq_bastore, zq_lastore, zq_alen, zq_getf, zq_put, zq_tsw, zq_lsw, zq_ireturn, zq_lreturn, zq_areturn, zq_areturnN, zq_return, zq_invokestatic, zq_invokevirtual, zq_new, zq_invokespecial, zq_newarray, zq_anewarray, zq_aastore, zi_m1, zi_0, zi_1, zi_2, zi_3, zi_4, zi_5, zi_6, zi_8, zi_16, zb_m10, zb_m4, zb_m3, zb_m2, zb_6, zb_7, zb_8, zb_9, zb_10, zb_16, zb_20, zb_23, zb_30, zb_32, zb_35, zb_46, zb_48, zb_56, zb_57, zb_59, zb_63, zb_70, zb_98, zb_99, zb_100, zb_111, zb_112, zs_192, zs_255, zs_256, zs_511, zs_512, zs_12345, zf_X8_7_0, zf_X8_13_0, zf_X8_112_0, zf_X8_16_0, zf_X8_19_0, zf_X8_22_0, zf_X8_115_0, zf_X8_25_0, zf_X8_28_0, zf_X8_78_0, zf_X8_82_0, zf_X8_85_0, zf_X8_144_0, zf_X8_31_0, zf_X8_137_0, zf_X8_34_0, zf_X8_38_0, zf_X8_41_0, zf_X8_44_0, zf_X8_47_0, zf_X8_50_0, zf_X8_234_0, zf_X8_53_0, zf_X8_56_0, zf_X8_59_0, zf_X8_62_0, zf_X8_66_0, zf_X8_69_0, zf_X8_72_0, zf_X8_75_0, zf_X8_244_0, zkc_X8_240, zkc_X8_253, zkl_X8_92, zkl_X8_262, zkl_X8_257, za_M_1, za_M_2, za_M_3, za_M_4, za_M_5, za_M_6, za_M_7, za_M_8, za_M_9, za_M_10, za_M_11, za_M_12, za_M_13, za_M_14, za_M_15, za_M_16, za_M_17, za_M_18, za_M_19, za_M_20, za_M_21, za_M_22, dX8_faultOf_0, dX8_faultOf_1, dX8_faultOf_2, dX8_faultOf_5, dX8_faultOf_6, dX8_faultOf_7, dX8_faultOf_8, dX8_faultOf_11, dX8_faultOf_12, dX8_faultOf_13, dX8_faultOf_16, dX8_faultOf_17, dX8_faultOf_20, dX8_faultOf_21, cr_X8_faultOf_122, wr_X8_readsText]
    refine ⟨0, tx0 T, by simp, hM.1.1, hM.2.1.1, fun S1 t1 f1 => ?_⟩
    obtain ⟨hM1, g1⟩ := m_fr_r (Or.inl rfl) hM f1
    refine ⟨1, tx1 T, by simp, hM1.1.2.1, hM1.2.1.2, fun S2 t2 f2 => ?_⟩
    obtain ⟨hM2, g2⟩ := m_fr_r (Or.inr rfl) hM1 f2
    have t1' : m_tb 0 (tx0 T) S2 := by
      unfold m_tb at *
      rw [f2.2.1 (m_f 0) (by decide)]
      refine ⟨t1.1, fun j hj => ?_⟩
      have := t1.2 j hj
      rw [m_en_0] at *
      rw [f2.1 3 (by decide), f2.1 4 (by decide), f2.1 5 (by decide)]
      exact this
    have := hk S2 ⟨hM2, t1', t2⟩ (mfr_t g1 g2)
    exact ⟨fun c => by rw [if_pos c] at this; exact this, fun c => by rw [if_neg c] at this; exact this⟩
  · exact h.elim
theorem ok_X8_faultOf : z_Ok z_shM yX8_faultOf cX8_faultOf 4 (some .int) ({ frames := 4, cells := 0, slots := 0, locals := 96 } : Room) 0 wp_X8_faultOf := z_Ok_of pu_X8_faultOf z_fX8_ok z_kX8_ok co_X8_faultOf ⟨by decide, by decide⟩ (by decide +kernel)
theorem rec_X8_faultOf : z_rec z_shM wp_X8_faultOf 7 := by
  intro as S post h
  unfold wp_X8_faultOf at h
  split at h
  · exact ⟨_, _, _, rfl, rfl⟩
  · exact h.elim
def wp_X8_reads : ZW := fun as S k => match as with
  | [.ref 0] => ∃ T : ZT, MR T S ∧ ∀ S', MP T S' → mfr S S' → k none S'
  | _ => False
theorem wr_X8_reads {S : ZS} {k : Option Value → ZS → Prop} : wp_X8_reads [.ref 0] S k = (∃ T : ZT, MR T S ∧ ∀ S', MP T S' → mfr S S' → k none S') := rfl
def cs_X8_reads : List (Nat × ZC) := [(125, (2, 0, false, wp_X8_faultOf))]
theorem cr_X8_reads_125 : cs_X8_reads.lookup 125 = some (2, 0, false, wp_X8_faultOf) := rfl
set_option maxRecDepth 20000 in
theorem co_X8_reads : z_csok RX8 ({ frames := 5, cells := 0, slots := 0, locals := 119 } : Room) z_shM cs_X8_reads := z_cs2 (z_csV ok_X8_faultOf rec_X8_faultOf rfl (z_g 807 (by decide +kernel) rfl) (z_g 809 (by decide +kernel) rfl) (z_g 10 (by decide +kernel) rfl) (z_g 810 (by decide +kernel) rfl) (z_g 51 (by decide +kernel) rfl) rfl rfl (by decide +kernel) ⟨by decide, by decide⟩)
  (z_cs0)
set_option maxHeartbeats 4000000 in
set_option maxRecDepth 20000 in
theorem pu_X8_reads : z_Pure cX8_reads 2 z_shM z_fX8 cs_X8_reads z_kcX8 z_klX8 none 0 wp_X8_reads := by
  intro as S post h
  unfold wp_X8_reads at h
  split at h
  · skip
    refine ⟨Nat.le_of_ble_eq_true rfl, fun K hK => ?_⟩
    change K 0 0 [some (.ref 0), none] [] S
    obtain ⟨T, hM, hk⟩ := h
    refine hK (z_in []) 60 _ _ _ _ _ (Nat.zero_le _) ?_
    simp (config := { maxSteps := 10000000 }) only [z40, z20, z10, z01, zm0, z0m, ze_s, ze_ok, zt_s, zt_t, zt_f, zl_I, zl_J, zl_R, zl_N, zl_C, zl_K, zl_M, zl_ar0, zl_ar1, zl_ar2, zl_ar3, zl_as0, zl_as1, zl_as2, zl_al, zl_gf, zl_gr, zl_pf, zl_iv, zl_ivn, zlk_n, zlk_c, ztb_n, ztb_c, zin_n, zin_1, zin_c, Int.reduceLT, decide_true, decide_false, Bool.true_and, Bool.and_true, List.length_cons, List.length_nil, Int.reduceSub, Int.reduceEq, Int.natCast_zero, zk_s, z_in_n, z_in_c, z_gt_0, z_gt_s, zst_0, zst_1, zst_s, zsl_0, zsl_1, zsl_s, zc_n, zc_i, zc_l, zc_r, zc_u, zca_n, zca_i, zca_l, zca_r, zca_u, zrt_i, zrt_z, zrt_o, z_cal_0, z_cal_s, true_and, and_true, List.nil_append, List.cons_append, Option.toList_some, Option.toList_none, Nat.reduceAdd, Nat.reduceBEq, Nat.reduceLT, Nat.reduceLeDiff, Nat.reduceSub, Int.reduceAdd, Int.reduceLE, Int.reduceToNat, Int.cast_ofNat_Int, Bool.or_true, Bool.true_or, Bool.or_false, Bool.false_or, Nat.le_refl, Nat.zero_le, or_true, true_or, or_false, false_or, not_true_eq_false, not_false_eq_true, not_false_iff, false_implies, true_implies, eq_self, zo_iconst, zo_bipush, zo_sipush, zo_lconst, zo_ldc, zo_ldc_w, zo_ldc2_w, zo_iload_n, zo_iload, zo_lload_n, zo_lload, zo_aload_n, zo_aload, zo_istore_n, zo_istore, zo_lstore_n, zo_lstore, zo_astore_n, zo_astore, zo_iinc, zo_iadd, zo_isub, zo_imul, zo_iand, zo_ior, zo_ixor, zo_ishl, zo_ishr, zo_iushr, zo_idiv, zo_irem, zo_ladd, zo_lsub, zo_lmul, zo_ldiv, zo_lrem, zo_lcmp, zo_i2l, zo_i2b, zo_i2s, zo_dup, zo_dup2, zo_aconst_null, zo_if_icmp, zo_ifCond, zo_goto, zo_ifnull, zo_ifnonnull, zo_iaload, zo_baload, zo_laload, zo_aaload, zo_iastore, zo_bastore, zo_lastore, zo_arraylength, zo_getfield, zo_putfield, zo_tableswitch, zo_lookupswitch, zo_ireturn, zo_lreturn, zo_areturn, zo_return, zo_invokestatic, zo_invokevirtual, zo_new, zo_invokespecial, zo_newarray, zo_anewarray, zo_aastore, zy_0_1, zy_0_2, zy_0_3, zy_1_1, zy_1_2, zy_2_1, zy_2_2, zy_2_3, zy_3_0, zy_4_3, zy_5_1, zy_5_2, zy_6_5, zy_6_6, zy_6_7, zy_6_8, zy_6_9, zy_6_10, zy_7_2, zy_7_6, zy_7_9, zy_7_10, zy_7_11, zy_7_12, zy_7_14, zy_7_21, zy_7_30, zq_iconst, zq_bipush, zq_sipush, zq_lconst0, zq_lconst1, zq_ldc, zq_ldc_w, zq_ldc2_w, zq_iload0, zq_iload1, zq_iload2, zq_iload3, zq_iload, zq_lload0, zq_lload1, zq_lload2, zq_lload3, zq_lload, zq_aload0, zq_aload1, zq_aload2, zq_aload3, zq_aload, zq_istore0, zq_istore1, zq_istore2, zq_istore3, zq_istore, zq_lstore0, zq_lstore1, zq_lstore2, zq_lstore3, zq_lstore, zq_astore0, zq_astore0N, zq_astore1, zq_astore1N, zq_astore2, zq_astore2N, zq_astore3, zq_astore3N, zq_astore, zq_astoreN, zq_iinc, zq_iadd, zq_isub, zq_imul, zq_iand, zq_ior, zq_ixor, zq_ishl, zq_ishr, zq_iushr, zq_idiv, zq_irem, zq_ladd, zq_lsub, zq_lmul, zq_ldiv, zq_lrem, zq_lcmp, zq_i2l, zq_i2b, zq_i2s, zq_dup_i, zq_dup_r, zq_dup2, zq_null, zq_icmp_eq, zq_if_eq, zq_icmp_ne, zq_if_ne, zq_icmp_lt, zq_if_lt, zq_icmp_ge, zq_if_ge, zq_icmp_gt, zq_if_gt, zq_icmp_le, zq_if_le, zq_goto, zq_ifnull_r, zq_ifnull_n, zq_ifnonnull_r, zq_ifnonnull_n, zq_iaload, zq_baload, zq_laload, zq_aaload, zq_iastore, zq_bastore, zq_lastore, zq_alen, zq_getf, zq_put, zq_tsw, zq_lsw, zq_ireturn, zq_lreturn, zq_areturn, zq_areturnN, zq_return, zq_invokestatic, zq_invokevirtual, zq_new, zq_invokespecial, zq_newarray, zq_anewarray, zq_aastore, zi_m1, zi_0, zi_1, zi_2, zi_3, zi_4, zi_5, zi_6, zi_8, zi_16, zb_m10, zb_m4, zb_m3, zb_m2, zb_6, zb_7, zb_8, zb_9, zb_10, zb_16, zb_20, zb_23, zb_30, zb_32, zb_35, zb_46, zb_48, zb_56, zb_57, zb_59, zb_63, zb_70, zb_98, zb_99, zb_100, zb_111, zb_112, zs_192, zs_255, zs_256, zs_511, zs_512, zs_12345, zf_X8_7_0, zf_X8_13_0, zf_X8_112_0, zf_X8_16_0, zf_X8_19_0, zf_X8_22_0, zf_X8_115_0, zf_X8_25_0, zf_X8_28_0, zf_X8_78_0, zf_X8_82_0, zf_X8_85_0, zf_X8_144_0, zf_X8_31_0, zf_X8_137_0, zf_X8_34_0, zf_X8_38_0, zf_X8_41_0, zf_X8_44_0, zf_X8_47_0, zf_X8_50_0, zf_X8_234_0, zf_X8_53_0, zf_X8_56_0, zf_X8_59_0, zf_X8_62_0, zf_X8_66_0, zf_X8_69_0, zf_X8_72_0, zf_X8_75_0, zf_X8_244_0, zkc_X8_240, zkc_X8_253, zkl_X8_92, zkl_X8_262, zkl_X8_257, za_M_1, za_M_2, za_M_3, za_M_4, za_M_5, za_M_6, za_M_7, za_M_8, za_M_9, za_M_10, za_M_11, za_M_12, za_M_13, za_M_14, za_M_15, za_M_16, za_M_17, za_M_18, za_M_19, za_M_20, za_M_21, za_M_22, dX8_reads_0, dX8_reads_1, dX8_reads_2, dX8_reads_5, dX8_reads_6, cr_X8_reads_125, wr_X8_faultOf]
    exact ⟨T, hM, hk⟩
  · exact h.elim
theorem ok_X8_reads : z_Ok z_shM yX8_reads cX8_reads 2 none ({ frames := 5, cells := 0, slots := 0, locals := 119 } : Room) 0 wp_X8_reads := z_Ok_of pu_X8_reads z_fX8_ok z_kX8_ok co_X8_reads ⟨by decide, by decide⟩ (by decide +kernel)
theorem rec_X8_reads : z_rec z_shM wp_X8_reads 7 := by
  intro as S post h
  unfold wp_X8_reads at h
  split at h
  · exact ⟨_, _, _, rfl, rfl⟩
  · exact h.elim
theorem i_in2 {v : Int32} (h : i_in v 2) : v = 0 ∨ v = 1 := by
  obtain ⟨e, hv⟩ := i_inI h (by omega)
  rcases (show cn v = 0 ∨ cn v = 1 by omega) with q | q
  · exact Or.inl (by rw [e, q]; rfl)
  · exact Or.inr (by rw [e, q]; rfl)
theorem i_in3 {v : Int32} (h : i_in v 3) : v = 0 ∨ v = 1 ∨ v = 2 := by
  obtain ⟨e, hv⟩ := i_inI h (by omega)
  rcases (show cn v = 0 ∨ cn v = 1 ∨ cn v = 2 by omega) with q | q | q
  · exact Or.inl (by rw [e, q]; rfl)
  · exact Or.inr (Or.inl (by rw [e, q]; rfl))
  · exact Or.inr (Or.inr (by rw [e, q]; rfl))
def wp_X8_fault : ZW := fun as S k => match as with
  | [.ref 0, .int u] => ∃ T : ZT, MR T S ∧ ∀ S', MR T S' → k (some (.int (q_fault T u))) S'
  | _ => False
theorem wr_X8_fault {u : Int32} {S : ZS} {k : Option Value → ZS → Prop} : wp_X8_fault [.ref 0, .int u] S k = (∃ T : ZT, MR T S ∧ ∀ S', MR T S' → k (some (.int (q_fault T u))) S') := rfl
def cs_X8_fault : List (Nat × ZC) := [(98, (1, 0, true, wp_X8_isText)), (125, (2, 0, false, wp_X8_faultOf))]
theorem cr_X8_fault_98 : cs_X8_fault.lookup 98 = some (1, 0, true, wp_X8_isText) := rfl
theorem cr_X8_fault_125 : cs_X8_fault.lookup 125 = some (2, 0, false, wp_X8_faultOf) := rfl
set_option maxRecDepth 20000 in
theorem co_X8_fault : z_csok RX8 ({ frames := 5, cells := 0, slots := 0, locals := 119 } : Room) z_shM cs_X8_fault := z_cs2 (z_csS ok_X8_isText (z_g 786 (by decide +kernel) rfl) (z_g 787 (by decide +kernel) rfl) (z_g 51 (by decide +kernel) rfl) (z_g 788 (by decide +kernel) rfl) rfl rfl (by decide +kernel) ⟨by decide, by decide⟩)
  (z_cs2 (z_csV ok_X8_faultOf rec_X8_faultOf rfl (z_g 807 (by decide +kernel) rfl) (z_g 809 (by decide +kernel) rfl) (z_g 10 (by decide +kernel) rfl) (z_g 810 (by decide +kernel) rfl) (z_g 51 (by decide +kernel) rfl) rfl rfl (by decide +kernel) ⟨by decide, by decide⟩)
  (z_cs0))
set_option maxHeartbeats 4000000 in
set_option maxRecDepth 20000 in
theorem pu_X8_fault : z_Pure cX8_fault 2 z_shM z_fX8 cs_X8_fault z_kcX8 z_klX8 (some .int) 0 wp_X8_fault := by
  intro as S post h
  unfold wp_X8_fault at h
  split at h
  · rename_i u
    refine ⟨Nat.le_of_ble_eq_true rfl, fun K hK => ?_⟩
    change K 0 0 [some (.ref 0), some (.int u)] [] S
    obtain ⟨T, hM, hk⟩ := h
    refine hK (z_in []) 60 _ _ _ _ _ (Nat.zero_le _) ?_
    simp (config := { maxSteps := 10000000 }) only [z40, z20, z10, z01, zm0, z0m, ze_s, ze_ok, zt_s, zt_t, zt_f, zl_I, zl_J, zl_R, zl_N, zl_C, zl_K, zl_M, zl_ar0, zl_ar1, zl_ar2, zl_ar3, zl_as0, zl_as1, zl_as2, zl_al, zl_gf, zl_gr, zl_pf, zl_iv, zl_ivn, zlk_n, zlk_c, ztb_n, ztb_c, zin_n, zin_1, zin_c, Int.reduceLT, decide_true, decide_false, Bool.true_and, Bool.and_true, List.length_cons, List.length_nil, Int.reduceSub, Int.reduceEq, Int.natCast_zero, zk_s, z_in_n, z_in_c, z_gt_0, z_gt_s, zst_0, zst_1, zst_s, zsl_0, zsl_1, zsl_s, zc_n, zc_i, zc_l, zc_r, zc_u, zca_n, zca_i, zca_l, zca_r, zca_u, zrt_i, zrt_z, zrt_o, z_cal_0, z_cal_s, true_and, and_true, List.nil_append, List.cons_append, Option.toList_some, Option.toList_none, Nat.reduceAdd, Nat.reduceBEq, Nat.reduceLT, Nat.reduceLeDiff, Nat.reduceSub, Int.reduceAdd, Int.reduceLE, Int.reduceToNat, Int.cast_ofNat_Int, Bool.or_true, Bool.true_or, Bool.or_false, Bool.false_or, Nat.le_refl, Nat.zero_le, or_true, true_or, or_false, false_or, not_true_eq_false, not_false_eq_true, not_false_iff, false_implies, true_implies, eq_self, zo_iconst, zo_bipush, zo_sipush, zo_lconst, zo_ldc, zo_ldc_w, zo_ldc2_w, zo_iload_n, zo_iload, zo_lload_n, zo_lload, zo_aload_n, zo_aload, zo_istore_n, zo_istore, zo_lstore_n, zo_lstore, zo_astore_n, zo_astore, zo_iinc, zo_iadd, zo_isub, zo_imul, zo_iand, zo_ior, zo_ixor, zo_ishl, zo_ishr, zo_iushr, zo_idiv, zo_irem, zo_ladd, zo_lsub, zo_lmul, zo_ldiv, zo_lrem, zo_lcmp, zo_i2l, zo_i2b, zo_i2s, zo_dup, zo_dup2, zo_aconst_null, zo_if_icmp, zo_ifCond, zo_goto, zo_ifnull, zo_ifnonnull, zo_iaload, zo_baload, zo_laload, zo_aaload, zo_iastore, zo_bastore, zo_lastore, zo_arraylength, zo_getfield, zo_putfield, zo_tableswitch, zo_lookupswitch, zo_ireturn, zo_lreturn, zo_areturn, zo_return, zo_invokestatic, zo_invokevirtual, zo_new, zo_invokespecial, zo_newarray, zo_anewarray, zo_aastore, zy_0_1, zy_0_2, zy_0_3, zy_1_1, zy_1_2, zy_2_1, zy_2_2, zy_2_3, zy_3_0, zy_4_3, zy_5_1, zy_5_2, zy_6_5, zy_6_6, zy_6_7, zy_6_8, zy_6_9, zy_6_10, zy_7_2, zy_7_6, zy_7_9, zy_7_10, zy_7_11, zy_7_12, zy_7_14, zy_7_21, zy_7_30, zq_iconst, zq_bipush, zq_sipush, zq_lconst0, zq_lconst1, zq_ldc, zq_ldc_w, zq_ldc2_w, zq_iload0, zq_iload1, zq_iload2, zq_iload3, zq_iload, zq_lload0, zq_lload1, zq_lload2, zq_lload3, zq_lload, zq_aload0, zq_aload1, zq_aload2, zq_aload3, zq_aload, zq_istore0, zq_istore1, zq_istore2, zq_istore3, zq_istore, zq_lstore0, zq_lstore1, zq_lstore2, zq_lstore3, zq_lstore, zq_astore0, zq_astore0N, zq_astore1, zq_astore1N, zq_astore2, zq_astore2N, zq_astore3, zq_astore3N, zq_astore, zq_astoreN, zq_iinc, zq_iadd, zq_isub, zq_imul, zq_iand, zq_ior, zq_ixor, zq_ishl, zq_ishr, zq_iushr, zq_idiv, zq_irem, zq_ladd, zq_lsub, zq_lmul, zq_ldiv, zq_lrem, zq_lcmp, zq_i2l, zq_i2b, zq_i2s, zq_dup_i, zq_dup_r, zq_dup2, zq_null, zq_icmp_eq, zq_if_eq, zq_icmp_ne, zq_if_ne, zq_icmp_lt, zq_if_lt, zq_icmp_ge, zq_if_ge, zq_icmp_gt, zq_if_gt, zq_icmp_le, zq_if_le, zq_goto, zq_ifnull_r, zq_ifnull_n, zq_ifnonnull_r, zq_ifnonnull_n, zq_iaload, zq_baload, zq_laload, zq_aaload, zq_iastore, zq_bastore, zq_lastore, zq_alen, zq_getf, zq_put, zq_tsw, zq_lsw, zq_ireturn, zq_lreturn, zq_areturn, zq_areturnN, zq_return, zq_invokestatic, zq_invokevirtual, zq_new, zq_invokespecial, zq_newarray, zq_anewarray, zq_aastore, zi_m1, zi_0, zi_1, zi_2, zi_3, zi_4, zi_5, zi_6, zi_8, zi_16, zb_m10, zb_m4, zb_m3, zb_m2, zb_6, zb_7, zb_8, zb_9, zb_10, zb_16, zb_20, zb_23, zb_30, zb_32, zb_35, zb_46, zb_48, zb_56, zb_57, zb_59, zb_63, zb_70, zb_98, zb_99, zb_100, zb_111, zb_112, zs_192, zs_255, zs_256, zs_511, zs_512, zs_12345, zf_X8_7_0, zf_X8_13_0, zf_X8_112_0, zf_X8_16_0, zf_X8_19_0, zf_X8_22_0, zf_X8_115_0, zf_X8_25_0, zf_X8_28_0, zf_X8_78_0, zf_X8_82_0, zf_X8_85_0, zf_X8_144_0, zf_X8_31_0, zf_X8_137_0, zf_X8_34_0, zf_X8_38_0, zf_X8_41_0, zf_X8_44_0, zf_X8_47_0, zf_X8_50_0, zf_X8_234_0, zf_X8_53_0, zf_X8_56_0, zf_X8_59_0, zf_X8_62_0, zf_X8_66_0, zf_X8_69_0, zf_X8_72_0, zf_X8_75_0, zf_X8_244_0, zkc_X8_240, zkc_X8_253, zkl_X8_92, zkl_X8_262, zkl_X8_257, za_M_1, za_M_2, za_M_3, za_M_4, za_M_5, za_M_6, za_M_7, za_M_8, za_M_9, za_M_10, za_M_11, za_M_12, za_M_13, za_M_14, za_M_15, za_M_16, za_M_17, za_M_18, za_M_19, za_M_20, za_M_21, za_M_22, dX8_fault_0, dX8_fault_1, dX8_fault_4, dX8_fault_7, dX8_fault_8, dX8_fault_9, dX8_fault_12, dX8_fault_15, dX8_fault_17, cr_X8_fault_98, cr_X8_fault_125, wr_X8_isText, wr_X8_faultOf]
    refine ⟨fun c => ⟨T, hM, fun S' h1 h2 => ?_⟩, fun c => ?_⟩
    · have := hk S' h1.1
      unfold q_fault at this
      rcases i_in2 c with rfl | rfl
      · exact this
      · exact this
    · have := hk S hM
      unfold q_fault at this
      rw [if_neg (fun q => c (by rw [q]; decide)), if_neg (fun q => c (by rw [q]; decide))] at this
      exact this
  · exact h.elim
theorem ok_X8_fault : z_Ok z_shM yX8_fault cX8_fault 2 (some .int) ({ frames := 5, cells := 0, slots := 0, locals := 119 } : Room) 0 wp_X8_fault := z_Ok_of pu_X8_fault z_fX8_ok z_kX8_ok co_X8_fault ⟨by decide, by decide⟩ (by decide +kernel)
theorem rec_X8_fault : z_rec z_shM wp_X8_fault 7 := by
  intro as S post h
  unfold wp_X8_fault at h
  split at h
  · exact ⟨_, _, _, rfl, rfl⟩
  · exact h.elim
def wp_X8_isKing : ZW := fun as S k => match as with
  | [.ref 0, .int v] => ∃ T : ZT, MR T S ∧ ∀ S', MP T S' → mfr S S' → (i_in v (tM T) → k (some (.int 1)) S') ∧ (¬ i_in v (tM T) → k (some (.int 0)) S')
  | _ => False
theorem wr_X8_isKing {v : Int32} {S : ZS} {k : Option Value → ZS → Prop} : wp_X8_isKing [.ref 0, .int v] S k = (∃ T : ZT, MR T S ∧ ∀ S', MP T S' → mfr S S' → (i_in v (tM T) → k (some (.int 1)) S') ∧ (¬ i_in v (tM T) → k (some (.int 0)) S')) := rfl
def cs_X8_isKing : List (Nat × ZC) := [(128, (1, 0, false, wp_X8_reads)), (94, (3, 0, true, wp_X8_in))]
theorem cr_X8_isKing_128 : cs_X8_isKing.lookup 128 = some (1, 0, false, wp_X8_reads) := rfl
theorem cr_X8_isKing_94 : cs_X8_isKing.lookup 94 = some (3, 0, true, wp_X8_in) := rfl
set_option maxRecDepth 20000 in
theorem co_X8_isKing : z_csok RX8 ({ frames := 6, cells := 0, slots := 0, locals := 140 } : Room) z_shM cs_X8_isKing := z_cs2 (z_csV ok_X8_reads rec_X8_reads rfl (z_g 831 (by decide +kernel) rfl) (z_g 833 (by decide +kernel) rfl) (z_g 15 (by decide +kernel) rfl) (z_g 834 (by decide +kernel) rfl) (z_g 51 (by decide +kernel) rfl) rfl rfl (by decide +kernel) ⟨by decide, by decide⟩)
  (z_cs2 (z_csS ok_X8_in (z_g 789 (by decide +kernel) rfl) (z_g 790 (by decide +kernel) rfl) (z_g 51 (by decide +kernel) rfl) (z_g 791 (by decide +kernel) rfl) rfl rfl (by decide +kernel) ⟨by decide, by decide⟩)
  (z_cs0))
set_option maxHeartbeats 4000000 in
set_option maxRecDepth 20000 in
theorem pu_X8_isKing : z_Pure cX8_isKing 2 z_shM z_fX8 cs_X8_isKing z_kcX8 z_klX8 (some .boolean) 0 wp_X8_isKing := by
  intro as S post h
  unfold wp_X8_isKing at h
  split at h
  · rename_i v
    refine ⟨Nat.le_of_ble_eq_true rfl, fun K hK => ?_⟩
    change K 0 0 [some (.ref 0), some (.int v)] [] S
    obtain ⟨T, hM, hk⟩ := h
    have hn := MR_M hM
    refine hK (z_in []) 60 _ _ _ _ _ (Nat.zero_le _) ?_
    simp (config := { maxSteps := 10000000 }) only [z40, z20, z10, z01, zm0, z0m, ze_s, ze_ok, zt_s, zt_t, zt_f, zl_I, zl_J, zl_R, zl_N, zl_C, zl_K, zl_M, zl_ar0, zl_ar1, zl_ar2, zl_ar3, zl_as0, zl_as1, zl_as2, zl_al, zl_gf, zl_gr, zl_pf, zl_iv, zl_ivn, zlk_n, zlk_c, ztb_n, ztb_c, zin_n, zin_1, zin_c, Int.reduceLT, decide_true, decide_false, Bool.true_and, Bool.and_true, List.length_cons, List.length_nil, Int.reduceSub, Int.reduceEq, Int.natCast_zero, zk_s, z_in_n, z_in_c, z_gt_0, z_gt_s, zst_0, zst_1, zst_s, zsl_0, zsl_1, zsl_s, zc_n, zc_i, zc_l, zc_r, zc_u, zca_n, zca_i, zca_l, zca_r, zca_u, zrt_i, zrt_z, zrt_o, z_cal_0, z_cal_s, true_and, and_true, List.nil_append, List.cons_append, Option.toList_some, Option.toList_none, Nat.reduceAdd, Nat.reduceBEq, Nat.reduceLT, Nat.reduceLeDiff, Nat.reduceSub, Int.reduceAdd, Int.reduceLE, Int.reduceToNat, Int.cast_ofNat_Int, Bool.or_true, Bool.true_or, Bool.or_false, Bool.false_or, Nat.le_refl, Nat.zero_le, or_true, true_or, or_false, false_or, not_true_eq_false, not_false_eq_true, not_false_iff, false_implies, true_implies, eq_self, zo_iconst, zo_bipush, zo_sipush, zo_lconst, zo_ldc, zo_ldc_w, zo_ldc2_w, zo_iload_n, zo_iload, zo_lload_n, zo_lload, zo_aload_n, zo_aload, zo_istore_n, zo_istore, zo_lstore_n, zo_lstore, zo_astore_n, zo_astore, zo_iinc, zo_iadd, zo_isub, zo_imul, zo_iand, zo_ior, zo_ixor, zo_ishl, zo_ishr, zo_iushr, zo_idiv, zo_irem, zo_ladd, zo_lsub, zo_lmul, zo_ldiv, zo_lrem, zo_lcmp, zo_i2l, zo_i2b, zo_i2s, zo_dup, zo_dup2, zo_aconst_null, zo_if_icmp, zo_ifCond, zo_goto, zo_ifnull, zo_ifnonnull, zo_iaload, zo_baload, zo_laload, zo_aaload, zo_iastore, zo_bastore, zo_lastore, zo_arraylength, zo_getfield, zo_putfield, zo_tableswitch, zo_lookupswitch, zo_ireturn, zo_lreturn, zo_areturn, zo_return, zo_invokestatic, zo_invokevirtual, zo_new, zo_invokespecial, zo_newarray, zo_anewarray, zo_aastore, zy_0_1, zy_0_2, zy_0_3, zy_1_1, zy_1_2, zy_2_1, zy_2_2, zy_2_3, zy_3_0, zy_4_3, zy_5_1, zy_5_2, zy_6_5, zy_6_6, zy_6_7, zy_6_8, zy_6_9, zy_6_10, zy_7_2, zy_7_6, zy_7_9, zy_7_10, zy_7_11, zy_7_12, zy_7_14, zy_7_21, zy_7_30, zq_iconst, zq_bipush, zq_sipush, zq_lconst0, zq_lconst1, zq_ldc, zq_ldc_w, zq_ldc2_w, zq_iload0, zq_iload1, zq_iload2, zq_iload3, zq_iload, zq_lload0, zq_lload1, zq_lload2, zq_lload3, zq_lload, zq_aload0, zq_aload1, zq_aload2, zq_aload3, zq_aload, zq_istore0, zq_istore1, zq_istore2, zq_istore3, zq_istore, zq_lstore0, zq_lstore1, zq_lstore2, zq_lstore3, zq_lstore, zq_astore0, zq_astore0N, zq_astore1, zq_astore1N, zq_astore2, zq_astore2N, zq_astore3, zq_astore3N, zq_astore, zq_astoreN, zq_iinc, zq_iadd, zq_isub, zq_imul, zq_iand, zq_ior, zq_ixor, zq_ishl, zq_ishr, zq_iushr, zq_idiv, zq_irem, zq_ladd, zq_lsub, zq_lmul, zq_ldiv, zq_lrem, zq_lcmp, zq_i2l, zq_i2b, zq_i2s, zq_dup_i, zq_dup_r, zq_dup2, zq_null, zq_icmp_eq, zq_if_eq, zq_icmp_ne, zq_if_ne, zq_icmp_lt, zq_if_lt, zq_icmp_ge, zq_if_ge, zq_icmp_gt, zq_if_gt, zq_icmp_le, zq_if_le, zq_goto, zq_ifnull_r, zq_ifnull_n, zq_ifnonnull_r, zq_ifnonnull_n, zq_iaload, zq_baload, zq_laload, zq_aaload, zq_iastore, zq_bastore, zq_lastore, zq_alen, zq_getf, zq_put, zq_tsw, zq_lsw, zq_ireturn, zq_lreturn, zq_areturn, zq_areturnN, zq_return, zq_invokestatic, zq_invokevirtual, zq_new, zq_invokespecial, zq_newarray, zq_anewarray, zq_aastore, zi_m1, zi_0, zi_1, zi_2, zi_3, zi_4, zi_5, zi_6, zi_8, zi_16, zb_m10, zb_m4, zb_m3, zb_m2, zb_6, zb_7, zb_8, zb_9, zb_10, zb_16, zb_20, zb_23, zb_30, zb_32, zb_35, zb_46, zb_48, zb_56, zb_57, zb_59, zb_63, zb_70, zb_98, zb_99, zb_100, zb_111, zb_112, zs_192, zs_255, zs_256, zs_511, zs_512, zs_12345, zf_X8_7_0, zf_X8_13_0, zf_X8_112_0, zf_X8_16_0, zf_X8_19_0, zf_X8_22_0, zf_X8_115_0, zf_X8_25_0, zf_X8_28_0, zf_X8_78_0, zf_X8_82_0, zf_X8_85_0, zf_X8_144_0, zf_X8_31_0, zf_X8_137_0, zf_X8_34_0, zf_X8_38_0, zf_X8_41_0, zf_X8_44_0, zf_X8_47_0, zf_X8_50_0, zf_X8_234_0, zf_X8_53_0, zf_X8_56_0, zf_X8_59_0, zf_X8_62_0, zf_X8_66_0, zf_X8_69_0, zf_X8_72_0, zf_X8_75_0, zf_X8_244_0, zkc_X8_240, zkc_X8_253, zkl_X8_92, zkl_X8_262, zkl_X8_257, za_M_1, za_M_2, za_M_3, za_M_4, za_M_5, za_M_6, za_M_7, za_M_8, za_M_9, za_M_10, za_M_11, za_M_12, za_M_13, za_M_14, za_M_15, za_M_16, za_M_17, za_M_18, za_M_19, za_M_20, za_M_21, za_M_22, dX8_isKing_0, dX8_isKing_1, dX8_isKing_4, dX8_isKing_5, dX8_isKing_6, dX8_isKing_7, dX8_isKing_10, dX8_isKing_11, dX8_isKing_12, dX8_isKing_15, cr_X8_isKing_128, cr_X8_isKing_94, wr_X8_reads, wr_X8_in]
    refine ⟨T, hM, fun S' h1 h2 => ?_⟩
    rw [show S'.1 0 6 = nI (tM T) from h1.2.2.1, w_in' (by omega)]
    exact hk S' h1 h2
  · exact h.elim
theorem ok_X8_isKing : z_Ok z_shM yX8_isKing cX8_isKing 2 (some .boolean) ({ frames := 6, cells := 0, slots := 0, locals := 140 } : Room) 0 wp_X8_isKing := z_Ok_of pu_X8_isKing z_fX8_ok z_kX8_ok co_X8_isKing ⟨by decide, by decide⟩ (by decide +kernel)
theorem rec_X8_isKing : z_rec z_shM wp_X8_isKing 7 := by
  intro as S post h
  unfold wp_X8_isKing at h
  split at h
  · exact ⟨_, _, _, rfl, rfl⟩
  · exact h.elim
def wp_X8_bookOf : ZW := fun as S k => match as with
  | [.ref 0, .int b, .int w] => ∃ (x : ZText) (j : Nat), b = nI j ∧ x.1 ≤ 35 ∧ j < ab_num 0 x ∧ m_tb 0 x S ∧ k (some (.int (if w = 0 then nI (ab_worth x j) else if w = 1 then nI (ab_kind x j) else ab_lean32 x j))) S
  | _ => False
theorem wr_X8_bookOf {b : Int32} {w : Int32} {S : ZS} {k : Option Value → ZS → Prop} : wp_X8_bookOf [.ref 0, .int b, .int w] S k = (∃ (x : ZText) (j : Nat), b = nI j ∧ x.1 ≤ 35 ∧ j < ab_num 0 x ∧ m_tb 0 x S ∧ k (some (.int (if w = 0 then nI (ab_worth x j) else if w = 1 then nI (ab_kind x j) else ab_lean32 x j))) S) := rfl
def cs_X8_bookOf : List (Nat × ZC) := []
set_option maxRecDepth 20000 in
theorem co_X8_bookOf : z_csok RX8 ({ frames := 0, cells := 0, slots := 0, locals := 0 } : Room) z_shM cs_X8_bookOf := z_cs0
set_option maxHeartbeats 4000000 in
set_option maxRecDepth 20000 in
theorem pu_X8_bookOf : z_Pure cX8_bookOf 3 z_shM z_fX8 cs_X8_bookOf z_kcX8 z_klX8 (some .int) 0 wp_X8_bookOf := by
  intro as S post h
  unfold wp_X8_bookOf at h
  split at h
  · rename_i b w
    refine ⟨Nat.le_of_ble_eq_true rfl, fun K hK => ?_⟩
    change K 0 0 [some (.ref 0), some (.int b), some (.int w)] [] S
    obtain ⟨x, j, rfl, hx, hj, hb, hk⟩ := h
    have hn := ab_numB hx
    obtain ⟨f1, f2, f3⟩ := hb.2 j hj
    refine hK (z_in []) 60 _ _ _ _ _ (Nat.zero_le _) ?_
    simp (config := { maxSteps := 10000000 }) only [z40, z20, z10, z01, zm0, z0m, ze_s, ze_ok, zt_s, zt_t, zt_f, zl_I, zl_J, zl_R, zl_N, zl_C, zl_K, zl_M, zl_ar0, zl_ar1, zl_ar2, zl_ar3, zl_as0, zl_as1, zl_as2, zl_al, zl_gf, zl_gr, zl_pf, zl_iv, zl_ivn, zlk_n, zlk_c, ztb_n, ztb_c, zin_n, zin_1, zin_c, Int.reduceLT, decide_true, decide_false, Bool.true_and, Bool.and_true, List.length_cons, List.length_nil, Int.reduceSub, Int.reduceEq, Int.natCast_zero, zk_s, z_in_n, z_in_c, z_gt_0, z_gt_s, zst_0, zst_1, zst_s, zsl_0, zsl_1, zsl_s, zc_n, zc_i, zc_l, zc_r, zc_u, zca_n, zca_i, zca_l, zca_r, zca_u, zrt_i, zrt_z, zrt_o, z_cal_0, z_cal_s, true_and, and_true, List.nil_append, List.cons_append, Option.toList_some, Option.toList_none, Nat.reduceAdd, Nat.reduceBEq, Nat.reduceLT, Nat.reduceLeDiff, Nat.reduceSub, Int.reduceAdd, Int.reduceLE, Int.reduceToNat, Int.cast_ofNat_Int, Bool.or_true, Bool.true_or, Bool.or_false, Bool.false_or, Nat.le_refl, Nat.zero_le, or_true, true_or, or_false, false_or, not_true_eq_false, not_false_eq_true, not_false_iff, false_implies, true_implies, eq_self, zo_iconst, zo_bipush, zo_sipush, zo_lconst, zo_ldc, zo_ldc_w, zo_ldc2_w, zo_iload_n, zo_iload, zo_lload_n, zo_lload, zo_aload_n, zo_aload, zo_istore_n, zo_istore, zo_lstore_n, zo_lstore, zo_astore_n, zo_astore, zo_iinc, zo_iadd, zo_isub, zo_imul, zo_iand, zo_ior, zo_ixor, zo_ishl, zo_ishr, zo_iushr, zo_idiv, zo_irem, zo_ladd, zo_lsub, zo_lmul, zo_ldiv, zo_lrem, zo_lcmp, zo_i2l, zo_i2b, zo_i2s, zo_dup, zo_dup2, zo_aconst_null, zo_if_icmp, zo_ifCond, zo_goto, zo_ifnull, zo_ifnonnull, zo_iaload, zo_baload, zo_laload, zo_aaload, zo_iastore, zo_bastore, zo_lastore, zo_arraylength, zo_getfield, zo_putfield, zo_tableswitch, zo_lookupswitch, zo_ireturn, zo_lreturn, zo_areturn, zo_return, zo_invokestatic, zo_invokevirtual, zo_new, zo_invokespecial, zo_newarray, zo_anewarray, zo_aastore, zy_0_1, zy_0_2, zy_0_3, zy_1_1, zy_1_2, zy_2_1, zy_2_2, zy_2_3, zy_3_0, zy_4_3, zy_5_1, zy_5_2, zy_6_5, zy_6_6, zy_6_7, zy_6_8, zy_6_9, zy_6_10, zy_7_2, zy_7_6, zy_7_9, zy_7_10, zy_7_11, zy_7_12, zy_7_14, zy_7_21, zy_7_30, zq_iconst, zq_bipush, zq_sipush, zq_lconst0, zq_lconst1, zq_ldc, zq_ldc_w, zq_ldc2_w, zq_iload0, zq_iload1, zq_iload2, zq_iload3, zq_iload, zq_lload0, zq_lload1, zq_lload2, zq_lload3, zq_lload, zq_aload0, zq_aload1, zq_aload2, zq_aload3, zq_aload, zq_istore0, zq_istore1, zq_istore2, zq_istore3, zq_istore, zq_lstore0, zq_lstore1, zq_lstore2, zq_lstore3, zq_lstore, zq_astore0, zq_astore0N, zq_astore1, zq_astore1N, zq_astore2, zq_astore2N, zq_astore3, zq_astore3N, zq_astore, zq_astoreN, zq_iinc, zq_iadd, zq_isub, zq_imul, zq_iand, zq_ior, zq_ixor, zq_ishl, zq_ishr, zq_iushr, zq_idiv, zq_irem, zq_ladd, zq_lsub, zq_lmul, zq_ldiv, zq_lrem, zq_lcmp, zq_i2l, zq_i2b, zq_i2s, zq_dup_i, zq_dup_r, zq_dup2, zq_null, zq_icmp_eq, zq_if_eq, zq_icmp_ne, zq_if_ne, zq_icmp_lt, zq_if_lt, zq_icmp_ge, zq_if_ge, zq_icmp_gt, zq_if_gt, zq_icmp_le, zq_if_le, zq_goto, zq_ifnull_r, zq_ifnull_n, zq_ifnonnull_r, zq_ifnonnull_n, zq_iaload, zq_baload, zq_laload, zq_aaload, zq_iastore, zq_bastore, zq_lastore, zq_alen, zq_getf, zq_put, zq_tsw, zq_lsw, zq_ireturn, zq_lreturn, zq_areturn, zq_areturnN, zq_return, zq_invokestatic, zq_invokevirtual, zq_new, zq_invokespecial, zq_newarray, zq_anewarray, zq_aastore, zi_m1, zi_0, zi_1, zi_2, zi_3, zi_4, zi_5, zi_6, zi_8, zi_16, zb_m10, zb_m4, zb_m3, zb_m2, zb_6, zb_7, zb_8, zb_9, zb_10, zb_16, zb_20, zb_23, zb_30, zb_32, zb_35, zb_46, zb_48, zb_56, zb_57, zb_59, zb_63, zb_70, zb_98, zb_99, zb_100, zb_111, zb_112, zs_192, zs_255, zs_256, zs_511, zs_512, zs_12345, zf_X8_7_0, zf_X8_13_0, zf_X8_112_0, zf_X8_16_0, zf_X8_19_0, zf_X8_22_0, zf_X8_115_0, zf_X8_25_0, zf_X8_28_0, zf_X8_78_0, zf_X8_82_0, zf_X8_85_0, zf_X8_144_0, zf_X8_31_0, zf_X8_137_0, zf_X8_34_0, zf_X8_38_0, zf_X8_41_0, zf_X8_44_0, zf_X8_47_0, zf_X8_50_0, zf_X8_234_0, zf_X8_53_0, zf_X8_56_0, zf_X8_59_0, zf_X8_62_0, zf_X8_66_0, zf_X8_69_0, zf_X8_72_0, zf_X8_75_0, zf_X8_244_0, zkc_X8_240, zkc_X8_253, zkl_X8_92, zkl_X8_262, zkl_X8_257, za_M_1, za_M_2, za_M_3, za_M_4, za_M_5, za_M_6, za_M_7, za_M_8, za_M_9, za_M_10, za_M_11, za_M_12, za_M_13, za_M_14, za_M_15, za_M_16, za_M_17, za_M_18, za_M_19, za_M_20, za_M_21, za_M_22, dX8_bookOf_0, dX8_bookOf_1, dX8_bookOf_4, dX8_bookOf_5, dX8_bookOf_8, dX8_bookOf_9, dX8_bookOf_10, dX8_bookOf_13, dX8_bookOf_14, dX8_bookOf_15, dX8_bookOf_18, dX8_bookOf_19, dX8_bookOf_22, dX8_bookOf_23, dX8_bookOf_24, dX8_bookOf_27, dX8_bookOf_28, dX8_bookOf_31, dX8_bookOf_32, dX8_bookOf_33]
    simp only [n_cl (show j < 2147483648 by omega), f1, f2, f3]
    have hin : vp_in (nI j) 10 := n_in (by omega) (by omega)
    refine ⟨fun c => ⟨hin, ?_⟩, fun c => ⟨fun c1 => ⟨hin, ?_⟩, fun c1 => ⟨hin, ?_⟩⟩⟩
    · rw [if_pos c] at hk; exact hk
    · rw [if_neg c, if_pos c1] at hk; exact hk
    · rw [if_neg c, if_neg c1] at hk; exact hk
  · exact h.elim
theorem ok_X8_bookOf : z_Ok z_shM yX8_bookOf cX8_bookOf 3 (some .int) ({ frames := 0, cells := 0, slots := 0, locals := 0 } : Room) 0 wp_X8_bookOf := z_Ok_of pu_X8_bookOf z_fX8_ok z_kX8_ok co_X8_bookOf ⟨by decide, by decide⟩ (by decide +kernel)
theorem rec_X8_bookOf : z_rec z_shM wp_X8_bookOf 7 := by
  intro as S post h
  unfold wp_X8_bookOf at h
  split at h
  · exact ⟨_, _, _, rfl, rfl⟩
  · exact h.elim
def wp_X8_book : ZW := fun as S k => match as with
  | [.ref 0, .int b, .int w] => ∃ T : ZT, MR T S ∧ ∀ S', MR T S' → k (some (.int (q_book T b w))) S'
  | _ => False
theorem wr_X8_book {b : Int32} {w : Int32} {S : ZS} {k : Option Value → ZS → Prop} : wp_X8_book [.ref 0, .int b, .int w] S k = (∃ T : ZT, MR T S ∧ ∀ S', MR T S' → k (some (.int (q_book T b w))) S') := rfl
def cs_X8_book : List (Nat × ZC) := [(128, (1, 0, false, wp_X8_reads)), (94, (3, 0, true, wp_X8_in)), (131, (3, 0, false, wp_X8_bookOf))]
theorem cr_X8_book_128 : cs_X8_book.lookup 128 = some (1, 0, false, wp_X8_reads) := rfl
theorem cr_X8_book_94 : cs_X8_book.lookup 94 = some (3, 0, true, wp_X8_in) := rfl
theorem cr_X8_book_131 : cs_X8_book.lookup 131 = some (3, 0, false, wp_X8_bookOf) := rfl
set_option maxRecDepth 20000 in
theorem co_X8_book : z_csok RX8 ({ frames := 6, cells := 0, slots := 0, locals := 140 } : Room) z_shM cs_X8_book := z_cs2 (z_csV ok_X8_reads rec_X8_reads rfl (z_g 831 (by decide +kernel) rfl) (z_g 833 (by decide +kernel) rfl) (z_g 15 (by decide +kernel) rfl) (z_g 834 (by decide +kernel) rfl) (z_g 51 (by decide +kernel) rfl) rfl rfl (by decide +kernel) ⟨by decide, by decide⟩)
  (z_cs2 (z_csS ok_X8_in (z_g 789 (by decide +kernel) rfl) (z_g 790 (by decide +kernel) rfl) (z_g 51 (by decide +kernel) rfl) (z_g 791 (by decide +kernel) rfl) rfl rfl (by decide +kernel) ⟨by decide, by decide⟩)
  (z_cs2 (z_csV ok_X8_bookOf rec_X8_bookOf rfl (z_g 835 (by decide +kernel) rfl) (z_g 837 (by decide +kernel) rfl) (z_g 16 (by decide +kernel) rfl) (z_g 838 (by decide +kernel) rfl) (z_g 51 (by decide +kernel) rfl) rfl rfl (by decide +kernel) ⟨by decide, by decide⟩)
  (z_cs0)))
set_option maxHeartbeats 4000000 in
set_option maxRecDepth 20000 in
theorem pu_X8_book : z_Pure cX8_book 3 z_shM z_fX8 cs_X8_book z_kcX8 z_klX8 (some .int) 0 wp_X8_book := by
  intro as S post h
  unfold wp_X8_book at h
  split at h
  · rename_i b w
    refine ⟨Nat.le_of_ble_eq_true rfl, fun K hK => ?_⟩
    change K 0 0 [some (.ref 0), some (.int b), some (.int w)] [] S
    obtain ⟨T, hM, hk⟩ := h
    have hn := MR_N hM
    refine hK (z_in []) 60 _ _ _ _ _ (Nat.zero_le _) ?_
    simp (config := { maxSteps := 10000000 }) only [z40, z20, z10, z01, zm0, z0m, ze_s, ze_ok, zt_s, zt_t, zt_f, zl_I, zl_J, zl_R, zl_N, zl_C, zl_K, zl_M, zl_ar0, zl_ar1, zl_ar2, zl_ar3, zl_as0, zl_as1, zl_as2, zl_al, zl_gf, zl_gr, zl_pf, zl_iv, zl_ivn, zlk_n, zlk_c, ztb_n, ztb_c, zin_n, zin_1, zin_c, Int.reduceLT, decide_true, decide_false, Bool.true_and, Bool.and_true, List.length_cons, List.length_nil, Int.reduceSub, Int.reduceEq, Int.natCast_zero, zk_s, z_in_n, z_in_c, z_gt_0, z_gt_s, zst_0, zst_1, zst_s, zsl_0, zsl_1, zsl_s, zc_n, zc_i, zc_l, zc_r, zc_u, zca_n, zca_i, zca_l, zca_r, zca_u, zrt_i, zrt_z, zrt_o, z_cal_0, z_cal_s, true_and, and_true, List.nil_append, List.cons_append, Option.toList_some, Option.toList_none, Nat.reduceAdd, Nat.reduceBEq, Nat.reduceLT, Nat.reduceLeDiff, Nat.reduceSub, Int.reduceAdd, Int.reduceLE, Int.reduceToNat, Int.cast_ofNat_Int, Bool.or_true, Bool.true_or, Bool.or_false, Bool.false_or, Nat.le_refl, Nat.zero_le, or_true, true_or, or_false, false_or, not_true_eq_false, not_false_eq_true, not_false_iff, false_implies, true_implies, eq_self, zo_iconst, zo_bipush, zo_sipush, zo_lconst, zo_ldc, zo_ldc_w, zo_ldc2_w, zo_iload_n, zo_iload, zo_lload_n, zo_lload, zo_aload_n, zo_aload, zo_istore_n, zo_istore, zo_lstore_n, zo_lstore, zo_astore_n, zo_astore, zo_iinc, zo_iadd, zo_isub, zo_imul, zo_iand, zo_ior, zo_ixor, zo_ishl, zo_ishr, zo_iushr, zo_idiv, zo_irem, zo_ladd, zo_lsub, zo_lmul, zo_ldiv, zo_lrem, zo_lcmp, zo_i2l, zo_i2b, zo_i2s, zo_dup, zo_dup2, zo_aconst_null, zo_if_icmp, zo_ifCond, zo_goto, zo_ifnull, zo_ifnonnull, zo_iaload, zo_baload, zo_laload, zo_aaload, zo_iastore, zo_bastore, zo_lastore, zo_arraylength, zo_getfield, zo_putfield, zo_tableswitch, zo_lookupswitch, zo_ireturn, zo_lreturn, zo_areturn, zo_return, zo_invokestatic, zo_invokevirtual, zo_new, zo_invokespecial, zo_newarray, zo_anewarray, zo_aastore, zy_0_1, zy_0_2, zy_0_3, zy_1_1, zy_1_2, zy_2_1, zy_2_2, zy_2_3, zy_3_0, zy_4_3, zy_5_1, zy_5_2, zy_6_5, zy_6_6, zy_6_7, zy_6_8, zy_6_9, zy_6_10, zy_7_2, zy_7_6, zy_7_9, zy_7_10, zy_7_11, zy_7_12, zy_7_14, zy_7_21, zy_7_30, zq_iconst, zq_bipush, zq_sipush, zq_lconst0, zq_lconst1, zq_ldc, zq_ldc_w, zq_ldc2_w, zq_iload0, zq_iload1, zq_iload2, zq_iload3, zq_iload, zq_lload0, zq_lload1, zq_lload2, zq_lload3, zq_lload, zq_aload0, zq_aload1, zq_aload2, zq_aload3, zq_aload, zq_istore0, zq_istore1, zq_istore2, zq_istore3, zq_istore, zq_lstore0, zq_lstore1, zq_lstore2, zq_lstore3, zq_lstore, zq_astore0, zq_astore0N, zq_astore1, zq_astore1N, zq_astore2, zq_astore2N, zq_astore3, zq_astore3N, zq_astore, zq_astoreN, zq_iinc, zq_iadd, zq_isub, zq_imul, zq_iand, zq_ior, zq_ixor, zq_ishl, zq_ishr, zq_iushr, zq_idiv, zq_irem, zq_ladd, zq_lsub, zq_lmul, zq_ldiv, zq_lrem, zq_lcmp, zq_i2l, zq_i2b, zq_i2s, zq_dup_i, zq_dup_r, zq_dup2, zq_null, zq_icmp_eq, zq_if_eq, zq_icmp_ne, zq_if_ne, zq_icmp_lt, zq_if_lt, zq_icmp_ge, zq_if_ge, zq_icmp_gt, zq_if_gt, zq_icmp_le, zq_if_le, zq_goto, zq_ifnull_r, zq_ifnull_n, zq_ifnonnull_r, zq_ifnonnull_n, zq_iaload, zq_baload, zq_laload, zq_aaload, zq_iastore, zq_bastore, zq_lastore, zq_alen, zq_getf, zq_put, zq_tsw, zq_lsw, zq_ireturn, zq_lreturn, zq_areturn, zq_areturnN, zq_return, zq_invokestatic, zq_invokevirtual, zq_new, zq_invokespecial, zq_newarray, zq_anewarray, zq_aastore, zi_m1, zi_0, zi_1, zi_2, zi_3, zi_4, zi_5, zi_6, zi_8, zi_16, zb_m10, zb_m4, zb_m3, zb_m2, zb_6, zb_7, zb_8, zb_9, zb_10, zb_16, zb_20, zb_23, zb_30, zb_32, zb_35, zb_46, zb_48, zb_56, zb_57, zb_59, zb_63, zb_70, zb_98, zb_99, zb_100, zb_111, zb_112, zs_192, zs_255, zs_256, zs_511, zs_512, zs_12345, zf_X8_7_0, zf_X8_13_0, zf_X8_112_0, zf_X8_16_0, zf_X8_19_0, zf_X8_22_0, zf_X8_115_0, zf_X8_25_0, zf_X8_28_0, zf_X8_78_0, zf_X8_82_0, zf_X8_85_0, zf_X8_144_0, zf_X8_31_0, zf_X8_137_0, zf_X8_34_0, zf_X8_38_0, zf_X8_41_0, zf_X8_44_0, zf_X8_47_0, zf_X8_50_0, zf_X8_234_0, zf_X8_53_0, zf_X8_56_0, zf_X8_59_0, zf_X8_62_0, zf_X8_66_0, zf_X8_69_0, zf_X8_72_0, zf_X8_75_0, zf_X8_244_0, zkc_X8_240, zkc_X8_253, zkl_X8_92, zkl_X8_262, zkl_X8_257, za_M_1, za_M_2, za_M_3, za_M_4, za_M_5, za_M_6, za_M_7, za_M_8, za_M_9, za_M_10, za_M_11, za_M_12, za_M_13, za_M_14, za_M_15, za_M_16, za_M_17, za_M_18, za_M_19, za_M_20, za_M_21, za_M_22, dX8_book_0, dX8_book_1, dX8_book_4, dX8_book_5, dX8_book_6, dX8_book_7, dX8_book_10, dX8_book_11, dX8_book_12, dX8_book_15, dX8_book_18, dX8_book_19, dX8_book_20, dX8_book_21, dX8_book_24, dX8_book_27, dX8_book_28, dX8_book_29, dX8_book_30, dX8_book_33, dX8_book_36, dX8_book_38, cr_X8_book_128, cr_X8_book_94, cr_X8_book_131, wr_X8_reads, wr_X8_in, wr_X8_bookOf]
    refine ⟨T, hM, fun S' h1 h2 => ?_⟩
    rw [show S'.1 0 2 = nI (tN T) from h1.2.1.1, w_in' (by omega), w_in (m := 2) (by decide)]
    have kk := hk S' h1.1
    unfold q_book at kk
    refine ⟨fun c => ⟨fun d => ?_, fun d => ?_⟩, fun c => by rw [if_neg c] at kk; exact kk⟩
    · obtain ⟨eb, hb⟩ := i_inI c (by omega)
      refine ⟨tx0 T, cn b, eb, MR_x0 hM, hb, h1.2.1, ?_⟩
      rw [if_pos c] at kk
      obtain ⟨ew, hw⟩ := i_inI d (by omega)
      by_cases c0 : w = 0
      · rw [if_pos c0] at kk ⊢; exact kk
      · by_cases c1 : w = 1
        · rw [if_neg c0, if_pos c1] at kk ⊢; exact kk
        · have c2 : w = 2 := by
            have : cn w = 0 ∨ cn w = 1 ∨ cn w = 2 := by omega
            rcases this with q | q | q
            · exact absurd (by rw [ew, q]; rfl) c0
            · exact absurd (by rw [ew, q]; rfl) c1
            · rw [ew, q]; rfl
          rw [if_neg c0, if_neg c1, if_pos c2] at kk
          rw [if_neg c0, if_neg c1]; exact kk
    · rw [if_pos c, if_neg (fun q => d (by rw [q]; decide)), if_neg (fun q => d (by rw [q]; decide)), if_neg (fun q => d (by rw [q]; decide))] at kk; exact kk
  · exact h.elim
theorem ok_X8_book : z_Ok z_shM yX8_book cX8_book 3 (some .int) ({ frames := 6, cells := 0, slots := 0, locals := 140 } : Room) 0 wp_X8_book := z_Ok_of pu_X8_book z_fX8_ok z_kX8_ok co_X8_book ⟨by decide, by decide⟩ (by decide +kernel)
theorem rec_X8_book : z_rec z_shM wp_X8_book 7 := by
  intro as S post h
  unfold wp_X8_book at h
  split at h
  · exact ⟨_, _, _, rfl, rfl⟩
  · exact h.elim
def wp_X8_king : ZW := fun as S k => match as with
  | [.ref 0, .int v, .int w] => ∃ T : ZT, MR T S ∧ ∀ S', MR T S' → k (some (.int (q_king T v w))) S'
  | _ => False
theorem wr_X8_king {v : Int32} {w : Int32} {S : ZS} {k : Option Value → ZS → Prop} : wp_X8_king [.ref 0, .int v, .int w] S k = (∃ T : ZT, MR T S ∧ ∀ S', MR T S' → k (some (.int (q_king T v w))) S') := rfl
def cs_X8_king : List (Nat × ZC) := [(134, (2, 0, false, wp_X8_isKing)), (94, (3, 0, true, wp_X8_in))]
theorem cr_X8_king_134 : cs_X8_king.lookup 134 = some (2, 0, false, wp_X8_isKing) := rfl
theorem cr_X8_king_94 : cs_X8_king.lookup 94 = some (3, 0, true, wp_X8_in) := rfl
set_option maxRecDepth 20000 in
theorem co_X8_king : z_csok RX8 ({ frames := 7, cells := 0, slots := 0, locals := 161 } : Room) z_shM cs_X8_king := z_cs2 (z_csV ok_X8_isKing rec_X8_isKing rfl (z_g 843 (by decide +kernel) rfl) (z_g 845 (by decide +kernel) rfl) (z_g 17 (by decide +kernel) rfl) (z_g 846 (by decide +kernel) rfl) (z_g 51 (by decide +kernel) rfl) rfl rfl (by decide +kernel) ⟨by decide, by decide⟩)
  (z_cs2 (z_csS ok_X8_in (z_g 789 (by decide +kernel) rfl) (z_g 790 (by decide +kernel) rfl) (z_g 51 (by decide +kernel) rfl) (z_g 791 (by decide +kernel) rfl) rfl rfl (by decide +kernel) ⟨by decide, by decide⟩)
  (z_cs0))
set_option maxHeartbeats 4000000 in
set_option maxRecDepth 20000 in
theorem pu_X8_king : z_Pure cX8_king 3 z_shM z_fX8 cs_X8_king z_kcX8 z_klX8 (some .int) 0 wp_X8_king := by
  intro as S post h
  unfold wp_X8_king at h
  split at h
  · rename_i v w
    refine ⟨Nat.le_of_ble_eq_true rfl, fun K hK => ?_⟩
    change K 0 0 [some (.ref 0), some (.int v), some (.int w)] [] S
    obtain ⟨T, hM, hk⟩ := h
    have hn := MR_M hM
    refine hK (z_in []) 60 _ _ _ _ _ (Nat.zero_le _) ?_
    simp (config := { maxSteps := 10000000 }) only [z40, z20, z10, z01, zm0, z0m, ze_s, ze_ok, zt_s, zt_t, zt_f, zl_I, zl_J, zl_R, zl_N, zl_C, zl_K, zl_M, zl_ar0, zl_ar1, zl_ar2, zl_ar3, zl_as0, zl_as1, zl_as2, zl_al, zl_gf, zl_gr, zl_pf, zl_iv, zl_ivn, zlk_n, zlk_c, ztb_n, ztb_c, zin_n, zin_1, zin_c, Int.reduceLT, decide_true, decide_false, Bool.true_and, Bool.and_true, List.length_cons, List.length_nil, Int.reduceSub, Int.reduceEq, Int.natCast_zero, zk_s, z_in_n, z_in_c, z_gt_0, z_gt_s, zst_0, zst_1, zst_s, zsl_0, zsl_1, zsl_s, zc_n, zc_i, zc_l, zc_r, zc_u, zca_n, zca_i, zca_l, zca_r, zca_u, zrt_i, zrt_z, zrt_o, z_cal_0, z_cal_s, true_and, and_true, List.nil_append, List.cons_append, Option.toList_some, Option.toList_none, Nat.reduceAdd, Nat.reduceBEq, Nat.reduceLT, Nat.reduceLeDiff, Nat.reduceSub, Int.reduceAdd, Int.reduceLE, Int.reduceToNat, Int.cast_ofNat_Int, Bool.or_true, Bool.true_or, Bool.or_false, Bool.false_or, Nat.le_refl, Nat.zero_le, or_true, true_or, or_false, false_or, not_true_eq_false, not_false_eq_true, not_false_iff, false_implies, true_implies, eq_self, zo_iconst, zo_bipush, zo_sipush, zo_lconst, zo_ldc, zo_ldc_w, zo_ldc2_w, zo_iload_n, zo_iload, zo_lload_n, zo_lload, zo_aload_n, zo_aload, zo_istore_n, zo_istore, zo_lstore_n, zo_lstore, zo_astore_n, zo_astore, zo_iinc, zo_iadd, zo_isub, zo_imul, zo_iand, zo_ior, zo_ixor, zo_ishl, zo_ishr, zo_iushr, zo_idiv, zo_irem, zo_ladd, zo_lsub, zo_lmul, zo_ldiv, zo_lrem, zo_lcmp, zo_i2l, zo_i2b, zo_i2s, zo_dup, zo_dup2, zo_aconst_null, zo_if_icmp, zo_ifCond, zo_goto, zo_ifnull, zo_ifnonnull, zo_iaload, zo_baload, zo_laload, zo_aaload, zo_iastore, zo_bastore, zo_lastore, zo_arraylength, zo_getfield, zo_putfield, zo_tableswitch, zo_lookupswitch, zo_ireturn, zo_lreturn, zo_areturn, zo_return, zo_invokestatic, zo_invokevirtual, zo_new, zo_invokespecial, zo_newarray, zo_anewarray, zo_aastore, zy_0_1, zy_0_2, zy_0_3, zy_1_1, zy_1_2, zy_2_1, zy_2_2, zy_2_3, zy_3_0, zy_4_3, zy_5_1, zy_5_2, zy_6_5, zy_6_6, zy_6_7, zy_6_8, zy_6_9, zy_6_10, zy_7_2, zy_7_6, zy_7_9, zy_7_10, zy_7_11, zy_7_12, zy_7_14, zy_7_21, zy_7_30, zq_iconst, zq_bipush, zq_sipush, zq_lconst0, zq_lconst1, zq_ldc, zq_ldc_w, zq_ldc2_w, zq_iload0, zq_iload1, zq_iload2, zq_iload3, zq_iload, zq_lload0, zq_lload1, zq_lload2, zq_lload3, zq_lload, zq_aload0, zq_aload1, zq_aload2, zq_aload3, zq_aload, zq_istore0, zq_istore1, zq_istore2, zq_istore3, zq_istore, zq_lstore0, zq_lstore1, zq_lstore2, zq_lstore3, zq_lstore, zq_astore0, zq_astore0N, zq_astore1, zq_astore1N, zq_astore2, zq_astore2N, zq_astore3, zq_astore3N, zq_astore, zq_astoreN, zq_iinc, zq_iadd, zq_isub, zq_imul, zq_iand, zq_ior, zq_ixor, zq_ishl, zq_ishr, zq_iushr, zq_idiv, zq_irem, zq_ladd, zq_lsub, zq_lmul, zq_ldiv, zq_lrem, zq_lcmp, zq_i2l, zq_i2b, zq_i2s, zq_dup_i, zq_dup_r, zq_dup2, zq_null, zq_icmp_eq, zq_if_eq, zq_icmp_ne, zq_if_ne, zq_icmp_lt, zq_if_lt, zq_icmp_ge, zq_if_ge, zq_icmp_gt, zq_if_gt, zq_icmp_le, zq_if_le, zq_goto, zq_ifnull_r, zq_ifnull_n, zq_ifnonnull_r, zq_ifnonnull_n, zq_iaload, zq_baload, zq_laload, zq_aaload, zq_iastore, zq_bastore, zq_lastore, zq_alen, zq_getf, zq_put, zq_tsw, zq_lsw, zq_ireturn, zq_lreturn, zq_areturn, zq_areturnN, zq_return, zq_invokestatic, zq_invokevirtual, zq_new, zq_invokespecial, zq_newarray, zq_anewarray, zq_aastore, zi_m1, zi_0, zi_1, zi_2, zi_3, zi_4, zi_5, zi_6, zi_8, zi_16, zb_m10, zb_m4, zb_m3, zb_m2, zb_6, zb_7, zb_8, zb_9, zb_10, zb_16, zb_20, zb_23, zb_30, zb_32, zb_35, zb_46, zb_48, zb_56, zb_57, zb_59, zb_63, zb_70, zb_98, zb_99, zb_100, zb_111, zb_112, zs_192, zs_255, zs_256, zs_511, zs_512, zs_12345, zf_X8_7_0, zf_X8_13_0, zf_X8_112_0, zf_X8_16_0, zf_X8_19_0, zf_X8_22_0, zf_X8_115_0, zf_X8_25_0, zf_X8_28_0, zf_X8_78_0, zf_X8_82_0, zf_X8_85_0, zf_X8_144_0, zf_X8_31_0, zf_X8_137_0, zf_X8_34_0, zf_X8_38_0, zf_X8_41_0, zf_X8_44_0, zf_X8_47_0, zf_X8_50_0, zf_X8_234_0, zf_X8_53_0, zf_X8_56_0, zf_X8_59_0, zf_X8_62_0, zf_X8_66_0, zf_X8_69_0, zf_X8_72_0, zf_X8_75_0, zf_X8_244_0, zkc_X8_240, zkc_X8_253, zkl_X8_92, zkl_X8_262, zkl_X8_257, za_M_1, za_M_2, za_M_3, za_M_4, za_M_5, za_M_6, za_M_7, za_M_8, za_M_9, za_M_10, za_M_11, za_M_12, za_M_13, za_M_14, za_M_15, za_M_16, za_M_17, za_M_18, za_M_19, za_M_20, za_M_21, za_M_22, dX8_king_0, dX8_king_1, dX8_king_2, dX8_king_5, dX8_king_8, dX8_king_9, dX8_king_10, dX8_king_11, dX8_king_14, dX8_king_17, dX8_king_18, dX8_king_21, dX8_king_22, dX8_king_25, dX8_king_26, dX8_king_27, dX8_king_30, dX8_king_31, dX8_king_34, dX8_king_35, dX8_king_36, dX8_king_39, dX8_king_41, cr_X8_king_134, cr_X8_king_94, wr_X8_isKing, wr_X8_in]
    refine ⟨T, hM, fun S' h1 h2 => ?_⟩
    rw [w_in (m := 1) (by decide)]
    have kk := hk S' h1.1
    unfold q_king at kk
    refine ⟨fun c => ⟨fun d => ?_, fun d => by rw [if_neg (fun q => d q.2)] at kk; exact kk⟩, fun c => by rw [if_neg (fun q => c q.1)] at kk; exact kk⟩
    obtain ⟨eb, hb⟩ := i_inI c (by omega)
    obtain ⟨f1, f2⟩ := h1.2.2.2 (cn v) hb
    rw [if_pos ⟨c, d⟩] at kk
    have hin : vp_in v 7 := by rw [eb]; exact n_in (by omega) (by omega)
    refine ⟨fun e => ⟨hin, ?_⟩, fun e => ⟨hin, ?_⟩⟩
    · rw [if_pos e, ← f1] at kk; exact kk
    · rw [if_neg e, ← f2] at kk; exact kk
  · exact h.elim
theorem ok_X8_king : z_Ok z_shM yX8_king cX8_king 3 (some .int) ({ frames := 7, cells := 0, slots := 0, locals := 161 } : Room) 0 wp_X8_king := z_Ok_of pu_X8_king z_fX8_ok z_kX8_ok co_X8_king ⟨by decide, by decide⟩ (by decide +kernel)
theorem rec_X8_king : z_rec z_shM wp_X8_king 7 := by
  intro as S post h
  unfold wp_X8_king at h
  split at h
  · exact ⟨_, _, _, rfl, rfl⟩
  · exact h.elim

