/-! the class's own: sheets -/
theorem CR_there {T : ZT} {S : ZS} (h : CR T S) {s : Nat} (hs : s < 4) (c : ¬ S.1 (18 + s) 2 = -1) : (tsh T s).1 = true := by
  cases e : (tsh T s).1 with
  | true => rfl
  | false => exact absurd ((CR_lost h hs).mpr e) c
theorem inE {i : Int32} {m : Nat} (hm : m < 2147483648) : (∃ j, j < m ∧ i = nI j) ↔ i_in i m := by
  constructor
  · rintro ⟨j, hj, rfl⟩; exact (i_inN (by omega)).mpr hj
  · intro c; obtain ⟨e, h⟩ := i_inI c (by omega); exact ⟨_, h, e⟩
theorem q_lack_le (T : ZT) (s : Nat) (f i : Int32) : q_lack T s f i ≤ 3 := by
  unfold q_lack
  split
  · omega
  · split
    · omega
    · split <;> omega
theorem fnd_ne {n : Nat} (h : n ≤ 5) : ¬ q_fnd n = 0 := by
  have : n = 0 ∨ n = 1 ∨ n = 2 ∨ n = 3 ∨ n = 4 ∨ n = 5 := by omega
  rcases this with rfl | rfl | rfl | rfl | rfl | rfl <;> decide
theorem s_c {s : Int32} {n : Nat} (hn : n < 4) (e : s = nI n) : i_in s 4 ∧ cn s = n := by
  subst e; exact ⟨(i_inN (by omega)).mpr hn, n_cl (by omega)⟩
theorem f_c {f : Int32} (c : i_in f 3) : f = nI (cn f) ∧ cn f ≤ 2 := by
  obtain ⟨e, h⟩ := i_inI c (by omega); exact ⟨e, by omega⟩
def wp_X7_itemRefusal (T : ZT) : ZW := fun as S k => match as with
  | [.ref 0, .int s, .int f, .int i] => CR T S ∧ (¬ (i_in s 4 ∧ i_in f 3) → k (some (.int (-2))) S) ∧ (i_in s 4 ∧ i_in f 3 → q_lack T (cn s) f i = 0 → k (some (.int 0)) S) ∧ (i_in s 4 ∧ i_in f 3 → ¬ q_lack T (cn s) f i = 0 → ∀ S', CR (wFd T (q_lack T (cn s) f i)) S' → k (some (.int (q_fnd (q_lack T (cn s) f i)))) S')
  | _ => False
theorem wr_X7_itemRefusal {T : ZT} {s : Int32} {f : Int32} {i : Int32} {S : ZS} {k : Option Value → ZS → Prop} : (wp_X7_itemRefusal T) [.ref 0, .int s, .int f, .int i] S k = (CR T S ∧ (¬ (i_in s 4 ∧ i_in f 3) → k (some (.int (-2))) S) ∧ (i_in s 4 ∧ i_in f 3 → q_lack T (cn s) f i = 0 → k (some (.int 0)) S) ∧ (i_in s 4 ∧ i_in f 3 → ¬ q_lack T (cn s) f i = 0 → ∀ S', CR (wFd T (q_lack T (cn s) f i)) S' → k (some (.int (q_fnd (q_lack T (cn s) f i)))) S')) := rfl
def cs_X7_itemRefusal (T : ZT) : List (Nat × ZC) := [(111, (2, 0, false, wp_X7_sheetOf)), (67, (3, 0, true, wp_X7_within)), (115, (1, 0, false, wp_X6_isLost)), (119, (2, 0, false, (wp_X7_found T))), (224, (1, 0, false, wp_X6_form)), (318, (2, 0, false, wp_X6_hasItem))]
theorem cr_X7_itemRefusal_111 {T : ZT} : (cs_X7_itemRefusal T).lookup 111 = some (2, 0, false, wp_X7_sheetOf) := rfl
theorem cr_X7_itemRefusal_67 {T : ZT} : (cs_X7_itemRefusal T).lookup 67 = some (3, 0, true, wp_X7_within) := rfl
theorem cr_X7_itemRefusal_115 {T : ZT} : (cs_X7_itemRefusal T).lookup 115 = some (1, 0, false, wp_X6_isLost) := rfl
theorem cr_X7_itemRefusal_119 {T : ZT} : (cs_X7_itemRefusal T).lookup 119 = some (2, 0, false, (wp_X7_found T)) := rfl
theorem cr_X7_itemRefusal_224 {T : ZT} : (cs_X7_itemRefusal T).lookup 224 = some (1, 0, false, wp_X6_form) := rfl
theorem cr_X7_itemRefusal_318 {T : ZT} : (cs_X7_itemRefusal T).lookup 318 = some (2, 0, false, wp_X6_hasItem) := rfl
set_option maxRecDepth 20000 in
theorem co_X7_itemRefusal (T : ZT) {tl : List ZE} : z_csok RX7 ({ frames := 2, cells := 0, slots := 0, locals := 43 } : Room) (z_shC tl) (cs_X7_itemRefusal T) := z_cs2 (z_csV ok_X7_sheetOf rec_X7_sheetOf rfl (z_g 356 (by decide +kernel) rfl) (z_g 358 (by decide +kernel) rfl) (z_g 2 (by decide +kernel) rfl) (z_g 359 (by decide +kernel) rfl) (z_g 44 (by decide +kernel) rfl) rfl rfl (by decide +kernel) ⟨by decide, by decide⟩)
  (z_cs2 (z_csS ok_X7_within (z_g 210 (by decide +kernel) rfl) (z_g 211 (by decide +kernel) rfl) (z_g 44 (by decide +kernel) rfl) (z_g 212 (by decide +kernel) rfl) rfl rfl (by decide +kernel) ⟨by decide, by decide⟩)
  (z_cs2 (z_csV ok_X6_isLost rec_X6_isLost rfl (z_g 360 (by decide +kernel) rfl) (z_g 361 (by decide +kernel) rfl) (z_g 362 (by decide +kernel) rfl) (z_g 363 (by decide +kernel) rfl) (z_g 50 (by decide +kernel) rfl) rfl rfl (by decide +kernel) ⟨by decide, by decide⟩)
  (z_cs2 (z_csV (ok_X7_found T) (rec_X7_found T) rfl (z_g 364 (by decide +kernel) rfl) (z_g 366 (by decide +kernel) rfl) (z_g 3 (by decide +kernel) rfl) (z_g 367 (by decide +kernel) rfl) (z_g 44 (by decide +kernel) rfl) rfl rfl (by decide +kernel) ⟨by decide, by decide⟩)
  (z_cs2 (z_csV ok_X6_form rec_X6_form rfl (z_g 590 (by decide +kernel) rfl) (z_g 591 (by decide +kernel) rfl) (z_g 592 (by decide +kernel) rfl) (z_g 593 (by decide +kernel) rfl) (z_g 50 (by decide +kernel) rfl) rfl rfl (by decide +kernel) ⟨by decide, by decide⟩)
  (z_cs2 (z_csV ok_X6_hasItem rec_X6_hasItem rfl (z_g 594 (by decide +kernel) rfl) (z_g 377 (by decide +kernel) rfl) (z_g 378 (by decide +kernel) rfl) (z_g 379 (by decide +kernel) rfl) (z_g 50 (by decide +kernel) rfl) rfl rfl (by decide +kernel) ⟨by decide, by decide⟩)
  (z_cs0))))))
set_option maxHeartbeats 4000000 in
set_option maxRecDepth 20000 in
theorem pu_X7_itemRefusal (T : ZT) {tl : List ZE} : z_Pure cX7_itemRefusal 5 (z_shC tl) z_fX7 (cs_X7_itemRefusal T) z_kcX7 z_klX7 (some .int) 0 (wp_X7_itemRefusal T) := by
  intro as S post h
  unfold wp_X7_itemRefusal at h
  split at h
  · rename_i s f i
    refine ⟨Nat.le_of_ble_eq_true rfl, fun K hK => ?_⟩
    change K 0 0 [some (.ref 0), some (.int s), some (.int f), some (.int i), none] [] S
    obtain ⟨hC, h1, h2, h3⟩ := h
    refine hK (z_in []) 100 _ _ _ _ _ (Nat.zero_le _) ?_
    simp (config := { maxSteps := 10000000 }) only [z40, z20, z10, z01, zm0, z0m, ze_s, ze_ok, zt_s, zt_t, zt_f, zl_I, zl_J, zl_R, zl_N, zl_C, zl_K, zl_M, zl_ar0, zl_ar1, zl_ar2, zl_ar3, zl_as0, zl_as1, zl_as2, zl_al, zl_gf, zl_gr, zl_pf, zl_iv, zl_ivn, zlk_n, zlk_c, ztb_n, ztb_c, zin_n, zin_1, zin_c, Int.reduceLT, decide_true, decide_false, Bool.true_and, Bool.and_true, List.length_cons, List.length_nil, Int.reduceSub, Int.reduceEq, Int.natCast_zero, zk_s, z_in_n, z_in_c, z_gt_0, z_gt_s, zst_0, zst_1, zst_s, zsl_0, zsl_1, zsl_s, zc_n, zc_i, zc_l, zc_r, zc_u, zca_n, zca_i, zca_l, zca_r, zca_u, zrt_i, zrt_z, zrt_o, z_cal_0, z_cal_s, true_and, and_true, List.nil_append, List.cons_append, Option.toList_some, Option.toList_none, Nat.reduceAdd, Nat.reduceBEq, Nat.reduceLT, Nat.reduceLeDiff, Nat.reduceSub, Int.reduceAdd, Int.reduceLE, Int.reduceToNat, Int.cast_ofNat_Int, Bool.or_true, Bool.true_or, Bool.or_false, Bool.false_or, Nat.le_refl, Nat.zero_le, or_true, true_or, or_false, false_or, not_true_eq_false, not_false_eq_true, not_false_iff, false_implies, true_implies, eq_self, zo_iconst, zo_bipush, zo_sipush, zo_lconst, zo_ldc, zo_ldc_w, zo_ldc2_w, zo_iload_n, zo_iload, zo_lload_n, zo_lload, zo_aload_n, zo_aload, zo_istore_n, zo_istore, zo_lstore_n, zo_lstore, zo_astore_n, zo_astore, zo_iinc, zo_iadd, zo_isub, zo_imul, zo_iand, zo_ior, zo_ixor, zo_ishl, zo_ishr, zo_iushr, zo_idiv, zo_irem, zo_ladd, zo_lsub, zo_lmul, zo_ldiv, zo_lrem, zo_lcmp, zo_i2l, zo_i2b, zo_i2s, zo_dup, zo_dup2, zo_aconst_null, zo_if_icmp, zo_ifCond, zo_goto, zo_ifnull, zo_ifnonnull, zo_iaload, zo_baload, zo_laload, zo_aaload, zo_iastore, zo_bastore, zo_lastore, zo_arraylength, zo_getfield, zo_putfield, zo_tableswitch, zo_lookupswitch, zo_ireturn, zo_lreturn, zo_areturn, zo_return, zo_invokestatic, zo_invokevirtual, zo_new, zo_invokespecial, zo_newarray, zo_anewarray, zo_aastore, zy_0_1, zy_0_2, zy_0_3, zy_1_1, zy_1_2, zy_2_1, zy_2_2, zy_2_3, zy_3_0, zy_4_3, zy_5_1, zy_5_2, zy_6_5, zy_6_6, zy_6_7, zy_6_8, zy_6_9, zy_6_10, zy_7_2, zy_7_6, zy_7_9, zy_7_10, zy_7_11, zy_7_12, zy_7_14, zy_7_21, zy_7_30, zq_iconst, zq_bipush, zq_sipush, zq_lconst0, zq_lconst1, zq_ldc, zq_ldc_w, zq_ldc2_w, zq_iload0, zq_iload1, zq_iload2, zq_iload3, zq_iload, zq_lload0, zq_lload1, zq_lload2, zq_lload3, zq_lload, zq_aload0, zq_aload1, zq_aload2, zq_aload3, zq_aload, zq_istore0, zq_istore1, zq_istore2, zq_istore3, zq_istore, zq_lstore0, zq_lstore1, zq_lstore2, zq_lstore3, zq_lstore, zq_astore0, zq_astore0N, zq_astore1, zq_astore1N, zq_astore2, zq_astore2N, zq_astore3, zq_astore3N, zq_astore, zq_astoreN, zq_iinc, zq_iadd, zq_isub, zq_imul, zq_iand, zq_ior, zq_ixor, zq_ishl, zq_ishr, zq_iushr, zq_idiv, zq_irem, zq_ladd, zq_lsub, zq_lmul, zq_ldiv, zq_lrem, zq_lcmp, zq_i2l, zq_i2b, zq_i2s, zq_dup_i, zq_dup_r, zq_dup2, zq_null, zq_icmp_eq, zq_if_eq, zq_icmp_ne, zq_if_ne, zq_icmp_lt, zq_if_lt, zq_icmp_ge, zq_if_ge, zq_icmp_gt, zq_if_gt, zq_icmp_le, zq_if_le, zq_goto, zq_ifnull_r, zq_ifnull_n, zq_ifnonnull_r, zq_ifnonnull_n, zq_iaload, zq_baload, zq_laload, zq_aaload, zq_iastore, zq_bastore, zq_lastore, zq_alen, zq_getf, zq_put, zq_tsw, zq_lsw, zq_ireturn, zq_lreturn, zq_areturn, zq_areturnN, zq_return, zq_invokestatic, zq_invokevirtual, zq_new, zq_invokespecial, zq_newarray, zq_anewarray, zq_aastore, zi_m1, zi_0, zi_1, zi_2, zi_3, zi_4, zi_5, zi_6, zi_8, zi_16, zb_m10, zb_m4, zb_m3, zb_m2, zb_6, zb_7, zb_8, zb_9, zb_10, zb_16, zb_20, zb_23, zb_30, zb_32, zb_35, zb_46, zb_48, zb_56, zb_57, zb_59, zb_63, zb_70, zb_98, zb_99, zb_100, zb_111, zb_112, zs_192, zs_255, zs_256, zs_511, zs_512, zs_12345, zf_X7_10_0, zf_X7_19_0, zf_X7_26_0, zf_X7_33_0, zf_X7_39_0, zf_X7_43_0, zf_X7_47_0, zf_X7_50_0, zf_X7_53_0, zf_X7_56_0, zf_X7_59_0, zkc_X7_223, zkl_X7_313, zkl_X7_240, zkl_X7_305, za_C_2, za_C_3, za_C_4, za_C_5, za_C_6, za_C_8, za_C_9, za_C_10, za_C_12, za_C_14, za_C_15, za_C_16, za_C_17, za_C_22, za_C_23, za_C_24, za_C_25, dX7_itemRefusal_0, dX7_itemRefusal_1, dX7_itemRefusal_2, dX7_itemRefusal_5, dX7_itemRefusal_7, dX7_itemRefusal_9, dX7_itemRefusal_12, dX7_itemRefusal_13, dX7_itemRefusal_14, dX7_itemRefusal_15, dX7_itemRefusal_18, dX7_itemRefusal_21, dX7_itemRefusal_23, dX7_itemRefusal_24, dX7_itemRefusal_26, dX7_itemRefusal_29, dX7_itemRefusal_32, dX7_itemRefusal_33, dX7_itemRefusal_34, dX7_itemRefusal_37, dX7_itemRefusal_38, dX7_itemRefusal_40, dX7_itemRefusal_43, dX7_itemRefusal_44, dX7_itemRefusal_47, dX7_itemRefusal_48, dX7_itemRefusal_49, dX7_itemRefusal_52, dX7_itemRefusal_53, dX7_itemRefusal_55, dX7_itemRefusal_56, dX7_itemRefusal_59, dX7_itemRefusal_62, dX7_itemRefusal_63, dX7_itemRefusal_66, dX7_itemRefusal_67, dX7_itemRefusal_68, dX7_itemRefusal_71, cr_X7_itemRefusal_111, cr_X7_itemRefusal_67, cr_X7_itemRefusal_115, cr_X7_itemRefusal_119, cr_X7_itemRefusal_224, cr_X7_itemRefusal_318, wr_X7_sheetOf, wr_X7_within, wr_X6_isLost, wr_X6_isLost_1, wr_X6_isLost_2, wr_X6_isLost_3, wr_X7_found, wr_X6_form, wr_X6_form_1, wr_X6_form_2, wr_X6_form_3, wr_X6_hasItem, wr_X6_hasItem_1, wr_X6_hasItem_2, wr_X6_hasItem_3]
    have e2 : (0 ≤ f ∧ f ≤ 2) ↔ i_in f 3 := w_in (m := 2) (by decide)
    rw [e2]
    have A : ∀ n : Nat, n < 4 → s = nI n → (i_in f 3 → (S.1 (18 + n) 2 = -1 → ∃ f, CR T S ∧ 1 = nI f ∧ f ≤ 5 ∧ ∀ (S' : ZS), CR (wFd T f) S' → post (some (Value.int (q_fnd f))) S') ∧ (¬S.1 (18 + n) 2 = -1 → (S.1 (18 + n) 1 = f → ∃ m, m ≤ 48 ∧ S.1 (18 + n) 2 = nI m ∧ ((∃ j, j < m ∧ i = nI j) → post (some (Value.int 0)) S) ∧ ((¬∃ j, j < m ∧ i = nI j) → ∃ f, CR T S ∧ 2 = nI f ∧ f ≤ 5 ∧ ∀ (S' : ZS), CR (wFd T f) S' → post (some (Value.int (q_fnd f))) S')) ∧ (¬S.1 (18 + n) 1 = f → ∃ f, CR T S ∧ 3 = nI f ∧ f ≤ 5 ∧ ∀ (S' : ZS), CR (wFd T f) S' → post (some (Value.int (q_fnd f))) S'))) ∧ (¬i_in f 3 → post (some (Value.int (-2))) S) := by
      intro n hn e
      obtain ⟨c, ecn⟩ := s_c hn e
      obtain ⟨g1, g2⟩ := CR_sheet hC hn
      have I := CR_shI hC hn
      have fnd : ∀ m, m ≤ 5 → i_in f 3 → q_lack T n f i = m → 0 < m → ∃ f', CR T S ∧ nI m = nI f' ∧ f' ≤ 5 ∧ ∀ S', CR (wFd T f') S' → post (some (.int (q_fnd f'))) S' := by
        intro m h5 d q h0
        refine ⟨m, hC, rfl, h5, ?_⟩
        have := h3 ⟨c, d⟩ (by rw [ecn, q]; omega)
        rw [ecn, q] at this
        exact this
      refine ⟨fun d => ⟨fun l => fnd 1 (by omega) d ?_ (by omega), fun l => ⟨fun e2 => ⟨(tsh T n).2.2, I.2, (g1 (CR_there hC hn l)).2.1, fun a => h2 ⟨c, d⟩ ?_, fun a => fnd 2 (by omega) d ?_ (by omega)⟩, fun e2 => fnd 3 (by omega) d ?_ (by omega)⟩⟩, fun d => h1 (fun q => d q.2)⟩
      · unfold q_lack; rw [if_pos ((CR_lost hC hn).mp l)]
      · have ht := CR_there hC hn l
        rw [inE (by omega)] at a
        rw [ecn]; unfold q_lack
        rw [if_neg (by rw [ht]; decide), if_neg (by rw [← (g1 ht).1, e2]; exact fun q => q rfl), if_pos a]
      · have ht := CR_there hC hn l
        rw [inE (by omega)] at a
        unfold q_lack
        rw [if_neg (by rw [ht]; decide), if_neg (by rw [← (g1 ht).1, e2]; exact fun q => q rfl), if_neg a]
      · have ht := CR_there hC hn l
        unfold q_lack
        rw [if_neg (by rw [ht]; decide), if_pos (by rw [← (g1 ht).1]; exact e2)]
    exact ⟨A 0 (by omega), A 1 (by omega), A 2 (by omega), A 3 (by omega), fun c => h1 (fun q => c q.1)⟩
  · exact h.elim
theorem ok_X7_itemRefusal (T : ZT) {tl : List ZE} : z_Ok (z_shC tl) yX7_itemRefusal cX7_itemRefusal 5 (some .int) ({ frames := 2, cells := 0, slots := 0, locals := 43 } : Room) 0 (wp_X7_itemRefusal T) := z_Ok_of (pu_X7_itemRefusal T) z_fX7_ok z_kX7_ok (co_X7_itemRefusal T) ⟨by decide, by decide⟩ (by decide +kernel)
theorem rec_X7_itemRefusal (T : ZT) {tl : List ZE} : z_rec (z_shC tl) (wp_X7_itemRefusal T) 6 := by
  intro as S post h
  unfold wp_X7_itemRefusal at h
  split at h
  · exact ⟨_, _, _, rfl, rfl⟩
  · exact h.elim
def wp_X7_sheet (T : ZT) : ZW := fun as S k => match as with
  | [.ref 0, .int s, .int f, .int n] => CR T S ∧ ∀ S', CR (u_sheet T s f n) S' → k (some (.int (q_sheet T s f n))) S'
  | _ => False
theorem wr_X7_sheet {T : ZT} {s : Int32} {f : Int32} {n : Int32} {S : ZS} {k : Option Value → ZS → Prop} : (wp_X7_sheet T) [.ref 0, .int s, .int f, .int n] S k = (CR T S ∧ ∀ S', CR (u_sheet T s f n) S' → k (some (.int (q_sheet T s f n))) S') := rfl
def cs_X7_sheet (T : ZT) : List (Nat × ZC) := [(111, (2, 0, false, wp_X7_sheetOf)), (67, (3, 0, true, wp_X7_within)), (119, (2, 0, false, (wp_X7_found T))), (210, (3, 0, false, wp_X6_renew))]
theorem cr_X7_sheet_111 {T : ZT} : (cs_X7_sheet T).lookup 111 = some (2, 0, false, wp_X7_sheetOf) := rfl
theorem cr_X7_sheet_67 {T : ZT} : (cs_X7_sheet T).lookup 67 = some (3, 0, true, wp_X7_within) := rfl
theorem cr_X7_sheet_119 {T : ZT} : (cs_X7_sheet T).lookup 119 = some (2, 0, false, (wp_X7_found T)) := rfl
theorem cr_X7_sheet_210 {T : ZT} : (cs_X7_sheet T).lookup 210 = some (3, 0, false, wp_X6_renew) := rfl
set_option maxRecDepth 20000 in
theorem co_X7_sheet (T : ZT) {tl : List ZE} : z_csok RX7 ({ frames := 2, cells := 0, slots := 0, locals := 43 } : Room) (z_shC tl) (cs_X7_sheet T) := z_cs2 (z_csV ok_X7_sheetOf rec_X7_sheetOf rfl (z_g 356 (by decide +kernel) rfl) (z_g 358 (by decide +kernel) rfl) (z_g 2 (by decide +kernel) rfl) (z_g 359 (by decide +kernel) rfl) (z_g 44 (by decide +kernel) rfl) rfl rfl (by decide +kernel) ⟨by decide, by decide⟩)
  (z_cs2 (z_csS ok_X7_within (z_g 210 (by decide +kernel) rfl) (z_g 211 (by decide +kernel) rfl) (z_g 44 (by decide +kernel) rfl) (z_g 212 (by decide +kernel) rfl) rfl rfl (by decide +kernel) ⟨by decide, by decide⟩)
  (z_cs2 (z_csV (ok_X7_found T) (rec_X7_found T) rfl (z_g 364 (by decide +kernel) rfl) (z_g 366 (by decide +kernel) rfl) (z_g 3 (by decide +kernel) rfl) (z_g 367 (by decide +kernel) rfl) (z_g 44 (by decide +kernel) rfl) rfl rfl (by decide +kernel) ⟨by decide, by decide⟩)
  (z_cs2 (z_csV ok_X6_renew rec_X6_renew rfl (z_g 570 (by decide +kernel) rfl) (z_g 571 (by decide +kernel) rfl) (z_g 572 (by decide +kernel) rfl) (z_g 573 (by decide +kernel) rfl) (z_g 50 (by decide +kernel) rfl) rfl rfl (by decide +kernel) ⟨by decide, by decide⟩)
  (z_cs0))))
set_option maxHeartbeats 4000000 in
set_option maxRecDepth 20000 in
theorem pu_X7_sheet (T : ZT) {tl : List ZE} : z_Pure cX7_sheet 5 (z_shC tl) z_fX7 (cs_X7_sheet T) z_kcX7 z_klX7 (some .int) 0 (wp_X7_sheet T) := by
  intro as S post h
  unfold wp_X7_sheet at h
  split at h
  · rename_i s f n
    refine ⟨Nat.le_of_ble_eq_true rfl, fun K hK => ?_⟩
    change K 0 0 [some (.ref 0), some (.int s), some (.int f), some (.int n), none] [] S
    obtain ⟨hC, hk⟩ := h
    refine hK (z_in []) 100 _ _ _ _ _ (Nat.zero_le _) ?_
    simp (config := { maxSteps := 10000000 }) only [z40, z20, z10, z01, zm0, z0m, ze_s, ze_ok, zt_s, zt_t, zt_f, zl_I, zl_J, zl_R, zl_N, zl_C, zl_K, zl_M, zl_ar0, zl_ar1, zl_ar2, zl_ar3, zl_as0, zl_as1, zl_as2, zl_al, zl_gf, zl_gr, zl_pf, zl_iv, zl_ivn, zlk_n, zlk_c, ztb_n, ztb_c, zin_n, zin_1, zin_c, Int.reduceLT, decide_true, decide_false, Bool.true_and, Bool.and_true, List.length_cons, List.length_nil, Int.reduceSub, Int.reduceEq, Int.natCast_zero, zk_s, z_in_n, z_in_c, z_gt_0, z_gt_s, zst_0, zst_1, zst_s, zsl_0, zsl_1, zsl_s, zc_n, zc_i, zc_l, zc_r, zc_u, zca_n, zca_i, zca_l, zca_r, zca_u, zrt_i, zrt_z, zrt_o, z_cal_0, z_cal_s, true_and, and_true, List.nil_append, List.cons_append, Option.toList_some, Option.toList_none, Nat.reduceAdd, Nat.reduceBEq, Nat.reduceLT, Nat.reduceLeDiff, Nat.reduceSub, Int.reduceAdd, Int.reduceLE, Int.reduceToNat, Int.cast_ofNat_Int, Bool.or_true, Bool.true_or, Bool.or_false, Bool.false_or, Nat.le_refl, Nat.zero_le, or_true, true_or, or_false, false_or, not_true_eq_false, not_false_eq_true, not_false_iff, false_implies, true_implies, eq_self, zo_iconst, zo_bipush, zo_sipush, zo_lconst, zo_ldc, zo_ldc_w, zo_ldc2_w, zo_iload_n, zo_iload, zo_lload_n, zo_lload, zo_aload_n, zo_aload, zo_istore_n, zo_istore, zo_lstore_n, zo_lstore, zo_astore_n, zo_astore, zo_iinc, zo_iadd, zo_isub, zo_imul, zo_iand, zo_ior, zo_ixor, zo_ishl, zo_ishr, zo_iushr, zo_idiv, zo_irem, zo_ladd, zo_lsub, zo_lmul, zo_ldiv, zo_lrem, zo_lcmp, zo_i2l, zo_i2b, zo_i2s, zo_dup, zo_dup2, zo_aconst_null, zo_if_icmp, zo_ifCond, zo_goto, zo_ifnull, zo_ifnonnull, zo_iaload, zo_baload, zo_laload, zo_aaload, zo_iastore, zo_bastore, zo_lastore, zo_arraylength, zo_getfield, zo_putfield, zo_tableswitch, zo_lookupswitch, zo_ireturn, zo_lreturn, zo_areturn, zo_return, zo_invokestatic, zo_invokevirtual, zo_new, zo_invokespecial, zo_newarray, zo_anewarray, zo_aastore, zy_0_1, zy_0_2, zy_0_3, zy_1_1, zy_1_2, zy_2_1, zy_2_2, zy_2_3, zy_3_0, zy_4_3, zy_5_1, zy_5_2, zy_6_5, zy_6_6, zy_6_7, zy_6_8, zy_6_9, zy_6_10, zy_7_2, zy_7_6, zy_7_9, zy_7_10, zy_7_11, zy_7_12, zy_7_14, zy_7_21, zy_7_30, zq_iconst, zq_bipush, zq_sipush, zq_lconst0, zq_lconst1, zq_ldc, zq_ldc_w, zq_ldc2_w, zq_iload0, zq_iload1, zq_iload2, zq_iload3, zq_iload, zq_lload0, zq_lload1, zq_lload2, zq_lload3, zq_lload, zq_aload0, zq_aload1, zq_aload2, zq_aload3, zq_aload, zq_istore0, zq_istore1, zq_istore2, zq_istore3, zq_istore, zq_lstore0, zq_lstore1, zq_lstore2, zq_lstore3, zq_lstore, zq_astore0, zq_astore0N, zq_astore1, zq_astore1N, zq_astore2, zq_astore2N, zq_astore3, zq_astore3N, zq_astore, zq_astoreN, zq_iinc, zq_iadd, zq_isub, zq_imul, zq_iand, zq_ior, zq_ixor, zq_ishl, zq_ishr, zq_iushr, zq_idiv, zq_irem, zq_ladd, zq_lsub, zq_lmul, zq_ldiv, zq_lrem, zq_lcmp, zq_i2l, zq_i2b, zq_i2s, zq_dup_i, zq_dup_r, zq_dup2, zq_null, zq_icmp_eq, zq_if_eq, zq_icmp_ne, zq_if_ne, zq_icmp_lt, zq_if_lt, zq_icmp_ge, zq_if_ge, zq_icmp_gt, zq_if_gt, zq_icmp_le, zq_if_le, zq_goto, zq_ifnull_r, zq_ifnull_n, zq_ifnonnull_r, zq_ifnonnull_n, zq_iaload, zq_baload, zq_laload, zq_aaload, zq_iastore, zq_bastore, zq_lastore, zq_alen, zq_getf, zq_put, zq_tsw, zq_lsw, zq_ireturn, zq_lreturn, zq_areturn, zq_areturnN, zq_return, zq_invokestatic, zq_invokevirtual, zq_new, zq_invokespecial, zq_newarray, zq_anewarray, zq_aastore, zi_m1, zi_0, zi_1, zi_2, zi_3, zi_4, zi_5, zi_6, zi_8, zi_16, zb_m10, zb_m4, zb_m3, zb_m2, zb_6, zb_7, zb_8, zb_9, zb_10, zb_16, zb_20, zb_23, zb_30, zb_32, zb_35, zb_46, zb_48, zb_56, zb_57, zb_59, zb_63, zb_70, zb_98, zb_99, zb_100, zb_111, zb_112, zs_192, zs_255, zs_256, zs_511, zs_512, zs_12345, zf_X7_10_0, zf_X7_19_0, zf_X7_26_0, zf_X7_33_0, zf_X7_39_0, zf_X7_43_0, zf_X7_47_0, zf_X7_50_0, zf_X7_53_0, zf_X7_56_0, zf_X7_59_0, zkc_X7_223, zkl_X7_313, zkl_X7_240, zkl_X7_305, za_C_2, za_C_3, za_C_4, za_C_5, za_C_6, za_C_8, za_C_9, za_C_10, za_C_12, za_C_14, za_C_15, za_C_16, za_C_17, za_C_22, za_C_23, za_C_24, za_C_25, dX7_sheet_0, dX7_sheet_1, dX7_sheet_2, dX7_sheet_5, dX7_sheet_7, dX7_sheet_9, dX7_sheet_12, dX7_sheet_13, dX7_sheet_14, dX7_sheet_15, dX7_sheet_18, dX7_sheet_21, dX7_sheet_22, dX7_sheet_24, dX7_sheet_27, dX7_sheet_29, dX7_sheet_30, dX7_sheet_31, dX7_sheet_34, dX7_sheet_35, dX7_sheet_36, dX7_sheet_39, dX7_sheet_40, dX7_sheet_42, dX7_sheet_43, dX7_sheet_44, dX7_sheet_47, dX7_sheet_48, cr_X7_sheet_111, cr_X7_sheet_67, cr_X7_sheet_119, cr_X7_sheet_210, wr_X7_sheetOf, wr_X7_within, wr_X7_found, wr_X6_renew, wr_X6_renew_1, wr_X6_renew_2, wr_X6_renew_3]
    have e2 : (0 ≤ f ∧ f ≤ 2) ↔ i_in f 3 := w_in (m := 2) (by decide)
    have e48 : n ≤ 48 ↔ n.toInt ≤ 48 := by rw [i_le]; simp
    have e0 : 0 ≤ n ↔ ¬ n.toInt < 0 := by rw [i_le, li0]; omega
    rw [e2]
    have bad : ¬ (i_in s 4 ∧ i_in f 3 ∧ n.toInt ≤ 48) → post (some (.int (-2))) S := by
      intro q
      have g1 : q_sheet T s f n = -2 := by unfold q_sheet; rw [if_neg q]
      have g2 : u_sheet T s f n = T := by unfold u_sheet; rw [if_neg q]
      rw [g1, g2] at hk
      exact hk S hC
    have A : ∀ m : Nat, m < 4 → s = nI m → (i_in f 3 → (n ≤ 48 → (0 ≤ n → ∀ (S' : ZS), S'.1 (18 + m) 1 = f → S'.1 (18 + m) 2 = n → (∀ (i : Nat), i < 48 → S'.1 (22 + m) i = 0) → c_frH (18 + m) (22 + m) S S' → post (some (Value.int n)) S') ∧ (¬0 ≤ n → ∃ f, CR T S ∧ 5 = nI f ∧ f ≤ 5 ∧ ∀ (S' : ZS), CR (wFd T f) S' → post (some (Value.int (q_fnd f))) S')) ∧ (¬n ≤ 48 → post (some (Value.int (-2))) S)) ∧ (¬i_in f 3 → post (some (Value.int (-2))) S) := by
      intro m hm e
      obtain ⟨c, ecn⟩ := s_c hm e
      refine ⟨fun d => ⟨fun l => ⟨fun z S' r1 r2 r3 r4 => ?_, fun z => ?_⟩, fun l => bad (fun q => l (e48.mpr q.2.2))⟩, fun d => bad (fun q => d q.2.1)⟩
      · have C : i_in s 4 ∧ i_in f 3 ∧ n.toInt ≤ 48 := ⟨c, d, e48.mp l⟩
        have g1 : q_sheet T s f n = n := by unfold q_sheet; rw [if_pos C, if_neg (e0.mp z)]
        have g2 : u_sheet T s f n = wSh T m (true, cn f, cn n) (fun _ => 0) := by unfold u_sheet; rw [if_pos C, if_neg (e0.mp z), ecn]
        rw [g1, g2] at hk
        obtain ⟨ef, hf⟩ := f_c d
        obtain ⟨en, hn⟩ := i_inI (v := n) (n := 49) ⟨by have := e0.mp z; omega, by have := e48.mp l; omega⟩ (by omega)
        refine hk S' (CR_sh hC hm ⟨hf, by dsimp only; omega⟩ ?_ r4.1)
        unfold c_sheet
        simp only [tsh, tit, va_up_self]
        exact ⟨fun _ => ⟨by rw [r1]; exact ef, by rw [r2]; exact en, fun i hi => r3 i (by omega)⟩, fun q => absurd q (by decide)⟩
      · have C : i_in s 4 ∧ i_in f 3 ∧ n.toInt ≤ 48 := ⟨c, d, e48.mp l⟩
        have z' : n.toInt < 0 := by rw [e0] at z; omega
        have g1 : q_sheet T s f n = q_fnd 5 := by unfold q_sheet; rw [if_pos C, if_pos z']
        have g2 : u_sheet T s f n = wFd T 5 := by unfold u_sheet; rw [if_pos C, if_pos z']
        rw [g1, g2] at hk
        exact ⟨5, hC, rfl, by omega, hk⟩
    exact ⟨A 0 (by omega), A 1 (by omega), A 2 (by omega), A 3 (by omega), fun c => bad (fun q => c q.1)⟩
  · exact h.elim
theorem ok_X7_sheet (T : ZT) {tl : List ZE} : z_Ok (z_shC tl) yX7_sheet cX7_sheet 5 (some .int) ({ frames := 2, cells := 0, slots := 0, locals := 43 } : Room) 0 (wp_X7_sheet T) := z_Ok_of (pu_X7_sheet T) z_fX7_ok z_kX7_ok (co_X7_sheet T) ⟨by decide, by decide⟩ (by decide +kernel)
theorem rec_X7_sheet (T : ZT) {tl : List ZE} : z_rec (z_shC tl) (wp_X7_sheet T) 6 := by
  intro as S post h
  unfold wp_X7_sheet at h
  split at h
  · exact ⟨_, _, _, rfl, rfl⟩
  · exact h.elim
def wp_X7_lose (T : ZT) : ZW := fun as S k => match as with
  | [.ref 0, .int s] => CR T S ∧ ∀ S', CR (u_lose T s) S' → k (some (.int (q_lose T s))) S'
  | _ => False
theorem wr_X7_lose {T : ZT} {s : Int32} {S : ZS} {k : Option Value → ZS → Prop} : (wp_X7_lose T) [.ref 0, .int s] S k = (CR T S ∧ ∀ S', CR (u_lose T s) S' → k (some (.int (q_lose T s))) S') := rfl
def cs_X7_lose (T : ZT) : List (Nat × ZC) := [(111, (2, 0, false, wp_X7_sheetOf)), (115, (1, 0, false, wp_X6_isLost)), (119, (2, 0, false, (wp_X7_found T))), (214, (1, 0, false, wp_X6_drop))]
theorem cr_X7_lose_111 {T : ZT} : (cs_X7_lose T).lookup 111 = some (2, 0, false, wp_X7_sheetOf) := rfl
theorem cr_X7_lose_115 {T : ZT} : (cs_X7_lose T).lookup 115 = some (1, 0, false, wp_X6_isLost) := rfl
theorem cr_X7_lose_119 {T : ZT} : (cs_X7_lose T).lookup 119 = some (2, 0, false, (wp_X7_found T)) := rfl
theorem cr_X7_lose_214 {T : ZT} : (cs_X7_lose T).lookup 214 = some (1, 0, false, wp_X6_drop) := rfl
set_option maxRecDepth 20000 in
theorem co_X7_lose (T : ZT) {tl : List ZE} : z_csok RX7 ({ frames := 2, cells := 0, slots := 0, locals := 43 } : Room) (z_shC tl) (cs_X7_lose T) := z_cs2 (z_csV ok_X7_sheetOf rec_X7_sheetOf rfl (z_g 356 (by decide +kernel) rfl) (z_g 358 (by decide +kernel) rfl) (z_g 2 (by decide +kernel) rfl) (z_g 359 (by decide +kernel) rfl) (z_g 44 (by decide +kernel) rfl) rfl rfl (by decide +kernel) ⟨by decide, by decide⟩)
  (z_cs2 (z_csV ok_X6_isLost rec_X6_isLost rfl (z_g 360 (by decide +kernel) rfl) (z_g 361 (by decide +kernel) rfl) (z_g 362 (by decide +kernel) rfl) (z_g 363 (by decide +kernel) rfl) (z_g 50 (by decide +kernel) rfl) rfl rfl (by decide +kernel) ⟨by decide, by decide⟩)
  (z_cs2 (z_csV (ok_X7_found T) (rec_X7_found T) rfl (z_g 364 (by decide +kernel) rfl) (z_g 366 (by decide +kernel) rfl) (z_g 3 (by decide +kernel) rfl) (z_g 367 (by decide +kernel) rfl) (z_g 44 (by decide +kernel) rfl) rfl rfl (by decide +kernel) ⟨by decide, by decide⟩)
  (z_cs2 (z_csV ok_X6_drop rec_X6_drop rfl (z_g 578 (by decide +kernel) rfl) (z_g 579 (by decide +kernel) rfl) (z_g 580 (by decide +kernel) rfl) (z_g 581 (by decide +kernel) rfl) (z_g 50 (by decide +kernel) rfl) rfl rfl (by decide +kernel) ⟨by decide, by decide⟩)
  (z_cs0))))
set_option maxHeartbeats 4000000 in
set_option maxRecDepth 20000 in
theorem pu_X7_lose (T : ZT) {tl : List ZE} : z_Pure cX7_lose 3 (z_shC tl) z_fX7 (cs_X7_lose T) z_kcX7 z_klX7 (some .int) 0 (wp_X7_lose T) := by
  intro as S post h
  unfold wp_X7_lose at h
  split at h
  · rename_i s
    refine ⟨Nat.le_of_ble_eq_true rfl, fun K hK => ?_⟩
    change K 0 0 [some (.ref 0), some (.int s), none] [] S
    obtain ⟨hC, hk⟩ := h
    refine hK (z_in []) 100 _ _ _ _ _ (Nat.zero_le _) ?_
    simp (config := { maxSteps := 10000000 }) only [z40, z20, z10, z01, zm0, z0m, ze_s, ze_ok, zt_s, zt_t, zt_f, zl_I, zl_J, zl_R, zl_N, zl_C, zl_K, zl_M, zl_ar0, zl_ar1, zl_ar2, zl_ar3, zl_as0, zl_as1, zl_as2, zl_al, zl_gf, zl_gr, zl_pf, zl_iv, zl_ivn, zlk_n, zlk_c, ztb_n, ztb_c, zin_n, zin_1, zin_c, Int.reduceLT, decide_true, decide_false, Bool.true_and, Bool.and_true, List.length_cons, List.length_nil, Int.reduceSub, Int.reduceEq, Int.natCast_zero, zk_s, z_in_n, z_in_c, z_gt_0, z_gt_s, zst_0, zst_1, zst_s, zsl_0, zsl_1, zsl_s, zc_n, zc_i, zc_l, zc_r, zc_u, zca_n, zca_i, zca_l, zca_r, zca_u, zrt_i, zrt_z, zrt_o, z_cal_0, z_cal_s, true_and, and_true, List.nil_append, List.cons_append, Option.toList_some, Option.toList_none, Nat.reduceAdd, Nat.reduceBEq, Nat.reduceLT, Nat.reduceLeDiff, Nat.reduceSub, Int.reduceAdd, Int.reduceLE, Int.reduceToNat, Int.cast_ofNat_Int, Bool.or_true, Bool.true_or, Bool.or_false, Bool.false_or, Nat.le_refl, Nat.zero_le, or_true, true_or, or_false, false_or, not_true_eq_false, not_false_eq_true, not_false_iff, false_implies, true_implies, eq_self, zo_iconst, zo_bipush, zo_sipush, zo_lconst, zo_ldc, zo_ldc_w, zo_ldc2_w, zo_iload_n, zo_iload, zo_lload_n, zo_lload, zo_aload_n, zo_aload, zo_istore_n, zo_istore, zo_lstore_n, zo_lstore, zo_astore_n, zo_astore, zo_iinc, zo_iadd, zo_isub, zo_imul, zo_iand, zo_ior, zo_ixor, zo_ishl, zo_ishr, zo_iushr, zo_idiv, zo_irem, zo_ladd, zo_lsub, zo_lmul, zo_ldiv, zo_lrem, zo_lcmp, zo_i2l, zo_i2b, zo_i2s, zo_dup, zo_dup2, zo_aconst_null, zo_if_icmp, zo_ifCond, zo_goto, zo_ifnull, zo_ifnonnull, zo_iaload, zo_baload, zo_laload, zo_aaload, zo_iastore, zo_bastore, zo_lastore, zo_arraylength, zo_getfield, zo_putfield, zo_tableswitch, zo_lookupswitch, zo_ireturn, zo_lreturn, zo_areturn, zo_return, zo_invokestatic, zo_invokevirtual, zo_new, zo_invokespecial, zo_newarray, zo_anewarray, zo_aastore, zy_0_1, zy_0_2, zy_0_3, zy_1_1, zy_1_2, zy_2_1, zy_2_2, zy_2_3, zy_3_0, zy_4_3, zy_5_1, zy_5_2, zy_6_5, zy_6_6, zy_6_7, zy_6_8, zy_6_9, zy_6_10, zy_7_2, zy_7_6, zy_7_9, zy_7_10, zy_7_11, zy_7_12, zy_7_14, zy_7_21, zy_7_30, zq_iconst, zq_bipush, zq_sipush, zq_lconst0, zq_lconst1, zq_ldc, zq_ldc_w, zq_ldc2_w, zq_iload0, zq_iload1, zq_iload2, zq_iload3, zq_iload, zq_lload0, zq_lload1, zq_lload2, zq_lload3, zq_lload, zq_aload0, zq_aload1, zq_aload2, zq_aload3, zq_aload, zq_istore0, zq_istore1, zq_istore2, zq_istore3, zq_istore, zq_lstore0, zq_lstore1, zq_lstore2, zq_lstore3, zq_lstore, zq_astore0, zq_astore0N, zq_astore1, zq_astore1N, zq_astore2, zq_astore2N, zq_astore3, zq_astore3N, zq_astore, zq_astoreN, zq_iinc, zq_iadd, zq_isub, zq_imul, zq_iand, zq_ior, zq_ixor, zq_ishl, zq_ishr, zq_iushr, zq_idiv, zq_irem, zq_ladd, zq_lsub, zq_lmul, zq_ldiv, zq_lrem, zq_lcmp, zq_i2l, zq_i2b, zq_i2s, zq_dup_i, zq_dup_r, zq_dup2, zq_null, zq_icmp_eq, zq_if_eq, zq_icmp_ne, zq_if_ne, zq_icmp_lt, zq_if_lt, zq_icmp_ge, zq_if_ge, zq_icmp_gt, zq_if_gt, zq_icmp_le, zq_if_le, zq_goto, zq_ifnull_r, zq_ifnull_n, zq_ifnonnull_r, zq_ifnonnull_n, zq_iaload, zq_baload, zq_laload, zq_aaload, zq_iastore, zq_bastore, zq_lastore, zq_alen, zq_getf, zq_put, zq_tsw, zq_lsw, zq_ireturn, zq_lreturn, zq_areturn, zq_areturnN, zq_return, zq_invokestatic, zq_invokevirtual, zq_new, zq_invokespecial, zq_newarray, zq_anewarray, zq_aastore, zi_m1, zi_0, zi_1, zi_2, zi_3, zi_4, zi_5, zi_6, zi_8, zi_16, zb_m10, zb_m4, zb_m3, zb_m2, zb_6, zb_7, zb_8, zb_9, zb_10, zb_16, zb_20, zb_23, zb_30, zb_32, zb_35, zb_46, zb_48, zb_56, zb_57, zb_59, zb_63, zb_70, zb_98, zb_99, zb_100, zb_111, zb_112, zs_192, zs_255, zs_256, zs_511, zs_512, zs_12345, zf_X7_10_0, zf_X7_19_0, zf_X7_26_0, zf_X7_33_0, zf_X7_39_0, zf_X7_43_0, zf_X7_47_0, zf_X7_50_0, zf_X7_53_0, zf_X7_56_0, zf_X7_59_0, zkc_X7_223, zkl_X7_313, zkl_X7_240, zkl_X7_305, za_C_2, za_C_3, za_C_4, za_C_5, za_C_6, za_C_8, za_C_9, za_C_10, za_C_12, za_C_14, za_C_15, za_C_16, za_C_17, za_C_22, za_C_23, za_C_24, za_C_25, dX7_lose_0, dX7_lose_1, dX7_lose_2, dX7_lose_5, dX7_lose_6, dX7_lose_7, dX7_lose_10, dX7_lose_12, dX7_lose_13, dX7_lose_14, dX7_lose_17, dX7_lose_20, dX7_lose_21, dX7_lose_22, dX7_lose_25, dX7_lose_28, dX7_lose_29, dX7_lose_32, cr_X7_lose_111, cr_X7_lose_115, cr_X7_lose_119, cr_X7_lose_214, wr_X7_sheetOf, wr_X6_isLost, wr_X6_isLost_1, wr_X6_isLost_2, wr_X6_isLost_3, wr_X7_found, wr_X6_drop, wr_X6_drop_1, wr_X6_drop_2, wr_X6_drop_3]
    have bad : ¬ i_in s 4 → post (some (.int (-2))) S := by
      intro q
      have g1 : q_lose T s = -2 := by unfold q_lose; rw [if_neg q]
      have g2 : u_lose T s = T := by unfold u_lose; rw [if_neg q]
      rw [g1, g2] at hk
      exact hk S hC
    have A : ∀ m : Nat, m < 4 → s = nI m → (S.1 (18 + m) 2 = -1 → ∃ f, CR T S ∧ 1 = nI f ∧ f ≤ 5 ∧ ∀ (S' : ZS), CR (wFd T f) S' → post (some (Value.int (q_fnd f))) S') ∧ (¬S.1 (18 + m) 2 = -1 → post (some (Value.int (S.1 (18 + m) 2))) (z_u S.1 (18 + m) 2 (-1), S.2)) := by
      intro m hm e
      obtain ⟨c, ecn⟩ := s_c hm e
      refine ⟨fun l => ?_, fun l => ?_⟩
      · have hl := (CR_lost hC hm).mp l
        have g1 : q_lose T s = q_fnd 1 := by unfold q_lose; rw [if_pos c, ecn, if_neg (by rw [hl]; decide)]
        have g2 : u_lose T s = wFd T 1 := by unfold u_lose; rw [if_pos c, ecn, if_neg (by rw [hl]; decide)]
        rw [g1, g2] at hk
        exact ⟨1, hC, rfl, by omega, hk⟩
      · have ht := CR_there hC hm l
        have g1 : q_lose T s = nI (tsh T m).2.2 := by unfold q_lose; rw [if_pos c, ecn, if_pos ht]
        have g2 : u_lose T s = wSh T m (false, (tsh T m).2) (tit T m) := by unfold u_lose; rw [if_pos c, ecn, if_pos ht]
        rw [g1, g2] at hk
        rw [((CR_sheet hC hm).1 ht).2.1]
        refine hk _ (CR_sh hC hm (CR_shI hC hm) ?_ (fun a ha => by dsimp only; rw [z_u_o (by omega)]))
        unfold c_sheet
        simp only [tsh, tit, va_up_self]
        exact ⟨fun q => absurd q (by decide), fun _ => by simp only [z_rd, and_self, if_true]⟩
    exact ⟨A 0 (by omega), A 1 (by omega), A 2 (by omega), A 3 (by omega), bad⟩
  · exact h.elim
theorem ok_X7_lose (T : ZT) {tl : List ZE} : z_Ok (z_shC tl) yX7_lose cX7_lose 3 (some .int) ({ frames := 2, cells := 0, slots := 0, locals := 43 } : Room) 0 (wp_X7_lose T) := z_Ok_of (pu_X7_lose T) z_fX7_ok z_kX7_ok (co_X7_lose T) ⟨by decide, by decide⟩ (by decide +kernel)
theorem rec_X7_lose (T : ZT) {tl : List ZE} : z_rec (z_shC tl) (wp_X7_lose T) 6 := by
  intro as S post h
  unfold wp_X7_lose at h
  split at h
  · exact ⟨_, _, _, rfl, rfl⟩
  · exact h.elim
theorem m20 : ((-2 : Int32) = 0) = False := by decide
def wp_X7_put (T : ZT) : ZW := fun as S k => match as with
  | [.ref 0, .int s, .int f, .int i, .int v] => CR T S ∧ ∀ S', CR (u_put T s f i v) S' → k (some (.int (q_put T s f i v))) S'
  | _ => False
theorem wr_X7_put {T : ZT} {s : Int32} {f : Int32} {i : Int32} {v : Int32} {S : ZS} {k : Option Value → ZS → Prop} : (wp_X7_put T) [.ref 0, .int s, .int f, .int i, .int v] S k = (CR T S ∧ ∀ S', CR (u_put T s f i v) S' → k (some (.int (q_put T s f i v))) S') := rfl
def cs_X7_put (T : ZT) : List (Nat × ZC) := [(217, (4, 0, false, (wp_X7_itemRefusal T))), (111, (2, 0, false, wp_X7_sheetOf)), (220, (3, 0, false, wp_X6_change))]
theorem cr_X7_put_217 {T : ZT} : (cs_X7_put T).lookup 217 = some (4, 0, false, (wp_X7_itemRefusal T)) := rfl
theorem cr_X7_put_111 {T : ZT} : (cs_X7_put T).lookup 111 = some (2, 0, false, wp_X7_sheetOf) := rfl
theorem cr_X7_put_220 {T : ZT} : (cs_X7_put T).lookup 220 = some (3, 0, false, wp_X6_change) := rfl
set_option maxRecDepth 20000 in
theorem co_X7_put (T : ZT) {tl : List ZE} : z_csok RX7 ({ frames := 3, cells := 0, slots := 0, locals := 67 } : Room) (z_shC tl) (cs_X7_put T) := z_cs2 (z_csV (ok_X7_itemRefusal T) (rec_X7_itemRefusal T) rfl (z_g 586 (by decide +kernel) rfl) (z_g 588 (by decide +kernel) rfl) (z_g 8 (by decide +kernel) rfl) (z_g 589 (by decide +kernel) rfl) (z_g 44 (by decide +kernel) rfl) rfl rfl (by decide +kernel) ⟨by decide, by decide⟩)
  (z_cs2 (z_csV ok_X7_sheetOf rec_X7_sheetOf rfl (z_g 356 (by decide +kernel) rfl) (z_g 358 (by decide +kernel) rfl) (z_g 2 (by decide +kernel) rfl) (z_g 359 (by decide +kernel) rfl) (z_g 44 (by decide +kernel) rfl) rfl rfl (by decide +kernel) ⟨by decide, by decide⟩)
  (z_cs2 (z_csV ok_X6_change rec_X6_change rfl (z_g 595 (by decide +kernel) rfl) (z_g 596 (by decide +kernel) rfl) (z_g 597 (by decide +kernel) rfl) (z_g 598 (by decide +kernel) rfl) (z_g 50 (by decide +kernel) rfl) rfl rfl (by decide +kernel) ⟨by decide, by decide⟩)
  (z_cs0)))
set_option maxHeartbeats 4000000 in
set_option maxRecDepth 20000 in
theorem pu_X7_put (T : ZT) {tl : List ZE} : z_Pure cX7_put 7 (z_shC tl) z_fX7 (cs_X7_put T) z_kcX7 z_klX7 (some .int) 0 (wp_X7_put T) := by
  intro as S post h
  unfold wp_X7_put at h
  split at h
  · rename_i s f i v
    refine ⟨Nat.le_of_ble_eq_true rfl, fun K hK => ?_⟩
    change K 0 0 [some (.ref 0), some (.int s), some (.int f), some (.int i), some (.int v), none, none] [] S
    obtain ⟨hC, hk⟩ := h
    refine hK (z_in []) 100 _ _ _ _ _ (Nat.zero_le _) ?_
    simp (config := { maxSteps := 10000000 }) only [z40, z20, z10, z01, zm0, z0m, ze_s, ze_ok, zt_s, zt_t, zt_f, zl_I, zl_J, zl_R, zl_N, zl_C, zl_K, zl_M, zl_ar0, zl_ar1, zl_ar2, zl_ar3, zl_as0, zl_as1, zl_as2, zl_al, zl_gf, zl_gr, zl_pf, zl_iv, zl_ivn, zlk_n, zlk_c, ztb_n, ztb_c, zin_n, zin_1, zin_c, Int.reduceLT, decide_true, decide_false, Bool.true_and, Bool.and_true, List.length_cons, List.length_nil, Int.reduceSub, Int.reduceEq, Int.natCast_zero, zk_s, z_in_n, z_in_c, z_gt_0, z_gt_s, zst_0, zst_1, zst_s, zsl_0, zsl_1, zsl_s, zc_n, zc_i, zc_l, zc_r, zc_u, zca_n, zca_i, zca_l, zca_r, zca_u, zrt_i, zrt_z, zrt_o, z_cal_0, z_cal_s, true_and, and_true, List.nil_append, List.cons_append, Option.toList_some, Option.toList_none, Nat.reduceAdd, Nat.reduceBEq, Nat.reduceLT, Nat.reduceLeDiff, Nat.reduceSub, Int.reduceAdd, Int.reduceLE, Int.reduceToNat, Int.cast_ofNat_Int, Bool.or_true, Bool.true_or, Bool.or_false, Bool.false_or, Nat.le_refl, Nat.zero_le, or_true, true_or, or_false, false_or, not_true_eq_false, not_false_eq_true, not_false_iff, false_implies, true_implies, eq_self, zo_iconst, zo_bipush, zo_sipush, zo_lconst, zo_ldc, zo_ldc_w, zo_ldc2_w, zo_iload_n, zo_iload, zo_lload_n, zo_lload, zo_aload_n, zo_aload, zo_istore_n, zo_istore, zo_lstore_n, zo_lstore, zo_astore_n, zo_astore, zo_iinc, zo_iadd, zo_isub, zo_imul, zo_iand, zo_ior, zo_ixor, zo_ishl, zo_ishr, zo_iushr, zo_idiv, zo_irem, zo_ladd, zo_lsub, zo_lmul, zo_ldiv, zo_lrem, zo_lcmp, zo_i2l, zo_i2b, zo_i2s, zo_dup, zo_dup2, zo_aconst_null, zo_if_icmp, zo_ifCond, zo_goto, zo_ifnull, zo_ifnonnull, zo_iaload, zo_baload, zo_laload, zo_aaload, zo_iastore, zo_bastore, zo_lastore, zo_arraylength, zo_getfield, zo_putfield, zo_tableswitch, zo_lookupswitch, zo_ireturn, zo_lreturn, zo_areturn, zo_return, zo_invokestatic, zo_invokevirtual, zo_new, zo_invokespecial, zo_newarray, zo_anewarray, zo_aastore, zy_0_1, zy_0_2, zy_0_3, zy_1_1, zy_1_2, zy_2_1, zy_2_2, zy_2_3, zy_3_0, zy_4_3, zy_5_1, zy_5_2, zy_6_5, zy_6_6, zy_6_7, zy_6_8, zy_6_9, zy_6_10, zy_7_2, zy_7_6, zy_7_9, zy_7_10, zy_7_11, zy_7_12, zy_7_14, zy_7_21, zy_7_30, zq_iconst, zq_bipush, zq_sipush, zq_lconst0, zq_lconst1, zq_ldc, zq_ldc_w, zq_ldc2_w, zq_iload0, zq_iload1, zq_iload2, zq_iload3, zq_iload, zq_lload0, zq_lload1, zq_lload2, zq_lload3, zq_lload, zq_aload0, zq_aload1, zq_aload2, zq_aload3, zq_aload, zq_istore0, zq_istore1, zq_istore2, zq_istore3, zq_istore, zq_lstore0, zq_lstore1, zq_lstore2, zq_lstore3, zq_lstore, zq_astore0, zq_astore0N, zq_astore1, zq_astore1N, zq_astore2, zq_astore2N, zq_astore3, zq_astore3N, zq_astore, zq_astoreN, zq_iinc, zq_iadd, zq_isub, zq_imul, zq_iand, zq_ior, zq_ixor, zq_ishl, zq_ishr, zq_iushr, zq_idiv, zq_irem, zq_ladd, zq_lsub, zq_lmul, zq_ldiv, zq_lrem, zq_lcmp, zq_i2l, zq_i2b, zq_i2s, zq_dup_i, zq_dup_r, zq_dup2, zq_null, zq_icmp_eq, zq_if_eq, zq_icmp_ne, zq_if_ne, zq_icmp_lt, zq_if_lt, zq_icmp_ge, zq_if_ge, zq_icmp_gt, zq_if_gt, zq_icmp_le, zq_if_le, zq_goto, zq_ifnull_r, zq_ifnull_n, zq_ifnonnull_r, zq_ifnonnull_n, zq_iaload, zq_baload, zq_laload, zq_aaload, zq_iastore, zq_bastore, zq_lastore, zq_alen, zq_getf, zq_put, zq_tsw, zq_lsw, zq_ireturn, zq_lreturn, zq_areturn, zq_areturnN, zq_return, zq_invokestatic, zq_invokevirtual, zq_new, zq_invokespecial, zq_newarray, zq_anewarray, zq_aastore, zi_m1, zi_0, zi_1, zi_2, zi_3, zi_4, zi_5, zi_6, zi_8, zi_16, zb_m10, zb_m4, zb_m3, zb_m2, zb_6, zb_7, zb_8, zb_9, zb_10, zb_16, zb_20, zb_23, zb_30, zb_32, zb_35, zb_46, zb_48, zb_56, zb_57, zb_59, zb_63, zb_70, zb_98, zb_99, zb_100, zb_111, zb_112, zs_192, zs_255, zs_256, zs_511, zs_512, zs_12345, zf_X7_10_0, zf_X7_19_0, zf_X7_26_0, zf_X7_33_0, zf_X7_39_0, zf_X7_43_0, zf_X7_47_0, zf_X7_50_0, zf_X7_53_0, zf_X7_56_0, zf_X7_59_0, zkc_X7_223, zkl_X7_313, zkl_X7_240, zkl_X7_305, za_C_2, za_C_3, za_C_4, za_C_5, za_C_6, za_C_8, za_C_9, za_C_10, za_C_12, za_C_14, za_C_15, za_C_16, za_C_17, za_C_22, za_C_23, za_C_24, za_C_25, dX7_put_0, dX7_put_1, dX7_put_2, dX7_put_3, dX7_put_4, dX7_put_7, dX7_put_9, dX7_put_10, dX7_put_11, dX7_put_14, dX7_put_16, dX7_put_18, dX7_put_21, dX7_put_23, dX7_put_26, dX7_put_28, dX7_put_29, dX7_put_31, dX7_put_32, dX7_put_34, dX7_put_37, dX7_put_38, cr_X7_put_217, cr_X7_put_111, cr_X7_put_220, wr_X7_itemRefusal, wr_X7_sheetOf, wr_X6_change, wr_X6_change_1, wr_X6_change_2, wr_X6_change_3]
    have bad : ¬ (i_in s 4 ∧ i_in f 3) → post (some (.int (-2))) S := by
      intro q
      have g1 : q_put T s f i v = -2 := by unfold q_put; rw [if_neg q]
      have g2 : u_put T s f i v = T := by unfold u_put; rw [if_neg q]
      rw [g1, g2] at hk
      exact hk S hC
    have lack : i_in s 4 ∧ i_in f 3 → ¬q_lack T (cn s) f i = 0 → ∀ S', CR (wFd T (q_lack T (cn s) f i)) S' → post (some (.int (q_fnd (q_lack T (cn s) f i)))) S' := by
      intro c l
      have g1 : q_put T s f i v = q_fnd (q_lack T (cn s) f i) := by unfold q_put; rw [if_pos c, if_neg l]
      have g2 : u_put T s f i v = wFd T (q_lack T (cn s) f i) := by unfold u_put; rw [if_pos c, if_neg l]
      rw [g1, g2] at hk
      exact hk
    have nz := fnd_ne (Nat.le_trans (q_lack_le T (cn s) f i) (by omega : 3 ≤ 5))
    simp only [m20, false_implies, not_false_eq_true, true_implies, true_and, nz]
    have A : ∀ m : Nat, m < 4 → i_in s 4 ∧ i_in f 3 → q_lack T (cn s) f i = 0 → s = nI m → ∃ n j f, n ≤ 48 ∧ S.1 (18 + m) 2 = nI n ∧ j < n ∧ i = nI j ∧ f ≤ 2 ∧ S.1 (18 + m) 1 = nI f ∧ post (some (Value.int 1)) (z_u S.1 (22 + m) j (ab_narrow f v), S.2) := by
      intro m hm c l e
      obtain ⟨-, ecn⟩ := s_c hm e
      have I := CR_shI hC hm
      obtain ⟨b1, b2⟩ := CR_sheet hC hm
      have g1 : q_put T s f i v = 1 := by unfold q_put; rw [if_pos c, if_pos l]
      have g2 : u_put T s f i v = wSh T m (tsh T m) (va_up (tit T m) (cn i) (ab_narrow (tsh T m).2.1 v)) := by unfold u_put; rw [if_pos c, if_pos l, ecn]
      rw [g1, g2] at hk
      rw [ecn] at l
      unfold q_lack at l
      split at l
      · omega
      · rename_i t1
        have ht : (tsh T m).1 = true := by cases h : (tsh T m).1 <;> simp_all
        split at l
        · omega
        · split at l
          · rename_i t3
            obtain ⟨ei, hi⟩ := i_inI t3 (by omega)
            obtain ⟨b1a, b1b, b1c⟩ := b1 ht
            refine ⟨(tsh T m).2.2, cn i, (tsh T m).2.1, I.2, b1b, hi, ei, I.1, b1a, hk _ (CR_sh hC hm I ?_ (fun a ha => by dsimp only; rw [z_u_o (by omega)]))⟩
            unfold c_sheet
            simp only [tsh, tit, va_up_self]
            refine ⟨fun _ => ⟨?_, ?_, fun j hj => ?_⟩, fun q => absurd q (by rw [ht]; decide)⟩
            · rw [z_u_o (by omega)]; exact b1a
            · rw [z_u_o (by omega)]; exact b1b
            · simp only [z_rd, true_and]
              by_cases ej : j = cn i
              · subst ej; rw [if_pos rfl, va_up_self]
              · rw [if_neg ej, va_up_ne _ _ ej]; exact b1c j hj
          · omega
    refine ⟨hC, fun c => ⟨fun _ => bad c, fun _ => bad c, fun _ => bad c, fun _ => bad c, fun _ => bad c⟩, fun c l => ⟨A 0 (by omega) c l, A 1 (by omega) c l, A 2 (by omega) c l, A 3 (by omega) c l, fun q => absurd c.1 q⟩, fun c l S' h => ⟨fun _ => lack c l S' h, fun _ => lack c l S' h, fun _ => lack c l S' h, fun _ => lack c l S' h, fun _ => lack c l S' h⟩⟩
  · exact h.elim
theorem ok_X7_put (T : ZT) {tl : List ZE} : z_Ok (z_shC tl) yX7_put cX7_put 7 (some .int) ({ frames := 3, cells := 0, slots := 0, locals := 67 } : Room) 0 (wp_X7_put T) := z_Ok_of (pu_X7_put T) z_fX7_ok z_kX7_ok (co_X7_put T) ⟨by decide, by decide⟩ (by decide +kernel)
theorem rec_X7_put (T : ZT) {tl : List ZE} : z_rec (z_shC tl) (wp_X7_put T) 6 := by
  intro as S post h
  unfold wp_X7_put at h
  split at h
  · exact ⟨_, _, _, rfl, rfl⟩
  · exact h.elim
def wp_X7_get (T : ZT) : ZW := fun as S k => match as with
  | [.ref 0, .int s, .int f, .int i] => CR T S ∧ ∀ S', CR (u_get T s f i) S' → k (some (.int (q_get T s f i))) S'
  | _ => False
theorem wr_X7_get {T : ZT} {s : Int32} {f : Int32} {i : Int32} {S : ZS} {k : Option Value → ZS → Prop} : (wp_X7_get T) [.ref 0, .int s, .int f, .int i] S k = (CR T S ∧ ∀ S', CR (u_get T s f i) S' → k (some (.int (q_get T s f i))) S') := rfl
def cs_X7_get (T : ZT) : List (Nat × ZC) := [(217, (4, 0, false, (wp_X7_itemRefusal T))), (111, (2, 0, false, wp_X7_sheetOf)), (125, (2, 0, false, wp_X6_item))]
theorem cr_X7_get_217 {T : ZT} : (cs_X7_get T).lookup 217 = some (4, 0, false, (wp_X7_itemRefusal T)) := rfl
theorem cr_X7_get_111 {T : ZT} : (cs_X7_get T).lookup 111 = some (2, 0, false, wp_X7_sheetOf) := rfl
theorem cr_X7_get_125 {T : ZT} : (cs_X7_get T).lookup 125 = some (2, 0, false, wp_X6_item) := rfl
set_option maxRecDepth 20000 in
theorem co_X7_get (T : ZT) {tl : List ZE} : z_csok RX7 ({ frames := 3, cells := 0, slots := 0, locals := 67 } : Room) (z_shC tl) (cs_X7_get T) := z_cs2 (z_csV (ok_X7_itemRefusal T) (rec_X7_itemRefusal T) rfl (z_g 586 (by decide +kernel) rfl) (z_g 588 (by decide +kernel) rfl) (z_g 8 (by decide +kernel) rfl) (z_g 589 (by decide +kernel) rfl) (z_g 44 (by decide +kernel) rfl) rfl rfl (by decide +kernel) ⟨by decide, by decide⟩)
  (z_cs2 (z_csV ok_X7_sheetOf rec_X7_sheetOf rfl (z_g 356 (by decide +kernel) rfl) (z_g 358 (by decide +kernel) rfl) (z_g 2 (by decide +kernel) rfl) (z_g 359 (by decide +kernel) rfl) (z_g 44 (by decide +kernel) rfl) rfl rfl (by decide +kernel) ⟨by decide, by decide⟩)
  (z_cs2 (z_csV ok_X6_item rec_X6_item rfl (z_g 372 (by decide +kernel) rfl) (z_g 373 (by decide +kernel) rfl) (z_g 374 (by decide +kernel) rfl) (z_g 375 (by decide +kernel) rfl) (z_g 50 (by decide +kernel) rfl) rfl rfl (by decide +kernel) ⟨by decide, by decide⟩)
  (z_cs0)))
set_option maxHeartbeats 4000000 in
set_option maxRecDepth 20000 in
theorem pu_X7_get (T : ZT) {tl : List ZE} : z_Pure cX7_get 6 (z_shC tl) z_fX7 (cs_X7_get T) z_kcX7 z_klX7 (some .int) 0 (wp_X7_get T) := by
  intro as S post h
  unfold wp_X7_get at h
  split at h
  · rename_i s f i
    refine ⟨Nat.le_of_ble_eq_true rfl, fun K hK => ?_⟩
    change K 0 0 [some (.ref 0), some (.int s), some (.int f), some (.int i), none, none] [] S
    obtain ⟨hC, hk⟩ := h
    refine hK (z_in []) 100 _ _ _ _ _ (Nat.zero_le _) ?_
    simp (config := { maxSteps := 10000000 }) only [z40, z20, z10, z01, zm0, z0m, ze_s, ze_ok, zt_s, zt_t, zt_f, zl_I, zl_J, zl_R, zl_N, zl_C, zl_K, zl_M, zl_ar0, zl_ar1, zl_ar2, zl_ar3, zl_as0, zl_as1, zl_as2, zl_al, zl_gf, zl_gr, zl_pf, zl_iv, zl_ivn, zlk_n, zlk_c, ztb_n, ztb_c, zin_n, zin_1, zin_c, Int.reduceLT, decide_true, decide_false, Bool.true_and, Bool.and_true, List.length_cons, List.length_nil, Int.reduceSub, Int.reduceEq, Int.natCast_zero, zk_s, z_in_n, z_in_c, z_gt_0, z_gt_s, zst_0, zst_1, zst_s, zsl_0, zsl_1, zsl_s, zc_n, zc_i, zc_l, zc_r, zc_u, zca_n, zca_i, zca_l, zca_r, zca_u, zrt_i, zrt_z, zrt_o, z_cal_0, z_cal_s, true_and, and_true, List.nil_append, List.cons_append, Option.toList_some, Option.toList_none, Nat.reduceAdd, Nat.reduceBEq, Nat.reduceLT, Nat.reduceLeDiff, Nat.reduceSub, Int.reduceAdd, Int.reduceLE, Int.reduceToNat, Int.cast_ofNat_Int, Bool.or_true, Bool.true_or, Bool.or_false, Bool.false_or, Nat.le_refl, Nat.zero_le, or_true, true_or, or_false, false_or, not_true_eq_false, not_false_eq_true, not_false_iff, false_implies, true_implies, eq_self, zo_iconst, zo_bipush, zo_sipush, zo_lconst, zo_ldc, zo_ldc_w, zo_ldc2_w, zo_iload_n, zo_iload, zo_lload_n, zo_lload, zo_aload_n, zo_aload, zo_istore_n, zo_istore, zo_lstore_n, zo_lstore, zo_astore_n, zo_astore, zo_iinc, zo_iadd, zo_isub, zo_imul, zo_iand, zo_ior, zo_ixor, zo_ishl, zo_ishr, zo_iushr, zo_idiv, zo_irem, zo_ladd, zo_lsub, zo_lmul, zo_ldiv, zo_lrem, zo_lcmp, zo_i2l, zo_i2b, zo_i2s, zo_dup, zo_dup2, zo_aconst_null, zo_if_icmp, zo_ifCond, zo_goto, zo_ifnull, zo_ifnonnull, zo_iaload, zo_baload, zo_laload, zo_aaload, zo_iastore, zo_bastore, zo_lastore, zo_arraylength, zo_getfield, zo_putfield, zo_tableswitch, zo_lookupswitch, zo_ireturn, zo_lreturn, zo_areturn, zo_return, zo_invokestatic, zo_invokevirtual, zo_new, zo_invokespecial, zo_newarray, zo_anewarray, zo_aastore, zy_0_1, zy_0_2, zy_0_3, zy_1_1, zy_1_2, zy_2_1, zy_2_2, zy_2_3, zy_3_0, zy_4_3, zy_5_1, zy_5_2, zy_6_5, zy_6_6, zy_6_7, zy_6_8, zy_6_9, zy_6_10, zy_7_2, zy_7_6, zy_7_9, zy_7_10, zy_7_11, zy_7_12, zy_7_14, zy_7_21, zy_7_30, zq_iconst, zq_bipush, zq_sipush, zq_lconst0, zq_lconst1, zq_ldc, zq_ldc_w, zq_ldc2_w, zq_iload0, zq_iload1, zq_iload2, zq_iload3, zq_iload, zq_lload0, zq_lload1, zq_lload2, zq_lload3, zq_lload, zq_aload0, zq_aload1, zq_aload2, zq_aload3, zq_aload, zq_istore0, zq_istore1, zq_istore2, zq_istore3, zq_istore, zq_lstore0, zq_lstore1, zq_lstore2, zq_lstore3, zq_lstore, zq_astore0, zq_astore0N, zq_astore1, zq_astore1N, zq_astore2, zq_astore2N, zq_astore3, zq_astore3N, zq_astore, zq_astoreN, zq_iinc, zq_iadd, zq_isub, zq_imul, zq_iand, zq_ior, zq_ixor, zq_ishl, zq_ishr, zq_iushr, zq_idiv, zq_irem, zq_ladd, zq_lsub, zq_lmul, zq_ldiv, zq_lrem, zq_lcmp, zq_i2l, zq_i2b, zq_i2s, zq_dup_i, zq_dup_r, zq_dup2, zq_null, zq_icmp_eq, zq_if_eq, zq_icmp_ne, zq_if_ne, zq_icmp_lt, zq_if_lt, zq_icmp_ge, zq_if_ge, zq_icmp_gt, zq_if_gt, zq_icmp_le, zq_if_le, zq_goto, zq_ifnull_r, zq_ifnull_n, zq_ifnonnull_r, zq_ifnonnull_n, zq_iaload, zq_baload, zq_laload, zq_aaload, zq_iastore, zq_bastore, zq_lastore, zq_alen, zq_getf, zq_put, zq_tsw, zq_lsw, zq_ireturn, zq_lreturn, zq_areturn, zq_areturnN, zq_return, zq_invokestatic, zq_invokevirtual, zq_new, zq_invokespecial, zq_newarray, zq_anewarray, zq_aastore, zi_m1, zi_0, zi_1, zi_2, zi_3, zi_4, zi_5, zi_6, zi_8, zi_16, zb_m10, zb_m4, zb_m3, zb_m2, zb_6, zb_7, zb_8, zb_9, zb_10, zb_16, zb_20, zb_23, zb_30, zb_32, zb_35, zb_46, zb_48, zb_56, zb_57, zb_59, zb_63, zb_70, zb_98, zb_99, zb_100, zb_111, zb_112, zs_192, zs_255, zs_256, zs_511, zs_512, zs_12345, zf_X7_10_0, zf_X7_19_0, zf_X7_26_0, zf_X7_33_0, zf_X7_39_0, zf_X7_43_0, zf_X7_47_0, zf_X7_50_0, zf_X7_53_0, zf_X7_56_0, zf_X7_59_0, zkc_X7_223, zkl_X7_313, zkl_X7_240, zkl_X7_305, za_C_2, za_C_3, za_C_4, za_C_5, za_C_6, za_C_8, za_C_9, za_C_10, za_C_12, za_C_14, za_C_15, za_C_16, za_C_17, za_C_22, za_C_23, za_C_24, za_C_25, dX7_get_0, dX7_get_1, dX7_get_2, dX7_get_3, dX7_get_4, dX7_get_7, dX7_get_9, dX7_get_10, dX7_get_11, dX7_get_14, dX7_get_16, dX7_get_18, dX7_get_21, dX7_get_23, dX7_get_26, dX7_get_28, dX7_get_31, dX7_get_33, dX7_get_34, dX7_get_37, cr_X7_get_217, cr_X7_get_111, cr_X7_get_125, wr_X7_itemRefusal, wr_X7_sheetOf, wr_X6_item, wr_X6_item_1, wr_X6_item_2, wr_X6_item_3]
    have bad : ¬ (i_in s 4 ∧ i_in f 3) → post (some (.int (-2147483648))) S := by
      intro q
      have g1 : q_get T s f i = -2147483648 := by unfold q_get; rw [if_neg (fun z => q ⟨z.1, z.2.1⟩)]
      have g2 : u_get T s f i = T := by unfold u_get; rw [if_neg (fun z => q ⟨z.1, z.2.1⟩)]
      rw [g1, g2] at hk
      exact hk S hC
    have lack : i_in s 4 ∧ i_in f 3 → ¬q_lack T (cn s) f i = 0 → ∀ S', CR (wFd T (q_lack T (cn s) f i)) S' → post (some (.int (-2147483648))) S' := by
      intro c l
      have g1 : q_get T s f i = -2147483648 := by unfold q_get; rw [if_neg (fun z => l z.2.2)]
      have g2 : u_get T s f i = wFd T (q_lack T (cn s) f i) := by unfold u_get; rw [if_pos ⟨c.1, c.2, l⟩]
      rw [g1, g2] at hk
      exact hk
    have nz := fnd_ne (Nat.le_trans (q_lack_le T (cn s) f i) (by omega : 3 ≤ 5))
    simp only [m20, false_implies, not_false_eq_true, true_implies, true_and, nz]
    have A : ∀ m : Nat, m < 4 → i_in s 4 ∧ i_in f 3 → q_lack T (cn s) f i = 0 → s = nI m → ∃ n j, n ≤ 48 ∧ S.1 (18 + m) 2 = nI n ∧ j < n ∧ i = nI j ∧ post (some (Value.int (S.1 (22 + m) j))) S := by
      intro m hm c l e
      obtain ⟨-, ecn⟩ := s_c hm e
      have I := CR_shI hC hm
      obtain ⟨b1, b2⟩ := CR_sheet hC hm
      have g1 : q_get T s f i = tit T m (cn i) := by unfold q_get; rw [if_pos ⟨c.1, c.2, l⟩, ecn]
      have g2 : u_get T s f i = T := by unfold u_get; rw [if_neg (fun z => z.2.2 l)]
      rw [g1, g2] at hk
      rw [ecn] at l
      unfold q_lack at l
      split at l
      · omega
      · rename_i t1
        have ht : (tsh T m).1 = true := by cases h : (tsh T m).1 <;> simp_all
        split at l
        · omega
        · split at l
          · rename_i t3
            obtain ⟨ei, hi⟩ := i_inI t3 (by omega)
            obtain ⟨b1a, b1b, b1c⟩ := b1 ht
            refine ⟨(tsh T m).2.2, cn i, I.2, b1b, hi, ei, ?_⟩
            rw [b1c (cn i) hi]
            exact hk S hC
          · omega
    refine ⟨hC, fun c => ⟨fun _ => bad c, fun _ => bad c, fun _ => bad c, fun _ => bad c, fun _ => bad c⟩, fun c l => ⟨A 0 (by omega) c l, A 1 (by omega) c l, A 2 (by omega) c l, A 3 (by omega) c l, fun q => absurd c.1 q⟩, fun c l S' h => ⟨fun _ => lack c l S' h, fun _ => lack c l S' h, fun _ => lack c l S' h, fun _ => lack c l S' h, fun _ => lack c l S' h⟩⟩
  · exact h.elim
theorem ok_X7_get (T : ZT) {tl : List ZE} : z_Ok (z_shC tl) yX7_get cX7_get 6 (some .int) ({ frames := 3, cells := 0, slots := 0, locals := 67 } : Room) 0 (wp_X7_get T) := z_Ok_of (pu_X7_get T) z_fX7_ok z_kX7_ok (co_X7_get T) ⟨by decide, by decide⟩ (by decide +kernel)
theorem rec_X7_get (T : ZT) {tl : List ZE} : z_rec (z_shC tl) (wp_X7_get T) 6 := by
  intro as S post h
  unfold wp_X7_get at h
  split at h
  · exact ⟨_, _, _, rfl, rfl⟩
  · exact h.elim
def wp_X7_actAtE : ZW := fun as S k => ∃ T, wp_X7_actAt T as S k
theorem wr_X7_actAtE {a b c : Int32} {S : ZS} {k : Option Value → ZS → Prop} : wp_X7_actAtE [.ref 0, .int a, .int b, .int c] S k = (∃ T, ∃ j s p : Nat, CR T S ∧ a = nI j ∧ b = nI s ∧ c = nI p ∧ j < tM T ∧ s < 512 ∧ p < 2147483648 ∧ k (some (.int (nI (tA T j s p)))) S) := rfl
theorem ok_X7_actAtE {tl : List ZE} : z_Ok (z_shC tl) yX7_actAt cX7_actAt 5 (some .int) ({ frames := 4, cells := 0, slots := 0, locals := 89 } : Room) 0 wp_X7_actAtE := fun l as S post ⟨T, h⟩ => ok_X7_actAt T l as S post h
theorem rec_X7_actAtE {tl : List ZE} : z_rec (z_shC tl) wp_X7_actAtE 6 := fun as S post ⟨T, h⟩ => rec_X7_actAt T as S post h
theorem wSh_2 {T : ZT} {s : Nat} {h h' : Bool × Nat × Nat} {f f' : Nat → Int32} : wSh (wSh T s h f) s h' f' = wSh T s h' f' := by
  have e : ∀ {α : Type} (g : Nat → α) (a b : α), va_up (va_up g s a) s b = va_up g s b := by
    intro α g a b
    funext i
    by_cases hi : i = s
    · subst hi; rw [va_up_self, va_up_self]
    · rw [va_up_ne _ _ hi, va_up_ne _ _ hi, va_up_ne _ _ hi]
  simp only [wSh, tsh, tit, e]
theorem na_A (T : ZT) (f j s p : Nat) : ab_narrow f (nI (tA T j s p)) = nI (tA T j s p) := by
  unfold tA
  split <;> (unfold ab_narrow; split <;> decide)
def wp_X7_write (T : ZT) : ZW := fun as S k => match as with
  | [.ref 0, .int a, .int s] => CR T S ∧ ∀ S', CR (u_write T a s) S' → k (some (.int (q_write T a s))) S'
  | _ => False
theorem wr_X7_write {T : ZT} {a : Int32} {s : Int32} {S : ZS} {k : Option Value → ZS → Prop} : (wp_X7_write T) [.ref 0, .int a, .int s] S k = (CR T S ∧ ∀ S', CR (u_write T a s) S' → k (some (.int (q_write T a s))) S') := rfl
def cs_X7_write (T : ZT) : List (Nat × ZC) := [(111, (2, 0, false, wp_X7_sheetOf)), (99, (2, 0, false, (wp_X7_isKing T))), (115, (1, 0, false, wp_X6_isLost)), (119, (2, 0, false, (wp_X7_found T))), (144, (1, 0, false, (wp_X7_left T))), (122, (1, 0, false, wp_X6_size)), (156, (4, 0, false, wp_X7_actAtE)), (220, (3, 0, false, wp_X6_change))]
theorem cr_X7_write_111 {T : ZT} : (cs_X7_write T).lookup 111 = some (2, 0, false, wp_X7_sheetOf) := rfl
theorem cr_X7_write_99 {T : ZT} : (cs_X7_write T).lookup 99 = some (2, 0, false, (wp_X7_isKing T)) := rfl
theorem cr_X7_write_115 {T : ZT} : (cs_X7_write T).lookup 115 = some (1, 0, false, wp_X6_isLost) := rfl
theorem cr_X7_write_119 {T : ZT} : (cs_X7_write T).lookup 119 = some (2, 0, false, (wp_X7_found T)) := rfl
theorem cr_X7_write_144 {T : ZT} : (cs_X7_write T).lookup 144 = some (1, 0, false, (wp_X7_left T)) := rfl
theorem cr_X7_write_122 {T : ZT} : (cs_X7_write T).lookup 122 = some (1, 0, false, wp_X6_size) := rfl
theorem cr_X7_write_156 {T : ZT} : (cs_X7_write T).lookup 156 = some (4, 0, false, wp_X7_actAtE) := rfl
theorem cr_X7_write_220 {T : ZT} : (cs_X7_write T).lookup 220 = some (3, 0, false, wp_X6_change) := rfl
set_option maxRecDepth 20000 in
theorem co_X7_write (T : ZT) {tl : List ZE} : z_csok RX7 ({ frames := 5, cells := 0, slots := 0, locals := 113 } : Room) (z_shC tl) (cs_X7_write T) := z_cs2 (z_csV ok_X7_sheetOf rec_X7_sheetOf rfl (z_g 356 (by decide +kernel) rfl) (z_g 358 (by decide +kernel) rfl) (z_g 2 (by decide +kernel) rfl) (z_g 359 (by decide +kernel) rfl) (z_g 44 (by decide +kernel) rfl) rfl rfl (by decide +kernel) ⟨by decide, by decide⟩)
  (z_cs2 (z_csV (ok_X7_isKing T) (rec_X7_isKing T) rfl (z_g 313 (by decide +kernel) rfl) (z_g 315 (by decide +kernel) rfl) (z_g 1 (by decide +kernel) rfl) (z_g 316 (by decide +kernel) rfl) (z_g 44 (by decide +kernel) rfl) rfl rfl (by decide +kernel) ⟨by decide, by decide⟩)
  (z_cs2 (z_csV ok_X6_isLost rec_X6_isLost rfl (z_g 360 (by decide +kernel) rfl) (z_g 361 (by decide +kernel) rfl) (z_g 362 (by decide +kernel) rfl) (z_g 363 (by decide +kernel) rfl) (z_g 50 (by decide +kernel) rfl) rfl rfl (by decide +kernel) ⟨by decide, by decide⟩)
  (z_cs2 (z_csV (ok_X7_found T) (rec_X7_found T) rfl (z_g 364 (by decide +kernel) rfl) (z_g 366 (by decide +kernel) rfl) (z_g 3 (by decide +kernel) rfl) (z_g 367 (by decide +kernel) rfl) (z_g 44 (by decide +kernel) rfl) rfl rfl (by decide +kernel) ⟨by decide, by decide⟩)
  (z_cs2 (z_csV (ok_X7_left T) (rec_X7_left T) rfl (z_g 419 (by decide +kernel) rfl) (z_g 382 (by decide +kernel) rfl) (z_g 383 (by decide +kernel) rfl) (z_g 384 (by decide +kernel) rfl) (z_g 44 (by decide +kernel) rfl) rfl rfl (by decide +kernel) ⟨by decide, by decide⟩)
  (z_cs2 (z_csV ok_X6_size rec_X6_size rfl (z_g 368 (by decide +kernel) rfl) (z_g 369 (by decide +kernel) rfl) (z_g 370 (by decide +kernel) rfl) (z_g 371 (by decide +kernel) rfl) (z_g 50 (by decide +kernel) rfl) rfl rfl (by decide +kernel) ⟨by decide, by decide⟩)
  (z_cs2 (z_csV ok_X7_actAtE rec_X7_actAtE rfl (z_g 439 (by decide +kernel) rfl) (z_g 441 (by decide +kernel) rfl) (z_g 5 (by decide +kernel) rfl) (z_g 442 (by decide +kernel) rfl) (z_g 44 (by decide +kernel) rfl) rfl rfl (by decide +kernel) ⟨by decide, by decide⟩)
  (z_cs2 (z_csV ok_X6_change rec_X6_change rfl (z_g 595 (by decide +kernel) rfl) (z_g 596 (by decide +kernel) rfl) (z_g 597 (by decide +kernel) rfl) (z_g 598 (by decide +kernel) rfl) (z_g 50 (by decide +kernel) rfl) rfl rfl (by decide +kernel) ⟨by decide, by decide⟩)
  (z_cs0))))))))
set_option maxHeartbeats 4000000 in
set_option maxRecDepth 20000 in
theorem pu_X7_write (T : ZT) {tl : List ZE} : z_Pure cX7_write 6 (z_shC tl) z_fX7 (cs_X7_write T) z_kcX7 z_klX7 (some .int) 0 (wp_X7_write T) := by
  intro as S post h
  unfold wp_X7_write at h
  split at h
  · rename_i a s
    refine ⟨Nat.le_of_ble_eq_true rfl, fun K hK => ?_⟩
    change K 0 0 [some (.ref 0), some (.int a), some (.int s), none, none, none] [] S
    obtain ⟨hC, hk⟩ := h
    have hLt := tL_lt hC
    have bad : ¬ (i_in a (tM T) ∧ i_in s 4) → post (some (.int (-2))) S := by
      intro q
      have g1 : q_write T a s = -2 := by unfold q_write; rw [if_neg q]
      have g2 : u_write T a s = T := by unfold u_write; rw [if_neg q]
      rw [g1, g2] at hk
      exact hk S hC
    have key0 : ∀ (m i : Nat) (S' : ZS), i + m = (tsh T 0).2.2 → (tsh T 0).1 = true → i_in a (tM T) → s = nI 0 → CR (wSh T 0 (tsh T 0) (fun p => if p < i then nI (tA T (cn a) (tL T) p) else tit T 0 p)) S' → K 0 43 [some (.ref 0), some (.int a), some (.int s), some (.ref 18), some (.int (nI (tL T))), some (.int (nI i))] [] S' := by
      intro m
      induction m with
      | zero =>
        intro i S' hi ht ha e hC'
        obtain ⟨c, ecn⟩ := s_c (by omega) e
        have I := CR_shI hC (show 0 < 4 by omega)
        obtain ⟨b1, b2⟩ := CR_sheet hC' (show 0 < 4 by omega)
        simp only [tsh, tit, va_up_self] at b1 b2
        have b3 : S'.1 18 2 = nI (tsh T 0).2.2 := (b1 ht).2.1
        have g1 : q_write T a s = nI (tsh T 0).2.2 := by unfold q_write; rw [if_pos ⟨ha, c⟩, ecn, if_pos ht]
        have g2 : u_write T a s = wSh T 0 (tsh T 0) (fun p => if p < (tsh T 0).2.2 then nI (tA T (cn a) (tL T) p) else tit T 0 p) := by unfold u_write; rw [if_pos ⟨ha, c⟩, ecn, if_pos ht]
        obtain rfl : i = (tsh T 0).2.2 := by omega
        refine hK (z_in [43]) 100 _ _ _ _ _ (Nat.zero_le _) ?_
        simp (config := { maxSteps := 10000000 }) only [z40, z20, z10, z01, zm0, z0m, ze_s, ze_ok, zt_s, zt_t, zt_f, zl_I, zl_J, zl_R, zl_N, zl_C, zl_K, zl_M, zl_ar0, zl_ar1, zl_ar2, zl_ar3, zl_as0, zl_as1, zl_as2, zl_al, zl_gf, zl_gr, zl_pf, zl_iv, zl_ivn, zlk_n, zlk_c, ztb_n, ztb_c, zin_n, zin_1, zin_c, Int.reduceLT, decide_true, decide_false, Bool.true_and, Bool.and_true, List.length_cons, List.length_nil, Int.reduceSub, Int.reduceEq, Int.natCast_zero, zk_s, z_in_n, z_in_c, z_gt_0, z_gt_s, zst_0, zst_1, zst_s, zsl_0, zsl_1, zsl_s, zc_n, zc_i, zc_l, zc_r, zc_u, zca_n, zca_i, zca_l, zca_r, zca_u, zrt_i, zrt_z, zrt_o, z_cal_0, z_cal_s, true_and, and_true, List.nil_append, List.cons_append, Option.toList_some, Option.toList_none, Nat.reduceAdd, Nat.reduceBEq, Nat.reduceLT, Nat.reduceLeDiff, Nat.reduceSub, Int.reduceAdd, Int.reduceLE, Int.reduceToNat, Int.cast_ofNat_Int, Bool.or_true, Bool.true_or, Bool.or_false, Bool.false_or, Nat.le_refl, Nat.zero_le, or_true, true_or, or_false, false_or, not_true_eq_false, not_false_eq_true, not_false_iff, false_implies, true_implies, eq_self, zo_iconst, zo_bipush, zo_sipush, zo_lconst, zo_ldc, zo_ldc_w, zo_ldc2_w, zo_iload_n, zo_iload, zo_lload_n, zo_lload, zo_aload_n, zo_aload, zo_istore_n, zo_istore, zo_lstore_n, zo_lstore, zo_astore_n, zo_astore, zo_iinc, zo_iadd, zo_isub, zo_imul, zo_iand, zo_ior, zo_ixor, zo_ishl, zo_ishr, zo_iushr, zo_idiv, zo_irem, zo_ladd, zo_lsub, zo_lmul, zo_ldiv, zo_lrem, zo_lcmp, zo_i2l, zo_i2b, zo_i2s, zo_dup, zo_dup2, zo_aconst_null, zo_if_icmp, zo_ifCond, zo_goto, zo_ifnull, zo_ifnonnull, zo_iaload, zo_baload, zo_laload, zo_aaload, zo_iastore, zo_bastore, zo_lastore, zo_arraylength, zo_getfield, zo_putfield, zo_tableswitch, zo_lookupswitch, zo_ireturn, zo_lreturn, zo_areturn, zo_return, zo_invokestatic, zo_invokevirtual, zo_new, zo_invokespecial, zo_newarray, zo_anewarray, zo_aastore, zy_0_1, zy_0_2, zy_0_3, zy_1_1, zy_1_2, zy_2_1, zy_2_2, zy_2_3, zy_3_0, zy_4_3, zy_5_1, zy_5_2, zy_6_5, zy_6_6, zy_6_7, zy_6_8, zy_6_9, zy_6_10, zy_7_2, zy_7_6, zy_7_9, zy_7_10, zy_7_11, zy_7_12, zy_7_14, zy_7_21, zy_7_30, zq_iconst, zq_bipush, zq_sipush, zq_lconst0, zq_lconst1, zq_ldc, zq_ldc_w, zq_ldc2_w, zq_iload0, zq_iload1, zq_iload2, zq_iload3, zq_iload, zq_lload0, zq_lload1, zq_lload2, zq_lload3, zq_lload, zq_aload0, zq_aload1, zq_aload2, zq_aload3, zq_aload, zq_istore0, zq_istore1, zq_istore2, zq_istore3, zq_istore, zq_lstore0, zq_lstore1, zq_lstore2, zq_lstore3, zq_lstore, zq_astore0, zq_astore0N, zq_astore1, zq_astore1N, zq_astore2, zq_astore2N, zq_astore3, zq_astore3N, zq_astore, zq_astoreN, zq_iinc, zq_iadd, zq_isub, zq_imul, zq_iand, zq_ior, zq_ixor, zq_ishl, zq_ishr, zq_iushr, zq_idiv, zq_irem, zq_ladd, zq_lsub, zq_lmul, zq_ldiv, zq_lrem, zq_lcmp, zq_i2l, zq_i2b, zq_i2s, zq_dup_i, zq_dup_r, zq_dup2, zq_null, zq_icmp_eq, zq_if_eq, zq_icmp_ne, zq_if_ne, zq_icmp_lt, zq_if_lt, zq_icmp_ge, zq_if_ge, zq_icmp_gt, zq_if_gt, zq_icmp_le, zq_if_le, zq_goto, zq_ifnull_r, zq_ifnull_n, zq_ifnonnull_r, zq_ifnonnull_n, zq_iaload, zq_baload, zq_laload, zq_aaload, zq_iastore, zq_bastore, zq_lastore, zq_alen, zq_getf, zq_put, zq_tsw, zq_lsw, zq_ireturn, zq_lreturn, zq_areturn, zq_areturnN, zq_return, zq_invokestatic, zq_invokevirtual, zq_new, zq_invokespecial, zq_newarray, zq_anewarray, zq_aastore, zi_m1, zi_0, zi_1, zi_2, zi_3, zi_4, zi_5, zi_6, zi_8, zi_16, zb_m10, zb_m4, zb_m3, zb_m2, zb_6, zb_7, zb_8, zb_9, zb_10, zb_16, zb_20, zb_23, zb_30, zb_32, zb_35, zb_46, zb_48, zb_56, zb_57, zb_59, zb_63, zb_70, zb_98, zb_99, zb_100, zb_111, zb_112, zs_192, zs_255, zs_256, zs_511, zs_512, zs_12345, zf_X7_10_0, zf_X7_19_0, zf_X7_26_0, zf_X7_33_0, zf_X7_39_0, zf_X7_43_0, zf_X7_47_0, zf_X7_50_0, zf_X7_53_0, zf_X7_56_0, zf_X7_59_0, zkc_X7_223, zkl_X7_313, zkl_X7_240, zkl_X7_305, za_C_2, za_C_3, za_C_4, za_C_5, za_C_6, za_C_8, za_C_9, za_C_10, za_C_12, za_C_14, za_C_15, za_C_16, za_C_17, za_C_22, za_C_23, za_C_24, za_C_25, dX7_write_0, dX7_write_1, dX7_write_2, dX7_write_5, dX7_write_6, dX7_write_7, dX7_write_8, dX7_write_11, dX7_write_14, dX7_write_15, dX7_write_18, dX7_write_20, dX7_write_21, dX7_write_22, dX7_write_25, dX7_write_28, dX7_write_29, dX7_write_30, dX7_write_33, dX7_write_34, dX7_write_35, dX7_write_38, dX7_write_40, dX7_write_41, dX7_write_43, dX7_write_45, dX7_write_46, dX7_write_49, dX7_write_52, dX7_write_53, dX7_write_55, dX7_write_56, dX7_write_57, dX7_write_59, dX7_write_61, dX7_write_64, dX7_write_67, dX7_write_70, dX7_write_73, dX7_write_74, dX7_write_77, cr_X7_write_111, cr_X7_write_99, cr_X7_write_115, cr_X7_write_119, cr_X7_write_144, cr_X7_write_122, cr_X7_write_156, cr_X7_write_220, wr_X7_sheetOf, wr_X7_isKing, wr_X6_isLost, wr_X6_isLost_1, wr_X6_isLost_2, wr_X6_isLost_3, wr_X7_found, wr_X7_left, wr_X6_size, wr_X6_size_1, wr_X6_size_2, wr_X6_size_3, wr_X7_actAtE, wr_X6_change, wr_X6_change_1, wr_X6_change_2, wr_X6_change_3]
        rw [b3]
        rw [g1, g2] at hk
        refine ⟨fun _ => hk S' hC', fun c => absurd (by rw [n_le (by omega) (by omega)]; exact Nat.le_refl _) c⟩
      | succ m ih =>
        intro i S' hi ht ha e hC'
        have I := CR_shI hC (show 0 < 4 by omega)
        obtain ⟨b1, b2⟩ := CR_sheet hC' (show 0 < 4 by omega)
        simp only [tsh, tit, va_up_self] at b1 b2
        obtain ⟨b1a, b1b, b1c⟩ := b1 ht
        have b3 : S'.1 18 2 = nI (tsh T 0).2.2 := b1b
        have b4 : S'.1 18 1 = nI (tsh T 0).2.1 := b1a
        obtain ⟨ea, ha2⟩ := i_inI ha (by have := CR_M hC; omega)
        refine hK (z_in [43]) 100 _ _ _ _ _ (Nat.zero_le _) ?_
        simp (config := { maxSteps := 10000000 }) only [z40, z20, z10, z01, zm0, z0m, ze_s, ze_ok, zt_s, zt_t, zt_f, zl_I, zl_J, zl_R, zl_N, zl_C, zl_K, zl_M, zl_ar0, zl_ar1, zl_ar2, zl_ar3, zl_as0, zl_as1, zl_as2, zl_al, zl_gf, zl_gr, zl_pf, zl_iv, zl_ivn, zlk_n, zlk_c, ztb_n, ztb_c, zin_n, zin_1, zin_c, Int.reduceLT, decide_true, decide_false, Bool.true_and, Bool.and_true, List.length_cons, List.length_nil, Int.reduceSub, Int.reduceEq, Int.natCast_zero, zk_s, z_in_n, z_in_c, z_gt_0, z_gt_s, zst_0, zst_1, zst_s, zsl_0, zsl_1, zsl_s, zc_n, zc_i, zc_l, zc_r, zc_u, zca_n, zca_i, zca_l, zca_r, zca_u, zrt_i, zrt_z, zrt_o, z_cal_0, z_cal_s, true_and, and_true, List.nil_append, List.cons_append, Option.toList_some, Option.toList_none, Nat.reduceAdd, Nat.reduceBEq, Nat.reduceLT, Nat.reduceLeDiff, Nat.reduceSub, Int.reduceAdd, Int.reduceLE, Int.reduceToNat, Int.cast_ofNat_Int, Bool.or_true, Bool.true_or, Bool.or_false, Bool.false_or, Nat.le_refl, Nat.zero_le, or_true, true_or, or_false, false_or, not_true_eq_false, not_false_eq_true, not_false_iff, false_implies, true_implies, eq_self, zo_iconst, zo_bipush, zo_sipush, zo_lconst, zo_ldc, zo_ldc_w, zo_ldc2_w, zo_iload_n, zo_iload, zo_lload_n, zo_lload, zo_aload_n, zo_aload, zo_istore_n, zo_istore, zo_lstore_n, zo_lstore, zo_astore_n, zo_astore, zo_iinc, zo_iadd, zo_isub, zo_imul, zo_iand, zo_ior, zo_ixor, zo_ishl, zo_ishr, zo_iushr, zo_idiv, zo_irem, zo_ladd, zo_lsub, zo_lmul, zo_ldiv, zo_lrem, zo_lcmp, zo_i2l, zo_i2b, zo_i2s, zo_dup, zo_dup2, zo_aconst_null, zo_if_icmp, zo_ifCond, zo_goto, zo_ifnull, zo_ifnonnull, zo_iaload, zo_baload, zo_laload, zo_aaload, zo_iastore, zo_bastore, zo_lastore, zo_arraylength, zo_getfield, zo_putfield, zo_tableswitch, zo_lookupswitch, zo_ireturn, zo_lreturn, zo_areturn, zo_return, zo_invokestatic, zo_invokevirtual, zo_new, zo_invokespecial, zo_newarray, zo_anewarray, zo_aastore, zy_0_1, zy_0_2, zy_0_3, zy_1_1, zy_1_2, zy_2_1, zy_2_2, zy_2_3, zy_3_0, zy_4_3, zy_5_1, zy_5_2, zy_6_5, zy_6_6, zy_6_7, zy_6_8, zy_6_9, zy_6_10, zy_7_2, zy_7_6, zy_7_9, zy_7_10, zy_7_11, zy_7_12, zy_7_14, zy_7_21, zy_7_30, zq_iconst, zq_bipush, zq_sipush, zq_lconst0, zq_lconst1, zq_ldc, zq_ldc_w, zq_ldc2_w, zq_iload0, zq_iload1, zq_iload2, zq_iload3, zq_iload, zq_lload0, zq_lload1, zq_lload2, zq_lload3, zq_lload, zq_aload0, zq_aload1, zq_aload2, zq_aload3, zq_aload, zq_istore0, zq_istore1, zq_istore2, zq_istore3, zq_istore, zq_lstore0, zq_lstore1, zq_lstore2, zq_lstore3, zq_lstore, zq_astore0, zq_astore0N, zq_astore1, zq_astore1N, zq_astore2, zq_astore2N, zq_astore3, zq_astore3N, zq_astore, zq_astoreN, zq_iinc, zq_iadd, zq_isub, zq_imul, zq_iand, zq_ior, zq_ixor, zq_ishl, zq_ishr, zq_iushr, zq_idiv, zq_irem, zq_ladd, zq_lsub, zq_lmul, zq_ldiv, zq_lrem, zq_lcmp, zq_i2l, zq_i2b, zq_i2s, zq_dup_i, zq_dup_r, zq_dup2, zq_null, zq_icmp_eq, zq_if_eq, zq_icmp_ne, zq_if_ne, zq_icmp_lt, zq_if_lt, zq_icmp_ge, zq_if_ge, zq_icmp_gt, zq_if_gt, zq_icmp_le, zq_if_le, zq_goto, zq_ifnull_r, zq_ifnull_n, zq_ifnonnull_r, zq_ifnonnull_n, zq_iaload, zq_baload, zq_laload, zq_aaload, zq_iastore, zq_bastore, zq_lastore, zq_alen, zq_getf, zq_put, zq_tsw, zq_lsw, zq_ireturn, zq_lreturn, zq_areturn, zq_areturnN, zq_return, zq_invokestatic, zq_invokevirtual, zq_new, zq_invokespecial, zq_newarray, zq_anewarray, zq_aastore, zi_m1, zi_0, zi_1, zi_2, zi_3, zi_4, zi_5, zi_6, zi_8, zi_16, zb_m10, zb_m4, zb_m3, zb_m2, zb_6, zb_7, zb_8, zb_9, zb_10, zb_16, zb_20, zb_23, zb_30, zb_32, zb_35, zb_46, zb_48, zb_56, zb_57, zb_59, zb_63, zb_70, zb_98, zb_99, zb_100, zb_111, zb_112, zs_192, zs_255, zs_256, zs_511, zs_512, zs_12345, zf_X7_10_0, zf_X7_19_0, zf_X7_26_0, zf_X7_33_0, zf_X7_39_0, zf_X7_43_0, zf_X7_47_0, zf_X7_50_0, zf_X7_53_0, zf_X7_56_0, zf_X7_59_0, zkc_X7_223, zkl_X7_313, zkl_X7_240, zkl_X7_305, za_C_2, za_C_3, za_C_4, za_C_5, za_C_6, za_C_8, za_C_9, za_C_10, za_C_12, za_C_14, za_C_15, za_C_16, za_C_17, za_C_22, za_C_23, za_C_24, za_C_25, dX7_write_0, dX7_write_1, dX7_write_2, dX7_write_5, dX7_write_6, dX7_write_7, dX7_write_8, dX7_write_11, dX7_write_14, dX7_write_15, dX7_write_18, dX7_write_20, dX7_write_21, dX7_write_22, dX7_write_25, dX7_write_28, dX7_write_29, dX7_write_30, dX7_write_33, dX7_write_34, dX7_write_35, dX7_write_38, dX7_write_40, dX7_write_41, dX7_write_43, dX7_write_45, dX7_write_46, dX7_write_49, dX7_write_52, dX7_write_53, dX7_write_55, dX7_write_56, dX7_write_57, dX7_write_59, dX7_write_61, dX7_write_64, dX7_write_67, dX7_write_70, dX7_write_73, dX7_write_74, dX7_write_77, cr_X7_write_111, cr_X7_write_99, cr_X7_write_115, cr_X7_write_119, cr_X7_write_144, cr_X7_write_122, cr_X7_write_156, cr_X7_write_220, wr_X7_sheetOf, wr_X7_isKing, wr_X6_isLost, wr_X6_isLost_1, wr_X6_isLost_2, wr_X6_isLost_3, wr_X7_found, wr_X7_left, wr_X6_size, wr_X6_size_1, wr_X6_size_2, wr_X6_size_3, wr_X7_actAtE, wr_X6_change, wr_X6_change_1, wr_X6_change_2, wr_X6_change_3]
        rw [b3, n_le (by omega) (by omega), nI_1]
        refine ⟨fun c => absurd c (by omega), fun _ => ⟨_, cn a, tL T, i, hC', ea, rfl, rfl, ha2, hLt, by omega, (tsh T 0).2.2, i, (tsh T 0).2.1, I.2, rfl, by omega, rfl, I.1, b4, ?_⟩⟩
        refine ih (i + 1) _ (by omega) ht ha e ?_
        have nx := CR_sh (S' := (z_u S'.1 22 i (ab_narrow (tsh T 0).2.1 (nI (tA T (cn a) (tL T) i))), S'.2)) (hd := tsh T 0) (f := fun p => if p < i + 1 then nI (tA T (cn a) (tL T) p) else tit T 0 p) hC' (show 0 < 4 by omega) I ?_ (fun a ha => by dsimp only; rw [z_u_o (by omega)])
        · rw [wSh_2] at nx; exact nx
        · unfold c_sheet
          simp only [tsh, tit, va_up_self]
          refine ⟨fun _ => ⟨?_, ?_, fun j hj => ?_⟩, fun q => absurd q (by rw [ht]; decide)⟩
          · rw [z_u_o (by omega)]; exact b1a
          · rw [z_u_o (by omega)]; exact b1b
          · simp only [z_rd, Nat.reduceAdd, true_and]
            by_cases ej : j = i
            · subst ej; rw [if_pos rfl, if_pos (by omega), na_A]
            · rw [if_neg ej]
              have := b1c j hj
              by_cases hl : j < i
              · rw [if_pos hl] at this; rw [if_pos (by omega)]; exact this
              · rw [if_neg hl] at this; rw [if_neg (by omega)]; exact this
    have key1 : ∀ (m i : Nat) (S' : ZS), i + m = (tsh T 1).2.2 → (tsh T 1).1 = true → i_in a (tM T) → s = nI 1 → CR (wSh T 1 (tsh T 1) (fun p => if p < i then nI (tA T (cn a) (tL T) p) else tit T 1 p)) S' → K 0 43 [some (.ref 0), some (.int a), some (.int s), some (.ref 19), some (.int (nI (tL T))), some (.int (nI i))] [] S' := by
      intro m
      induction m with
      | zero =>
        intro i S' hi ht ha e hC'
        obtain ⟨c, ecn⟩ := s_c (by omega) e
        have I := CR_shI hC (show 1 < 4 by omega)
        obtain ⟨b1, b2⟩ := CR_sheet hC' (show 1 < 4 by omega)
        simp only [tsh, tit, va_up_self] at b1 b2
        have b3 : S'.1 19 2 = nI (tsh T 1).2.2 := (b1 ht).2.1
        have g1 : q_write T a s = nI (tsh T 1).2.2 := by unfold q_write; rw [if_pos ⟨ha, c⟩, ecn, if_pos ht]
        have g2 : u_write T a s = wSh T 1 (tsh T 1) (fun p => if p < (tsh T 1).2.2 then nI (tA T (cn a) (tL T) p) else tit T 1 p) := by unfold u_write; rw [if_pos ⟨ha, c⟩, ecn, if_pos ht]
        obtain rfl : i = (tsh T 1).2.2 := by omega
        refine hK (z_in [43]) 100 _ _ _ _ _ (Nat.zero_le _) ?_
        simp (config := { maxSteps := 10000000 }) only [z40, z20, z10, z01, zm0, z0m, ze_s, ze_ok, zt_s, zt_t, zt_f, zl_I, zl_J, zl_R, zl_N, zl_C, zl_K, zl_M, zl_ar0, zl_ar1, zl_ar2, zl_ar3, zl_as0, zl_as1, zl_as2, zl_al, zl_gf, zl_gr, zl_pf, zl_iv, zl_ivn, zlk_n, zlk_c, ztb_n, ztb_c, zin_n, zin_1, zin_c, Int.reduceLT, decide_true, decide_false, Bool.true_and, Bool.and_true, List.length_cons, List.length_nil, Int.reduceSub, Int.reduceEq, Int.natCast_zero, zk_s, z_in_n, z_in_c, z_gt_0, z_gt_s, zst_0, zst_1, zst_s, zsl_0, zsl_1, zsl_s, zc_n, zc_i, zc_l, zc_r, zc_u, zca_n, zca_i, zca_l, zca_r, zca_u, zrt_i, zrt_z, zrt_o, z_cal_0, z_cal_s, true_and, and_true, List.nil_append, List.cons_append, Option.toList_some, Option.toList_none, Nat.reduceAdd, Nat.reduceBEq, Nat.reduceLT, Nat.reduceLeDiff, Nat.reduceSub, Int.reduceAdd, Int.reduceLE, Int.reduceToNat, Int.cast_ofNat_Int, Bool.or_true, Bool.true_or, Bool.or_false, Bool.false_or, Nat.le_refl, Nat.zero_le, or_true, true_or, or_false, false_or, not_true_eq_false, not_false_eq_true, not_false_iff, false_implies, true_implies, eq_self, zo_iconst, zo_bipush, zo_sipush, zo_lconst, zo_ldc, zo_ldc_w, zo_ldc2_w, zo_iload_n, zo_iload, zo_lload_n, zo_lload, zo_aload_n, zo_aload, zo_istore_n, zo_istore, zo_lstore_n, zo_lstore, zo_astore_n, zo_astore, zo_iinc, zo_iadd, zo_isub, zo_imul, zo_iand, zo_ior, zo_ixor, zo_ishl, zo_ishr, zo_iushr, zo_idiv, zo_irem, zo_ladd, zo_lsub, zo_lmul, zo_ldiv, zo_lrem, zo_lcmp, zo_i2l, zo_i2b, zo_i2s, zo_dup, zo_dup2, zo_aconst_null, zo_if_icmp, zo_ifCond, zo_goto, zo_ifnull, zo_ifnonnull, zo_iaload, zo_baload, zo_laload, zo_aaload, zo_iastore, zo_bastore, zo_lastore, zo_arraylength, zo_getfield, zo_putfield, zo_tableswitch, zo_lookupswitch, zo_ireturn, zo_lreturn, zo_areturn, zo_return, zo_invokestatic, zo_invokevirtual, zo_new, zo_invokespecial, zo_newarray, zo_anewarray, zo_aastore, zy_0_1, zy_0_2, zy_0_3, zy_1_1, zy_1_2, zy_2_1, zy_2_2, zy_2_3, zy_3_0, zy_4_3, zy_5_1, zy_5_2, zy_6_5, zy_6_6, zy_6_7, zy_6_8, zy_6_9, zy_6_10, zy_7_2, zy_7_6, zy_7_9, zy_7_10, zy_7_11, zy_7_12, zy_7_14, zy_7_21, zy_7_30, zq_iconst, zq_bipush, zq_sipush, zq_lconst0, zq_lconst1, zq_ldc, zq_ldc_w, zq_ldc2_w, zq_iload0, zq_iload1, zq_iload2, zq_iload3, zq_iload, zq_lload0, zq_lload1, zq_lload2, zq_lload3, zq_lload, zq_aload0, zq_aload1, zq_aload2, zq_aload3, zq_aload, zq_istore0, zq_istore1, zq_istore2, zq_istore3, zq_istore, zq_lstore0, zq_lstore1, zq_lstore2, zq_lstore3, zq_lstore, zq_astore0, zq_astore0N, zq_astore1, zq_astore1N, zq_astore2, zq_astore2N, zq_astore3, zq_astore3N, zq_astore, zq_astoreN, zq_iinc, zq_iadd, zq_isub, zq_imul, zq_iand, zq_ior, zq_ixor, zq_ishl, zq_ishr, zq_iushr, zq_idiv, zq_irem, zq_ladd, zq_lsub, zq_lmul, zq_ldiv, zq_lrem, zq_lcmp, zq_i2l, zq_i2b, zq_i2s, zq_dup_i, zq_dup_r, zq_dup2, zq_null, zq_icmp_eq, zq_if_eq, zq_icmp_ne, zq_if_ne, zq_icmp_lt, zq_if_lt, zq_icmp_ge, zq_if_ge, zq_icmp_gt, zq_if_gt, zq_icmp_le, zq_if_le, zq_goto, zq_ifnull_r, zq_ifnull_n, zq_ifnonnull_r, zq_ifnonnull_n, zq_iaload, zq_baload, zq_laload, zq_aaload, zq_iastore, zq_bastore, zq_lastore, zq_alen, zq_getf, zq_put, zq_tsw, zq_lsw, zq_ireturn, zq_lreturn, zq_areturn, zq_areturnN, zq_return, zq_invokestatic, zq_invokevirtual, zq_new, zq_invokespecial, zq_newarray, zq_anewarray, zq_aastore, zi_m1, zi_0, zi_1, zi_2, zi_3, zi_4, zi_5, zi_6, zi_8, zi_16, zb_m10, zb_m4, zb_m3, zb_m2, zb_6, zb_7, zb_8, zb_9, zb_10, zb_16, zb_20, zb_23, zb_30, zb_32, zb_35, zb_46, zb_48, zb_56, zb_57, zb_59, zb_63, zb_70, zb_98, zb_99, zb_100, zb_111, zb_112, zs_192, zs_255, zs_256, zs_511, zs_512, zs_12345, zf_X7_10_0, zf_X7_19_0, zf_X7_26_0, zf_X7_33_0, zf_X7_39_0, zf_X7_43_0, zf_X7_47_0, zf_X7_50_0, zf_X7_53_0, zf_X7_56_0, zf_X7_59_0, zkc_X7_223, zkl_X7_313, zkl_X7_240, zkl_X7_305, za_C_2, za_C_3, za_C_4, za_C_5, za_C_6, za_C_8, za_C_9, za_C_10, za_C_12, za_C_14, za_C_15, za_C_16, za_C_17, za_C_22, za_C_23, za_C_24, za_C_25, dX7_write_0, dX7_write_1, dX7_write_2, dX7_write_5, dX7_write_6, dX7_write_7, dX7_write_8, dX7_write_11, dX7_write_14, dX7_write_15, dX7_write_18, dX7_write_20, dX7_write_21, dX7_write_22, dX7_write_25, dX7_write_28, dX7_write_29, dX7_write_30, dX7_write_33, dX7_write_34, dX7_write_35, dX7_write_38, dX7_write_40, dX7_write_41, dX7_write_43, dX7_write_45, dX7_write_46, dX7_write_49, dX7_write_52, dX7_write_53, dX7_write_55, dX7_write_56, dX7_write_57, dX7_write_59, dX7_write_61, dX7_write_64, dX7_write_67, dX7_write_70, dX7_write_73, dX7_write_74, dX7_write_77, cr_X7_write_111, cr_X7_write_99, cr_X7_write_115, cr_X7_write_119, cr_X7_write_144, cr_X7_write_122, cr_X7_write_156, cr_X7_write_220, wr_X7_sheetOf, wr_X7_isKing, wr_X6_isLost, wr_X6_isLost_1, wr_X6_isLost_2, wr_X6_isLost_3, wr_X7_found, wr_X7_left, wr_X6_size, wr_X6_size_1, wr_X6_size_2, wr_X6_size_3, wr_X7_actAtE, wr_X6_change, wr_X6_change_1, wr_X6_change_2, wr_X6_change_3]
        rw [b3]
        rw [g1, g2] at hk
        refine ⟨fun _ => hk S' hC', fun c => absurd (by rw [n_le (by omega) (by omega)]; exact Nat.le_refl _) c⟩
      | succ m ih =>
        intro i S' hi ht ha e hC'
        have I := CR_shI hC (show 1 < 4 by omega)
        obtain ⟨b1, b2⟩ := CR_sheet hC' (show 1 < 4 by omega)
        simp only [tsh, tit, va_up_self] at b1 b2
        obtain ⟨b1a, b1b, b1c⟩ := b1 ht
        have b3 : S'.1 19 2 = nI (tsh T 1).2.2 := b1b
        have b4 : S'.1 19 1 = nI (tsh T 1).2.1 := b1a
        obtain ⟨ea, ha2⟩ := i_inI ha (by have := CR_M hC; omega)
        refine hK (z_in [43]) 100 _ _ _ _ _ (Nat.zero_le _) ?_
        simp (config := { maxSteps := 10000000 }) only [z40, z20, z10, z01, zm0, z0m, ze_s, ze_ok, zt_s, zt_t, zt_f, zl_I, zl_J, zl_R, zl_N, zl_C, zl_K, zl_M, zl_ar0, zl_ar1, zl_ar2, zl_ar3, zl_as0, zl_as1, zl_as2, zl_al, zl_gf, zl_gr, zl_pf, zl_iv, zl_ivn, zlk_n, zlk_c, ztb_n, ztb_c, zin_n, zin_1, zin_c, Int.reduceLT, decide_true, decide_false, Bool.true_and, Bool.and_true, List.length_cons, List.length_nil, Int.reduceSub, Int.reduceEq, Int.natCast_zero, zk_s, z_in_n, z_in_c, z_gt_0, z_gt_s, zst_0, zst_1, zst_s, zsl_0, zsl_1, zsl_s, zc_n, zc_i, zc_l, zc_r, zc_u, zca_n, zca_i, zca_l, zca_r, zca_u, zrt_i, zrt_z, zrt_o, z_cal_0, z_cal_s, true_and, and_true, List.nil_append, List.cons_append, Option.toList_some, Option.toList_none, Nat.reduceAdd, Nat.reduceBEq, Nat.reduceLT, Nat.reduceLeDiff, Nat.reduceSub, Int.reduceAdd, Int.reduceLE, Int.reduceToNat, Int.cast_ofNat_Int, Bool.or_true, Bool.true_or, Bool.or_false, Bool.false_or, Nat.le_refl, Nat.zero_le, or_true, true_or, or_false, false_or, not_true_eq_false, not_false_eq_true, not_false_iff, false_implies, true_implies, eq_self, zo_iconst, zo_bipush, zo_sipush, zo_lconst, zo_ldc, zo_ldc_w, zo_ldc2_w, zo_iload_n, zo_iload, zo_lload_n, zo_lload, zo_aload_n, zo_aload, zo_istore_n, zo_istore, zo_lstore_n, zo_lstore, zo_astore_n, zo_astore, zo_iinc, zo_iadd, zo_isub, zo_imul, zo_iand, zo_ior, zo_ixor, zo_ishl, zo_ishr, zo_iushr, zo_idiv, zo_irem, zo_ladd, zo_lsub, zo_lmul, zo_ldiv, zo_lrem, zo_lcmp, zo_i2l, zo_i2b, zo_i2s, zo_dup, zo_dup2, zo_aconst_null, zo_if_icmp, zo_ifCond, zo_goto, zo_ifnull, zo_ifnonnull, zo_iaload, zo_baload, zo_laload, zo_aaload, zo_iastore, zo_bastore, zo_lastore, zo_arraylength, zo_getfield, zo_putfield, zo_tableswitch, zo_lookupswitch, zo_ireturn, zo_lreturn, zo_areturn, zo_return, zo_invokestatic, zo_invokevirtual, zo_new, zo_invokespecial, zo_newarray, zo_anewarray, zo_aastore, zy_0_1, zy_0_2, zy_0_3, zy_1_1, zy_1_2, zy_2_1, zy_2_2, zy_2_3, zy_3_0, zy_4_3, zy_5_1, zy_5_2, zy_6_5, zy_6_6, zy_6_7, zy_6_8, zy_6_9, zy_6_10, zy_7_2, zy_7_6, zy_7_9, zy_7_10, zy_7_11, zy_7_12, zy_7_14, zy_7_21, zy_7_30, zq_iconst, zq_bipush, zq_sipush, zq_lconst0, zq_lconst1, zq_ldc, zq_ldc_w, zq_ldc2_w, zq_iload0, zq_iload1, zq_iload2, zq_iload3, zq_iload, zq_lload0, zq_lload1, zq_lload2, zq_lload3, zq_lload, zq_aload0, zq_aload1, zq_aload2, zq_aload3, zq_aload, zq_istore0, zq_istore1, zq_istore2, zq_istore3, zq_istore, zq_lstore0, zq_lstore1, zq_lstore2, zq_lstore3, zq_lstore, zq_astore0, zq_astore0N, zq_astore1, zq_astore1N, zq_astore2, zq_astore2N, zq_astore3, zq_astore3N, zq_astore, zq_astoreN, zq_iinc, zq_iadd, zq_isub, zq_imul, zq_iand, zq_ior, zq_ixor, zq_ishl, zq_ishr, zq_iushr, zq_idiv, zq_irem, zq_ladd, zq_lsub, zq_lmul, zq_ldiv, zq_lrem, zq_lcmp, zq_i2l, zq_i2b, zq_i2s, zq_dup_i, zq_dup_r, zq_dup2, zq_null, zq_icmp_eq, zq_if_eq, zq_icmp_ne, zq_if_ne, zq_icmp_lt, zq_if_lt, zq_icmp_ge, zq_if_ge, zq_icmp_gt, zq_if_gt, zq_icmp_le, zq_if_le, zq_goto, zq_ifnull_r, zq_ifnull_n, zq_ifnonnull_r, zq_ifnonnull_n, zq_iaload, zq_baload, zq_laload, zq_aaload, zq_iastore, zq_bastore, zq_lastore, zq_alen, zq_getf, zq_put, zq_tsw, zq_lsw, zq_ireturn, zq_lreturn, zq_areturn, zq_areturnN, zq_return, zq_invokestatic, zq_invokevirtual, zq_new, zq_invokespecial, zq_newarray, zq_anewarray, zq_aastore, zi_m1, zi_0, zi_1, zi_2, zi_3, zi_4, zi_5, zi_6, zi_8, zi_16, zb_m10, zb_m4, zb_m3, zb_m2, zb_6, zb_7, zb_8, zb_9, zb_10, zb_16, zb_20, zb_23, zb_30, zb_32, zb_35, zb_46, zb_48, zb_56, zb_57, zb_59, zb_63, zb_70, zb_98, zb_99, zb_100, zb_111, zb_112, zs_192, zs_255, zs_256, zs_511, zs_512, zs_12345, zf_X7_10_0, zf_X7_19_0, zf_X7_26_0, zf_X7_33_0, zf_X7_39_0, zf_X7_43_0, zf_X7_47_0, zf_X7_50_0, zf_X7_53_0, zf_X7_56_0, zf_X7_59_0, zkc_X7_223, zkl_X7_313, zkl_X7_240, zkl_X7_305, za_C_2, za_C_3, za_C_4, za_C_5, za_C_6, za_C_8, za_C_9, za_C_10, za_C_12, za_C_14, za_C_15, za_C_16, za_C_17, za_C_22, za_C_23, za_C_24, za_C_25, dX7_write_0, dX7_write_1, dX7_write_2, dX7_write_5, dX7_write_6, dX7_write_7, dX7_write_8, dX7_write_11, dX7_write_14, dX7_write_15, dX7_write_18, dX7_write_20, dX7_write_21, dX7_write_22, dX7_write_25, dX7_write_28, dX7_write_29, dX7_write_30, dX7_write_33, dX7_write_34, dX7_write_35, dX7_write_38, dX7_write_40, dX7_write_41, dX7_write_43, dX7_write_45, dX7_write_46, dX7_write_49, dX7_write_52, dX7_write_53, dX7_write_55, dX7_write_56, dX7_write_57, dX7_write_59, dX7_write_61, dX7_write_64, dX7_write_67, dX7_write_70, dX7_write_73, dX7_write_74, dX7_write_77, cr_X7_write_111, cr_X7_write_99, cr_X7_write_115, cr_X7_write_119, cr_X7_write_144, cr_X7_write_122, cr_X7_write_156, cr_X7_write_220, wr_X7_sheetOf, wr_X7_isKing, wr_X6_isLost, wr_X6_isLost_1, wr_X6_isLost_2, wr_X6_isLost_3, wr_X7_found, wr_X7_left, wr_X6_size, wr_X6_size_1, wr_X6_size_2, wr_X6_size_3, wr_X7_actAtE, wr_X6_change, wr_X6_change_1, wr_X6_change_2, wr_X6_change_3]
        rw [b3, n_le (by omega) (by omega), nI_1]
        refine ⟨fun c => absurd c (by omega), fun _ => ⟨_, cn a, tL T, i, hC', ea, rfl, rfl, ha2, hLt, by omega, (tsh T 1).2.2, i, (tsh T 1).2.1, I.2, rfl, by omega, rfl, I.1, b4, ?_⟩⟩
        refine ih (i + 1) _ (by omega) ht ha e ?_
        have nx := CR_sh (S' := (z_u S'.1 23 i (ab_narrow (tsh T 1).2.1 (nI (tA T (cn a) (tL T) i))), S'.2)) (hd := tsh T 1) (f := fun p => if p < i + 1 then nI (tA T (cn a) (tL T) p) else tit T 1 p) hC' (show 1 < 4 by omega) I ?_ (fun a ha => by dsimp only; rw [z_u_o (by omega)])
        · rw [wSh_2] at nx; exact nx
        · unfold c_sheet
          simp only [tsh, tit, va_up_self]
          refine ⟨fun _ => ⟨?_, ?_, fun j hj => ?_⟩, fun q => absurd q (by rw [ht]; decide)⟩
          · rw [z_u_o (by omega)]; exact b1a
          · rw [z_u_o (by omega)]; exact b1b
          · simp only [z_rd, Nat.reduceAdd, true_and]
            by_cases ej : j = i
            · subst ej; rw [if_pos rfl, if_pos (by omega), na_A]
            · rw [if_neg ej]
              have := b1c j hj
              by_cases hl : j < i
              · rw [if_pos hl] at this; rw [if_pos (by omega)]; exact this
              · rw [if_neg hl] at this; rw [if_neg (by omega)]; exact this
    have key2 : ∀ (m i : Nat) (S' : ZS), i + m = (tsh T 2).2.2 → (tsh T 2).1 = true → i_in a (tM T) → s = nI 2 → CR (wSh T 2 (tsh T 2) (fun p => if p < i then nI (tA T (cn a) (tL T) p) else tit T 2 p)) S' → K 0 43 [some (.ref 0), some (.int a), some (.int s), some (.ref 20), some (.int (nI (tL T))), some (.int (nI i))] [] S' := by
      intro m
      induction m with
      | zero =>
        intro i S' hi ht ha e hC'
        obtain ⟨c, ecn⟩ := s_c (by omega) e
        have I := CR_shI hC (show 2 < 4 by omega)
        obtain ⟨b1, b2⟩ := CR_sheet hC' (show 2 < 4 by omega)
        simp only [tsh, tit, va_up_self] at b1 b2
        have b3 : S'.1 20 2 = nI (tsh T 2).2.2 := (b1 ht).2.1
        have g1 : q_write T a s = nI (tsh T 2).2.2 := by unfold q_write; rw [if_pos ⟨ha, c⟩, ecn, if_pos ht]
        have g2 : u_write T a s = wSh T 2 (tsh T 2) (fun p => if p < (tsh T 2).2.2 then nI (tA T (cn a) (tL T) p) else tit T 2 p) := by unfold u_write; rw [if_pos ⟨ha, c⟩, ecn, if_pos ht]
        obtain rfl : i = (tsh T 2).2.2 := by omega
        refine hK (z_in [43]) 100 _ _ _ _ _ (Nat.zero_le _) ?_
        simp (config := { maxSteps := 10000000 }) only [z40, z20, z10, z01, zm0, z0m, ze_s, ze_ok, zt_s, zt_t, zt_f, zl_I, zl_J, zl_R, zl_N, zl_C, zl_K, zl_M, zl_ar0, zl_ar1, zl_ar2, zl_ar3, zl_as0, zl_as1, zl_as2, zl_al, zl_gf, zl_gr, zl_pf, zl_iv, zl_ivn, zlk_n, zlk_c, ztb_n, ztb_c, zin_n, zin_1, zin_c, Int.reduceLT, decide_true, decide_false, Bool.true_and, Bool.and_true, List.length_cons, List.length_nil, Int.reduceSub, Int.reduceEq, Int.natCast_zero, zk_s, z_in_n, z_in_c, z_gt_0, z_gt_s, zst_0, zst_1, zst_s, zsl_0, zsl_1, zsl_s, zc_n, zc_i, zc_l, zc_r, zc_u, zca_n, zca_i, zca_l, zca_r, zca_u, zrt_i, zrt_z, zrt_o, z_cal_0, z_cal_s, true_and, and_true, List.nil_append, List.cons_append, Option.toList_some, Option.toList_none, Nat.reduceAdd, Nat.reduceBEq, Nat.reduceLT, Nat.reduceLeDiff, Nat.reduceSub, Int.reduceAdd, Int.reduceLE, Int.reduceToNat, Int.cast_ofNat_Int, Bool.or_true, Bool.true_or, Bool.or_false, Bool.false_or, Nat.le_refl, Nat.zero_le, or_true, true_or, or_false, false_or, not_true_eq_false, not_false_eq_true, not_false_iff, false_implies, true_implies, eq_self, zo_iconst, zo_bipush, zo_sipush, zo_lconst, zo_ldc, zo_ldc_w, zo_ldc2_w, zo_iload_n, zo_iload, zo_lload_n, zo_lload, zo_aload_n, zo_aload, zo_istore_n, zo_istore, zo_lstore_n, zo_lstore, zo_astore_n, zo_astore, zo_iinc, zo_iadd, zo_isub, zo_imul, zo_iand, zo_ior, zo_ixor, zo_ishl, zo_ishr, zo_iushr, zo_idiv, zo_irem, zo_ladd, zo_lsub, zo_lmul, zo_ldiv, zo_lrem, zo_lcmp, zo_i2l, zo_i2b, zo_i2s, zo_dup, zo_dup2, zo_aconst_null, zo_if_icmp, zo_ifCond, zo_goto, zo_ifnull, zo_ifnonnull, zo_iaload, zo_baload, zo_laload, zo_aaload, zo_iastore, zo_bastore, zo_lastore, zo_arraylength, zo_getfield, zo_putfield, zo_tableswitch, zo_lookupswitch, zo_ireturn, zo_lreturn, zo_areturn, zo_return, zo_invokestatic, zo_invokevirtual, zo_new, zo_invokespecial, zo_newarray, zo_anewarray, zo_aastore, zy_0_1, zy_0_2, zy_0_3, zy_1_1, zy_1_2, zy_2_1, zy_2_2, zy_2_3, zy_3_0, zy_4_3, zy_5_1, zy_5_2, zy_6_5, zy_6_6, zy_6_7, zy_6_8, zy_6_9, zy_6_10, zy_7_2, zy_7_6, zy_7_9, zy_7_10, zy_7_11, zy_7_12, zy_7_14, zy_7_21, zy_7_30, zq_iconst, zq_bipush, zq_sipush, zq_lconst0, zq_lconst1, zq_ldc, zq_ldc_w, zq_ldc2_w, zq_iload0, zq_iload1, zq_iload2, zq_iload3, zq_iload, zq_lload0, zq_lload1, zq_lload2, zq_lload3, zq_lload, zq_aload0, zq_aload1, zq_aload2, zq_aload3, zq_aload, zq_istore0, zq_istore1, zq_istore2, zq_istore3, zq_istore, zq_lstore0, zq_lstore1, zq_lstore2, zq_lstore3, zq_lstore, zq_astore0, zq_astore0N, zq_astore1, zq_astore1N, zq_astore2, zq_astore2N, zq_astore3, zq_astore3N, zq_astore, zq_astoreN, zq_iinc, zq_iadd, zq_isub, zq_imul, zq_iand, zq_ior, zq_ixor, zq_ishl, zq_ishr, zq_iushr, zq_idiv, zq_irem, zq_ladd, zq_lsub, zq_lmul, zq_ldiv, zq_lrem, zq_lcmp, zq_i2l, zq_i2b, zq_i2s, zq_dup_i, zq_dup_r, zq_dup2, zq_null, zq_icmp_eq, zq_if_eq, zq_icmp_ne, zq_if_ne, zq_icmp_lt, zq_if_lt, zq_icmp_ge, zq_if_ge, zq_icmp_gt, zq_if_gt, zq_icmp_le, zq_if_le, zq_goto, zq_ifnull_r, zq_ifnull_n, zq_ifnonnull_r, zq_ifnonnull_n, zq_iaload, zq_baload, zq_laload, zq_aaload, zq_iastore, zq_bastore, zq_lastore, zq_alen, zq_getf, zq_put, zq_tsw, zq_lsw, zq_ireturn, zq_lreturn, zq_areturn, zq_areturnN, zq_return, zq_invokestatic, zq_invokevirtual, zq_new, zq_invokespecial, zq_newarray, zq_anewarray, zq_aastore, zi_m1, zi_0, zi_1, zi_2, zi_3, zi_4, zi_5, zi_6, zi_8, zi_16, zb_m10, zb_m4, zb_m3, zb_m2, zb_6, zb_7, zb_8, zb_9, zb_10, zb_16, zb_20, zb_23, zb_30, zb_32, zb_35, zb_46, zb_48, zb_56, zb_57, zb_59, zb_63, zb_70, zb_98, zb_99, zb_100, zb_111, zb_112, zs_192, zs_255, zs_256, zs_511, zs_512, zs_12345, zf_X7_10_0, zf_X7_19_0, zf_X7_26_0, zf_X7_33_0, zf_X7_39_0, zf_X7_43_0, zf_X7_47_0, zf_X7_50_0, zf_X7_53_0, zf_X7_56_0, zf_X7_59_0, zkc_X7_223, zkl_X7_313, zkl_X7_240, zkl_X7_305, za_C_2, za_C_3, za_C_4, za_C_5, za_C_6, za_C_8, za_C_9, za_C_10, za_C_12, za_C_14, za_C_15, za_C_16, za_C_17, za_C_22, za_C_23, za_C_24, za_C_25, dX7_write_0, dX7_write_1, dX7_write_2, dX7_write_5, dX7_write_6, dX7_write_7, dX7_write_8, dX7_write_11, dX7_write_14, dX7_write_15, dX7_write_18, dX7_write_20, dX7_write_21, dX7_write_22, dX7_write_25, dX7_write_28, dX7_write_29, dX7_write_30, dX7_write_33, dX7_write_34, dX7_write_35, dX7_write_38, dX7_write_40, dX7_write_41, dX7_write_43, dX7_write_45, dX7_write_46, dX7_write_49, dX7_write_52, dX7_write_53, dX7_write_55, dX7_write_56, dX7_write_57, dX7_write_59, dX7_write_61, dX7_write_64, dX7_write_67, dX7_write_70, dX7_write_73, dX7_write_74, dX7_write_77, cr_X7_write_111, cr_X7_write_99, cr_X7_write_115, cr_X7_write_119, cr_X7_write_144, cr_X7_write_122, cr_X7_write_156, cr_X7_write_220, wr_X7_sheetOf, wr_X7_isKing, wr_X6_isLost, wr_X6_isLost_1, wr_X6_isLost_2, wr_X6_isLost_3, wr_X7_found, wr_X7_left, wr_X6_size, wr_X6_size_1, wr_X6_size_2, wr_X6_size_3, wr_X7_actAtE, wr_X6_change, wr_X6_change_1, wr_X6_change_2, wr_X6_change_3]
        rw [b3]
        rw [g1, g2] at hk
        refine ⟨fun _ => hk S' hC', fun c => absurd (by rw [n_le (by omega) (by omega)]; exact Nat.le_refl _) c⟩
      | succ m ih =>
        intro i S' hi ht ha e hC'
        have I := CR_shI hC (show 2 < 4 by omega)
        obtain ⟨b1, b2⟩ := CR_sheet hC' (show 2 < 4 by omega)
        simp only [tsh, tit, va_up_self] at b1 b2
        obtain ⟨b1a, b1b, b1c⟩ := b1 ht
        have b3 : S'.1 20 2 = nI (tsh T 2).2.2 := b1b
        have b4 : S'.1 20 1 = nI (tsh T 2).2.1 := b1a
        obtain ⟨ea, ha2⟩ := i_inI ha (by have := CR_M hC; omega)
        refine hK (z_in [43]) 100 _ _ _ _ _ (Nat.zero_le _) ?_
        simp (config := { maxSteps := 10000000 }) only [z40, z20, z10, z01, zm0, z0m, ze_s, ze_ok, zt_s, zt_t, zt_f, zl_I, zl_J, zl_R, zl_N, zl_C, zl_K, zl_M, zl_ar0, zl_ar1, zl_ar2, zl_ar3, zl_as0, zl_as1, zl_as2, zl_al, zl_gf, zl_gr, zl_pf, zl_iv, zl_ivn, zlk_n, zlk_c, ztb_n, ztb_c, zin_n, zin_1, zin_c, Int.reduceLT, decide_true, decide_false, Bool.true_and, Bool.and_true, List.length_cons, List.length_nil, Int.reduceSub, Int.reduceEq, Int.natCast_zero, zk_s, z_in_n, z_in_c, z_gt_0, z_gt_s, zst_0, zst_1, zst_s, zsl_0, zsl_1, zsl_s, zc_n, zc_i, zc_l, zc_r, zc_u, zca_n, zca_i, zca_l, zca_r, zca_u, zrt_i, zrt_z, zrt_o, z_cal_0, z_cal_s, true_and, and_true, List.nil_append, List.cons_append, Option.toList_some, Option.toList_none, Nat.reduceAdd, Nat.reduceBEq, Nat.reduceLT, Nat.reduceLeDiff, Nat.reduceSub, Int.reduceAdd, Int.reduceLE, Int.reduceToNat, Int.cast_ofNat_Int, Bool.or_true, Bool.true_or, Bool.or_false, Bool.false_or, Nat.le_refl, Nat.zero_le, or_true, true_or, or_false, false_or, not_true_eq_false, not_false_eq_true, not_false_iff, false_implies, true_implies, eq_self, zo_iconst, zo_bipush, zo_sipush, zo_lconst, zo_ldc, zo_ldc_w, zo_ldc2_w, zo_iload_n, zo_iload, zo_lload_n, zo_lload, zo_aload_n, zo_aload, zo_istore_n, zo_istore, zo_lstore_n, zo_lstore, zo_astore_n, zo_astore, zo_iinc, zo_iadd, zo_isub, zo_imul, zo_iand, zo_ior, zo_ixor, zo_ishl, zo_ishr, zo_iushr, zo_idiv, zo_irem, zo_ladd, zo_lsub, zo_lmul, zo_ldiv, zo_lrem, zo_lcmp, zo_i2l, zo_i2b, zo_i2s, zo_dup, zo_dup2, zo_aconst_null, zo_if_icmp, zo_ifCond, zo_goto, zo_ifnull, zo_ifnonnull, zo_iaload, zo_baload, zo_laload, zo_aaload, zo_iastore, zo_bastore, zo_lastore, zo_arraylength, zo_getfield, zo_putfield, zo_tableswitch, zo_lookupswitch, zo_ireturn, zo_lreturn, zo_areturn, zo_return, zo_invokestatic, zo_invokevirtual, zo_new, zo_invokespecial, zo_newarray, zo_anewarray, zo_aastore, zy_0_1, zy_0_2, zy_0_3, zy_1_1, zy_1_2, zy_2_1, zy_2_2, zy_2_3, zy_3_0, zy_4_3, zy_5_1, zy_5_2, zy_6_5, zy_6_6, zy_6_7, zy_6_8, zy_6_9, zy_6_10, zy_7_2, zy_7_6, zy_7_9, zy_7_10, zy_7_11, zy_7_12, zy_7_14, zy_7_21, zy_7_30, zq_iconst, zq_bipush, zq_sipush, zq_lconst0, zq_lconst1, zq_ldc, zq_ldc_w, zq_ldc2_w, zq_iload0, zq_iload1, zq_iload2, zq_iload3, zq_iload, zq_lload0, zq_lload1, zq_lload2, zq_lload3, zq_lload, zq_aload0, zq_aload1, zq_aload2, zq_aload3, zq_aload, zq_istore0, zq_istore1, zq_istore2, zq_istore3, zq_istore, zq_lstore0, zq_lstore1, zq_lstore2, zq_lstore3, zq_lstore, zq_astore0, zq_astore0N, zq_astore1, zq_astore1N, zq_astore2, zq_astore2N, zq_astore3, zq_astore3N, zq_astore, zq_astoreN, zq_iinc, zq_iadd, zq_isub, zq_imul, zq_iand, zq_ior, zq_ixor, zq_ishl, zq_ishr, zq_iushr, zq_idiv, zq_irem, zq_ladd, zq_lsub, zq_lmul, zq_ldiv, zq_lrem, zq_lcmp, zq_i2l, zq_i2b, zq_i2s, zq_dup_i, zq_dup_r, zq_dup2, zq_null, zq_icmp_eq, zq_if_eq, zq_icmp_ne, zq_if_ne, zq_icmp_lt, zq_if_lt, zq_icmp_ge, zq_if_ge, zq_icmp_gt, zq_if_gt, zq_icmp_le, zq_if_le, zq_goto, zq_ifnull_r, zq_ifnull_n, zq_ifnonnull_r, zq_ifnonnull_n, zq_iaload, zq_baload, zq_laload, zq_aaload, zq_iastore, zq_bastore, zq_lastore, zq_alen, zq_getf, zq_put, zq_tsw, zq_lsw, zq_ireturn, zq_lreturn, zq_areturn, zq_areturnN, zq_return, zq_invokestatic, zq_invokevirtual, zq_new, zq_invokespecial, zq_newarray, zq_anewarray, zq_aastore, zi_m1, zi_0, zi_1, zi_2, zi_3, zi_4, zi_5, zi_6, zi_8, zi_16, zb_m10, zb_m4, zb_m3, zb_m2, zb_6, zb_7, zb_8, zb_9, zb_10, zb_16, zb_20, zb_23, zb_30, zb_32, zb_35, zb_46, zb_48, zb_56, zb_57, zb_59, zb_63, zb_70, zb_98, zb_99, zb_100, zb_111, zb_112, zs_192, zs_255, zs_256, zs_511, zs_512, zs_12345, zf_X7_10_0, zf_X7_19_0, zf_X7_26_0, zf_X7_33_0, zf_X7_39_0, zf_X7_43_0, zf_X7_47_0, zf_X7_50_0, zf_X7_53_0, zf_X7_56_0, zf_X7_59_0, zkc_X7_223, zkl_X7_313, zkl_X7_240, zkl_X7_305, za_C_2, za_C_3, za_C_4, za_C_5, za_C_6, za_C_8, za_C_9, za_C_10, za_C_12, za_C_14, za_C_15, za_C_16, za_C_17, za_C_22, za_C_23, za_C_24, za_C_25, dX7_write_0, dX7_write_1, dX7_write_2, dX7_write_5, dX7_write_6, dX7_write_7, dX7_write_8, dX7_write_11, dX7_write_14, dX7_write_15, dX7_write_18, dX7_write_20, dX7_write_21, dX7_write_22, dX7_write_25, dX7_write_28, dX7_write_29, dX7_write_30, dX7_write_33, dX7_write_34, dX7_write_35, dX7_write_38, dX7_write_40, dX7_write_41, dX7_write_43, dX7_write_45, dX7_write_46, dX7_write_49, dX7_write_52, dX7_write_53, dX7_write_55, dX7_write_56, dX7_write_57, dX7_write_59, dX7_write_61, dX7_write_64, dX7_write_67, dX7_write_70, dX7_write_73, dX7_write_74, dX7_write_77, cr_X7_write_111, cr_X7_write_99, cr_X7_write_115, cr_X7_write_119, cr_X7_write_144, cr_X7_write_122, cr_X7_write_156, cr_X7_write_220, wr_X7_sheetOf, wr_X7_isKing, wr_X6_isLost, wr_X6_isLost_1, wr_X6_isLost_2, wr_X6_isLost_3, wr_X7_found, wr_X7_left, wr_X6_size, wr_X6_size_1, wr_X6_size_2, wr_X6_size_3, wr_X7_actAtE, wr_X6_change, wr_X6_change_1, wr_X6_change_2, wr_X6_change_3]
        rw [b3, n_le (by omega) (by omega), nI_1]
        refine ⟨fun c => absurd c (by omega), fun _ => ⟨_, cn a, tL T, i, hC', ea, rfl, rfl, ha2, hLt, by omega, (tsh T 2).2.2, i, (tsh T 2).2.1, I.2, rfl, by omega, rfl, I.1, b4, ?_⟩⟩
        refine ih (i + 1) _ (by omega) ht ha e ?_
        have nx := CR_sh (S' := (z_u S'.1 24 i (ab_narrow (tsh T 2).2.1 (nI (tA T (cn a) (tL T) i))), S'.2)) (hd := tsh T 2) (f := fun p => if p < i + 1 then nI (tA T (cn a) (tL T) p) else tit T 2 p) hC' (show 2 < 4 by omega) I ?_ (fun a ha => by dsimp only; rw [z_u_o (by omega)])
        · rw [wSh_2] at nx; exact nx
        · unfold c_sheet
          simp only [tsh, tit, va_up_self]
          refine ⟨fun _ => ⟨?_, ?_, fun j hj => ?_⟩, fun q => absurd q (by rw [ht]; decide)⟩
          · rw [z_u_o (by omega)]; exact b1a
          · rw [z_u_o (by omega)]; exact b1b
          · simp only [z_rd, Nat.reduceAdd, true_and]
            by_cases ej : j = i
            · subst ej; rw [if_pos rfl, if_pos (by omega), na_A]
            · rw [if_neg ej]
              have := b1c j hj
              by_cases hl : j < i
              · rw [if_pos hl] at this; rw [if_pos (by omega)]; exact this
              · rw [if_neg hl] at this; rw [if_neg (by omega)]; exact this
    have key3 : ∀ (m i : Nat) (S' : ZS), i + m = (tsh T 3).2.2 → (tsh T 3).1 = true → i_in a (tM T) → s = nI 3 → CR (wSh T 3 (tsh T 3) (fun p => if p < i then nI (tA T (cn a) (tL T) p) else tit T 3 p)) S' → K 0 43 [some (.ref 0), some (.int a), some (.int s), some (.ref 21), some (.int (nI (tL T))), some (.int (nI i))] [] S' := by
      intro m
      induction m with
      | zero =>
        intro i S' hi ht ha e hC'
        obtain ⟨c, ecn⟩ := s_c (by omega) e
        have I := CR_shI hC (show 3 < 4 by omega)
        obtain ⟨b1, b2⟩ := CR_sheet hC' (show 3 < 4 by omega)
        simp only [tsh, tit, va_up_self] at b1 b2
        have b3 : S'.1 21 2 = nI (tsh T 3).2.2 := (b1 ht).2.1
        have g1 : q_write T a s = nI (tsh T 3).2.2 := by unfold q_write; rw [if_pos ⟨ha, c⟩, ecn, if_pos ht]
        have g2 : u_write T a s = wSh T 3 (tsh T 3) (fun p => if p < (tsh T 3).2.2 then nI (tA T (cn a) (tL T) p) else tit T 3 p) := by unfold u_write; rw [if_pos ⟨ha, c⟩, ecn, if_pos ht]
        obtain rfl : i = (tsh T 3).2.2 := by omega
        refine hK (z_in [43]) 100 _ _ _ _ _ (Nat.zero_le _) ?_
        simp (config := { maxSteps := 10000000 }) only [z40, z20, z10, z01, zm0, z0m, ze_s, ze_ok, zt_s, zt_t, zt_f, zl_I, zl_J, zl_R, zl_N, zl_C, zl_K, zl_M, zl_ar0, zl_ar1, zl_ar2, zl_ar3, zl_as0, zl_as1, zl_as2, zl_al, zl_gf, zl_gr, zl_pf, zl_iv, zl_ivn, zlk_n, zlk_c, ztb_n, ztb_c, zin_n, zin_1, zin_c, Int.reduceLT, decide_true, decide_false, Bool.true_and, Bool.and_true, List.length_cons, List.length_nil, Int.reduceSub, Int.reduceEq, Int.natCast_zero, zk_s, z_in_n, z_in_c, z_gt_0, z_gt_s, zst_0, zst_1, zst_s, zsl_0, zsl_1, zsl_s, zc_n, zc_i, zc_l, zc_r, zc_u, zca_n, zca_i, zca_l, zca_r, zca_u, zrt_i, zrt_z, zrt_o, z_cal_0, z_cal_s, true_and, and_true, List.nil_append, List.cons_append, Option.toList_some, Option.toList_none, Nat.reduceAdd, Nat.reduceBEq, Nat.reduceLT, Nat.reduceLeDiff, Nat.reduceSub, Int.reduceAdd, Int.reduceLE, Int.reduceToNat, Int.cast_ofNat_Int, Bool.or_true, Bool.true_or, Bool.or_false, Bool.false_or, Nat.le_refl, Nat.zero_le, or_true, true_or, or_false, false_or, not_true_eq_false, not_false_eq_true, not_false_iff, false_implies, true_implies, eq_self, zo_iconst, zo_bipush, zo_sipush, zo_lconst, zo_ldc, zo_ldc_w, zo_ldc2_w, zo_iload_n, zo_iload, zo_lload_n, zo_lload, zo_aload_n, zo_aload, zo_istore_n, zo_istore, zo_lstore_n, zo_lstore, zo_astore_n, zo_astore, zo_iinc, zo_iadd, zo_isub, zo_imul, zo_iand, zo_ior, zo_ixor, zo_ishl, zo_ishr, zo_iushr, zo_idiv, zo_irem, zo_ladd, zo_lsub, zo_lmul, zo_ldiv, zo_lrem, zo_lcmp, zo_i2l, zo_i2b, zo_i2s, zo_dup, zo_dup2, zo_aconst_null, zo_if_icmp, zo_ifCond, zo_goto, zo_ifnull, zo_ifnonnull, zo_iaload, zo_baload, zo_laload, zo_aaload, zo_iastore, zo_bastore, zo_lastore, zo_arraylength, zo_getfield, zo_putfield, zo_tableswitch, zo_lookupswitch, zo_ireturn, zo_lreturn, zo_areturn, zo_return, zo_invokestatic, zo_invokevirtual, zo_new, zo_invokespecial, zo_newarray, zo_anewarray, zo_aastore, zy_0_1, zy_0_2, zy_0_3, zy_1_1, zy_1_2, zy_2_1, zy_2_2, zy_2_3, zy_3_0, zy_4_3, zy_5_1, zy_5_2, zy_6_5, zy_6_6, zy_6_7, zy_6_8, zy_6_9, zy_6_10, zy_7_2, zy_7_6, zy_7_9, zy_7_10, zy_7_11, zy_7_12, zy_7_14, zy_7_21, zy_7_30, zq_iconst, zq_bipush, zq_sipush, zq_lconst0, zq_lconst1, zq_ldc, zq_ldc_w, zq_ldc2_w, zq_iload0, zq_iload1, zq_iload2, zq_iload3, zq_iload, zq_lload0, zq_lload1, zq_lload2, zq_lload3, zq_lload, zq_aload0, zq_aload1, zq_aload2, zq_aload3, zq_aload, zq_istore0, zq_istore1, zq_istore2, zq_istore3, zq_istore, zq_lstore0, zq_lstore1, zq_lstore2, zq_lstore3, zq_lstore, zq_astore0, zq_astore0N, zq_astore1, zq_astore1N, zq_astore2, zq_astore2N, zq_astore3, zq_astore3N, zq_astore, zq_astoreN, zq_iinc, zq_iadd, zq_isub, zq_imul, zq_iand, zq_ior, zq_ixor, zq_ishl, zq_ishr, zq_iushr, zq_idiv, zq_irem, zq_ladd, zq_lsub, zq_lmul, zq_ldiv, zq_lrem, zq_lcmp, zq_i2l, zq_i2b, zq_i2s, zq_dup_i, zq_dup_r, zq_dup2, zq_null, zq_icmp_eq, zq_if_eq, zq_icmp_ne, zq_if_ne, zq_icmp_lt, zq_if_lt, zq_icmp_ge, zq_if_ge, zq_icmp_gt, zq_if_gt, zq_icmp_le, zq_if_le, zq_goto, zq_ifnull_r, zq_ifnull_n, zq_ifnonnull_r, zq_ifnonnull_n, zq_iaload, zq_baload, zq_laload, zq_aaload, zq_iastore, zq_bastore, zq_lastore, zq_alen, zq_getf, zq_put, zq_tsw, zq_lsw, zq_ireturn, zq_lreturn, zq_areturn, zq_areturnN, zq_return, zq_invokestatic, zq_invokevirtual, zq_new, zq_invokespecial, zq_newarray, zq_anewarray, zq_aastore, zi_m1, zi_0, zi_1, zi_2, zi_3, zi_4, zi_5, zi_6, zi_8, zi_16, zb_m10, zb_m4, zb_m3, zb_m2, zb_6, zb_7, zb_8, zb_9, zb_10, zb_16, zb_20, zb_23, zb_30, zb_32, zb_35, zb_46, zb_48, zb_56, zb_57, zb_59, zb_63, zb_70, zb_98, zb_99, zb_100, zb_111, zb_112, zs_192, zs_255, zs_256, zs_511, zs_512, zs_12345, zf_X7_10_0, zf_X7_19_0, zf_X7_26_0, zf_X7_33_0, zf_X7_39_0, zf_X7_43_0, zf_X7_47_0, zf_X7_50_0, zf_X7_53_0, zf_X7_56_0, zf_X7_59_0, zkc_X7_223, zkl_X7_313, zkl_X7_240, zkl_X7_305, za_C_2, za_C_3, za_C_4, za_C_5, za_C_6, za_C_8, za_C_9, za_C_10, za_C_12, za_C_14, za_C_15, za_C_16, za_C_17, za_C_22, za_C_23, za_C_24, za_C_25, dX7_write_0, dX7_write_1, dX7_write_2, dX7_write_5, dX7_write_6, dX7_write_7, dX7_write_8, dX7_write_11, dX7_write_14, dX7_write_15, dX7_write_18, dX7_write_20, dX7_write_21, dX7_write_22, dX7_write_25, dX7_write_28, dX7_write_29, dX7_write_30, dX7_write_33, dX7_write_34, dX7_write_35, dX7_write_38, dX7_write_40, dX7_write_41, dX7_write_43, dX7_write_45, dX7_write_46, dX7_write_49, dX7_write_52, dX7_write_53, dX7_write_55, dX7_write_56, dX7_write_57, dX7_write_59, dX7_write_61, dX7_write_64, dX7_write_67, dX7_write_70, dX7_write_73, dX7_write_74, dX7_write_77, cr_X7_write_111, cr_X7_write_99, cr_X7_write_115, cr_X7_write_119, cr_X7_write_144, cr_X7_write_122, cr_X7_write_156, cr_X7_write_220, wr_X7_sheetOf, wr_X7_isKing, wr_X6_isLost, wr_X6_isLost_1, wr_X6_isLost_2, wr_X6_isLost_3, wr_X7_found, wr_X7_left, wr_X6_size, wr_X6_size_1, wr_X6_size_2, wr_X6_size_3, wr_X7_actAtE, wr_X6_change, wr_X6_change_1, wr_X6_change_2, wr_X6_change_3]
        rw [b3]
        rw [g1, g2] at hk
        refine ⟨fun _ => hk S' hC', fun c => absurd (by rw [n_le (by omega) (by omega)]; exact Nat.le_refl _) c⟩
      | succ m ih =>
        intro i S' hi ht ha e hC'
        have I := CR_shI hC (show 3 < 4 by omega)
        obtain ⟨b1, b2⟩ := CR_sheet hC' (show 3 < 4 by omega)
        simp only [tsh, tit, va_up_self] at b1 b2
        obtain ⟨b1a, b1b, b1c⟩ := b1 ht
        have b3 : S'.1 21 2 = nI (tsh T 3).2.2 := b1b
        have b4 : S'.1 21 1 = nI (tsh T 3).2.1 := b1a
        obtain ⟨ea, ha2⟩ := i_inI ha (by have := CR_M hC; omega)
        refine hK (z_in [43]) 100 _ _ _ _ _ (Nat.zero_le _) ?_
        simp (config := { maxSteps := 10000000 }) only [z40, z20, z10, z01, zm0, z0m, ze_s, ze_ok, zt_s, zt_t, zt_f, zl_I, zl_J, zl_R, zl_N, zl_C, zl_K, zl_M, zl_ar0, zl_ar1, zl_ar2, zl_ar3, zl_as0, zl_as1, zl_as2, zl_al, zl_gf, zl_gr, zl_pf, zl_iv, zl_ivn, zlk_n, zlk_c, ztb_n, ztb_c, zin_n, zin_1, zin_c, Int.reduceLT, decide_true, decide_false, Bool.true_and, Bool.and_true, List.length_cons, List.length_nil, Int.reduceSub, Int.reduceEq, Int.natCast_zero, zk_s, z_in_n, z_in_c, z_gt_0, z_gt_s, zst_0, zst_1, zst_s, zsl_0, zsl_1, zsl_s, zc_n, zc_i, zc_l, zc_r, zc_u, zca_n, zca_i, zca_l, zca_r, zca_u, zrt_i, zrt_z, zrt_o, z_cal_0, z_cal_s, true_and, and_true, List.nil_append, List.cons_append, Option.toList_some, Option.toList_none, Nat.reduceAdd, Nat.reduceBEq, Nat.reduceLT, Nat.reduceLeDiff, Nat.reduceSub, Int.reduceAdd, Int.reduceLE, Int.reduceToNat, Int.cast_ofNat_Int, Bool.or_true, Bool.true_or, Bool.or_false, Bool.false_or, Nat.le_refl, Nat.zero_le, or_true, true_or, or_false, false_or, not_true_eq_false, not_false_eq_true, not_false_iff, false_implies, true_implies, eq_self, zo_iconst, zo_bipush, zo_sipush, zo_lconst, zo_ldc, zo_ldc_w, zo_ldc2_w, zo_iload_n, zo_iload, zo_lload_n, zo_lload, zo_aload_n, zo_aload, zo_istore_n, zo_istore, zo_lstore_n, zo_lstore, zo_astore_n, zo_astore, zo_iinc, zo_iadd, zo_isub, zo_imul, zo_iand, zo_ior, zo_ixor, zo_ishl, zo_ishr, zo_iushr, zo_idiv, zo_irem, zo_ladd, zo_lsub, zo_lmul, zo_ldiv, zo_lrem, zo_lcmp, zo_i2l, zo_i2b, zo_i2s, zo_dup, zo_dup2, zo_aconst_null, zo_if_icmp, zo_ifCond, zo_goto, zo_ifnull, zo_ifnonnull, zo_iaload, zo_baload, zo_laload, zo_aaload, zo_iastore, zo_bastore, zo_lastore, zo_arraylength, zo_getfield, zo_putfield, zo_tableswitch, zo_lookupswitch, zo_ireturn, zo_lreturn, zo_areturn, zo_return, zo_invokestatic, zo_invokevirtual, zo_new, zo_invokespecial, zo_newarray, zo_anewarray, zo_aastore, zy_0_1, zy_0_2, zy_0_3, zy_1_1, zy_1_2, zy_2_1, zy_2_2, zy_2_3, zy_3_0, zy_4_3, zy_5_1, zy_5_2, zy_6_5, zy_6_6, zy_6_7, zy_6_8, zy_6_9, zy_6_10, zy_7_2, zy_7_6, zy_7_9, zy_7_10, zy_7_11, zy_7_12, zy_7_14, zy_7_21, zy_7_30, zq_iconst, zq_bipush, zq_sipush, zq_lconst0, zq_lconst1, zq_ldc, zq_ldc_w, zq_ldc2_w, zq_iload0, zq_iload1, zq_iload2, zq_iload3, zq_iload, zq_lload0, zq_lload1, zq_lload2, zq_lload3, zq_lload, zq_aload0, zq_aload1, zq_aload2, zq_aload3, zq_aload, zq_istore0, zq_istore1, zq_istore2, zq_istore3, zq_istore, zq_lstore0, zq_lstore1, zq_lstore2, zq_lstore3, zq_lstore, zq_astore0, zq_astore0N, zq_astore1, zq_astore1N, zq_astore2, zq_astore2N, zq_astore3, zq_astore3N, zq_astore, zq_astoreN, zq_iinc, zq_iadd, zq_isub, zq_imul, zq_iand, zq_ior, zq_ixor, zq_ishl, zq_ishr, zq_iushr, zq_idiv, zq_irem, zq_ladd, zq_lsub, zq_lmul, zq_ldiv, zq_lrem, zq_lcmp, zq_i2l, zq_i2b, zq_i2s, zq_dup_i, zq_dup_r, zq_dup2, zq_null, zq_icmp_eq, zq_if_eq, zq_icmp_ne, zq_if_ne, zq_icmp_lt, zq_if_lt, zq_icmp_ge, zq_if_ge, zq_icmp_gt, zq_if_gt, zq_icmp_le, zq_if_le, zq_goto, zq_ifnull_r, zq_ifnull_n, zq_ifnonnull_r, zq_ifnonnull_n, zq_iaload, zq_baload, zq_laload, zq_aaload, zq_iastore, zq_bastore, zq_lastore, zq_alen, zq_getf, zq_put, zq_tsw, zq_lsw, zq_ireturn, zq_lreturn, zq_areturn, zq_areturnN, zq_return, zq_invokestatic, zq_invokevirtual, zq_new, zq_invokespecial, zq_newarray, zq_anewarray, zq_aastore, zi_m1, zi_0, zi_1, zi_2, zi_3, zi_4, zi_5, zi_6, zi_8, zi_16, zb_m10, zb_m4, zb_m3, zb_m2, zb_6, zb_7, zb_8, zb_9, zb_10, zb_16, zb_20, zb_23, zb_30, zb_32, zb_35, zb_46, zb_48, zb_56, zb_57, zb_59, zb_63, zb_70, zb_98, zb_99, zb_100, zb_111, zb_112, zs_192, zs_255, zs_256, zs_511, zs_512, zs_12345, zf_X7_10_0, zf_X7_19_0, zf_X7_26_0, zf_X7_33_0, zf_X7_39_0, zf_X7_43_0, zf_X7_47_0, zf_X7_50_0, zf_X7_53_0, zf_X7_56_0, zf_X7_59_0, zkc_X7_223, zkl_X7_313, zkl_X7_240, zkl_X7_305, za_C_2, za_C_3, za_C_4, za_C_5, za_C_6, za_C_8, za_C_9, za_C_10, za_C_12, za_C_14, za_C_15, za_C_16, za_C_17, za_C_22, za_C_23, za_C_24, za_C_25, dX7_write_0, dX7_write_1, dX7_write_2, dX7_write_5, dX7_write_6, dX7_write_7, dX7_write_8, dX7_write_11, dX7_write_14, dX7_write_15, dX7_write_18, dX7_write_20, dX7_write_21, dX7_write_22, dX7_write_25, dX7_write_28, dX7_write_29, dX7_write_30, dX7_write_33, dX7_write_34, dX7_write_35, dX7_write_38, dX7_write_40, dX7_write_41, dX7_write_43, dX7_write_45, dX7_write_46, dX7_write_49, dX7_write_52, dX7_write_53, dX7_write_55, dX7_write_56, dX7_write_57, dX7_write_59, dX7_write_61, dX7_write_64, dX7_write_67, dX7_write_70, dX7_write_73, dX7_write_74, dX7_write_77, cr_X7_write_111, cr_X7_write_99, cr_X7_write_115, cr_X7_write_119, cr_X7_write_144, cr_X7_write_122, cr_X7_write_156, cr_X7_write_220, wr_X7_sheetOf, wr_X7_isKing, wr_X6_isLost, wr_X6_isLost_1, wr_X6_isLost_2, wr_X6_isLost_3, wr_X7_found, wr_X7_left, wr_X6_size, wr_X6_size_1, wr_X6_size_2, wr_X6_size_3, wr_X7_actAtE, wr_X6_change, wr_X6_change_1, wr_X6_change_2, wr_X6_change_3]
        rw [b3, n_le (by omega) (by omega), nI_1]
        refine ⟨fun c => absurd c (by omega), fun _ => ⟨_, cn a, tL T, i, hC', ea, rfl, rfl, ha2, hLt, by omega, (tsh T 3).2.2, i, (tsh T 3).2.1, I.2, rfl, by omega, rfl, I.1, b4, ?_⟩⟩
        refine ih (i + 1) _ (by omega) ht ha e ?_
        have nx := CR_sh (S' := (z_u S'.1 25 i (ab_narrow (tsh T 3).2.1 (nI (tA T (cn a) (tL T) i))), S'.2)) (hd := tsh T 3) (f := fun p => if p < i + 1 then nI (tA T (cn a) (tL T) p) else tit T 3 p) hC' (show 3 < 4 by omega) I ?_ (fun a ha => by dsimp only; rw [z_u_o (by omega)])
        · rw [wSh_2] at nx; exact nx
        · unfold c_sheet
          simp only [tsh, tit, va_up_self]
          refine ⟨fun _ => ⟨?_, ?_, fun j hj => ?_⟩, fun q => absurd q (by rw [ht]; decide)⟩
          · rw [z_u_o (by omega)]; exact b1a
          · rw [z_u_o (by omega)]; exact b1b
          · simp only [z_rd, Nat.reduceAdd, true_and]
            by_cases ej : j = i
            · subst ej; rw [if_pos rfl, if_pos (by omega), na_A]
            · rw [if_neg ej]
              have := b1c j hj
              by_cases hl : j < i
              · rw [if_pos hl] at this; rw [if_pos (by omega)]; exact this
              · rw [if_neg hl] at this; rw [if_neg (by omega)]; exact this
    refine hK (z_in [43]) 100 _ _ _ _ _ (Nat.zero_le _) ?_
    simp (config := { maxSteps := 10000000 }) only [z40, z20, z10, z01, zm0, z0m, ze_s, ze_ok, zt_s, zt_t, zt_f, zl_I, zl_J, zl_R, zl_N, zl_C, zl_K, zl_M, zl_ar0, zl_ar1, zl_ar2, zl_ar3, zl_as0, zl_as1, zl_as2, zl_al, zl_gf, zl_gr, zl_pf, zl_iv, zl_ivn, zlk_n, zlk_c, ztb_n, ztb_c, zin_n, zin_1, zin_c, Int.reduceLT, decide_true, decide_false, Bool.true_and, Bool.and_true, List.length_cons, List.length_nil, Int.reduceSub, Int.reduceEq, Int.natCast_zero, zk_s, z_in_n, z_in_c, z_gt_0, z_gt_s, zst_0, zst_1, zst_s, zsl_0, zsl_1, zsl_s, zc_n, zc_i, zc_l, zc_r, zc_u, zca_n, zca_i, zca_l, zca_r, zca_u, zrt_i, zrt_z, zrt_o, z_cal_0, z_cal_s, true_and, and_true, List.nil_append, List.cons_append, Option.toList_some, Option.toList_none, Nat.reduceAdd, Nat.reduceBEq, Nat.reduceLT, Nat.reduceLeDiff, Nat.reduceSub, Int.reduceAdd, Int.reduceLE, Int.reduceToNat, Int.cast_ofNat_Int, Bool.or_true, Bool.true_or, Bool.or_false, Bool.false_or, Nat.le_refl, Nat.zero_le, or_true, true_or, or_false, false_or, not_true_eq_false, not_false_eq_true, not_false_iff, false_implies, true_implies, eq_self, zo_iconst, zo_bipush, zo_sipush, zo_lconst, zo_ldc, zo_ldc_w, zo_ldc2_w, zo_iload_n, zo_iload, zo_lload_n, zo_lload, zo_aload_n, zo_aload, zo_istore_n, zo_istore, zo_lstore_n, zo_lstore, zo_astore_n, zo_astore, zo_iinc, zo_iadd, zo_isub, zo_imul, zo_iand, zo_ior, zo_ixor, zo_ishl, zo_ishr, zo_iushr, zo_idiv, zo_irem, zo_ladd, zo_lsub, zo_lmul, zo_ldiv, zo_lrem, zo_lcmp, zo_i2l, zo_i2b, zo_i2s, zo_dup, zo_dup2, zo_aconst_null, zo_if_icmp, zo_ifCond, zo_goto, zo_ifnull, zo_ifnonnull, zo_iaload, zo_baload, zo_laload, zo_aaload, zo_iastore, zo_bastore, zo_lastore, zo_arraylength, zo_getfield, zo_putfield, zo_tableswitch, zo_lookupswitch, zo_ireturn, zo_lreturn, zo_areturn, zo_return, zo_invokestatic, zo_invokevirtual, zo_new, zo_invokespecial, zo_newarray, zo_anewarray, zo_aastore, zy_0_1, zy_0_2, zy_0_3, zy_1_1, zy_1_2, zy_2_1, zy_2_2, zy_2_3, zy_3_0, zy_4_3, zy_5_1, zy_5_2, zy_6_5, zy_6_6, zy_6_7, zy_6_8, zy_6_9, zy_6_10, zy_7_2, zy_7_6, zy_7_9, zy_7_10, zy_7_11, zy_7_12, zy_7_14, zy_7_21, zy_7_30, zq_iconst, zq_bipush, zq_sipush, zq_lconst0, zq_lconst1, zq_ldc, zq_ldc_w, zq_ldc2_w, zq_iload0, zq_iload1, zq_iload2, zq_iload3, zq_iload, zq_lload0, zq_lload1, zq_lload2, zq_lload3, zq_lload, zq_aload0, zq_aload1, zq_aload2, zq_aload3, zq_aload, zq_istore0, zq_istore1, zq_istore2, zq_istore3, zq_istore, zq_lstore0, zq_lstore1, zq_lstore2, zq_lstore3, zq_lstore, zq_astore0, zq_astore0N, zq_astore1, zq_astore1N, zq_astore2, zq_astore2N, zq_astore3, zq_astore3N, zq_astore, zq_astoreN, zq_iinc, zq_iadd, zq_isub, zq_imul, zq_iand, zq_ior, zq_ixor, zq_ishl, zq_ishr, zq_iushr, zq_idiv, zq_irem, zq_ladd, zq_lsub, zq_lmul, zq_ldiv, zq_lrem, zq_lcmp, zq_i2l, zq_i2b, zq_i2s, zq_dup_i, zq_dup_r, zq_dup2, zq_null, zq_icmp_eq, zq_if_eq, zq_icmp_ne, zq_if_ne, zq_icmp_lt, zq_if_lt, zq_icmp_ge, zq_if_ge, zq_icmp_gt, zq_if_gt, zq_icmp_le, zq_if_le, zq_goto, zq_ifnull_r, zq_ifnull_n, zq_ifnonnull_r, zq_ifnonnull_n, zq_iaload, zq_baload, zq_laload, zq_aaload, zq_iastore, zq_bastore, zq_lastore, zq_alen, zq_getf, zq_put, zq_tsw, zq_lsw, zq_ireturn, zq_lreturn, zq_areturn, zq_areturnN, zq_return, zq_invokestatic, zq_invokevirtual, zq_new, zq_invokespecial, zq_newarray, zq_anewarray, zq_aastore, zi_m1, zi_0, zi_1, zi_2, zi_3, zi_4, zi_5, zi_6, zi_8, zi_16, zb_m10, zb_m4, zb_m3, zb_m2, zb_6, zb_7, zb_8, zb_9, zb_10, zb_16, zb_20, zb_23, zb_30, zb_32, zb_35, zb_46, zb_48, zb_56, zb_57, zb_59, zb_63, zb_70, zb_98, zb_99, zb_100, zb_111, zb_112, zs_192, zs_255, zs_256, zs_511, zs_512, zs_12345, zf_X7_10_0, zf_X7_19_0, zf_X7_26_0, zf_X7_33_0, zf_X7_39_0, zf_X7_43_0, zf_X7_47_0, zf_X7_50_0, zf_X7_53_0, zf_X7_56_0, zf_X7_59_0, zkc_X7_223, zkl_X7_313, zkl_X7_240, zkl_X7_305, za_C_2, za_C_3, za_C_4, za_C_5, za_C_6, za_C_8, za_C_9, za_C_10, za_C_12, za_C_14, za_C_15, za_C_16, za_C_17, za_C_22, za_C_23, za_C_24, za_C_25, dX7_write_0, dX7_write_1, dX7_write_2, dX7_write_5, dX7_write_6, dX7_write_7, dX7_write_8, dX7_write_11, dX7_write_14, dX7_write_15, dX7_write_18, dX7_write_20, dX7_write_21, dX7_write_22, dX7_write_25, dX7_write_28, dX7_write_29, dX7_write_30, dX7_write_33, dX7_write_34, dX7_write_35, dX7_write_38, dX7_write_40, dX7_write_41, dX7_write_43, dX7_write_45, dX7_write_46, dX7_write_49, dX7_write_52, dX7_write_53, dX7_write_55, dX7_write_56, dX7_write_57, dX7_write_59, dX7_write_61, dX7_write_64, dX7_write_67, dX7_write_70, dX7_write_73, dX7_write_74, dX7_write_77, cr_X7_write_111, cr_X7_write_99, cr_X7_write_115, cr_X7_write_119, cr_X7_write_144, cr_X7_write_122, cr_X7_write_156, cr_X7_write_220, wr_X7_sheetOf, wr_X7_isKing, wr_X6_isLost, wr_X6_isLost_1, wr_X6_isLost_2, wr_X6_isLost_3, wr_X7_found, wr_X7_left, wr_X6_size, wr_X6_size_1, wr_X6_size_2, wr_X6_size_3, wr_X7_actAtE, wr_X6_change, wr_X6_change_1, wr_X6_change_2, wr_X6_change_3]
    have A : ∀ m : Nat, m < 4 → s = nI m → (∀ S', (tsh T m).1 = true → i_in a (tM T) → CR (wSh T m (tsh T m) (fun p => if p < 0 then nI (tA T (cn a) (tL T) p) else tit T m p)) S' → K 0 43 [some (.ref 0), some (.int a), some (.int s), some (.ref (18 + m)), some (.int (nI (tL T))), some (.int 0)] [] S') → CR T S ∧ (i_in a (tM T) → (S.1 (18 + m) 2 = -1 → ∃ f, CR T S ∧ 1 = nI f ∧ f ≤ 5 ∧ ∀ (S' : ZS), CR (wFd T f) S' → post (some (Value.int (q_fnd f))) S') ∧ (¬S.1 (18 + m) 2 = -1 → CR T S ∧ K 0 43 [some (.ref 0), some (.int a), some (.int s), some (.ref (18 + m)), some (.int (nI (tL T))), some (.int 0)] [] S)) ∧ (¬i_in a (tM T) → post (some (Value.int (-2))) S) := by
      intro m hm e hkey
      obtain ⟨c, ecn⟩ := s_c hm e
      refine ⟨hC, fun d => ⟨fun l => ?_, fun l => ⟨hC, ?_⟩⟩, fun d => bad (fun q => d q.1)⟩
      · have hl := (CR_lost hC hm).mp l
        have g1 : q_write T a s = q_fnd 1 := by unfold q_write; rw [if_pos ⟨d, c⟩, ecn, if_neg (by rw [hl]; decide)]
        have g2 : u_write T a s = wFd T 1 := by unfold u_write; rw [if_pos ⟨d, c⟩, ecn, if_neg (by rw [hl]; decide)]
        rw [g1, g2] at hk
        exact ⟨1, hC, rfl, by omega, hk⟩
      · refine hkey S (CR_there hC hm l) d (CR_sh hC hm (CR_shI hC hm) ?_ (fun a ha => rfl))
        have := CR_sheet hC hm
        unfold c_sheet at this ⊢
        simp only [tsh, tit, va_up_self, Nat.not_lt_zero, if_false]
        exact this
    exact ⟨fun e => A 0 (by omega) e (fun S' h1 h2 h3 => key0 (tsh T 0).2.2 0 S' (Nat.zero_add _) h1 h2 e h3), fun e => A 1 (by omega) e (fun S' h1 h2 h3 => key1 (tsh T 1).2.2 0 S' (Nat.zero_add _) h1 h2 e h3), fun e => A 2 (by omega) e (fun S' h1 h2 h3 => key2 (tsh T 2).2.2 0 S' (Nat.zero_add _) h1 h2 e h3), fun e => A 3 (by omega) e (fun S' h1 h2 h3 => key3 (tsh T 3).2.2 0 S' (Nat.zero_add _) h1 h2 e h3), fun c => ⟨hC, fun _ => bad (fun q => c q.2), fun _ => bad (fun q => c q.2)⟩⟩
  · exact h.elim
theorem ok_X7_write (T : ZT) {tl : List ZE} : z_Ok (z_shC tl) yX7_write cX7_write 6 (some .int) ({ frames := 5, cells := 0, slots := 0, locals := 113 } : Room) 0 (wp_X7_write T) := z_Ok_of (pu_X7_write T) z_fX7_ok z_kX7_ok (co_X7_write T) ⟨by decide, by decide⟩ (by decide +kernel)
theorem rec_X7_write (T : ZT) {tl : List ZE} : z_rec (z_shC tl) (wp_X7_write T) 6 := by
  intro as S post h
  unfold wp_X7_write at h
  split at h
  · exact ⟨_, _, _, rfl, rfl⟩
  · exact h.elim
def wp_X7_count (T : ZT) : ZW := fun as S k => match as with
  | [.ref 0, .int w] => CR T S ∧ k (some (.int (q_count T w))) S
  | _ => False
theorem wr_X7_count {T : ZT} {w : Int32} {S : ZS} {k : Option Value → ZS → Prop} : (wp_X7_count T) [.ref 0, .int w] S k = (CR T S ∧ k (some (.int (q_count T w))) S) := rfl
def cs_X7_count (T : ZT) : List (Nat × ZC) := [(87, (1, 0, false, wp_X2_number_B)), (202, (1, 0, false, wp_X2_number_K)), (234, (1, 0, false, wp_X2_length_B)), (237, (1, 0, false, wp_X2_length_K)), (238, (1, 0, false, wp_X1_size)), (239, (1, 0, false, wp_X5_size)), (144, (1, 0, false, (wp_X7_left T))), (179, (2, 0, false, wp_X0_blanksOf))]
theorem cr_X7_count_87 {T : ZT} : (cs_X7_count T).lookup 87 = some (1, 0, false, wp_X2_number_B) := rfl
theorem cr_X7_count_202 {T : ZT} : (cs_X7_count T).lookup 202 = some (1, 0, false, wp_X2_number_K) := rfl
theorem cr_X7_count_234 {T : ZT} : (cs_X7_count T).lookup 234 = some (1, 0, false, wp_X2_length_B) := rfl
theorem cr_X7_count_237 {T : ZT} : (cs_X7_count T).lookup 237 = some (1, 0, false, wp_X2_length_K) := rfl
theorem cr_X7_count_238 {T : ZT} : (cs_X7_count T).lookup 238 = some (1, 0, false, wp_X1_size) := rfl
theorem cr_X7_count_239 {T : ZT} : (cs_X7_count T).lookup 239 = some (1, 0, false, wp_X5_size) := rfl
theorem cr_X7_count_144 {T : ZT} : (cs_X7_count T).lookup 144 = some (1, 0, false, (wp_X7_left T)) := rfl
theorem cr_X7_count_179 {T : ZT} : (cs_X7_count T).lookup 179 = some (2, 0, false, wp_X0_blanksOf) := rfl
set_option maxRecDepth 20000 in
theorem co_X7_count (T : ZT) {tl : List ZE} : z_csok RX7 ({ frames := 3, cells := 0, slots := 0, locals := 67 } : Room) (z_shC tl) (cs_X7_count T) := z_cs2 (z_csU (owner := "NineBooks$Entries") (x := ⟨"NineBooks$Books", "number", "()I"⟩) ok_X2_number_B rec_X2_number_B rfl (Or.inl (z_gn 293 (by decide +kernel) rfl)) (z_g 291 (by decide +kernel) rfl) (z_g 295 (by decide +kernel) rfl) (z_g 294 (by decide +kernel) rfl) (z_g 296 (by decide +kernel) rfl) (z_g 45 (by decide +kernel) rfl) (z_g 292 (by decide +kernel) rfl) rfl rfl (by decide +kernel) ⟨by decide, by decide⟩)
  (z_cs2 (z_csU (owner := "NineBooks$Entries") (x := ⟨"NineBooks$Kings", "number", "()I"⟩) ok_X2_number_K rec_X2_number_K rfl (Or.inl (z_gn 293 (by decide +kernel) rfl)) (z_g 317 (by decide +kernel) rfl) (z_g 295 (by decide +kernel) rfl) (z_g 319 (by decide +kernel) rfl) (z_g 296 (by decide +kernel) rfl) (z_g 45 (by decide +kernel) rfl) (z_g 318 (by decide +kernel) rfl) rfl rfl (by decide +kernel) ⟨by decide, by decide⟩)
  (z_cs2 (z_csU (owner := "NineBooks$Entries") (x := ⟨"NineBooks$Books", "length", "()I"⟩) ok_X2_length_B rec_X2_length_B rfl (Or.inl (z_gn 634 (by decide +kernel) rfl)) (z_g 632 (by decide +kernel) rfl) (z_g 636 (by decide +kernel) rfl) (z_g 635 (by decide +kernel) rfl) (z_g 637 (by decide +kernel) rfl) (z_g 45 (by decide +kernel) rfl) (z_g 633 (by decide +kernel) rfl) rfl rfl (by decide +kernel) ⟨by decide, by decide⟩)
  (z_cs2 (z_csU (owner := "NineBooks$Entries") (x := ⟨"NineBooks$Kings", "length", "()I"⟩) ok_X2_length_K rec_X2_length_K rfl (Or.inl (z_gn 634 (by decide +kernel) rfl)) (z_g 638 (by decide +kernel) rfl) (z_g 636 (by decide +kernel) rfl) (z_g 640 (by decide +kernel) rfl) (z_g 637 (by decide +kernel) rfl) (z_g 45 (by decide +kernel) rfl) (z_g 639 (by decide +kernel) rfl) rfl rfl (by decide +kernel) ⟨by decide, by decide⟩)
  (z_cs2 (z_csV ok_X1_size rec_X1_size rfl (z_g 641 (by decide +kernel) rfl) (z_g 642 (by decide +kernel) rfl) (z_g 643 (by decide +kernel) rfl) (z_g 644 (by decide +kernel) rfl) (z_g 48 (by decide +kernel) rfl) rfl rfl (by decide +kernel) ⟨by decide, by decide⟩)
  (z_cs2 (z_csV ok_X5_size rec_X5_size rfl (z_g 645 (by decide +kernel) rfl) (z_g 646 (by decide +kernel) rfl) (z_g 647 (by decide +kernel) rfl) (z_g 648 (by decide +kernel) rfl) (z_g 49 (by decide +kernel) rfl) rfl rfl (by decide +kernel) ⟨by decide, by decide⟩)
  (z_cs2 (z_csV (ok_X7_left T) (rec_X7_left T) rfl (z_g 419 (by decide +kernel) rfl) (z_g 382 (by decide +kernel) rfl) (z_g 383 (by decide +kernel) rfl) (z_g 384 (by decide +kernel) rfl) (z_g 44 (by decide +kernel) rfl) rfl rfl (by decide +kernel) ⟨by decide, by decide⟩)
  (z_cs2 (z_csV ok_X0_blanksOf rec_X0_blanksOf rfl (z_g 492 (by decide +kernel) rfl) (z_g 493 (by decide +kernel) rfl) (z_g 494 (by decide +kernel) rfl) (z_g 495 (by decide +kernel) rfl) (z_g 46 (by decide +kernel) rfl) rfl rfl (by decide +kernel) ⟨by decide, by decide⟩)
  (z_cs0))))))))
set_option maxHeartbeats 4000000 in
set_option maxRecDepth 20000 in
theorem pu_X7_count (T : ZT) {tl : List ZE} : z_Pure cX7_count 2 (z_shC tl) z_fX7 (cs_X7_count T) z_kcX7 z_klX7 (some .int) 0 (wp_X7_count T) := by
  intro as S post h
  unfold wp_X7_count at h
  split at h
  · rename_i w
    refine ⟨Nat.le_of_ble_eq_true rfl, fun K hK => ?_⟩
    change K 0 0 [some (.ref 0), some (.int w)] [] S
    obtain ⟨hC, hk⟩ := h
    obtain ⟨f5, f6, f7, f8, f9, f10⟩ := CR_nums hC
    refine hK (z_in []) 100 _ _ _ _ _ (Nat.zero_le _) ?_
    simp (config := { maxSteps := 10000000 }) only [z40, z20, z10, z01, zm0, z0m, ze_s, ze_ok, zt_s, zt_t, zt_f, zl_I, zl_J, zl_R, zl_N, zl_C, zl_K, zl_M, zl_ar0, zl_ar1, zl_ar2, zl_ar3, zl_as0, zl_as1, zl_as2, zl_al, zl_gf, zl_gr, zl_pf, zl_iv, zl_ivn, zlk_n, zlk_c, ztb_n, ztb_c, zin_n, zin_1, zin_c, Int.reduceLT, decide_true, decide_false, Bool.true_and, Bool.and_true, List.length_cons, List.length_nil, Int.reduceSub, Int.reduceEq, Int.natCast_zero, zk_s, z_in_n, z_in_c, z_gt_0, z_gt_s, zst_0, zst_1, zst_s, zsl_0, zsl_1, zsl_s, zc_n, zc_i, zc_l, zc_r, zc_u, zca_n, zca_i, zca_l, zca_r, zca_u, zrt_i, zrt_z, zrt_o, z_cal_0, z_cal_s, true_and, and_true, List.nil_append, List.cons_append, Option.toList_some, Option.toList_none, Nat.reduceAdd, Nat.reduceBEq, Nat.reduceLT, Nat.reduceLeDiff, Nat.reduceSub, Int.reduceAdd, Int.reduceLE, Int.reduceToNat, Int.cast_ofNat_Int, Bool.or_true, Bool.true_or, Bool.or_false, Bool.false_or, Nat.le_refl, Nat.zero_le, or_true, true_or, or_false, false_or, not_true_eq_false, not_false_eq_true, not_false_iff, false_implies, true_implies, eq_self, zo_iconst, zo_bipush, zo_sipush, zo_lconst, zo_ldc, zo_ldc_w, zo_ldc2_w, zo_iload_n, zo_iload, zo_lload_n, zo_lload, zo_aload_n, zo_aload, zo_istore_n, zo_istore, zo_lstore_n, zo_lstore, zo_astore_n, zo_astore, zo_iinc, zo_iadd, zo_isub, zo_imul, zo_iand, zo_ior, zo_ixor, zo_ishl, zo_ishr, zo_iushr, zo_idiv, zo_irem, zo_ladd, zo_lsub, zo_lmul, zo_ldiv, zo_lrem, zo_lcmp, zo_i2l, zo_i2b, zo_i2s, zo_dup, zo_dup2, zo_aconst_null, zo_if_icmp, zo_ifCond, zo_goto, zo_ifnull, zo_ifnonnull, zo_iaload, zo_baload, zo_laload, zo_aaload, zo_iastore, zo_bastore, zo_lastore, zo_arraylength, zo_getfield, zo_putfield, zo_tableswitch, zo_lookupswitch, zo_ireturn, zo_lreturn, zo_areturn, zo_return, zo_invokestatic, zo_invokevirtual, zo_new, zo_invokespecial, zo_newarray, zo_anewarray, zo_aastore, zy_0_1, zy_0_2, zy_0_3, zy_1_1, zy_1_2, zy_2_1, zy_2_2, zy_2_3, zy_3_0, zy_4_3, zy_5_1, zy_5_2, zy_6_5, zy_6_6, zy_6_7, zy_6_8, zy_6_9, zy_6_10, zy_7_2, zy_7_6, zy_7_9, zy_7_10, zy_7_11, zy_7_12, zy_7_14, zy_7_21, zy_7_30, zq_iconst, zq_bipush, zq_sipush, zq_lconst0, zq_lconst1, zq_ldc, zq_ldc_w, zq_ldc2_w, zq_iload0, zq_iload1, zq_iload2, zq_iload3, zq_iload, zq_lload0, zq_lload1, zq_lload2, zq_lload3, zq_lload, zq_aload0, zq_aload1, zq_aload2, zq_aload3, zq_aload, zq_istore0, zq_istore1, zq_istore2, zq_istore3, zq_istore, zq_lstore0, zq_lstore1, zq_lstore2, zq_lstore3, zq_lstore, zq_astore0, zq_astore0N, zq_astore1, zq_astore1N, zq_astore2, zq_astore2N, zq_astore3, zq_astore3N, zq_astore, zq_astoreN, zq_iinc, zq_iadd, zq_isub, zq_imul, zq_iand, zq_ior, zq_ixor, zq_ishl, zq_ishr, zq_iushr, zq_idiv, zq_irem, zq_ladd, zq_lsub, zq_lmul, zq_ldiv, zq_lrem, zq_lcmp, zq_i2l, zq_i2b, zq_i2s, zq_dup_i, zq_dup_r, zq_dup2, zq_null, zq_icmp_eq, zq_if_eq, zq_icmp_ne, zq_if_ne, zq_icmp_lt, zq_if_lt, zq_icmp_ge, zq_if_ge, zq_icmp_gt, zq_if_gt, zq_icmp_le, zq_if_le, zq_goto, zq_ifnull_r, zq_ifnull_n, zq_ifnonnull_r, zq_ifnonnull_n, zq_iaload, zq_baload, zq_laload, zq_aaload, zq_iastore, zq_bastore, zq_lastore, zq_alen, zq_getf, zq_put, zq_tsw, zq_lsw, zq_ireturn, zq_lreturn, zq_areturn, zq_areturnN, zq_return, zq_invokestatic, zq_invokevirtual, zq_new, zq_invokespecial, zq_newarray, zq_anewarray, zq_aastore, zi_m1, zi_0, zi_1, zi_2, zi_3, zi_4, zi_5, zi_6, zi_8, zi_16, zb_m10, zb_m4, zb_m3, zb_m2, zb_6, zb_7, zb_8, zb_9, zb_10, zb_16, zb_20, zb_23, zb_30, zb_32, zb_35, zb_46, zb_48, zb_56, zb_57, zb_59, zb_63, zb_70, zb_98, zb_99, zb_100, zb_111, zb_112, zs_192, zs_255, zs_256, zs_511, zs_512, zs_12345, zf_X7_10_0, zf_X7_19_0, zf_X7_26_0, zf_X7_33_0, zf_X7_39_0, zf_X7_43_0, zf_X7_47_0, zf_X7_50_0, zf_X7_53_0, zf_X7_56_0, zf_X7_59_0, zkc_X7_223, zkl_X7_313, zkl_X7_240, zkl_X7_305, za_C_2, za_C_3, za_C_4, za_C_5, za_C_6, za_C_8, za_C_9, za_C_10, za_C_12, za_C_14, za_C_15, za_C_16, za_C_17, za_C_22, za_C_23, za_C_24, za_C_25, dX7_count_0, dX7_count_1, dX7_count_52, dX7_count_53, dX7_count_56, dX7_count_59, dX7_count_60, dX7_count_61, dX7_count_64, dX7_count_67, dX7_count_68, dX7_count_69, dX7_count_72, dX7_count_75, dX7_count_76, dX7_count_77, dX7_count_80, dX7_count_83, dX7_count_84, dX7_count_85, dX7_count_88, dX7_count_91, dX7_count_92, dX7_count_93, dX7_count_96, dX7_count_97, dX7_count_100, dX7_count_101, dX7_count_102, dX7_count_103, dX7_count_106, dX7_count_109, dX7_count_110, dX7_count_111, dX7_count_114, dX7_count_115, dX7_count_118, dX7_count_121, dX7_count_122, dX7_count_123, dX7_count_126, dX7_count_127, dX7_count_129, cr_X7_count_87, cr_X7_count_202, cr_X7_count_234, cr_X7_count_237, cr_X7_count_238, cr_X7_count_239, cr_X7_count_144, cr_X7_count_179, wr_X2_number_B, wr_X2_number_K, wr_X2_length_B, wr_X2_length_K, wr_X1_size, wr_X5_size, wr_X7_left, wr_X0_blanksOf]
    rw [(CR_b hC).2.2.2.1, (CR_k hC).2.2.2.1, (CR_b hC).1, (CR_k hC).1, (CR_brn hC).2.1, (CR_sai hC).2.1, f8, f9, f10, nI_add]
    have iM : ∀ {M : Int32} {m : Int}, M.toInt = m → w.toInt = m → w = M := fun h h2 => by rw [i_eq, h2, h]
    refine ⟨fun c => ?_, fun c => ?_, fun c => ?_, fun c => ?_, fun c => ?_, fun c => ?_, fun c => ?_, fun c => ?_, fun c => ⟨hC, tx0 T, tL T, rfl, CR_x0 hC, CR_b hC, ?_⟩, fun c => ?_⟩
    · have g : q_count T w = -2 := by
        have nn : ∀ {M : Int32} {m : Int}, M.toInt = m → 0 ≤ m → m ≤ 8 → ¬ w = M := fun h h1 h2 e => by subst e; omega
        unfold q_count
        rw [if_neg (nn (M := 0) (m := 0) (by decide) (by decide) (by decide)), if_neg (nn (M := 1) (m := 1) (by decide) (by decide) (by decide)), if_neg (nn (M := 2) (m := 2) (by decide) (by decide) (by decide)), if_neg (nn (M := 3) (m := 3) (by decide) (by decide) (by decide)), if_neg (nn (M := 4) (m := 4) (by decide) (by decide) (by decide)), if_neg (nn (M := 5) (m := 5) (by decide) (by decide) (by decide)), if_neg (nn (M := 6) (m := 6) (by decide) (by decide) (by decide)), if_neg (nn (M := 7) (m := 7) (by decide) (by decide) (by decide)), if_neg (nn (M := 8) (m := 8) (by decide) (by decide) (by decide))]
      rw [g] at hk; exact hk
    · obtain rfl := iM (M := 0) (by decide) c; exact hk
    · obtain rfl := iM (M := 1) (by decide) c; exact hk
    · obtain rfl := iM (M := 2) (by decide) c; exact hk
    · obtain rfl := iM (M := 3) (by decide) c; exact hk
    · obtain rfl := iM (M := 4) (by decide) c; exact hk
    · obtain rfl := iM (M := 5) (by decide) c; exact hk
    · obtain rfl := iM (M := 6) (by decide) c; exact hk
    · obtain rfl := iM (M := 7) (by decide) c; rw [tL_mask]; exact hk
    · obtain rfl := iM (M := 8) (by decide) c; exact hk
  · exact h.elim
theorem ok_X7_count (T : ZT) {tl : List ZE} : z_Ok (z_shC tl) yX7_count cX7_count 2 (some .int) ({ frames := 3, cells := 0, slots := 0, locals := 67 } : Room) 0 (wp_X7_count T) := z_Ok_of (pu_X7_count T) z_fX7_ok z_kX7_ok (co_X7_count T) ⟨by decide, by decide⟩ (by decide +kernel)
theorem rec_X7_count (T : ZT) {tl : List ZE} : z_rec (z_shC tl) (wp_X7_count T) 6 := by
  intro as S post h
  unfold wp_X7_count at h
  split at h
  · exact ⟨_, _, _, rfl, rfl⟩
  · exact h.elim

