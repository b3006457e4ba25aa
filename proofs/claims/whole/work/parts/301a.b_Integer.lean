set_option maxRecDepth 4000 in
theorem jb_Integer_bitCount {E : jm_Env} {x0 : Int} {h : jm_H} {K : Int → jm_H → Prop} (H : K (jv_and (jm_w32 ((jm_w32 ((jv_and (jm_w32 ((jm_w32 ((jv_and (jm_w32 (x0 - (jv_and (jv_ushr x0 1) 1431655765))) 858993459) + (jv_and (jv_ushr (jm_w32 (x0 - (jv_and (jv_ushr x0 1) 1431655765))) 2) 858993459))) + (jv_ushr (jm_w32 ((jv_and (jm_w32 (x0 - (jv_and (jv_ushr x0 1) 1431655765))) 858993459) + (jv_and (jv_ushr (jm_w32 (x0 - (jv_and (jv_ushr x0 1) 1431655765))) 2) 858993459))) 4))) 252645135) + (jv_ushr (jv_and (jm_w32 ((jm_w32 ((jv_and (jm_w32 (x0 - (jv_and (jv_ushr x0 1) 1431655765))) 858993459) + (jv_and (jv_ushr (jm_w32 (x0 - (jv_and (jv_ushr x0 1) 1431655765))) 2) 858993459))) + (jv_ushr (jm_w32 ((jv_and (jm_w32 (x0 - (jv_and (jv_ushr x0 1) 1431655765))) 858993459) + (jv_and (jv_ushr (jm_w32 (x0 - (jv_and (jv_ushr x0 1) 1431655765))) 2) 858993459))) 4))) 252645135) 8))) + (jv_ushr (jm_w32 ((jv_and (jm_w32 ((jm_w32 ((jv_and (jm_w32 (x0 - (jv_and (jv_ushr x0 1) 1431655765))) 858993459) + (jv_and (jv_ushr (jm_w32 (x0 - (jv_and (jv_ushr x0 1) 1431655765))) 2) 858993459))) + (jv_ushr (jm_w32 ((jv_and (jm_w32 (x0 - (jv_and (jv_ushr x0 1) 1431655765))) 858993459) + (jv_and (jv_ushr (jm_w32 (x0 - (jv_and (jv_ushr x0 1) 1431655765))) 2) 858993459))) 4))) 252645135) + (jv_ushr (jv_and (jm_w32 ((jm_w32 ((jv_and (jm_w32 (x0 - (jv_and (jv_ushr x0 1) 1431655765))) 858993459) + (jv_and (jv_ushr (jm_w32 (x0 - (jv_and (jv_ushr x0 1) 1431655765))) 2) 858993459))) + (jv_ushr (jm_w32 ((jv_and (jm_w32 (x0 - (jv_and (jv_ushr x0 1) 1431655765))) 858993459) + (jv_and (jv_ushr (jm_w32 (x0 - (jv_and (jv_ushr x0 1) 1431655765))) 2) 858993459))) 4))) 252645135) 8))) 16))) 63) h) : jm_CI E jm_SH jm_m_Integer_bitCount 0 [jm_I x0] h K := by
  refine jm_body (ls0 := [some (jm_I x0)]) (by decide +kernel) rfl rfl (Nat.le_of_ble_eq_true rfl) ?_
  refine jm_iload_n jd_Integer_bitCount_0 rfl rfl ?_
  refine jm_iload_n jd_Integer_bitCount_1 rfl rfl ?_
  refine jm_iconst jd_Integer_bitCount_2 (jm_o32c rfl) ?_
  refine jm_iushr jd_Integer_bitCount_3 ?_
  refine jm_ldcw (x := 1431655765) jd_Integer_bitCount_4 jc_734 (jm_o32c rfl) ?_
  refine jm_iand jd_Integer_bitCount_7 ?_
  refine jm_isub jd_Integer_bitCount_8 ?_
  refine jm_istore_n (i := 0) jd_Integer_bitCount_9 rfl (by decide) (ls2 := [some (jm_I (jm_w32 (x0 - (jv_and (jv_ushr x0 1) 1431655765))))]) rfl ?_
  refine jm_iload_n jd_Integer_bitCount_10 rfl rfl ?_
  refine jm_ldcw (x := 858993459) jd_Integer_bitCount_11 jc_735 (jm_o32c rfl) ?_
  refine jm_iand jd_Integer_bitCount_14 ?_
  refine jm_iload_n jd_Integer_bitCount_15 rfl rfl ?_
  refine jm_iconst jd_Integer_bitCount_16 (jm_o32c rfl) ?_
  refine jm_iushr jd_Integer_bitCount_17 ?_
  refine jm_ldcw (x := 858993459) jd_Integer_bitCount_18 jc_735 (jm_o32c rfl) ?_
  refine jm_iand jd_Integer_bitCount_21 ?_
  refine jm_iadd jd_Integer_bitCount_22 ?_
  refine jm_istore_n (i := 0) jd_Integer_bitCount_23 rfl (by decide) (ls2 := [some (jm_I (jm_w32 ((jv_and (jm_w32 (x0 - (jv_and (jv_ushr x0 1) 1431655765))) 858993459) + (jv_and (jv_ushr (jm_w32 (x0 - (jv_and (jv_ushr x0 1) 1431655765))) 2) 858993459))))]) rfl ?_
  refine jm_iload_n jd_Integer_bitCount_24 rfl rfl ?_
  refine jm_iload_n jd_Integer_bitCount_25 rfl rfl ?_
  refine jm_iconst jd_Integer_bitCount_26 (jm_o32c rfl) ?_
  refine jm_iushr jd_Integer_bitCount_27 ?_
  refine jm_iadd jd_Integer_bitCount_28 ?_
  refine jm_ldcw (x := 252645135) jd_Integer_bitCount_29 jc_736 (jm_o32c rfl) ?_
  refine jm_iand jd_Integer_bitCount_32 ?_
  refine jm_istore_n (i := 0) jd_Integer_bitCount_33 rfl (by decide) (ls2 := [some (jm_I (jv_and (jm_w32 ((jm_w32 ((jv_and (jm_w32 (x0 - (jv_and (jv_ushr x0 1) 1431655765))) 858993459) + (jv_and (jv_ushr (jm_w32 (x0 - (jv_and (jv_ushr x0 1) 1431655765))) 2) 858993459))) + (jv_ushr (jm_w32 ((jv_and (jm_w32 (x0 - (jv_and (jv_ushr x0 1) 1431655765))) 858993459) + (jv_and (jv_ushr (jm_w32 (x0 - (jv_and (jv_ushr x0 1) 1431655765))) 2) 858993459))) 4))) 252645135))]) rfl ?_
  refine jm_iload_n jd_Integer_bitCount_34 rfl rfl ?_
  refine jm_iload_n jd_Integer_bitCount_35 rfl rfl ?_
  refine jm_bipush jd_Integer_bitCount_36 jb_8 ?_
  refine jm_iushr jd_Integer_bitCount_38 ?_
  refine jm_iadd jd_Integer_bitCount_39 ?_
  refine jm_istore_n (i := 0) jd_Integer_bitCount_40 rfl (by decide) (ls2 := [some (jm_I (jm_w32 ((jv_and (jm_w32 ((jm_w32 ((jv_and (jm_w32 (x0 - (jv_and (jv_ushr x0 1) 1431655765))) 858993459) + (jv_and (jv_ushr (jm_w32 (x0 - (jv_and (jv_ushr x0 1) 1431655765))) 2) 858993459))) + (jv_ushr (jm_w32 ((jv_and (jm_w32 (x0 - (jv_and (jv_ushr x0 1) 1431655765))) 858993459) + (jv_and (jv_ushr (jm_w32 (x0 - (jv_and (jv_ushr x0 1) 1431655765))) 2) 858993459))) 4))) 252645135) + (jv_ushr (jv_and (jm_w32 ((jm_w32 ((jv_and (jm_w32 (x0 - (jv_and (jv_ushr x0 1) 1431655765))) 858993459) + (jv_and (jv_ushr (jm_w32 (x0 - (jv_and (jv_ushr x0 1) 1431655765))) 2) 858993459))) + (jv_ushr (jm_w32 ((jv_and (jm_w32 (x0 - (jv_and (jv_ushr x0 1) 1431655765))) 858993459) + (jv_and (jv_ushr (jm_w32 (x0 - (jv_and (jv_ushr x0 1) 1431655765))) 2) 858993459))) 4))) 252645135) 8))))]) rfl ?_
  refine jm_iload_n jd_Integer_bitCount_41 rfl rfl ?_
  refine jm_iload_n jd_Integer_bitCount_42 rfl rfl ?_
  refine jm_bipush jd_Integer_bitCount_43 jb_16 ?_
  refine jm_iushr jd_Integer_bitCount_45 ?_
  refine jm_iadd jd_Integer_bitCount_46 ?_
  refine jm_istore_n (i := 0) jd_Integer_bitCount_47 rfl (by decide) (ls2 := [some (jm_I (jm_w32 ((jm_w32 ((jv_and (jm_w32 ((jm_w32 ((jv_and (jm_w32 (x0 - (jv_and (jv_ushr x0 1) 1431655765))) 858993459) + (jv_and (jv_ushr (jm_w32 (x0 - (jv_and (jv_ushr x0 1) 1431655765))) 2) 858993459))) + (jv_ushr (jm_w32 ((jv_and (jm_w32 (x0 - (jv_and (jv_ushr x0 1) 1431655765))) 858993459) + (jv_and (jv_ushr (jm_w32 (x0 - (jv_and (jv_ushr x0 1) 1431655765))) 2) 858993459))) 4))) 252645135) + (jv_ushr (jv_and (jm_w32 ((jm_w32 ((jv_and (jm_w32 (x0 - (jv_and (jv_ushr x0 1) 1431655765))) 858993459) + (jv_and (jv_ushr (jm_w32 (x0 - (jv_and (jv_ushr x0 1) 1431655765))) 2) 858993459))) + (jv_ushr (jm_w32 ((jv_and (jm_w32 (x0 - (jv_and (jv_ushr x0 1) 1431655765))) 858993459) + (jv_and (jv_ushr (jm_w32 (x0 - (jv_and (jv_ushr x0 1) 1431655765))) 2) 858993459))) 4))) 252645135) 8))) + (jv_ushr (jm_w32 ((jv_and (jm_w32 ((jm_w32 ((jv_and (jm_w32 (x0 - (jv_and (jv_ushr x0 1) 1431655765))) 858993459) + (jv_and (jv_ushr (jm_w32 (x0 - (jv_and (jv_ushr x0 1) 1431655765))) 2) 858993459))) + (jv_ushr (jm_w32 ((jv_and (jm_w32 (x0 - (jv_and (jv_ushr x0 1) 1431655765))) 858993459) + (jv_and (jv_ushr (jm_w32 (x0 - (jv_and (jv_ushr x0 1) 1431655765))) 2) 858993459))) 4))) 252645135) + (jv_ushr (jv_and (jm_w32 ((jm_w32 ((jv_and (jm_w32 (x0 - (jv_and (jv_ushr x0 1) 1431655765))) 858993459) + (jv_and (jv_ushr (jm_w32 (x0 - (jv_and (jv_ushr x0 1) 1431655765))) 2) 858993459))) + (jv_ushr (jm_w32 ((jv_and (jm_w32 (x0 - (jv_and (jv_ushr x0 1) 1431655765))) 858993459) + (jv_and (jv_ushr (jm_w32 (x0 - (jv_and (jv_ushr x0 1) 1431655765))) 2) 858993459))) 4))) 252645135) 8))) 16))))]) rfl ?_
  refine jm_iload_n jd_Integer_bitCount_48 rfl rfl ?_
  refine jm_bipush jd_Integer_bitCount_49 jb_63 ?_
  refine jm_iand jd_Integer_bitCount_51 ?_
  exact jm_ireturn jd_Integer_bitCount_52 rfl (by decide) ⟨rfl, _, rfl, H⟩
