section
noncomputable def tX2_enqueue : List zzOp := [
  zo_iload 1 1,
  zo_if (fun x => decide (x < 0)) 28 4,
  zo_none,
  zo_none,
  zo_iload 1 5,
  zo_pushI 60 7,
  zo_none,
  zo_icmp (fun x y => decide (y ≤ x)) 28 10,
  zo_none,
  zo_none,
  zo_aload 0 11,
  zo_getf zzSC (zz_kf [1, 2, 3, 4, 5, 6, 7] 11) 14,
  zo_none,
  zo_none,
  zo_pushI 60 16,
  zo_none,
  zo_icmp (fun x y => decide (y ≤ x)) 28 19,
  zo_none,
  zo_none,
  zo_aload 0 20,
  zo_getf zzSC (zz_kf [1, 2, 3, 4, 5, 6, 7] 7) 23,
  zo_none,
  zo_none,
  zo_iload 1 24,
  zo_zald zzSC 25,
  zo_if (fun x => decide (x = 0)) 29 28,
  zo_none,
  zo_none,
  zo_ret,
  zo_aload 0 30,
  zo_getf zzSC (zz_kf [1, 2, 3, 4, 5, 6, 7] 7) 33,
  zo_none,
  zo_none,
  zo_iload 1 34,
  zo_pushI 1 35,
  zo_zast zzSC 36,
  zo_aload 0 37,
  zo_getf zzSC (zz_kf [1, 2, 3, 4, 5, 6, 7] 6) 40,
  zo_none,
  zo_none,
  zo_aload 0 41,
  zo_getf zzSC (zz_kf [1, 2, 3, 4, 5, 6, 7] 11) 44,
  zo_none,
  zo_none,
  zo_iload 1 45,
  zo_iast zzSC 46,
  zo_aload 0 47,
  zo_dup 48,
  zo_getf zzSC (zz_kf [1, 2, 3, 4, 5, 6, 7] 11) 51,
  zo_none,
  zo_none,
  zo_pushI 1 52,
  zo_ii (fun x y => x + y) 53,
  zo_putf zzSC (zz_kf [1, 2, 3, 4, 5, 6, 7] 11) false 56,
  zo_none,
  zo_none,
  zo_ret]
set_option maxRecDepth 100000 in
theorem tl_X2_enqueue : ∀ pc, zz_Tl (tX2_enqueue.getD pc zo_none) := by
  refine zz_Tl_mem ?_
  unfold tX2_enqueue
  refine List.forall_mem_cons.mpr ⟨(zo_iload_tl _ _), ?_⟩
  refine List.forall_mem_cons.mpr ⟨(zo_if_tl _ _ _), ?_⟩
  refine List.forall_mem_cons.mpr ⟨zo_none_tl, ?_⟩
  refine List.forall_mem_cons.mpr ⟨zo_none_tl, ?_⟩
  refine List.forall_mem_cons.mpr ⟨(zo_iload_tl _ _), ?_⟩
  refine List.forall_mem_cons.mpr ⟨(zo_pushI_tl _ _), ?_⟩
  refine List.forall_mem_cons.mpr ⟨zo_none_tl, ?_⟩
  refine List.forall_mem_cons.mpr ⟨(zo_icmp_tl _ _ _), ?_⟩
  refine List.forall_mem_cons.mpr ⟨zo_none_tl, ?_⟩
  refine List.forall_mem_cons.mpr ⟨zo_none_tl, ?_⟩
  refine List.forall_mem_cons.mpr ⟨(zo_aload_tl _ _), ?_⟩
  refine List.forall_mem_cons.mpr ⟨(zo_getf_tl _ _ _), ?_⟩
  refine List.forall_mem_cons.mpr ⟨zo_none_tl, ?_⟩
  refine List.forall_mem_cons.mpr ⟨zo_none_tl, ?_⟩
  refine List.forall_mem_cons.mpr ⟨(zo_pushI_tl _ _), ?_⟩
  refine List.forall_mem_cons.mpr ⟨zo_none_tl, ?_⟩
  refine List.forall_mem_cons.mpr ⟨(zo_icmp_tl _ _ _), ?_⟩
  refine List.forall_mem_cons.mpr ⟨zo_none_tl, ?_⟩
  refine List.forall_mem_cons.mpr ⟨zo_none_tl, ?_⟩
  refine List.forall_mem_cons.mpr ⟨(zo_aload_tl _ _), ?_⟩
  refine List.forall_mem_cons.mpr ⟨(zo_getf_tl _ _ _), ?_⟩
  refine List.forall_mem_cons.mpr ⟨zo_none_tl, ?_⟩
  refine List.forall_mem_cons.mpr ⟨zo_none_tl, ?_⟩
  refine List.forall_mem_cons.mpr ⟨(zo_iload_tl _ _), ?_⟩
  refine List.forall_mem_cons.mpr ⟨(zo_zald_tl _ _), ?_⟩
  refine List.forall_mem_cons.mpr ⟨(zo_if_tl _ _ _), ?_⟩
  refine List.forall_mem_cons.mpr ⟨zo_none_tl, ?_⟩
  refine List.forall_mem_cons.mpr ⟨zo_none_tl, ?_⟩
  refine List.forall_mem_cons.mpr ⟨(zo_ret_tl), ?_⟩
  refine List.forall_mem_cons.mpr ⟨(zo_aload_tl _ _), ?_⟩
  refine List.forall_mem_cons.mpr ⟨(zo_getf_tl _ _ _), ?_⟩
  refine List.forall_mem_cons.mpr ⟨zo_none_tl, ?_⟩
  refine List.forall_mem_cons.mpr ⟨zo_none_tl, ?_⟩
  refine List.forall_mem_cons.mpr ⟨(zo_iload_tl _ _), ?_⟩
  refine List.forall_mem_cons.mpr ⟨(zo_pushI_tl _ _), ?_⟩
  refine List.forall_mem_cons.mpr ⟨(zo_zast_tl _ _), ?_⟩
  refine List.forall_mem_cons.mpr ⟨(zo_aload_tl _ _), ?_⟩
  refine List.forall_mem_cons.mpr ⟨(zo_getf_tl _ _ _), ?_⟩
  refine List.forall_mem_cons.mpr ⟨zo_none_tl, ?_⟩
  refine List.forall_mem_cons.mpr ⟨zo_none_tl, ?_⟩
  refine List.forall_mem_cons.mpr ⟨(zo_aload_tl _ _), ?_⟩
  refine List.forall_mem_cons.mpr ⟨(zo_getf_tl _ _ _), ?_⟩
  refine List.forall_mem_cons.mpr ⟨zo_none_tl, ?_⟩
  refine List.forall_mem_cons.mpr ⟨zo_none_tl, ?_⟩
  refine List.forall_mem_cons.mpr ⟨(zo_iload_tl _ _), ?_⟩
  refine List.forall_mem_cons.mpr ⟨(zo_iast_tl _ _), ?_⟩
  refine List.forall_mem_cons.mpr ⟨(zo_aload_tl _ _), ?_⟩
  refine List.forall_mem_cons.mpr ⟨(zo_dup_tl _), ?_⟩
  refine List.forall_mem_cons.mpr ⟨(zo_getf_tl _ _ _), ?_⟩
  refine List.forall_mem_cons.mpr ⟨zo_none_tl, ?_⟩
  refine List.forall_mem_cons.mpr ⟨zo_none_tl, ?_⟩
  refine List.forall_mem_cons.mpr ⟨(zo_pushI_tl _ _), ?_⟩
  refine List.forall_mem_cons.mpr ⟨(zo_ii_tl _ _), ?_⟩
  refine List.forall_mem_cons.mpr ⟨(zo_putf_tl _ _ _ _), ?_⟩
  refine List.forall_mem_cons.mpr ⟨zo_none_tl, ?_⟩
  refine List.forall_mem_cons.mpr ⟨zo_none_tl, ?_⟩
  refine List.forall_mem_cons.mpr ⟨(zo_ret_tl), ?_⟩
  exact fun _ h => absurd h List.not_mem_nil
noncomputable def fX2_enqueue : zzFn := zz_fn tX2_enqueue 2
set_option maxRecDepth 100000 in
set_option maxHeartbeats 4000000 in
theorem mm_X2_enqueue {l : Launch} {D : va_G} {cA : Nat → ClassId} {ad : Nat → Nat} {Ex : (Nat → Prop) → State → Heap → Prop} (Wd : zzWC l D cA ad Ex) : zz_Cn l D zzCl cA ad zzSC Ex yX2_enqueue cX2_enqueue 2 none 0 0 fX2_enqueue ∧ zz_Cx l D zzCl cA ad zzSC Ex yX2_enqueue cX2_enqueue 2 none 0 0 fX2_enqueue := by
  refine zz_meth (plainFor_of_name (by decide)) Wd.1 Wd.2.1 Wd.2.2.1 (fun p e R s m args below meth c rr X => ?_)
  unfold tX2_enqueue
  refine zz_cons (k' := 1) rfl (zk_iload_n X dX2_enqueue_0 rfl rfl) ?_
  refine zz_cons (k' := 2) rfl (zk_if_lt X dX2_enqueue_1 (by decide) rfl) ?_
  refine zz_cons (k' := 3) rfl (zz_Ok_none _ _) ?_
  refine zz_cons (k' := 4) rfl (zz_Ok_none _ _) ?_
  refine zz_cons (k' := 5) rfl (zk_iload_n X dX2_enqueue_4 rfl rfl) ?_
  refine zz_cons (k' := 6) rfl (zk_bipush X dX2_enqueue_5 (by decide) rfl) ?_
  refine zz_cons (k' := 7) rfl (zz_Ok_none _ _) ?_
  refine zz_cons (k' := 8) rfl (zk_icmp_ge X dX2_enqueue_7 (by decide) rfl) ?_
  refine zz_cons (k' := 9) rfl (zz_Ok_none _ _) ?_
  refine zz_cons (k' := 10) rfl (zz_Ok_none _ _) ?_
  refine zz_cons (k' := 11) rfl (zk_aload_n X dX2_enqueue_10 rfl rfl) ?_
  refine zz_cons (k' := 12) rfl (zk_getf X ff_X2_41 dX2_enqueue_11 rfl) ?_
  refine zz_cons (k' := 13) rfl (zz_Ok_none _ _) ?_
  refine zz_cons (k' := 14) rfl (zz_Ok_none _ _) ?_
  refine zz_cons (k' := 15) rfl (zk_bipush X dX2_enqueue_14 (by decide) rfl) ?_
  refine zz_cons (k' := 16) rfl (zz_Ok_none _ _) ?_
  refine zz_cons (k' := 17) rfl (zk_icmp_ge X dX2_enqueue_16 (by decide) rfl) ?_
  refine zz_cons (k' := 18) rfl (zz_Ok_none _ _) ?_
  refine zz_cons (k' := 19) rfl (zz_Ok_none _ _) ?_
  refine zz_cons (k' := 20) rfl (zk_aload_n X dX2_enqueue_19 rfl rfl) ?_
  refine zz_cons (k' := 21) rfl (zk_getf X ff_X2_28 dX2_enqueue_20 rfl) ?_
  refine zz_cons (k' := 22) rfl (zz_Ok_none _ _) ?_
  refine zz_cons (k' := 23) rfl (zz_Ok_none _ _) ?_
  refine zz_cons (k' := 24) rfl (zk_iload_n X dX2_enqueue_23 rfl rfl) ?_
  refine zz_cons (k' := 25) rfl (zk_zald X dX2_enqueue_24 rfl) ?_
  refine zz_cons (k' := 26) rfl (zk_if_eq X dX2_enqueue_25 (by decide) rfl) ?_
  refine zz_cons (k' := 27) rfl (zz_Ok_none _ _) ?_
  refine zz_cons (k' := 28) rfl (zz_Ok_none _ _) ?_
  refine zz_cons (k' := 29) rfl (zk_ret X rfl dX2_enqueue_28) ?_
  refine zz_cons (k' := 30) rfl (zk_aload_n X dX2_enqueue_29 rfl rfl) ?_
  refine zz_cons (k' := 31) rfl (zk_getf X ff_X2_28 dX2_enqueue_30 rfl) ?_
  refine zz_cons (k' := 32) rfl (zz_Ok_none _ _) ?_
  refine zz_cons (k' := 33) rfl (zz_Ok_none _ _) ?_
  refine zz_cons (k' := 34) rfl (zk_iload_n X dX2_enqueue_33 rfl rfl) ?_
  refine zz_cons (k' := 35) rfl (zk_iconst X dX2_enqueue_34 (by decide) rfl) ?_
  refine zz_cons (k' := 36) rfl (zk_zast X dX2_enqueue_35 rfl) ?_
  refine zz_cons (k' := 37) rfl (zk_aload_n X dX2_enqueue_36 rfl rfl) ?_
  refine zz_cons (k' := 38) rfl (zk_getf X ff_X2_25 dX2_enqueue_37 rfl) ?_
  refine zz_cons (k' := 39) rfl (zz_Ok_none _ _) ?_
  refine zz_cons (k' := 40) rfl (zz_Ok_none _ _) ?_
  refine zz_cons (k' := 41) rfl (zk_aload_n X dX2_enqueue_40 rfl rfl) ?_
  refine zz_cons (k' := 42) rfl (zk_getf X ff_X2_41 dX2_enqueue_41 rfl) ?_
  refine zz_cons (k' := 43) rfl (zz_Ok_none _ _) ?_
  refine zz_cons (k' := 44) rfl (zz_Ok_none _ _) ?_
  refine zz_cons (k' := 45) rfl (zk_iload_n X dX2_enqueue_44 rfl rfl) ?_
  refine zz_cons (k' := 46) rfl (zk_iast X dX2_enqueue_45 rfl) ?_
  refine zz_cons (k' := 47) rfl (zk_aload_n X dX2_enqueue_46 rfl rfl) ?_
  refine zz_cons (k' := 48) rfl (zk_dup X dX2_enqueue_47 rfl) ?_
  refine zz_cons (k' := 49) rfl (zk_getf X ff_X2_41 dX2_enqueue_48 rfl) ?_
  refine zz_cons (k' := 50) rfl (zz_Ok_none _ _) ?_
  refine zz_cons (k' := 51) rfl (zz_Ok_none _ _) ?_
  refine zz_cons (k' := 52) rfl (zk_iconst X dX2_enqueue_51 (by decide) rfl) ?_
  refine zz_cons (k' := 53) rfl (zk_iadd X dX2_enqueue_52 rfl) ?_
  refine zz_cons (k' := 54) rfl (zk_putf X ff_X2_41 fp_1_2_3_4_5_6_7_11 dX2_enqueue_53 rfl) ?_
  refine zz_cons (k' := 55) rfl (zz_Ok_none _ _) ?_
  refine zz_cons (k' := 56) rfl (zz_Ok_none _ _) ?_
  refine zz_cons (k' := 57) rfl (zk_ret X rfl dX2_enqueue_56) ?_
  exact trivial
noncomputable def tX1_queueOthers : List zzOp := [
  zo_aload 0 1,
  zo_iload 2 2,
  zo_callv zzSC (zz_cl [(1, fX2_enqueue)]) 1 5,
  zo_none,
  zo_none,
  zo_pushI 0 6,
  zo_istore 3 7,
  zo_iload 3 8,
  zo_aload 0 9,
  zo_getf zzSC (zz_kf [1] 2) 12,
  zo_none,
  zo_none,
  zo_icmp (fun x y => decide (y ≤ x)) 37 15,
  zo_none,
  zo_none,
  zo_aload 0 16,
  zo_iload 3 17,
  zo_pushI 24 19,
  zo_none,
  zo_callv zzSC (zz_cl [(1, fX10_read)]) 2 22,
  zo_none,
  zo_none,
  zo_iload 1 23,
  zo_icmp (fun x y => decide (¬ x = y)) 31 26,
  zo_none,
  zo_none,
  zo_aload 0 27,
  zo_iload 3 28,
  zo_callv zzSC (zz_cl [(1, fX2_enqueue)]) 1 31,
  zo_none,
  zo_none,
  zo_iinc 3 1 34,
  zo_none,
  zo_none,
  zo_goto 7,
  zo_none,
  zo_none,
  zo_ret]
set_option maxRecDepth 100000 in
theorem tl_X1_queueOthers : ∀ pc, zz_Tl (tX1_queueOthers.getD pc zo_none) := by
  refine zz_Tl_mem ?_
  unfold tX1_queueOthers
  refine List.forall_mem_cons.mpr ⟨(zo_aload_tl _ _), ?_⟩
  refine List.forall_mem_cons.mpr ⟨(zo_iload_tl _ _), ?_⟩
  refine List.forall_mem_cons.mpr ⟨(zo_callv_tl _ _ _ _), ?_⟩
  refine List.forall_mem_cons.mpr ⟨zo_none_tl, ?_⟩
  refine List.forall_mem_cons.mpr ⟨zo_none_tl, ?_⟩
  refine List.forall_mem_cons.mpr ⟨(zo_pushI_tl _ _), ?_⟩
  refine List.forall_mem_cons.mpr ⟨(zo_istore_tl _ _), ?_⟩
  refine List.forall_mem_cons.mpr ⟨(zo_iload_tl _ _), ?_⟩
  refine List.forall_mem_cons.mpr ⟨(zo_aload_tl _ _), ?_⟩
  refine List.forall_mem_cons.mpr ⟨(zo_getf_tl _ _ _), ?_⟩
  refine List.forall_mem_cons.mpr ⟨zo_none_tl, ?_⟩
  refine List.forall_mem_cons.mpr ⟨zo_none_tl, ?_⟩
  refine List.forall_mem_cons.mpr ⟨(zo_icmp_tl _ _ _), ?_⟩
  refine List.forall_mem_cons.mpr ⟨zo_none_tl, ?_⟩
  refine List.forall_mem_cons.mpr ⟨zo_none_tl, ?_⟩
  refine List.forall_mem_cons.mpr ⟨(zo_aload_tl _ _), ?_⟩
  refine List.forall_mem_cons.mpr ⟨(zo_iload_tl _ _), ?_⟩
  refine List.forall_mem_cons.mpr ⟨(zo_pushI_tl _ _), ?_⟩
  refine List.forall_mem_cons.mpr ⟨zo_none_tl, ?_⟩
  refine List.forall_mem_cons.mpr ⟨(zo_callv_tl _ _ _ _), ?_⟩
  refine List.forall_mem_cons.mpr ⟨zo_none_tl, ?_⟩
  refine List.forall_mem_cons.mpr ⟨zo_none_tl, ?_⟩
  refine List.forall_mem_cons.mpr ⟨(zo_iload_tl _ _), ?_⟩
  refine List.forall_mem_cons.mpr ⟨(zo_icmp_tl _ _ _), ?_⟩
  refine List.forall_mem_cons.mpr ⟨zo_none_tl, ?_⟩
  refine List.forall_mem_cons.mpr ⟨zo_none_tl, ?_⟩
  refine List.forall_mem_cons.mpr ⟨(zo_aload_tl _ _), ?_⟩
  refine List.forall_mem_cons.mpr ⟨(zo_iload_tl _ _), ?_⟩
  refine List.forall_mem_cons.mpr ⟨(zo_callv_tl _ _ _ _), ?_⟩
  refine List.forall_mem_cons.mpr ⟨zo_none_tl, ?_⟩
  refine List.forall_mem_cons.mpr ⟨zo_none_tl, ?_⟩
  refine List.forall_mem_cons.mpr ⟨(zo_iinc_tl _ _ _), ?_⟩
  refine List.forall_mem_cons.mpr ⟨zo_none_tl, ?_⟩
  refine List.forall_mem_cons.mpr ⟨zo_none_tl, ?_⟩
  refine List.forall_mem_cons.mpr ⟨(zo_goto_tl _), ?_⟩
  refine List.forall_mem_cons.mpr ⟨zo_none_tl, ?_⟩
  refine List.forall_mem_cons.mpr ⟨zo_none_tl, ?_⟩
  refine List.forall_mem_cons.mpr ⟨(zo_ret_tl), ?_⟩
  exact fun _ h => absurd h List.not_mem_nil
noncomputable def fX1_queueOthers : zzFn := zz_fn tX1_queueOthers 4
set_option maxRecDepth 100000 in
set_option maxHeartbeats 4000000 in
theorem mm_X1_queueOthers {l : Launch} {D : va_G} {cA : Nat → ClassId} {ad : Nat → Nat} {Ex : (Nat → Prop) → State → Heap → Prop} (Wd : zzWC l D cA ad Ex) : zz_Cn l D zzCl cA ad zzSC Ex yX1_queueOthers cX1_queueOthers 4 none 1 22 fX1_queueOthers ∧ zz_Cx l D zzCl cA ad zzSC Ex yX1_queueOthers cX1_queueOthers 4 none 1 22 fX1_queueOthers := by
  refine zz_meth (plainFor_of_name (by decide)) Wd.1 Wd.2.1 Wd.2.2.1 (fun p e R s m args below meth c rr X => ?_)
  unfold tX1_queueOthers
  refine zz_cons (k' := 1) rfl (zk_aload_n X dX1_queueOthers_0 rfl rfl) ?_
  refine zz_cons (k' := 2) rfl (zk_iload_n X dX1_queueOthers_1 rfl rfl) ?_
  refine zz_cons (k' := 3) rfl (zk_callv X (zz_Cv_of (List.forall_mem_cons.mpr ⟨⟨(RX_1, zzT1, 12), yX2_enqueue, cX2_enqueue, 2, none, 0, 0, rfl, kv_X1_9_1, (mm_X2_enqueue Wd).1, by decide, by decide⟩, (fun _ h => absurd h List.not_mem_nil)⟩)) dX1_queueOthers_2 rfl) ?_
  refine zz_cons (k' := 4) rfl (zz_Ok_none _ _) ?_
  refine zz_cons (k' := 5) rfl (zz_Ok_none _ _) ?_
  refine zz_cons (k' := 6) rfl (zk_iconst X dX1_queueOthers_5 (by decide) rfl) ?_
  refine zz_cons (k' := 7) rfl (zk_istore_n X dX1_queueOthers_6 rfl (by decide) rfl) ?_
  refine zz_cons (k' := 8) rfl (zk_iload_n X dX1_queueOthers_7 rfl rfl) ?_
  refine zz_cons (k' := 9) rfl (zk_aload_n X dX1_queueOthers_8 rfl rfl) ?_
  refine zz_cons (k' := 10) rfl (zk_getf X ff_X1_15 dX1_queueOthers_9 rfl) ?_
  refine zz_cons (k' := 11) rfl (zz_Ok_none _ _) ?_
  refine zz_cons (k' := 12) rfl (zz_Ok_none _ _) ?_
  refine zz_cons (k' := 13) rfl (zk_icmp_ge X dX1_queueOthers_12 (by decide) rfl) ?_
  refine zz_cons (k' := 14) rfl (zz_Ok_none _ _) ?_
  refine zz_cons (k' := 15) rfl (zz_Ok_none _ _) ?_
  refine zz_cons (k' := 16) rfl (zk_aload_n X dX1_queueOthers_15 rfl rfl) ?_
  refine zz_cons (k' := 17) rfl (zk_iload_n X dX1_queueOthers_16 rfl rfl) ?_
  refine zz_cons (k' := 18) rfl (zk_bipush X dX1_queueOthers_17 (by decide) rfl) ?_
  refine zz_cons (k' := 19) rfl (zz_Ok_none _ _) ?_
  refine zz_cons (k' := 20) rfl (zk_callv X (zz_Cv_of (List.forall_mem_cons.mpr ⟨⟨(RX_1, zzT1, 12), yX10_read, cX10_read, 3, (some .int), 0, 0, rfl, kv_X1_19_1, (mm_X10_read Wd).1, by decide, by decide⟩, (fun _ h => absurd h List.not_mem_nil)⟩)) dX1_queueOthers_19 rfl) ?_
  refine zz_cons (k' := 21) rfl (zz_Ok_none _ _) ?_
  refine zz_cons (k' := 22) rfl (zz_Ok_none _ _) ?_
  refine zz_cons (k' := 23) rfl (zk_iload_n X dX1_queueOthers_22 rfl rfl) ?_
  refine zz_cons (k' := 24) rfl (zk_icmp_ne X dX1_queueOthers_23 (by decide) rfl) ?_
  refine zz_cons (k' := 25) rfl (zz_Ok_none _ _) ?_
  refine zz_cons (k' := 26) rfl (zz_Ok_none _ _) ?_
  refine zz_cons (k' := 27) rfl (zk_aload_n X dX1_queueOthers_26 rfl rfl) ?_
  refine zz_cons (k' := 28) rfl (zk_iload_n X dX1_queueOthers_27 rfl rfl) ?_
  refine zz_cons (k' := 29) rfl (zk_callv X (zz_Cv_of (List.forall_mem_cons.mpr ⟨⟨(RX_1, zzT1, 12), yX2_enqueue, cX2_enqueue, 2, none, 0, 0, rfl, kv_X1_9_1, (mm_X2_enqueue Wd).1, by decide, by decide⟩, (fun _ h => absurd h List.not_mem_nil)⟩)) dX1_queueOthers_28 rfl) ?_
  refine zz_cons (k' := 30) rfl (zz_Ok_none _ _) ?_
  refine zz_cons (k' := 31) rfl (zz_Ok_none _ _) ?_
  refine zz_cons (k' := 32) rfl (zk_iinc X dX1_queueOthers_31 (by decide) (by decide) rfl) ?_
  refine zz_cons (k' := 33) rfl (zz_Ok_none _ _) ?_
  refine zz_cons (k' := 34) rfl (zz_Ok_none _ _) ?_
  refine zz_cons (k' := 35) rfl (zk_goto X dX1_queueOthers_34 (by decide)) ?_
  refine zz_cons (k' := 36) rfl (zz_Ok_none _ _) ?_
  refine zz_cons (k' := 37) rfl (zz_Ok_none _ _) ?_
  refine zz_cons (k' := 38) rfl (zk_ret X rfl dX1_queueOthers_37) ?_
  exact trivial
noncomputable def tX2_isUpToDate : List zzOp := [
  zo_aload 0 1,
  zo_iload 1 2,
  zo_callv zzSC (zz_cl [(1, fX10_latestOf), (2, fX10_latestOf), (3, fX10_latestOf), (4, fX10_latestOf), (5, fX10_latestOf), (6, fX10_latestOf), (7, fX10_latestOf)]) 1 5,
  zo_none,
  zo_none,
  zo_aload 0 6,
  zo_getf zzSC (zz_kf [1, 2, 3, 4, 5, 6, 7] 4) 9,
  zo_none,
  zo_none,
  zo_iload 1 10,
  zo_callv zzSC (zz_cl [(8, fX10_latestOf)]) 1 13,
  zo_none,
  zo_none,
  zo_icmp (fun x y => decide (¬ x = y)) 20 16,
  zo_none,
  zo_none,
  zo_pushI 1 17,
  zo_goto 21,
  zo_none,
  zo_none,
  zo_pushI 0 21,
  zo_iret true]
set_option maxRecDepth 100000 in
theorem tl_X2_isUpToDate : ∀ pc, zz_Tl (tX2_isUpToDate.getD pc zo_none) := by
  refine zz_Tl_mem ?_
  unfold tX2_isUpToDate
  refine List.forall_mem_cons.mpr ⟨(zo_aload_tl _ _), ?_⟩
  refine List.forall_mem_cons.mpr ⟨(zo_iload_tl _ _), ?_⟩
  refine List.forall_mem_cons.mpr ⟨(zo_callv_tl _ _ _ _), ?_⟩
  refine List.forall_mem_cons.mpr ⟨zo_none_tl, ?_⟩
  refine List.forall_mem_cons.mpr ⟨zo_none_tl, ?_⟩
  refine List.forall_mem_cons.mpr ⟨(zo_aload_tl _ _), ?_⟩
  refine List.forall_mem_cons.mpr ⟨(zo_getf_tl _ _ _), ?_⟩
  refine List.forall_mem_cons.mpr ⟨zo_none_tl, ?_⟩
  refine List.forall_mem_cons.mpr ⟨zo_none_tl, ?_⟩
  refine List.forall_mem_cons.mpr ⟨(zo_iload_tl _ _), ?_⟩
  refine List.forall_mem_cons.mpr ⟨(zo_callv_tl _ _ _ _), ?_⟩
  refine List.forall_mem_cons.mpr ⟨zo_none_tl, ?_⟩
  refine List.forall_mem_cons.mpr ⟨zo_none_tl, ?_⟩
  refine List.forall_mem_cons.mpr ⟨(zo_icmp_tl _ _ _), ?_⟩
  refine List.forall_mem_cons.mpr ⟨zo_none_tl, ?_⟩
  refine List.forall_mem_cons.mpr ⟨zo_none_tl, ?_⟩
  refine List.forall_mem_cons.mpr ⟨(zo_pushI_tl _ _), ?_⟩
  refine List.forall_mem_cons.mpr ⟨(zo_goto_tl _), ?_⟩
  refine List.forall_mem_cons.mpr ⟨zo_none_tl, ?_⟩
  refine List.forall_mem_cons.mpr ⟨zo_none_tl, ?_⟩
  refine List.forall_mem_cons.mpr ⟨(zo_pushI_tl _ _), ?_⟩
  refine List.forall_mem_cons.mpr ⟨(zo_iret_tl _), ?_⟩
  exact fun _ h => absurd h List.not_mem_nil
noncomputable def fX2_isUpToDate : zzFn := zz_fn tX2_isUpToDate 2
set_option maxRecDepth 100000 in
set_option maxHeartbeats 4000000 in
theorem mm_X2_isUpToDate {l : Launch} {D : va_G} {cA : Nat → ClassId} {ad : Nat → Nat} {Ex : (Nat → Prop) → State → Heap → Prop} (Wd : zzWC l D cA ad Ex) : zz_Cn l D zzCl cA ad zzSC Ex yX2_isUpToDate cX2_isUpToDate 2 (some .boolean) 1 21 fX2_isUpToDate ∧ zz_Cx l D zzCl cA ad zzSC Ex yX2_isUpToDate cX2_isUpToDate 2 (some .boolean) 1 21 fX2_isUpToDate := by
  refine zz_meth (plainFor_of_name (by decide)) Wd.1 Wd.2.1 Wd.2.2.1 (fun p e R s m args below meth c rr X => ?_)
  unfold tX2_isUpToDate
  refine zz_cons (k' := 1) rfl (zk_aload_n X dX2_isUpToDate_0 rfl rfl) ?_
  refine zz_cons (k' := 2) rfl (zk_iload_n X dX2_isUpToDate_1 rfl rfl) ?_
  refine zz_cons (k' := 3) rfl (zk_callv X (zz_Cv_of (List.forall_mem_cons.mpr ⟨⟨(RX_1, zzT1, 12), yX10_latestOf, cX10_latestOf, 2, (some .int), 0, 0, rfl, kv_X2_113_1, (mm_X10_latestOf Wd).1, by decide, by decide⟩, (List.forall_mem_cons.mpr ⟨⟨(RX_2, zzT2, 12), yX10_latestOf, cX10_latestOf, 2, (some .int), 0, 0, rfl, kv_X2_113_2, (mm_X10_latestOf Wd).1, by decide, by decide⟩, (List.forall_mem_cons.mpr ⟨⟨(RX_3, zzT3, 12), yX10_latestOf, cX10_latestOf, 2, (some .int), 0, 0, rfl, kv_X2_113_3, (mm_X10_latestOf Wd).1, by decide, by decide⟩, (List.forall_mem_cons.mpr ⟨⟨(RX_4, zzT4, 12), yX10_latestOf, cX10_latestOf, 2, (some .int), 0, 0, rfl, kv_X2_113_4, (mm_X10_latestOf Wd).1, by decide, by decide⟩, (List.forall_mem_cons.mpr ⟨⟨(RX_5, zzT5, 12), yX10_latestOf, cX10_latestOf, 2, (some .int), 0, 0, rfl, kv_X2_113_5, (mm_X10_latestOf Wd).1, by decide, by decide⟩, (List.forall_mem_cons.mpr ⟨⟨(RX_6, zzT6, 13), yX10_latestOf, cX10_latestOf, 2, (some .int), 0, 0, rfl, kv_X2_113_6, (mm_X10_latestOf Wd).1, by decide, by decide⟩, (List.forall_mem_cons.mpr ⟨⟨(RX_7, zzT7, 15), yX10_latestOf, cX10_latestOf, 2, (some .int), 0, 0, rfl, kv_X2_113_7, (mm_X10_latestOf Wd).1, by decide, by decide⟩, (fun _ h => absurd h List.not_mem_nil)⟩)⟩)⟩)⟩)⟩)⟩)⟩)) dX2_isUpToDate_2 rfl) ?_
  refine zz_cons (k' := 4) rfl (zz_Ok_none _ _) ?_
  refine zz_cons (k' := 5) rfl (zz_Ok_none _ _) ?_
  refine zz_cons (k' := 6) rfl (zk_aload_n X dX2_isUpToDate_5 rfl rfl) ?_
  refine zz_cons (k' := 7) rfl (zk_getf X ff_X2_15 dX2_isUpToDate_6 rfl) ?_
  refine zz_cons (k' := 8) rfl (zz_Ok_none _ _) ?_
  refine zz_cons (k' := 9) rfl (zz_Ok_none _ _) ?_
  refine zz_cons (k' := 10) rfl (zk_iload_n X dX2_isUpToDate_9 rfl rfl) ?_
  refine zz_cons (k' := 11) rfl (zk_callv X (zz_Cv_of (List.forall_mem_cons.mpr ⟨⟨(RX_8, zzT8, 9), yX10_latestOf, cX10_latestOf, 2, (some .int), 0, 0, rfl, kv_X2_116_8, (mm_X10_latestOf Wd).1, by decide, by decide⟩, (fun _ h => absurd h List.not_mem_nil)⟩)) dX2_isUpToDate_10 rfl) ?_
  refine zz_cons (k' := 12) rfl (zz_Ok_none _ _) ?_
  refine zz_cons (k' := 13) rfl (zz_Ok_none _ _) ?_
  refine zz_cons (k' := 14) rfl (zk_icmp_ne X dX2_isUpToDate_13 (by decide) rfl) ?_
  refine zz_cons (k' := 15) rfl (zz_Ok_none _ _) ?_
  refine zz_cons (k' := 16) rfl (zz_Ok_none _ _) ?_
  refine zz_cons (k' := 17) rfl (zk_iconst X dX2_isUpToDate_16 (by decide) rfl) ?_
  refine zz_cons (k' := 18) rfl (zk_goto X dX2_isUpToDate_17 (by decide)) ?_
  refine zz_cons (k' := 19) rfl (zz_Ok_none _ _) ?_
  refine zz_cons (k' := 20) rfl (zz_Ok_none _ _) ?_
  refine zz_cons (k' := 21) rfl (zk_iconst X dX2_isUpToDate_20 (by decide) rfl) ?_
  refine zz_cons (k' := 22) rfl (zk_iret X rfl dX2_isUpToDate_21) ?_
  exact trivial
noncomputable def tX2_remove : List zzOp := [
  zo_aload 0 1,
  zo_iload 1 2,
  zo_callv zzSC (zz_cl [(1, fX2_isUpToDate), (2, fX2_isUpToDate), (3, fX2_isUpToDate), (4, fX2_isUpToDate), (5, fX2_isUpToDate), (6, fX2_isUpToDate), (7, fX2_isUpToDate)]) 1 5,
  zo_none,
  zo_none,
  zo_if (fun x => decide (x = 0)) 24 8,
  zo_none,
  zo_none,
  zo_aload 0 9,
  zo_getf zzSC (zz_kf [1, 2, 3, 4, 5, 6, 7] 4) 12,
  zo_none,
  zo_none,
  zo_iload 1 13,
  zo_pushI 2 14,
  zo_callv zzSC (zz_cl [(8, fX9_startGoing)]) 2 17,
  zo_none,
  zo_none,
  zo_if (fun x => decide (x = 0)) 24 20,
  zo_none,
  zo_none,
  zo_pushI 1 21,
  zo_goto 25,
  zo_none,
  zo_none,
  zo_pushI 0 25,
  zo_iret true]
set_option maxRecDepth 100000 in
theorem tl_X2_remove : ∀ pc, zz_Tl (tX2_remove.getD pc zo_none) := by
  refine zz_Tl_mem ?_
  unfold tX2_remove
  refine List.forall_mem_cons.mpr ⟨(zo_aload_tl _ _), ?_⟩
  refine List.forall_mem_cons.mpr ⟨(zo_iload_tl _ _), ?_⟩
  refine List.forall_mem_cons.mpr ⟨(zo_callv_tl _ _ _ _), ?_⟩
  refine List.forall_mem_cons.mpr ⟨zo_none_tl, ?_⟩
  refine List.forall_mem_cons.mpr ⟨zo_none_tl, ?_⟩
  refine List.forall_mem_cons.mpr ⟨(zo_if_tl _ _ _), ?_⟩
  refine List.forall_mem_cons.mpr ⟨zo_none_tl, ?_⟩
  refine List.forall_mem_cons.mpr ⟨zo_none_tl, ?_⟩
  refine List.forall_mem_cons.mpr ⟨(zo_aload_tl _ _), ?_⟩
  refine List.forall_mem_cons.mpr ⟨(zo_getf_tl _ _ _), ?_⟩
  refine List.forall_mem_cons.mpr ⟨zo_none_tl, ?_⟩
  refine List.forall_mem_cons.mpr ⟨zo_none_tl, ?_⟩
  refine List.forall_mem_cons.mpr ⟨(zo_iload_tl _ _), ?_⟩
  refine List.forall_mem_cons.mpr ⟨(zo_pushI_tl _ _), ?_⟩
  refine List.forall_mem_cons.mpr ⟨(zo_callv_tl _ _ _ _), ?_⟩
  refine List.forall_mem_cons.mpr ⟨zo_none_tl, ?_⟩
  refine List.forall_mem_cons.mpr ⟨zo_none_tl, ?_⟩
  refine List.forall_mem_cons.mpr ⟨(zo_if_tl _ _ _), ?_⟩
  refine List.forall_mem_cons.mpr ⟨zo_none_tl, ?_⟩
  refine List.forall_mem_cons.mpr ⟨zo_none_tl, ?_⟩
  refine List.forall_mem_cons.mpr ⟨(zo_pushI_tl _ _), ?_⟩
  refine List.forall_mem_cons.mpr ⟨(zo_goto_tl _), ?_⟩
  refine List.forall_mem_cons.mpr ⟨zo_none_tl, ?_⟩
  refine List.forall_mem_cons.mpr ⟨zo_none_tl, ?_⟩
  refine List.forall_mem_cons.mpr ⟨(zo_pushI_tl _ _), ?_⟩
  refine List.forall_mem_cons.mpr ⟨(zo_iret_tl _), ?_⟩
  exact fun _ h => absurd h List.not_mem_nil
noncomputable def fX2_remove : zzFn := zz_fn tX2_remove 2
set_option maxRecDepth 100000 in
set_option maxHeartbeats 4000000 in
theorem mm_X2_remove {l : Launch} {D : va_G} {cA : Nat → ClassId} {ad : Nat → Nat} {Ex : (Nat → Prop) → State → Heap → Prop} (Wd : zzWC l D cA ad Ex) : zz_Cn l D zzCl cA ad zzSC Ex yX2_remove cX2_remove 2 (some .boolean) 3 69 fX2_remove ∧ zz_Cx l D zzCl cA ad zzSC Ex yX2_remove cX2_remove 2 (some .boolean) 3 69 fX2_remove := by
  refine zz_meth (plainFor_of_name (by decide)) Wd.1 Wd.2.1 Wd.2.2.1 (fun p e R s m args below meth c rr X => ?_)
  unfold tX2_remove
  refine zz_cons (k' := 1) rfl (zk_aload_n X dX2_remove_0 rfl rfl) ?_
  refine zz_cons (k' := 2) rfl (zk_iload_n X dX2_remove_1 rfl rfl) ?_
  refine zz_cons (k' := 3) rfl (zk_callv X (zz_Cv_of (List.forall_mem_cons.mpr ⟨⟨(RX_1, zzT1, 12), yX2_isUpToDate, cX2_isUpToDate, 2, (some .boolean), 1, 21, rfl, kv_X2_117_1, (mm_X2_isUpToDate Wd).1, by decide, by decide⟩, (List.forall_mem_cons.mpr ⟨⟨(RX_2, zzT2, 12), yX2_isUpToDate, cX2_isUpToDate, 2, (some .boolean), 1, 21, rfl, kv_X2_117_2, (mm_X2_isUpToDate Wd).1, by decide, by decide⟩, (List.forall_mem_cons.mpr ⟨⟨(RX_3, zzT3, 12), yX2_isUpToDate, cX2_isUpToDate, 2, (some .boolean), 1, 21, rfl, kv_X2_117_3, (mm_X2_isUpToDate Wd).1, by decide, by decide⟩, (List.forall_mem_cons.mpr ⟨⟨(RX_4, zzT4, 12), yX2_isUpToDate, cX2_isUpToDate, 2, (some .boolean), 1, 21, rfl, kv_X2_117_4, (mm_X2_isUpToDate Wd).1, by decide, by decide⟩, (List.forall_mem_cons.mpr ⟨⟨(RX_5, zzT5, 12), yX2_isUpToDate, cX2_isUpToDate, 2, (some .boolean), 1, 21, rfl, kv_X2_117_5, (mm_X2_isUpToDate Wd).1, by decide, by decide⟩, (List.forall_mem_cons.mpr ⟨⟨(RX_6, zzT6, 13), yX2_isUpToDate, cX2_isUpToDate, 2, (some .boolean), 1, 21, rfl, kv_X2_117_6, (mm_X2_isUpToDate Wd).1, by decide, by decide⟩, (List.forall_mem_cons.mpr ⟨⟨(RX_7, zzT7, 15), yX2_isUpToDate, cX2_isUpToDate, 2, (some .boolean), 1, 21, rfl, kv_X2_117_7, (mm_X2_isUpToDate Wd).1, by decide, by decide⟩, (fun _ h => absurd h List.not_mem_nil)⟩)⟩)⟩)⟩)⟩)⟩)⟩)) dX2_remove_2 rfl) ?_
  refine zz_cons (k' := 4) rfl (zz_Ok_none _ _) ?_
  refine zz_cons (k' := 5) rfl (zz_Ok_none _ _) ?_
  refine zz_cons (k' := 6) rfl (zk_if_eq X dX2_remove_5 (by decide) rfl) ?_
  refine zz_cons (k' := 7) rfl (zz_Ok_none _ _) ?_
  refine zz_cons (k' := 8) rfl (zz_Ok_none _ _) ?_
  refine zz_cons (k' := 9) rfl (zk_aload_n X dX2_remove_8 rfl rfl) ?_
  refine zz_cons (k' := 10) rfl (zk_getf X ff_X2_15 dX2_remove_9 rfl) ?_
  refine zz_cons (k' := 11) rfl (zz_Ok_none _ _) ?_
  refine zz_cons (k' := 12) rfl (zz_Ok_none _ _) ?_
  refine zz_cons (k' := 13) rfl (zk_iload_n X dX2_remove_12 rfl rfl) ?_
  refine zz_cons (k' := 14) rfl (zk_iconst X dX2_remove_13 (by decide) rfl) ?_
  refine zz_cons (k' := 15) rfl (zk_callv X (zz_Cv_of (List.forall_mem_cons.mpr ⟨⟨(RX_8, zzT8, 9), yX9_startGoing, cX9_startGoing, 3, (some .boolean), 2, 47, rfl, kv_X2_128_8.1, (mm_X9_startGoing Wd).1, by decide, by decide⟩, (fun _ h => absurd h List.not_mem_nil)⟩)) dX2_remove_14 rfl) ?_
  refine zz_cons (k' := 16) rfl (zz_Ok_none _ _) ?_
  refine zz_cons (k' := 17) rfl (zz_Ok_none _ _) ?_
  refine zz_cons (k' := 18) rfl (zk_if_eq X dX2_remove_17 (by decide) rfl) ?_
  refine zz_cons (k' := 19) rfl (zz_Ok_none _ _) ?_
  refine zz_cons (k' := 20) rfl (zz_Ok_none _ _) ?_
  refine zz_cons (k' := 21) rfl (zk_iconst X dX2_remove_20 (by decide) rfl) ?_
  refine zz_cons (k' := 22) rfl (zk_goto X dX2_remove_21 (by decide)) ?_
  refine zz_cons (k' := 23) rfl (zz_Ok_none _ _) ?_
  refine zz_cons (k' := 24) rfl (zz_Ok_none _ _) ?_
  refine zz_cons (k' := 25) rfl (zk_iconst X dX2_remove_24 (by decide) rfl) ?_
  refine zz_cons (k' := 26) rfl (zk_iret X rfl dX2_remove_25) ?_
  exact trivial
noncomputable def tX2_outcomeOf : List zzOp := [
  zo_iload 0 1,
  zo_if (fun x => decide (x = 0)) 8 4,
  zo_none,
  zo_none,
  zo_pushI 1 5,
  zo_goto 9,
  zo_none,
  zo_none,
  zo_pushI 3 9,
  zo_iret false]
set_option maxRecDepth 100000 in
theorem tl_X2_outcomeOf : ∀ pc, zz_Tl (tX2_outcomeOf.getD pc zo_none) := by
  refine zz_Tl_mem ?_
  unfold tX2_outcomeOf
  refine List.forall_mem_cons.mpr ⟨(zo_iload_tl _ _), ?_⟩
  refine List.forall_mem_cons.mpr ⟨(zo_if_tl _ _ _), ?_⟩
  refine List.forall_mem_cons.mpr ⟨zo_none_tl, ?_⟩
  refine List.forall_mem_cons.mpr ⟨zo_none_tl, ?_⟩
  refine List.forall_mem_cons.mpr ⟨(zo_pushI_tl _ _), ?_⟩
  refine List.forall_mem_cons.mpr ⟨(zo_goto_tl _), ?_⟩
  refine List.forall_mem_cons.mpr ⟨zo_none_tl, ?_⟩
  refine List.forall_mem_cons.mpr ⟨zo_none_tl, ?_⟩
  refine List.forall_mem_cons.mpr ⟨(zo_pushI_tl _ _), ?_⟩
  refine List.forall_mem_cons.mpr ⟨(zo_iret_tl _), ?_⟩
  exact fun _ h => absurd h List.not_mem_nil
noncomputable def fX2_outcomeOf : zzFn := zz_fn tX2_outcomeOf 1
set_option maxRecDepth 100000 in
set_option maxHeartbeats 4000000 in
theorem mm_X2_outcomeOf {l : Launch} {D : va_G} {cA : Nat → ClassId} {ad : Nat → Nat} {Ex : (Nat → Prop) → State → Heap → Prop} (Wd : zzWC l D cA ad Ex) : zz_Cn l D zzCl cA ad zzSC Ex yX2_outcomeOf cX2_outcomeOf 1 (some .int) 0 0 fX2_outcomeOf ∧ zz_Cx l D zzCl cA ad zzSC Ex yX2_outcomeOf cX2_outcomeOf 1 (some .int) 0 0 fX2_outcomeOf := by
  refine zz_meth (plainFor_of_name (by decide)) Wd.1 Wd.2.1 Wd.2.2.1 (fun p e R s m args below meth c rr X => ?_)
  unfold tX2_outcomeOf
  refine zz_cons (k' := 1) rfl (zk_iload_n X dX2_outcomeOf_0 rfl rfl) ?_
  refine zz_cons (k' := 2) rfl (zk_if_eq X dX2_outcomeOf_1 (by decide) rfl) ?_
  refine zz_cons (k' := 3) rfl (zz_Ok_none _ _) ?_
  refine zz_cons (k' := 4) rfl (zz_Ok_none _ _) ?_
  refine zz_cons (k' := 5) rfl (zk_iconst X dX2_outcomeOf_4 (by decide) rfl) ?_
  refine zz_cons (k' := 6) rfl (zk_goto X dX2_outcomeOf_5 (by decide)) ?_
  refine zz_cons (k' := 7) rfl (zz_Ok_none _ _) ?_
  refine zz_cons (k' := 8) rfl (zz_Ok_none _ _) ?_
  refine zz_cons (k' := 9) rfl (zk_iconst X dX2_outcomeOf_8 (by decide) rfl) ?_
  refine zz_cons (k' := 10) rfl (zk_iret X rfl dX2_outcomeOf_9) ?_
  exact trivial
noncomputable def tX1_ownsSome : List zzOp := [
  zo_pushI 0 1,
  zo_istore 2 2,
  zo_iload 2 3,
  zo_aload 0 4,
  zo_getf zzSC (zz_kf [1] 2) 7,
  zo_none,
  zo_none,
  zo_icmp (fun x y => decide (y ≤ x)) 29 10,
  zo_none,
  zo_none,
  zo_aload 0 11,
  zo_iload 2 12,
  zo_pushI 24 14,
  zo_none,
  zo_callv zzSC (zz_cl [(1, fX10_read)]) 2 17,
  zo_none,
  zo_none,
  zo_iload 1 18,
  zo_icmp (fun x y => decide (¬ x = y)) 23 21,
  zo_none,
  zo_none,
  zo_pushI 1 22,
  zo_iret true,
  zo_iinc 2 1 26,
  zo_none,
  zo_none,
  zo_goto 2,
  zo_none,
  zo_none,
  zo_pushI 0 30,
  zo_iret true]
set_option maxRecDepth 100000 in
theorem tl_X1_ownsSome : ∀ pc, zz_Tl (tX1_ownsSome.getD pc zo_none) := by
  refine zz_Tl_mem ?_
  unfold tX1_ownsSome
  refine List.forall_mem_cons.mpr ⟨(zo_pushI_tl _ _), ?_⟩
  refine List.forall_mem_cons.mpr ⟨(zo_istore_tl _ _), ?_⟩
  refine List.forall_mem_cons.mpr ⟨(zo_iload_tl _ _), ?_⟩
  refine List.forall_mem_cons.mpr ⟨(zo_aload_tl _ _), ?_⟩
  refine List.forall_mem_cons.mpr ⟨(zo_getf_tl _ _ _), ?_⟩
  refine List.forall_mem_cons.mpr ⟨zo_none_tl, ?_⟩
  refine List.forall_mem_cons.mpr ⟨zo_none_tl, ?_⟩
  refine List.forall_mem_cons.mpr ⟨(zo_icmp_tl _ _ _), ?_⟩
  refine List.forall_mem_cons.mpr ⟨zo_none_tl, ?_⟩
  refine List.forall_mem_cons.mpr ⟨zo_none_tl, ?_⟩
  refine List.forall_mem_cons.mpr ⟨(zo_aload_tl _ _), ?_⟩
  refine List.forall_mem_cons.mpr ⟨(zo_iload_tl _ _), ?_⟩
  refine List.forall_mem_cons.mpr ⟨(zo_pushI_tl _ _), ?_⟩
  refine List.forall_mem_cons.mpr ⟨zo_none_tl, ?_⟩
  refine List.forall_mem_cons.mpr ⟨(zo_callv_tl _ _ _ _), ?_⟩
  refine List.forall_mem_cons.mpr ⟨zo_none_tl, ?_⟩
  refine List.forall_mem_cons.mpr ⟨zo_none_tl, ?_⟩
  refine List.forall_mem_cons.mpr ⟨(zo_iload_tl _ _), ?_⟩
  refine List.forall_mem_cons.mpr ⟨(zo_icmp_tl _ _ _), ?_⟩
  refine List.forall_mem_cons.mpr ⟨zo_none_tl, ?_⟩
  refine List.forall_mem_cons.mpr ⟨zo_none_tl, ?_⟩
  refine List.forall_mem_cons.mpr ⟨(zo_pushI_tl _ _), ?_⟩
  refine List.forall_mem_cons.mpr ⟨(zo_iret_tl _), ?_⟩
  refine List.forall_mem_cons.mpr ⟨(zo_iinc_tl _ _ _), ?_⟩
  refine List.forall_mem_cons.mpr ⟨zo_none_tl, ?_⟩
  refine List.forall_mem_cons.mpr ⟨zo_none_tl, ?_⟩
  refine List.forall_mem_cons.mpr ⟨(zo_goto_tl _), ?_⟩
  refine List.forall_mem_cons.mpr ⟨zo_none_tl, ?_⟩
  refine List.forall_mem_cons.mpr ⟨zo_none_tl, ?_⟩
  refine List.forall_mem_cons.mpr ⟨(zo_pushI_tl _ _), ?_⟩
  refine List.forall_mem_cons.mpr ⟨(zo_iret_tl _), ?_⟩
  exact fun _ h => absurd h List.not_mem_nil
noncomputable def fX1_ownsSome : zzFn := zz_fn tX1_ownsSome 3
set_option maxRecDepth 100000 in
set_option maxHeartbeats 4000000 in
theorem mm_X1_ownsSome {l : Launch} {D : va_G} {cA : Nat → ClassId} {ad : Nat → Nat} {Ex : (Nat → Prop) → State → Heap → Prop} (Wd : zzWC l D cA ad Ex) : zz_Cn l D zzCl cA ad zzSC Ex yX1_ownsSome cX1_ownsSome 3 (some .boolean) 1 22 fX1_ownsSome ∧ zz_Cx l D zzCl cA ad zzSC Ex yX1_ownsSome cX1_ownsSome 3 (some .boolean) 1 22 fX1_ownsSome := by
  refine zz_meth (plainFor_of_name (by decide)) Wd.1 Wd.2.1 Wd.2.2.1 (fun p e R s m args below meth c rr X => ?_)
  unfold tX1_ownsSome
  refine zz_cons (k' := 1) rfl (zk_iconst X dX1_ownsSome_0 (by decide) rfl) ?_
  refine zz_cons (k' := 2) rfl (zk_istore_n X dX1_ownsSome_1 rfl (by decide) rfl) ?_
  refine zz_cons (k' := 3) rfl (zk_iload_n X dX1_ownsSome_2 rfl rfl) ?_
  refine zz_cons (k' := 4) rfl (zk_aload_n X dX1_ownsSome_3 rfl rfl) ?_
  refine zz_cons (k' := 5) rfl (zk_getf X ff_X1_15 dX1_ownsSome_4 rfl) ?_
  refine zz_cons (k' := 6) rfl (zz_Ok_none _ _) ?_
  refine zz_cons (k' := 7) rfl (zz_Ok_none _ _) ?_
  refine zz_cons (k' := 8) rfl (zk_icmp_ge X dX1_ownsSome_7 (by decide) rfl) ?_
  refine zz_cons (k' := 9) rfl (zz_Ok_none _ _) ?_
  refine zz_cons (k' := 10) rfl (zz_Ok_none _ _) ?_
  refine zz_cons (k' := 11) rfl (zk_aload_n X dX1_ownsSome_10 rfl rfl) ?_
  refine zz_cons (k' := 12) rfl (zk_iload_n X dX1_ownsSome_11 rfl rfl) ?_
  refine zz_cons (k' := 13) rfl (zk_bipush X dX1_ownsSome_12 (by decide) rfl) ?_
  refine zz_cons (k' := 14) rfl (zz_Ok_none _ _) ?_
  refine zz_cons (k' := 15) rfl (zk_callv X (zz_Cv_of (List.forall_mem_cons.mpr ⟨⟨(RX_1, zzT1, 12), yX10_read, cX10_read, 3, (some .int), 0, 0, rfl, kv_X1_19_1, (mm_X10_read Wd).1, by decide, by decide⟩, (fun _ h => absurd h List.not_mem_nil)⟩)) dX1_ownsSome_14 rfl) ?_
  refine zz_cons (k' := 16) rfl (zz_Ok_none _ _) ?_
  refine zz_cons (k' := 17) rfl (zz_Ok_none _ _) ?_
  refine zz_cons (k' := 18) rfl (zk_iload_n X dX1_ownsSome_17 rfl rfl) ?_
  refine zz_cons (k' := 19) rfl (zk_icmp_ne X dX1_ownsSome_18 (by decide) rfl) ?_
  refine zz_cons (k' := 20) rfl (zz_Ok_none _ _) ?_
  refine zz_cons (k' := 21) rfl (zz_Ok_none _ _) ?_
  refine zz_cons (k' := 22) rfl (zk_iconst X dX1_ownsSome_21 (by decide) rfl) ?_
  refine zz_cons (k' := 23) rfl (zk_iret X rfl dX1_ownsSome_22) ?_
  refine zz_cons (k' := 24) rfl (zk_iinc X dX1_ownsSome_23 (by decide) (by decide) rfl) ?_
  refine zz_cons (k' := 25) rfl (zz_Ok_none _ _) ?_
  refine zz_cons (k' := 26) rfl (zz_Ok_none _ _) ?_
  refine zz_cons (k' := 27) rfl (zk_goto X dX1_ownsSome_26 (by decide)) ?_
  refine zz_cons (k' := 28) rfl (zz_Ok_none _ _) ?_
  refine zz_cons (k' := 29) rfl (zz_Ok_none _ _) ?_
  refine zz_cons (k' := 30) rfl (zk_iconst X dX1_ownsSome_29 (by decide) rfl) ?_
  refine zz_cons (k' := 31) rfl (zk_iret X rfl dX1_ownsSome_30) ?_
  exact trivial
noncomputable def tX2_set : List zzOp := [
  zo_aload 0 1,
  zo_iload 1 2,
  zo_callv zzSC (zz_cl [(1, fX2_isUpToDate), (2, fX2_isUpToDate), (3, fX2_isUpToDate), (4, fX2_isUpToDate), (5, fX2_isUpToDate), (6, fX2_isUpToDate), (7, fX2_isUpToDate)]) 1 5,
  zo_none,
  zo_none,
  zo_if (fun x => decide (x = 0)) 25 8,
  zo_none,
  zo_none,
  zo_aload 0 9,
  zo_getf zzSC (zz_kf [1, 2, 3, 4, 5, 6, 7] 4) 12,
  zo_none,
  zo_none,
  zo_iload 1 13,
  zo_iload 2 14,
  zo_iload 3 15,
  zo_callv zzSC (zz_cl [(8, fX9_change)]) 3 18,
  zo_none,
  zo_none,
  zo_if (fun x => decide (x = 0)) 25 21,
  zo_none,
  zo_none,
  zo_pushI 1 22,
  zo_goto 26,
  zo_none,
  zo_none,
  zo_pushI 0 26,
  zo_iret true]
set_option maxRecDepth 100000 in
theorem tl_X2_set : ∀ pc, zz_Tl (tX2_set.getD pc zo_none) := by
  refine zz_Tl_mem ?_
  unfold tX2_set
  refine List.forall_mem_cons.mpr ⟨(zo_aload_tl _ _), ?_⟩
  refine List.forall_mem_cons.mpr ⟨(zo_iload_tl _ _), ?_⟩
  refine List.forall_mem_cons.mpr ⟨(zo_callv_tl _ _ _ _), ?_⟩
  refine List.forall_mem_cons.mpr ⟨zo_none_tl, ?_⟩
  refine List.forall_mem_cons.mpr ⟨zo_none_tl, ?_⟩
  refine List.forall_mem_cons.mpr ⟨(zo_if_tl _ _ _), ?_⟩
  refine List.forall_mem_cons.mpr ⟨zo_none_tl, ?_⟩
  refine List.forall_mem_cons.mpr ⟨zo_none_tl, ?_⟩
  refine List.forall_mem_cons.mpr ⟨(zo_aload_tl _ _), ?_⟩
  refine List.forall_mem_cons.mpr ⟨(zo_getf_tl _ _ _), ?_⟩
  refine List.forall_mem_cons.mpr ⟨zo_none_tl, ?_⟩
  refine List.forall_mem_cons.mpr ⟨zo_none_tl, ?_⟩
  refine List.forall_mem_cons.mpr ⟨(zo_iload_tl _ _), ?_⟩
  refine List.forall_mem_cons.mpr ⟨(zo_iload_tl _ _), ?_⟩
  refine List.forall_mem_cons.mpr ⟨(zo_iload_tl _ _), ?_⟩
  refine List.forall_mem_cons.mpr ⟨(zo_callv_tl _ _ _ _), ?_⟩
  refine List.forall_mem_cons.mpr ⟨zo_none_tl, ?_⟩
  refine List.forall_mem_cons.mpr ⟨zo_none_tl, ?_⟩
  refine List.forall_mem_cons.mpr ⟨(zo_if_tl _ _ _), ?_⟩
  refine List.forall_mem_cons.mpr ⟨zo_none_tl, ?_⟩
  refine List.forall_mem_cons.mpr ⟨zo_none_tl, ?_⟩
  refine List.forall_mem_cons.mpr ⟨(zo_pushI_tl _ _), ?_⟩
  refine List.forall_mem_cons.mpr ⟨(zo_goto_tl _), ?_⟩
  refine List.forall_mem_cons.mpr ⟨zo_none_tl, ?_⟩
  refine List.forall_mem_cons.mpr ⟨zo_none_tl, ?_⟩
  refine List.forall_mem_cons.mpr ⟨(zo_pushI_tl _ _), ?_⟩
  refine List.forall_mem_cons.mpr ⟨(zo_iret_tl _), ?_⟩
  exact fun _ h => absurd h List.not_mem_nil
noncomputable def fX2_set : zzFn := zz_fn tX2_set 4
set_option maxRecDepth 100000 in
set_option maxHeartbeats 4000000 in
theorem mm_X2_set {l : Launch} {D : va_G} {cA : Nat → ClassId} {ad : Nat → Nat} {Ex : (Nat → Prop) → State → Heap → Prop} (Wd : zzWC l D cA ad Ex) : zz_Cn l D zzCl cA ad zzSC Ex yX2_set cX2_set 4 (some .boolean) 3 70 fX2_set ∧ zz_Cx l D zzCl cA ad zzSC Ex yX2_set cX2_set 4 (some .boolean) 3 70 fX2_set := by
  refine zz_meth (plainFor_of_name (by decide)) Wd.1 Wd.2.1 Wd.2.2.1 (fun p e R s m args below meth c rr X => ?_)
  unfold tX2_set
  refine zz_cons (k' := 1) rfl (zk_aload_n X dX2_set_0 rfl rfl) ?_
  refine zz_cons (k' := 2) rfl (zk_iload_n X dX2_set_1 rfl rfl) ?_
  refine zz_cons (k' := 3) rfl (zk_callv X (zz_Cv_of (List.forall_mem_cons.mpr ⟨⟨(RX_1, zzT1, 12), yX2_isUpToDate, cX2_isUpToDate, 2, (some .boolean), 1, 21, rfl, kv_X2_117_1, (mm_X2_isUpToDate Wd).1, by decide, by decide⟩, (List.forall_mem_cons.mpr ⟨⟨(RX_2, zzT2, 12), yX2_isUpToDate, cX2_isUpToDate, 2, (some .boolean), 1, 21, rfl, kv_X2_117_2, (mm_X2_isUpToDate Wd).1, by decide, by decide⟩, (List.forall_mem_cons.mpr ⟨⟨(RX_3, zzT3, 12), yX2_isUpToDate, cX2_isUpToDate, 2, (some .boolean), 1, 21, rfl, kv_X2_117_3, (mm_X2_isUpToDate Wd).1, by decide, by decide⟩, (List.forall_mem_cons.mpr ⟨⟨(RX_4, zzT4, 12), yX2_isUpToDate, cX2_isUpToDate, 2, (some .boolean), 1, 21, rfl, kv_X2_117_4, (mm_X2_isUpToDate Wd).1, by decide, by decide⟩, (List.forall_mem_cons.mpr ⟨⟨(RX_5, zzT5, 12), yX2_isUpToDate, cX2_isUpToDate, 2, (some .boolean), 1, 21, rfl, kv_X2_117_5, (mm_X2_isUpToDate Wd).1, by decide, by decide⟩, (List.forall_mem_cons.mpr ⟨⟨(RX_6, zzT6, 13), yX2_isUpToDate, cX2_isUpToDate, 2, (some .boolean), 1, 21, rfl, kv_X2_117_6, (mm_X2_isUpToDate Wd).1, by decide, by decide⟩, (List.forall_mem_cons.mpr ⟨⟨(RX_7, zzT7, 15), yX2_isUpToDate, cX2_isUpToDate, 2, (some .boolean), 1, 21, rfl, kv_X2_117_7, (mm_X2_isUpToDate Wd).1, by decide, by decide⟩, (fun _ h => absurd h List.not_mem_nil)⟩)⟩)⟩)⟩)⟩)⟩)⟩)) dX2_set_2 rfl) ?_
  refine zz_cons (k' := 4) rfl (zz_Ok_none _ _) ?_
  refine zz_cons (k' := 5) rfl (zz_Ok_none _ _) ?_
  refine zz_cons (k' := 6) rfl (zk_if_eq X dX2_set_5 (by decide) rfl) ?_
  refine zz_cons (k' := 7) rfl (zz_Ok_none _ _) ?_
  refine zz_cons (k' := 8) rfl (zz_Ok_none _ _) ?_
  refine zz_cons (k' := 9) rfl (zk_aload_n X dX2_set_8 rfl rfl) ?_
  refine zz_cons (k' := 10) rfl (zk_getf X ff_X2_15 dX2_set_9 rfl) ?_
  refine zz_cons (k' := 11) rfl (zz_Ok_none _ _) ?_
  refine zz_cons (k' := 12) rfl (zz_Ok_none _ _) ?_
  refine zz_cons (k' := 13) rfl (zk_iload_n X dX2_set_12 rfl rfl) ?_
  refine zz_cons (k' := 14) rfl (zk_iload_n X dX2_set_13 rfl rfl) ?_
  refine zz_cons (k' := 15) rfl (zk_iload_n X dX2_set_14 rfl rfl) ?_
  refine zz_cons (k' := 16) rfl (zk_callv X (zz_Cv_of (List.forall_mem_cons.mpr ⟨⟨(RX_8, zzT8, 9), yX9_change, cX9_change, 4, (some .boolean), 2, 47, rfl, kv_X2_124_8.1, (mm_X9_change Wd).1, by decide, by decide⟩, (fun _ h => absurd h List.not_mem_nil)⟩)) dX2_set_15 rfl) ?_
  refine zz_cons (k' := 17) rfl (zz_Ok_none _ _) ?_
  refine zz_cons (k' := 18) rfl (zz_Ok_none _ _) ?_
  refine zz_cons (k' := 19) rfl (zk_if_eq X dX2_set_18 (by decide) rfl) ?_
  refine zz_cons (k' := 20) rfl (zz_Ok_none _ _) ?_
  refine zz_cons (k' := 21) rfl (zz_Ok_none _ _) ?_
  refine zz_cons (k' := 22) rfl (zk_iconst X dX2_set_21 (by decide) rfl) ?_
  refine zz_cons (k' := 23) rfl (zk_goto X dX2_set_22 (by decide)) ?_
  refine zz_cons (k' := 24) rfl (zz_Ok_none _ _) ?_
  refine zz_cons (k' := 25) rfl (zz_Ok_none _ _) ?_
  refine zz_cons (k' := 26) rfl (zk_iconst X dX2_set_25 (by decide) rfl) ?_
  refine zz_cons (k' := 27) rfl (zk_iret X rfl dX2_set_26) ?_
  exact trivial
noncomputable def tX1_deleteOwned : List zzOp := [
  zo_pushI 0 1,
  zo_istore 2 2,
  zo_iload 2 3,
  zo_aload 0 4,
  zo_getf zzSC (zz_kf [1] 2) 7,
  zo_none,
  zo_none,
  zo_icmp (fun x y => decide (y ≤ x)) 60 10,
  zo_none,
  zo_none,
  zo_aload 0 11,
  zo_iload 2 12,
  zo_pushI 24 14,
  zo_none,
  zo_callv zzSC (zz_cl [(1, fX10_read)]) 2 17,
  zo_none,
  zo_none,
  zo_iload 1 18,
  zo_icmp (fun x y => decide (¬ x = y)) 35 21,
  zo_none,
  zo_none,
  zo_aload 0 22,
  zo_iload 2 23,
  zo_pushI 25 25,
  zo_none,
  zo_callv zzSC (zz_cl [(1, fX10_read)]) 2 28,
  zo_none,
  zo_none,
  zo_if (fun x => decide (¬ x = 0)) 35 31,
  zo_none,
  zo_none,
  zo_pushI 1 32,
  zo_goto 36,
  zo_none,
  zo_none,
  zo_pushI 0 36,
  zo_istore 3 37,
  zo_iload 3 38,
  zo_if (fun x => decide (x = 0)) 54 41,
  zo_none,
  zo_none,
  zo_aload 0 42,
  zo_iload 2 43,
  zo_pushI 25 45,
  zo_none,
  zo_pushI 1 46,
  zo_callv zzSC (zz_cl [(1, fX2_set)]) 3 49,
  zo_none,
  zo_none,
  zo_if (fun x => decide (¬ x = 0)) 54 52,
  zo_none,
  zo_none,
  zo_pushI 0 53,
  zo_iret true,
  zo_iinc 2 1 57,
  zo_none,
  zo_none,
  zo_goto 2,
  zo_none,
  zo_none,
  zo_pushI 1 61,
  zo_iret true]
set_option maxRecDepth 100000 in
theorem tl_X1_deleteOwned : ∀ pc, zz_Tl (tX1_deleteOwned.getD pc zo_none) := by
  refine zz_Tl_mem ?_
  unfold tX1_deleteOwned
  refine List.forall_mem_cons.mpr ⟨(zo_pushI_tl _ _), ?_⟩
  refine List.forall_mem_cons.mpr ⟨(zo_istore_tl _ _), ?_⟩
  refine List.forall_mem_cons.mpr ⟨(zo_iload_tl _ _), ?_⟩
  refine List.forall_mem_cons.mpr ⟨(zo_aload_tl _ _), ?_⟩
  refine List.forall_mem_cons.mpr ⟨(zo_getf_tl _ _ _), ?_⟩
  refine List.forall_mem_cons.mpr ⟨zo_none_tl, ?_⟩
  refine List.forall_mem_cons.mpr ⟨zo_none_tl, ?_⟩
  refine List.forall_mem_cons.mpr ⟨(zo_icmp_tl _ _ _), ?_⟩
  refine List.forall_mem_cons.mpr ⟨zo_none_tl, ?_⟩
  refine List.forall_mem_cons.mpr ⟨zo_none_tl, ?_⟩
  refine List.forall_mem_cons.mpr ⟨(zo_aload_tl _ _), ?_⟩
  refine List.forall_mem_cons.mpr ⟨(zo_iload_tl _ _), ?_⟩
  refine List.forall_mem_cons.mpr ⟨(zo_pushI_tl _ _), ?_⟩
  refine List.forall_mem_cons.mpr ⟨zo_none_tl, ?_⟩
  refine List.forall_mem_cons.mpr ⟨(zo_callv_tl _ _ _ _), ?_⟩
  refine List.forall_mem_cons.mpr ⟨zo_none_tl, ?_⟩
  refine List.forall_mem_cons.mpr ⟨zo_none_tl, ?_⟩
  refine List.forall_mem_cons.mpr ⟨(zo_iload_tl _ _), ?_⟩
  refine List.forall_mem_cons.mpr ⟨(zo_icmp_tl _ _ _), ?_⟩
  refine List.forall_mem_cons.mpr ⟨zo_none_tl, ?_⟩
  refine List.forall_mem_cons.mpr ⟨zo_none_tl, ?_⟩
  refine List.forall_mem_cons.mpr ⟨(zo_aload_tl _ _), ?_⟩
  refine List.forall_mem_cons.mpr ⟨(zo_iload_tl _ _), ?_⟩
  refine List.forall_mem_cons.mpr ⟨(zo_pushI_tl _ _), ?_⟩
  refine List.forall_mem_cons.mpr ⟨zo_none_tl, ?_⟩
  refine List.forall_mem_cons.mpr ⟨(zo_callv_tl _ _ _ _), ?_⟩
  refine List.forall_mem_cons.mpr ⟨zo_none_tl, ?_⟩
  refine List.forall_mem_cons.mpr ⟨zo_none_tl, ?_⟩
  refine List.forall_mem_cons.mpr ⟨(zo_if_tl _ _ _), ?_⟩
  refine List.forall_mem_cons.mpr ⟨zo_none_tl, ?_⟩
  refine List.forall_mem_cons.mpr ⟨zo_none_tl, ?_⟩
  refine List.forall_mem_cons.mpr ⟨(zo_pushI_tl _ _), ?_⟩
  refine List.forall_mem_cons.mpr ⟨(zo_goto_tl _), ?_⟩
  refine List.forall_mem_cons.mpr ⟨zo_none_tl, ?_⟩
  refine List.forall_mem_cons.mpr ⟨zo_none_tl, ?_⟩
  refine List.forall_mem_cons.mpr ⟨(zo_pushI_tl _ _), ?_⟩
  refine List.forall_mem_cons.mpr ⟨(zo_istore_tl _ _), ?_⟩
  refine List.forall_mem_cons.mpr ⟨(zo_iload_tl _ _), ?_⟩
  refine List.forall_mem_cons.mpr ⟨(zo_if_tl _ _ _), ?_⟩
  refine List.forall_mem_cons.mpr ⟨zo_none_tl, ?_⟩
  refine List.forall_mem_cons.mpr ⟨zo_none_tl, ?_⟩
  refine List.forall_mem_cons.mpr ⟨(zo_aload_tl _ _), ?_⟩
  refine List.forall_mem_cons.mpr ⟨(zo_iload_tl _ _), ?_⟩
  refine List.forall_mem_cons.mpr ⟨(zo_pushI_tl _ _), ?_⟩
  refine List.forall_mem_cons.mpr ⟨zo_none_tl, ?_⟩
  refine List.forall_mem_cons.mpr ⟨(zo_pushI_tl _ _), ?_⟩
  refine List.forall_mem_cons.mpr ⟨(zo_callv_tl _ _ _ _), ?_⟩
  refine List.forall_mem_cons.mpr ⟨zo_none_tl, ?_⟩
  refine List.forall_mem_cons.mpr ⟨zo_none_tl, ?_⟩
  refine List.forall_mem_cons.mpr ⟨(zo_if_tl _ _ _), ?_⟩
  refine List.forall_mem_cons.mpr ⟨zo_none_tl, ?_⟩
  refine List.forall_mem_cons.mpr ⟨zo_none_tl, ?_⟩
  refine List.forall_mem_cons.mpr ⟨(zo_pushI_tl _ _), ?_⟩
  refine List.forall_mem_cons.mpr ⟨(zo_iret_tl _), ?_⟩
  refine List.forall_mem_cons.mpr ⟨(zo_iinc_tl _ _ _), ?_⟩
  refine List.forall_mem_cons.mpr ⟨zo_none_tl, ?_⟩
  refine List.forall_mem_cons.mpr ⟨zo_none_tl, ?_⟩
  refine List.forall_mem_cons.mpr ⟨(zo_goto_tl _), ?_⟩
  refine List.forall_mem_cons.mpr ⟨zo_none_tl, ?_⟩
  refine List.forall_mem_cons.mpr ⟨zo_none_tl, ?_⟩
  refine List.forall_mem_cons.mpr ⟨(zo_pushI_tl _ _), ?_⟩
  refine List.forall_mem_cons.mpr ⟨(zo_iret_tl _), ?_⟩
  exact fun _ h => absurd h List.not_mem_nil
noncomputable def fX1_deleteOwned : zzFn := zz_fn tX1_deleteOwned 4
set_option maxRecDepth 100000 in
set_option maxHeartbeats 4000000 in
theorem mm_X1_deleteOwned {l : Launch} {D : va_G} {cA : Nat → ClassId} {ad : Nat → Nat} {Ex : (Nat → Prop) → State → Heap → Prop} (Wd : zzWC l D cA ad Ex) : zz_Cn l D zzCl cA ad zzSC Ex yX1_deleteOwned cX1_deleteOwned 4 (some .boolean) 4 93 fX1_deleteOwned ∧ zz_Cx l D zzCl cA ad zzSC Ex yX1_deleteOwned cX1_deleteOwned 4 (some .boolean) 4 93 fX1_deleteOwned := by
  refine zz_meth (plainFor_of_name (by decide)) Wd.1 Wd.2.1 Wd.2.2.1 (fun p e R s m args below meth c rr X => ?_)
  unfold tX1_deleteOwned
  refine zz_cons (k' := 1) rfl (zk_iconst X dX1_deleteOwned_0 (by decide) rfl) ?_
  refine zz_cons (k' := 2) rfl (zk_istore_n X dX1_deleteOwned_1 rfl (by decide) rfl) ?_
  refine zz_cons (k' := 3) rfl (zk_iload_n X dX1_deleteOwned_2 rfl rfl) ?_
  refine zz_cons (k' := 4) rfl (zk_aload_n X dX1_deleteOwned_3 rfl rfl) ?_
  refine zz_cons (k' := 5) rfl (zk_getf X ff_X1_15 dX1_deleteOwned_4 rfl) ?_
  refine zz_cons (k' := 6) rfl (zz_Ok_none _ _) ?_
  refine zz_cons (k' := 7) rfl (zz_Ok_none _ _) ?_
  refine zz_cons (k' := 8) rfl (zk_icmp_ge X dX1_deleteOwned_7 (by decide) rfl) ?_
  refine zz_cons (k' := 9) rfl (zz_Ok_none _ _) ?_
  refine zz_cons (k' := 10) rfl (zz_Ok_none _ _) ?_
  refine zz_cons (k' := 11) rfl (zk_aload_n X dX1_deleteOwned_10 rfl rfl) ?_
  refine zz_cons (k' := 12) rfl (zk_iload_n X dX1_deleteOwned_11 rfl rfl) ?_
  refine zz_cons (k' := 13) rfl (zk_bipush X dX1_deleteOwned_12 (by decide) rfl) ?_
  refine zz_cons (k' := 14) rfl (zz_Ok_none _ _) ?_
  refine zz_cons (k' := 15) rfl (zk_callv X (zz_Cv_of (List.forall_mem_cons.mpr ⟨⟨(RX_1, zzT1, 12), yX10_read, cX10_read, 3, (some .int), 0, 0, rfl, kv_X1_19_1, (mm_X10_read Wd).1, by decide, by decide⟩, (fun _ h => absurd h List.not_mem_nil)⟩)) dX1_deleteOwned_14 rfl) ?_
  refine zz_cons (k' := 16) rfl (zz_Ok_none _ _) ?_
  refine zz_cons (k' := 17) rfl (zz_Ok_none _ _) ?_
  refine zz_cons (k' := 18) rfl (zk_iload_n X dX1_deleteOwned_17 rfl rfl) ?_
  refine zz_cons (k' := 19) rfl (zk_icmp_ne X dX1_deleteOwned_18 (by decide) rfl) ?_
  refine zz_cons (k' := 20) rfl (zz_Ok_none _ _) ?_
  refine zz_cons (k' := 21) rfl (zz_Ok_none _ _) ?_
  refine zz_cons (k' := 22) rfl (zk_aload_n X dX1_deleteOwned_21 rfl rfl) ?_
  refine zz_cons (k' := 23) rfl (zk_iload_n X dX1_deleteOwned_22 rfl rfl) ?_
  refine zz_cons (k' := 24) rfl (zk_bipush X dX1_deleteOwned_23 (by decide) rfl) ?_
  refine zz_cons (k' := 25) rfl (zz_Ok_none _ _) ?_
  refine zz_cons (k' := 26) rfl (zk_callv X (zz_Cv_of (List.forall_mem_cons.mpr ⟨⟨(RX_1, zzT1, 12), yX10_read, cX10_read, 3, (some .int), 0, 0, rfl, kv_X1_19_1, (mm_X10_read Wd).1, by decide, by decide⟩, (fun _ h => absurd h List.not_mem_nil)⟩)) dX1_deleteOwned_25 rfl) ?_
  refine zz_cons (k' := 27) rfl (zz_Ok_none _ _) ?_
  refine zz_cons (k' := 28) rfl (zz_Ok_none _ _) ?_
  refine zz_cons (k' := 29) rfl (zk_if_ne X dX1_deleteOwned_28 (by decide) rfl) ?_
  refine zz_cons (k' := 30) rfl (zz_Ok_none _ _) ?_
  refine zz_cons (k' := 31) rfl (zz_Ok_none _ _) ?_
  refine zz_cons (k' := 32) rfl (zk_iconst X dX1_deleteOwned_31 (by decide) rfl) ?_
  refine zz_cons (k' := 33) rfl (zk_goto X dX1_deleteOwned_32 (by decide)) ?_
  refine zz_cons (k' := 34) rfl (zz_Ok_none _ _) ?_
  refine zz_cons (k' := 35) rfl (zz_Ok_none _ _) ?_
  refine zz_cons (k' := 36) rfl (zk_iconst X dX1_deleteOwned_35 (by decide) rfl) ?_
  refine zz_cons (k' := 37) rfl (zk_istore_n X dX1_deleteOwned_36 rfl (by decide) rfl) ?_
  refine zz_cons (k' := 38) rfl (zk_iload_n X dX1_deleteOwned_37 rfl rfl) ?_
  refine zz_cons (k' := 39) rfl (zk_if_eq X dX1_deleteOwned_38 (by decide) rfl) ?_
  refine zz_cons (k' := 40) rfl (zz_Ok_none _ _) ?_
  refine zz_cons (k' := 41) rfl (zz_Ok_none _ _) ?_
  refine zz_cons (k' := 42) rfl (zk_aload_n X dX1_deleteOwned_41 rfl rfl) ?_
  refine zz_cons (k' := 43) rfl (zk_iload_n X dX1_deleteOwned_42 rfl rfl) ?_
  refine zz_cons (k' := 44) rfl (zk_bipush X dX1_deleteOwned_43 (by decide) rfl) ?_
  refine zz_cons (k' := 45) rfl (zz_Ok_none _ _) ?_
  refine zz_cons (k' := 46) rfl (zk_iconst X dX1_deleteOwned_45 (by decide) rfl) ?_
  refine zz_cons (k' := 47) rfl (zk_callv X (zz_Cv_of (List.forall_mem_cons.mpr ⟨⟨(RX_1, zzT1, 12), yX2_set, cX2_set, 4, (some .boolean), 3, 70, rfl, kv_X1_46_1, (mm_X2_set Wd).1, by decide, by decide⟩, (fun _ h => absurd h List.not_mem_nil)⟩)) dX1_deleteOwned_46 rfl) ?_
  refine zz_cons (k' := 48) rfl (zz_Ok_none _ _) ?_
  refine zz_cons (k' := 49) rfl (zz_Ok_none _ _) ?_
  refine zz_cons (k' := 50) rfl (zk_if_ne X dX1_deleteOwned_49 (by decide) rfl) ?_
  refine zz_cons (k' := 51) rfl (zz_Ok_none _ _) ?_
  refine zz_cons (k' := 52) rfl (zz_Ok_none _ _) ?_
  refine zz_cons (k' := 53) rfl (zk_iconst X dX1_deleteOwned_52 (by decide) rfl) ?_
  refine zz_cons (k' := 54) rfl (zk_iret X rfl dX1_deleteOwned_53) ?_
  refine zz_cons (k' := 55) rfl (zk_iinc X dX1_deleteOwned_54 (by decide) (by decide) rfl) ?_
  refine zz_cons (k' := 56) rfl (zz_Ok_none _ _) ?_
  refine zz_cons (k' := 57) rfl (zz_Ok_none _ _) ?_
  refine zz_cons (k' := 58) rfl (zk_goto X dX1_deleteOwned_57 (by decide)) ?_
  refine zz_cons (k' := 59) rfl (zz_Ok_none _ _) ?_
  refine zz_cons (k' := 60) rfl (zz_Ok_none _ _) ?_
  refine zz_cons (k' := 61) rfl (zk_iconst X dX1_deleteOwned_60 (by decide) rfl) ?_
  refine zz_cons (k' := 62) rfl (zk_iret X rfl dX1_deleteOwned_61) ?_
  exact trivial
noncomputable def tX1_disownAll : List zzOp := [
  zo_pushI 0 1,
  zo_istore 2 2,
  zo_iload 2 3,
  zo_aload 0 4,
  zo_getf zzSC (zz_kf [1] 2) 7,
  zo_none,
  zo_none,
  zo_icmp (fun x y => decide (y ≤ x)) 40 10,
  zo_none,
  zo_none,
  zo_aload 0 11,
  zo_iload 2 12,
  zo_pushI 24 14,
  zo_none,
  zo_callv zzSC (zz_cl [(1, fX10_read)]) 2 17,
  zo_none,
  zo_none,
  zo_iload 1 18,
  zo_icmp (fun x y => decide (¬ x = y)) 34 21,
  zo_none,
  zo_none,
  zo_aload 0 22,
  zo_iload 2 23,
  zo_pushI 24 25,
  zo_none,
  zo_pushI (-1) 26,
  zo_callv zzSC (zz_cl [(1, fX2_set)]) 3 29,
  zo_none,
  zo_none,
  zo_if (fun x => decide (¬ x = 0)) 34 32,
  zo_none,
  zo_none,
  zo_pushI 0 33,
  zo_iret true,
  zo_iinc 2 1 37,
  zo_none,
  zo_none,
  zo_goto 2,
  zo_none,
  zo_none,
  zo_pushI 1 41,
  zo_iret true]
set_option maxRecDepth 100000 in
theorem tl_X1_disownAll : ∀ pc, zz_Tl (tX1_disownAll.getD pc zo_none) := by
  refine zz_Tl_mem ?_
  unfold tX1_disownAll
  refine List.forall_mem_cons.mpr ⟨(zo_pushI_tl _ _), ?_⟩
  refine List.forall_mem_cons.mpr ⟨(zo_istore_tl _ _), ?_⟩
  refine List.forall_mem_cons.mpr ⟨(zo_iload_tl _ _), ?_⟩
  refine List.forall_mem_cons.mpr ⟨(zo_aload_tl _ _), ?_⟩
  refine List.forall_mem_cons.mpr ⟨(zo_getf_tl _ _ _), ?_⟩
  refine List.forall_mem_cons.mpr ⟨zo_none_tl, ?_⟩
  refine List.forall_mem_cons.mpr ⟨zo_none_tl, ?_⟩
  refine List.forall_mem_cons.mpr ⟨(zo_icmp_tl _ _ _), ?_⟩
  refine List.forall_mem_cons.mpr ⟨zo_none_tl, ?_⟩
  refine List.forall_mem_cons.mpr ⟨zo_none_tl, ?_⟩
  refine List.forall_mem_cons.mpr ⟨(zo_aload_tl _ _), ?_⟩
  refine List.forall_mem_cons.mpr ⟨(zo_iload_tl _ _), ?_⟩
  refine List.forall_mem_cons.mpr ⟨(zo_pushI_tl _ _), ?_⟩
  refine List.forall_mem_cons.mpr ⟨zo_none_tl, ?_⟩
  refine List.forall_mem_cons.mpr ⟨(zo_callv_tl _ _ _ _), ?_⟩
  refine List.forall_mem_cons.mpr ⟨zo_none_tl, ?_⟩
  refine List.forall_mem_cons.mpr ⟨zo_none_tl, ?_⟩
  refine List.forall_mem_cons.mpr ⟨(zo_iload_tl _ _), ?_⟩
  refine List.forall_mem_cons.mpr ⟨(zo_icmp_tl _ _ _), ?_⟩
  refine List.forall_mem_cons.mpr ⟨zo_none_tl, ?_⟩
  refine List.forall_mem_cons.mpr ⟨zo_none_tl, ?_⟩
  refine List.forall_mem_cons.mpr ⟨(zo_aload_tl _ _), ?_⟩
  refine List.forall_mem_cons.mpr ⟨(zo_iload_tl _ _), ?_⟩
  refine List.forall_mem_cons.mpr ⟨(zo_pushI_tl _ _), ?_⟩
  refine List.forall_mem_cons.mpr ⟨zo_none_tl, ?_⟩
  refine List.forall_mem_cons.mpr ⟨(zo_pushI_tl _ _), ?_⟩
  refine List.forall_mem_cons.mpr ⟨(zo_callv_tl _ _ _ _), ?_⟩
  refine List.forall_mem_cons.mpr ⟨zo_none_tl, ?_⟩
  refine List.forall_mem_cons.mpr ⟨zo_none_tl, ?_⟩
  refine List.forall_mem_cons.mpr ⟨(zo_if_tl _ _ _), ?_⟩
  refine List.forall_mem_cons.mpr ⟨zo_none_tl, ?_⟩
  refine List.forall_mem_cons.mpr ⟨zo_none_tl, ?_⟩
  refine List.forall_mem_cons.mpr ⟨(zo_pushI_tl _ _), ?_⟩
  refine List.forall_mem_cons.mpr ⟨(zo_iret_tl _), ?_⟩
  refine List.forall_mem_cons.mpr ⟨(zo_iinc_tl _ _ _), ?_⟩
  refine List.forall_mem_cons.mpr ⟨zo_none_tl, ?_⟩
  refine List.forall_mem_cons.mpr ⟨zo_none_tl, ?_⟩
  refine List.forall_mem_cons.mpr ⟨(zo_goto_tl _), ?_⟩
  refine List.forall_mem_cons.mpr ⟨zo_none_tl, ?_⟩
  refine List.forall_mem_cons.mpr ⟨zo_none_tl, ?_⟩
  refine List.forall_mem_cons.mpr ⟨(zo_pushI_tl _ _), ?_⟩
  refine List.forall_mem_cons.mpr ⟨(zo_iret_tl _), ?_⟩
  exact fun _ h => absurd h List.not_mem_nil
noncomputable def fX1_disownAll : zzFn := zz_fn tX1_disownAll 3
set_option maxRecDepth 100000 in
set_option maxHeartbeats 4000000 in
theorem mm_X1_disownAll {l : Launch} {D : va_G} {cA : Nat → ClassId} {ad : Nat → Nat} {Ex : (Nat → Prop) → State → Heap → Prop} (Wd : zzWC l D cA ad Ex) : zz_Cn l D zzCl cA ad zzSC Ex yX1_disownAll cX1_disownAll 3 (some .boolean) 4 93 fX1_disownAll ∧ zz_Cx l D zzCl cA ad zzSC Ex yX1_disownAll cX1_disownAll 3 (some .boolean) 4 93 fX1_disownAll := by
  refine zz_meth (plainFor_of_name (by decide)) Wd.1 Wd.2.1 Wd.2.2.1 (fun p e R s m args below meth c rr X => ?_)
  unfold tX1_disownAll
  refine zz_cons (k' := 1) rfl (zk_iconst X dX1_disownAll_0 (by decide) rfl) ?_
  refine zz_cons (k' := 2) rfl (zk_istore_n X dX1_disownAll_1 rfl (by decide) rfl) ?_
  refine zz_cons (k' := 3) rfl (zk_iload_n X dX1_disownAll_2 rfl rfl) ?_
  refine zz_cons (k' := 4) rfl (zk_aload_n X dX1_disownAll_3 rfl rfl) ?_
  refine zz_cons (k' := 5) rfl (zk_getf X ff_X1_15 dX1_disownAll_4 rfl) ?_
  refine zz_cons (k' := 6) rfl (zz_Ok_none _ _) ?_
  refine zz_cons (k' := 7) rfl (zz_Ok_none _ _) ?_
  refine zz_cons (k' := 8) rfl (zk_icmp_ge X dX1_disownAll_7 (by decide) rfl) ?_
  refine zz_cons (k' := 9) rfl (zz_Ok_none _ _) ?_
  refine zz_cons (k' := 10) rfl (zz_Ok_none _ _) ?_
  refine zz_cons (k' := 11) rfl (zk_aload_n X dX1_disownAll_10 rfl rfl) ?_
  refine zz_cons (k' := 12) rfl (zk_iload_n X dX1_disownAll_11 rfl rfl) ?_
  refine zz_cons (k' := 13) rfl (zk_bipush X dX1_disownAll_12 (by decide) rfl) ?_
  refine zz_cons (k' := 14) rfl (zz_Ok_none _ _) ?_
  refine zz_cons (k' := 15) rfl (zk_callv X (zz_Cv_of (List.forall_mem_cons.mpr ⟨⟨(RX_1, zzT1, 12), yX10_read, cX10_read, 3, (some .int), 0, 0, rfl, kv_X1_19_1, (mm_X10_read Wd).1, by decide, by decide⟩, (fun _ h => absurd h List.not_mem_nil)⟩)) dX1_disownAll_14 rfl) ?_
  refine zz_cons (k' := 16) rfl (zz_Ok_none _ _) ?_
  refine zz_cons (k' := 17) rfl (zz_Ok_none _ _) ?_
  refine zz_cons (k' := 18) rfl (zk_iload_n X dX1_disownAll_17 rfl rfl) ?_
  refine zz_cons (k' := 19) rfl (zk_icmp_ne X dX1_disownAll_18 (by decide) rfl) ?_
  refine zz_cons (k' := 20) rfl (zz_Ok_none _ _) ?_
  refine zz_cons (k' := 21) rfl (zz_Ok_none _ _) ?_
  refine zz_cons (k' := 22) rfl (zk_aload_n X dX1_disownAll_21 rfl rfl) ?_
  refine zz_cons (k' := 23) rfl (zk_iload_n X dX1_disownAll_22 rfl rfl) ?_
  refine zz_cons (k' := 24) rfl (zk_bipush X dX1_disownAll_23 (by decide) rfl) ?_
  refine zz_cons (k' := 25) rfl (zz_Ok_none _ _) ?_
  refine zz_cons (k' := 26) rfl (zk_iconst X dX1_disownAll_25 (by decide) rfl) ?_
  refine zz_cons (k' := 27) rfl (zk_callv X (zz_Cv_of (List.forall_mem_cons.mpr ⟨⟨(RX_1, zzT1, 12), yX2_set, cX2_set, 4, (some .boolean), 3, 70, rfl, kv_X1_46_1, (mm_X2_set Wd).1, by decide, by decide⟩, (fun _ h => absurd h List.not_mem_nil)⟩)) dX1_disownAll_26 rfl) ?_
  refine zz_cons (k' := 28) rfl (zz_Ok_none _ _) ?_
  refine zz_cons (k' := 29) rfl (zz_Ok_none _ _) ?_
  refine zz_cons (k' := 30) rfl (zk_if_ne X dX1_disownAll_29 (by decide) rfl) ?_
  refine zz_cons (k' := 31) rfl (zz_Ok_none _ _) ?_
  refine zz_cons (k' := 32) rfl (zz_Ok_none _ _) ?_
  refine zz_cons (k' := 33) rfl (zk_iconst X dX1_disownAll_32 (by decide) rfl) ?_
  refine zz_cons (k' := 34) rfl (zk_iret X rfl dX1_disownAll_33) ?_
  refine zz_cons (k' := 35) rfl (zk_iinc X dX1_disownAll_34 (by decide) (by decide) rfl) ?_
  refine zz_cons (k' := 36) rfl (zz_Ok_none _ _) ?_
  refine zz_cons (k' := 37) rfl (zz_Ok_none _ _) ?_
  refine zz_cons (k' := 38) rfl (zk_goto X dX1_disownAll_37 (by decide)) ?_
  refine zz_cons (k' := 39) rfl (zz_Ok_none _ _) ?_
  refine zz_cons (k' := 40) rfl (zz_Ok_none _ _) ?_
  refine zz_cons (k' := 41) rfl (zk_iconst X dX1_disownAll_40 (by decide) rfl) ?_
  refine zz_cons (k' := 42) rfl (zk_iret X rfl dX1_disownAll_41) ?_
  exact trivial
noncomputable def tX1_serve : List zzOp := [
  zo_aload 0 1,
  zo_iload 1 2,
  zo_pushI 25 4,
  zo_none,
  zo_callv zzSC (zz_cl [(1, fX10_read)]) 2 7,
  zo_none,
  zo_none,
  zo_istore 2 8,
  zo_iload 2 9,
  zo_pushI 4 10,
  zo_icmp (fun x y => decide (¬ x = y)) 15 13,
  zo_none,
  zo_none,
  zo_pushI 1 14,
  zo_iret false,
  zo_iload 2 16,
  zo_if (fun x => decide (¬ x = 0)) 53 19,
  zo_none,
  zo_none,
  zo_aload 0 20,
  zo_iload 1 21,
  zo_pushI 24 23,
  zo_none,
  zo_callv zzSC (zz_cl [(1, fX10_read)]) 2 26,
  zo_none,
  zo_none,
  zo_istore 3 27,
  zo_iload 3 28,
  zo_pushI (-1) 29,
  zo_icmp (fun x y => decide (x = y)) 51 32,
  zo_none,
  zo_none,
  zo_aload 0 33,
  zo_iload 3 34,
  zo_callv zzSC (zz_cl [(1, fX10_isGone)]) 1 37,
  zo_none,
  zo_none,
  zo_if (fun x => decide (x = 0)) 51 40,
  zo_none,
  zo_none,
  zo_aload 0 41,
  zo_iload 1 42,
  zo_callv zzSC (zz_cl [(1, fX2_remove)]) 1 45,
  zo_none,
  zo_none,
  zo_calls fX2_outcomeOf 1 48,
  zo_none,
  zo_none,
  zo_goto 52,
  zo_none,
  zo_none,
  zo_pushI 1 52,
  zo_iret false,
  zo_iload 2 54,
  zo_pushI 2 55,
  zo_icmp (fun x y => decide (x = y)) 88 58,
  zo_none,
  zo_none,
  zo_aload 0 59,
  zo_iload 1 60,
  zo_callv zzSC (zz_cl [(1, fX1_ownsSome)]) 1 63,
  zo_none,
  zo_none,
  zo_if (fun x => decide (x = 0)) 88 66,
  zo_none,
  zo_none,
  zo_iload 2 67,
  zo_pushI 1 68,
  zo_icmp (fun x y => decide (¬ x = y)) 79 71,
  zo_none,
  zo_none,
  zo_aload 0 72,
  zo_iload 1 73,
  zo_callv zzSC (zz_cl [(1, fX1_deleteOwned)]) 1 76,
  zo_none,
  zo_none,
  zo_goto 84,
  zo_none,
  zo_none,
  zo_aload 0 80,
  zo_iload 1 81,
  zo_callv zzSC (zz_cl [(1, fX1_disownAll)]) 1 84,
  zo_none,
  zo_none,
  zo_calls fX2_outcomeOf 1 87,
  zo_none,
  zo_none,
  zo_iret false,
  zo_aload 0 89,
  zo_iload 1 90,
  zo_callv zzSC (zz_cl [(1, fX10_isKept)]) 1 93,
  zo_none,
  zo_none,
  zo_if (fun x => decide (x = 0)) 100 96,
  zo_none,
  zo_none,
  zo_pushI 1 97,
  zo_goto 111,
  zo_none,
  zo_none,
  zo_aload 0 101,
  zo_iload 1 102,
  zo_pushI 25 104,
  zo_none,
  zo_pushI 4 105,
  zo_callv zzSC (zz_cl [(1, fX2_set)]) 3 108,
  zo_none,
  zo_none,
  zo_calls fX2_outcomeOf 1 111,
  zo_none,
  zo_none,
  zo_iret false]
set_option maxRecDepth 100000 in
theorem tl_X1_serve : ∀ pc, zz_Tl (tX1_serve.getD pc zo_none) := by
  refine zz_Tl_mem ?_
  unfold tX1_serve
  refine List.forall_mem_cons.mpr ⟨(zo_aload_tl _ _), ?_⟩
  refine List.forall_mem_cons.mpr ⟨(zo_iload_tl _ _), ?_⟩
  refine List.forall_mem_cons.mpr ⟨(zo_pushI_tl _ _), ?_⟩
  refine List.forall_mem_cons.mpr ⟨zo_none_tl, ?_⟩
  refine List.forall_mem_cons.mpr ⟨(zo_callv_tl _ _ _ _), ?_⟩
  refine List.forall_mem_cons.mpr ⟨zo_none_tl, ?_⟩
  refine List.forall_mem_cons.mpr ⟨zo_none_tl, ?_⟩
  refine List.forall_mem_cons.mpr ⟨(zo_istore_tl _ _), ?_⟩
  refine List.forall_mem_cons.mpr ⟨(zo_iload_tl _ _), ?_⟩
  refine List.forall_mem_cons.mpr ⟨(zo_pushI_tl _ _), ?_⟩
  refine List.forall_mem_cons.mpr ⟨(zo_icmp_tl _ _ _), ?_⟩
  refine List.forall_mem_cons.mpr ⟨zo_none_tl, ?_⟩
  refine List.forall_mem_cons.mpr ⟨zo_none_tl, ?_⟩
  refine List.forall_mem_cons.mpr ⟨(zo_pushI_tl _ _), ?_⟩
  refine List.forall_mem_cons.mpr ⟨(zo_iret_tl _), ?_⟩
  refine List.forall_mem_cons.mpr ⟨(zo_iload_tl _ _), ?_⟩
  refine List.forall_mem_cons.mpr ⟨(zo_if_tl _ _ _), ?_⟩
  refine List.forall_mem_cons.mpr ⟨zo_none_tl, ?_⟩
  refine List.forall_mem_cons.mpr ⟨zo_none_tl, ?_⟩
  refine List.forall_mem_cons.mpr ⟨(zo_aload_tl _ _), ?_⟩
  refine List.forall_mem_cons.mpr ⟨(zo_iload_tl _ _), ?_⟩
  refine List.forall_mem_cons.mpr ⟨(zo_pushI_tl _ _), ?_⟩
  refine List.forall_mem_cons.mpr ⟨zo_none_tl, ?_⟩
  refine List.forall_mem_cons.mpr ⟨(zo_callv_tl _ _ _ _), ?_⟩
  refine List.forall_mem_cons.mpr ⟨zo_none_tl, ?_⟩
  refine List.forall_mem_cons.mpr ⟨zo_none_tl, ?_⟩
  refine List.forall_mem_cons.mpr ⟨(zo_istore_tl _ _), ?_⟩
  refine List.forall_mem_cons.mpr ⟨(zo_iload_tl _ _), ?_⟩
  refine List.forall_mem_cons.mpr ⟨(zo_pushI_tl _ _), ?_⟩
  refine List.forall_mem_cons.mpr ⟨(zo_icmp_tl _ _ _), ?_⟩
  refine List.forall_mem_cons.mpr ⟨zo_none_tl, ?_⟩
  refine List.forall_mem_cons.mpr ⟨zo_none_tl, ?_⟩
  refine List.forall_mem_cons.mpr ⟨(zo_aload_tl _ _), ?_⟩
  refine List.forall_mem_cons.mpr ⟨(zo_iload_tl _ _), ?_⟩
  refine List.forall_mem_cons.mpr ⟨(zo_callv_tl _ _ _ _), ?_⟩
  refine List.forall_mem_cons.mpr ⟨zo_none_tl, ?_⟩
  refine List.forall_mem_cons.mpr ⟨zo_none_tl, ?_⟩
  refine List.forall_mem_cons.mpr ⟨(zo_if_tl _ _ _), ?_⟩
  refine List.forall_mem_cons.mpr ⟨zo_none_tl, ?_⟩
  refine List.forall_mem_cons.mpr ⟨zo_none_tl, ?_⟩
  refine List.forall_mem_cons.mpr ⟨(zo_aload_tl _ _), ?_⟩
  refine List.forall_mem_cons.mpr ⟨(zo_iload_tl _ _), ?_⟩
  refine List.forall_mem_cons.mpr ⟨(zo_callv_tl _ _ _ _), ?_⟩
  refine List.forall_mem_cons.mpr ⟨zo_none_tl, ?_⟩
  refine List.forall_mem_cons.mpr ⟨zo_none_tl, ?_⟩
  refine List.forall_mem_cons.mpr ⟨(zo_calls_tl _ _ _), ?_⟩
  refine List.forall_mem_cons.mpr ⟨zo_none_tl, ?_⟩
  refine List.forall_mem_cons.mpr ⟨zo_none_tl, ?_⟩
  refine List.forall_mem_cons.mpr ⟨(zo_goto_tl _), ?_⟩
  refine List.forall_mem_cons.mpr ⟨zo_none_tl, ?_⟩
  refine List.forall_mem_cons.mpr ⟨zo_none_tl, ?_⟩
  refine List.forall_mem_cons.mpr ⟨(zo_pushI_tl _ _), ?_⟩
  refine List.forall_mem_cons.mpr ⟨(zo_iret_tl _), ?_⟩
  refine List.forall_mem_cons.mpr ⟨(zo_iload_tl _ _), ?_⟩
  refine List.forall_mem_cons.mpr ⟨(zo_pushI_tl _ _), ?_⟩
  refine List.forall_mem_cons.mpr ⟨(zo_icmp_tl _ _ _), ?_⟩
  refine List.forall_mem_cons.mpr ⟨zo_none_tl, ?_⟩
  refine List.forall_mem_cons.mpr ⟨zo_none_tl, ?_⟩
  refine List.forall_mem_cons.mpr ⟨(zo_aload_tl _ _), ?_⟩
  refine List.forall_mem_cons.mpr ⟨(zo_iload_tl _ _), ?_⟩
  refine List.forall_mem_cons.mpr ⟨(zo_callv_tl _ _ _ _), ?_⟩
  refine List.forall_mem_cons.mpr ⟨zo_none_tl, ?_⟩
  refine List.forall_mem_cons.mpr ⟨zo_none_tl, ?_⟩
  refine List.forall_mem_cons.mpr ⟨(zo_if_tl _ _ _), ?_⟩
  refine List.forall_mem_cons.mpr ⟨zo_none_tl, ?_⟩
  refine List.forall_mem_cons.mpr ⟨zo_none_tl, ?_⟩
  refine List.forall_mem_cons.mpr ⟨(zo_iload_tl _ _), ?_⟩
  refine List.forall_mem_cons.mpr ⟨(zo_pushI_tl _ _), ?_⟩
  refine List.forall_mem_cons.mpr ⟨(zo_icmp_tl _ _ _), ?_⟩
  refine List.forall_mem_cons.mpr ⟨zo_none_tl, ?_⟩
  refine List.forall_mem_cons.mpr ⟨zo_none_tl, ?_⟩
  refine List.forall_mem_cons.mpr ⟨(zo_aload_tl _ _), ?_⟩
  refine List.forall_mem_cons.mpr ⟨(zo_iload_tl _ _), ?_⟩
  refine List.forall_mem_cons.mpr ⟨(zo_callv_tl _ _ _ _), ?_⟩
  refine List.forall_mem_cons.mpr ⟨zo_none_tl, ?_⟩
  refine List.forall_mem_cons.mpr ⟨zo_none_tl, ?_⟩
  refine List.forall_mem_cons.mpr ⟨(zo_goto_tl _), ?_⟩
  refine List.forall_mem_cons.mpr ⟨zo_none_tl, ?_⟩
  refine List.forall_mem_cons.mpr ⟨zo_none_tl, ?_⟩
  refine List.forall_mem_cons.mpr ⟨(zo_aload_tl _ _), ?_⟩
  refine List.forall_mem_cons.mpr ⟨(zo_iload_tl _ _), ?_⟩
  refine List.forall_mem_cons.mpr ⟨(zo_callv_tl _ _ _ _), ?_⟩
  refine List.forall_mem_cons.mpr ⟨zo_none_tl, ?_⟩
  refine List.forall_mem_cons.mpr ⟨zo_none_tl, ?_⟩
  refine List.forall_mem_cons.mpr ⟨(zo_calls_tl _ _ _), ?_⟩
  refine List.forall_mem_cons.mpr ⟨zo_none_tl, ?_⟩
  refine List.forall_mem_cons.mpr ⟨zo_none_tl, ?_⟩
  refine List.forall_mem_cons.mpr ⟨(zo_iret_tl _), ?_⟩
  refine List.forall_mem_cons.mpr ⟨(zo_aload_tl _ _), ?_⟩
  refine List.forall_mem_cons.mpr ⟨(zo_iload_tl _ _), ?_⟩
  refine List.forall_mem_cons.mpr ⟨(zo_callv_tl _ _ _ _), ?_⟩
  refine List.forall_mem_cons.mpr ⟨zo_none_tl, ?_⟩
  refine List.forall_mem_cons.mpr ⟨zo_none_tl, ?_⟩
  refine List.forall_mem_cons.mpr ⟨(zo_if_tl _ _ _), ?_⟩
  refine List.forall_mem_cons.mpr ⟨zo_none_tl, ?_⟩
  refine List.forall_mem_cons.mpr ⟨zo_none_tl, ?_⟩
  refine List.forall_mem_cons.mpr ⟨(zo_pushI_tl _ _), ?_⟩
  refine List.forall_mem_cons.mpr ⟨(zo_goto_tl _), ?_⟩
  refine List.forall_mem_cons.mpr ⟨zo_none_tl, ?_⟩
  refine List.forall_mem_cons.mpr ⟨zo_none_tl, ?_⟩
  refine List.forall_mem_cons.mpr ⟨(zo_aload_tl _ _), ?_⟩
  refine List.forall_mem_cons.mpr ⟨(zo_iload_tl _ _), ?_⟩
  refine List.forall_mem_cons.mpr ⟨(zo_pushI_tl _ _), ?_⟩
  refine List.forall_mem_cons.mpr ⟨zo_none_tl, ?_⟩
  refine List.forall_mem_cons.mpr ⟨(zo_pushI_tl _ _), ?_⟩
  refine List.forall_mem_cons.mpr ⟨(zo_callv_tl _ _ _ _), ?_⟩
  refine List.forall_mem_cons.mpr ⟨zo_none_tl, ?_⟩
  refine List.forall_mem_cons.mpr ⟨zo_none_tl, ?_⟩
  refine List.forall_mem_cons.mpr ⟨(zo_calls_tl _ _ _), ?_⟩
  refine List.forall_mem_cons.mpr ⟨zo_none_tl, ?_⟩
  refine List.forall_mem_cons.mpr ⟨zo_none_tl, ?_⟩
  refine List.forall_mem_cons.mpr ⟨(zo_iret_tl _), ?_⟩
  exact fun _ h => absurd h List.not_mem_nil
noncomputable def fX1_serve : zzFn := zz_fn tX1_serve 4
set_option maxRecDepth 100000 in
set_option maxHeartbeats 4000000 in
theorem mm_X1_serve {l : Launch} {D : va_G} {cA : Nat → ClassId} {ad : Nat → Nat} {Ex : (Nat → Prop) → State → Heap → Prop} (Wd : zzWC l D cA ad Ex) : zz_Cn l D zzCl cA ad zzSC Ex yX1_serve cX1_serve 4 (some .int) 5 116 fX1_serve ∧ zz_Cx l D zzCl cA ad zzSC Ex yX1_serve cX1_serve 4 (some .int) 5 116 fX1_serve := by
  refine zz_meth (plainFor_of_name (by decide)) Wd.1 Wd.2.1 Wd.2.2.1 (fun p e R s m args below meth c rr X => ?_)
  unfold tX1_serve
  refine zz_cons (k' := 1) rfl (zk_aload_n X dX1_serve_0 rfl rfl) ?_
  refine zz_cons (k' := 2) rfl (zk_iload_n X dX1_serve_1 rfl rfl) ?_
  refine zz_cons (k' := 3) rfl (zk_bipush X dX1_serve_2 (by decide) rfl) ?_
  refine zz_cons (k' := 4) rfl (zz_Ok_none _ _) ?_
  refine zz_cons (k' := 5) rfl (zk_callv X (zz_Cv_of (List.forall_mem_cons.mpr ⟨⟨(RX_1, zzT1, 12), yX10_read, cX10_read, 3, (some .int), 0, 0, rfl, kv_X1_19_1, (mm_X10_read Wd).1, by decide, by decide⟩, (fun _ h => absurd h List.not_mem_nil)⟩)) dX1_serve_4 rfl) ?_
  refine zz_cons (k' := 6) rfl (zz_Ok_none _ _) ?_
  refine zz_cons (k' := 7) rfl (zz_Ok_none _ _) ?_
  refine zz_cons (k' := 8) rfl (zk_istore_n X dX1_serve_7 rfl (by decide) rfl) ?_
  refine zz_cons (k' := 9) rfl (zk_iload_n X dX1_serve_8 rfl rfl) ?_
  refine zz_cons (k' := 10) rfl (zk_iconst X dX1_serve_9 (by decide) rfl) ?_
  refine zz_cons (k' := 11) rfl (zk_icmp_ne X dX1_serve_10 (by decide) rfl) ?_
  refine zz_cons (k' := 12) rfl (zz_Ok_none _ _) ?_
  refine zz_cons (k' := 13) rfl (zz_Ok_none _ _) ?_
  refine zz_cons (k' := 14) rfl (zk_iconst X dX1_serve_13 (by decide) rfl) ?_
  refine zz_cons (k' := 15) rfl (zk_iret X rfl dX1_serve_14) ?_
  refine zz_cons (k' := 16) rfl (zk_iload_n X dX1_serve_15 rfl rfl) ?_
  refine zz_cons (k' := 17) rfl (zk_if_ne X dX1_serve_16 (by decide) rfl) ?_
  refine zz_cons (k' := 18) rfl (zz_Ok_none _ _) ?_
  refine zz_cons (k' := 19) rfl (zz_Ok_none _ _) ?_
  refine zz_cons (k' := 20) rfl (zk_aload_n X dX1_serve_19 rfl rfl) ?_
  refine zz_cons (k' := 21) rfl (zk_iload_n X dX1_serve_20 rfl rfl) ?_
  refine zz_cons (k' := 22) rfl (zk_bipush X dX1_serve_21 (by decide) rfl) ?_
  refine zz_cons (k' := 23) rfl (zz_Ok_none _ _) ?_
  refine zz_cons (k' := 24) rfl (zk_callv X (zz_Cv_of (List.forall_mem_cons.mpr ⟨⟨(RX_1, zzT1, 12), yX10_read, cX10_read, 3, (some .int), 0, 0, rfl, kv_X1_19_1, (mm_X10_read Wd).1, by decide, by decide⟩, (fun _ h => absurd h List.not_mem_nil)⟩)) dX1_serve_23 rfl) ?_
  refine zz_cons (k' := 25) rfl (zz_Ok_none _ _) ?_
  refine zz_cons (k' := 26) rfl (zz_Ok_none _ _) ?_
  refine zz_cons (k' := 27) rfl (zk_istore_n X dX1_serve_26 rfl (by decide) rfl) ?_
  refine zz_cons (k' := 28) rfl (zk_iload_n X dX1_serve_27 rfl rfl) ?_
  refine zz_cons (k' := 29) rfl (zk_iconst X dX1_serve_28 (by decide) rfl) ?_
  refine zz_cons (k' := 30) rfl (zk_icmp_eq X dX1_serve_29 (by decide) rfl) ?_
  refine zz_cons (k' := 31) rfl (zz_Ok_none _ _) ?_
  refine zz_cons (k' := 32) rfl (zz_Ok_none _ _) ?_
  refine zz_cons (k' := 33) rfl (zk_aload_n X dX1_serve_32 rfl rfl) ?_
  refine zz_cons (k' := 34) rfl (zk_iload_n X dX1_serve_33 rfl rfl) ?_
  refine zz_cons (k' := 35) rfl (zk_callv X (zz_Cv_of (List.forall_mem_cons.mpr ⟨⟨(RX_1, zzT1, 12), yX10_isGone, cX10_isGone, 2, (some .boolean), 1, 22, rfl, kv_X1_23_1, (mm_X10_isGone Wd).1, by decide, by decide⟩, (fun _ h => absurd h List.not_mem_nil)⟩)) dX1_serve_34 rfl) ?_
  refine zz_cons (k' := 36) rfl (zz_Ok_none _ _) ?_
  refine zz_cons (k' := 37) rfl (zz_Ok_none _ _) ?_
  refine zz_cons (k' := 38) rfl (zk_if_eq X dX1_serve_37 (by decide) rfl) ?_
  refine zz_cons (k' := 39) rfl (zz_Ok_none _ _) ?_
  refine zz_cons (k' := 40) rfl (zz_Ok_none _ _) ?_
  refine zz_cons (k' := 41) rfl (zk_aload_n X dX1_serve_40 rfl rfl) ?_
  refine zz_cons (k' := 42) rfl (zk_iload_n X dX1_serve_41 rfl rfl) ?_
  refine zz_cons (k' := 43) rfl (zk_callv X (zz_Cv_of (List.forall_mem_cons.mpr ⟨⟨(RX_1, zzT1, 12), yX2_remove, cX2_remove, 2, (some .boolean), 3, 69, rfl, kv_X1_27_1, (mm_X2_remove Wd).1, by decide, by decide⟩, (fun _ h => absurd h List.not_mem_nil)⟩)) dX1_serve_42 rfl) ?_
  refine zz_cons (k' := 44) rfl (zz_Ok_none _ _) ?_
  refine zz_cons (k' := 45) rfl (zz_Ok_none _ _) ?_
  refine zz_cons (k' := 46) rfl (zk_calls X ks_X1_30 (mm_X2_outcomeOf Wd).1 (by decide) dX1_serve_45 rfl) ?_
  refine zz_cons (k' := 47) rfl (zz_Ok_none _ _) ?_
  refine zz_cons (k' := 48) rfl (zz_Ok_none _ _) ?_
  refine zz_cons (k' := 49) rfl (zk_goto X dX1_serve_48 (by decide)) ?_
  refine zz_cons (k' := 50) rfl (zz_Ok_none _ _) ?_
  refine zz_cons (k' := 51) rfl (zz_Ok_none _ _) ?_
  refine zz_cons (k' := 52) rfl (zk_iconst X dX1_serve_51 (by decide) rfl) ?_
  refine zz_cons (k' := 53) rfl (zk_iret X rfl dX1_serve_52) ?_
  refine zz_cons (k' := 54) rfl (zk_iload_n X dX1_serve_53 rfl rfl) ?_
  refine zz_cons (k' := 55) rfl (zk_iconst X dX1_serve_54 (by decide) rfl) ?_
  refine zz_cons (k' := 56) rfl (zk_icmp_eq X dX1_serve_55 (by decide) rfl) ?_
  refine zz_cons (k' := 57) rfl (zz_Ok_none _ _) ?_
  refine zz_cons (k' := 58) rfl (zz_Ok_none _ _) ?_
  refine zz_cons (k' := 59) rfl (zk_aload_n X dX1_serve_58 rfl rfl) ?_
  refine zz_cons (k' := 60) rfl (zk_iload_n X dX1_serve_59 rfl rfl) ?_
  refine zz_cons (k' := 61) rfl (zk_callv X (zz_Cv_of (List.forall_mem_cons.mpr ⟨⟨(RX_1, zzT1, 12), yX1_ownsSome, cX1_ownsSome, 3, (some .boolean), 1, 22, rfl, kv_X1_34_1.1, (mm_X1_ownsSome Wd).1, by decide, by decide⟩, (fun _ h => absurd h List.not_mem_nil)⟩)) dX1_serve_60 rfl) ?_
  refine zz_cons (k' := 62) rfl (zz_Ok_none _ _) ?_
  refine zz_cons (k' := 63) rfl (zz_Ok_none _ _) ?_
  refine zz_cons (k' := 64) rfl (zk_if_eq X dX1_serve_63 (by decide) rfl) ?_
  refine zz_cons (k' := 65) rfl (zz_Ok_none _ _) ?_
  refine zz_cons (k' := 66) rfl (zz_Ok_none _ _) ?_
  refine zz_cons (k' := 67) rfl (zk_iload_n X dX1_serve_66 rfl rfl) ?_
  refine zz_cons (k' := 68) rfl (zk_iconst X dX1_serve_67 (by decide) rfl) ?_
  refine zz_cons (k' := 69) rfl (zk_icmp_ne X dX1_serve_68 (by decide) rfl) ?_
  refine zz_cons (k' := 70) rfl (zz_Ok_none _ _) ?_
  refine zz_cons (k' := 71) rfl (zz_Ok_none _ _) ?_
  refine zz_cons (k' := 72) rfl (zk_aload_n X dX1_serve_71 rfl rfl) ?_
  refine zz_cons (k' := 73) rfl (zk_iload_n X dX1_serve_72 rfl rfl) ?_
  refine zz_cons (k' := 74) rfl (zk_callv X (zz_Cv_of (List.forall_mem_cons.mpr ⟨⟨(RX_1, zzT1, 12), yX1_deleteOwned, cX1_deleteOwned, 4, (some .boolean), 4, 93, rfl, kv_X1_37_1.1, (mm_X1_deleteOwned Wd).1, by decide, by decide⟩, (fun _ h => absurd h List.not_mem_nil)⟩)) dX1_serve_73 rfl) ?_
  refine zz_cons (k' := 75) rfl (zz_Ok_none _ _) ?_
  refine zz_cons (k' := 76) rfl (zz_Ok_none _ _) ?_
  refine zz_cons (k' := 77) rfl (zk_goto X dX1_serve_76 (by decide)) ?_
  refine zz_cons (k' := 78) rfl (zz_Ok_none _ _) ?_
  refine zz_cons (k' := 79) rfl (zz_Ok_none _ _) ?_
  refine zz_cons (k' := 80) rfl (zk_aload_n X dX1_serve_79 rfl rfl) ?_
  refine zz_cons (k' := 81) rfl (zk_iload_n X dX1_serve_80 rfl rfl) ?_
  refine zz_cons (k' := 82) rfl (zk_callv X (zz_Cv_of (List.forall_mem_cons.mpr ⟨⟨(RX_1, zzT1, 12), yX1_disownAll, cX1_disownAll, 3, (some .boolean), 4, 93, rfl, kv_X1_40_1.1, (mm_X1_disownAll Wd).1, by decide, by decide⟩, (fun _ h => absurd h List.not_mem_nil)⟩)) dX1_serve_81 rfl) ?_
  refine zz_cons (k' := 83) rfl (zz_Ok_none _ _) ?_
  refine zz_cons (k' := 84) rfl (zz_Ok_none _ _) ?_
  refine zz_cons (k' := 85) rfl (zk_calls X ks_X1_30 (mm_X2_outcomeOf Wd).1 (by decide) dX1_serve_84 rfl) ?_
  refine zz_cons (k' := 86) rfl (zz_Ok_none _ _) ?_
  refine zz_cons (k' := 87) rfl (zz_Ok_none _ _) ?_
  refine zz_cons (k' := 88) rfl (zk_iret X rfl dX1_serve_87) ?_
  refine zz_cons (k' := 89) rfl (zk_aload_n X dX1_serve_88 rfl rfl) ?_
  refine zz_cons (k' := 90) rfl (zk_iload_n X dX1_serve_89 rfl rfl) ?_
  refine zz_cons (k' := 91) rfl (zk_callv X (zz_Cv_of (List.forall_mem_cons.mpr ⟨⟨(RX_1, zzT1, 12), yX10_isKept, cX10_isKept, 2, (some .boolean), 1, 22, rfl, kv_X1_43_1, (mm_X10_isKept Wd).1, by decide, by decide⟩, (fun _ h => absurd h List.not_mem_nil)⟩)) dX1_serve_90 rfl) ?_
  refine zz_cons (k' := 92) rfl (zz_Ok_none _ _) ?_
  refine zz_cons (k' := 93) rfl (zz_Ok_none _ _) ?_
  refine zz_cons (k' := 94) rfl (zk_if_eq X dX1_serve_93 (by decide) rfl) ?_
  refine zz_cons (k' := 95) rfl (zz_Ok_none _ _) ?_
  refine zz_cons (k' := 96) rfl (zz_Ok_none _ _) ?_
  refine zz_cons (k' := 97) rfl (zk_iconst X dX1_serve_96 (by decide) rfl) ?_
  refine zz_cons (k' := 98) rfl (zk_goto X dX1_serve_97 (by decide)) ?_
  refine zz_cons (k' := 99) rfl (zz_Ok_none _ _) ?_
  refine zz_cons (k' := 100) rfl (zz_Ok_none _ _) ?_
  refine zz_cons (k' := 101) rfl (zk_aload_n X dX1_serve_100 rfl rfl) ?_
  refine zz_cons (k' := 102) rfl (zk_iload_n X dX1_serve_101 rfl rfl) ?_
  refine zz_cons (k' := 103) rfl (zk_bipush X dX1_serve_102 (by decide) rfl) ?_
  refine zz_cons (k' := 104) rfl (zz_Ok_none _ _) ?_
  refine zz_cons (k' := 105) rfl (zk_iconst X dX1_serve_104 (by decide) rfl) ?_
  refine zz_cons (k' := 106) rfl (zk_callv X (zz_Cv_of (List.forall_mem_cons.mpr ⟨⟨(RX_1, zzT1, 12), yX2_set, cX2_set, 4, (some .boolean), 3, 70, rfl, kv_X1_46_1, (mm_X2_set Wd).1, by decide, by decide⟩, (fun _ h => absurd h List.not_mem_nil)⟩)) dX1_serve_105 rfl) ?_
  refine zz_cons (k' := 107) rfl (zz_Ok_none _ _) ?_
  refine zz_cons (k' := 108) rfl (zz_Ok_none _ _) ?_
  refine zz_cons (k' := 109) rfl (zk_calls X ks_X1_30 (mm_X2_outcomeOf Wd).1 (by decide) dX1_serve_108 rfl) ?_
  refine zz_cons (k' := 110) rfl (zz_Ok_none _ _) ?_
  refine zz_cons (k' := 111) rfl (zz_Ok_none _ _) ?_
  refine zz_cons (k' := 112) rfl (zk_iret X rfl dX1_serve_111) ?_
  exact trivial
noncomputable def tX2_isOwnKey : List zzOp := [
  zo_aload 0 1,
  zo_getf zzSC (zz_kf [1, 2, 3, 4, 5, 6, 7] 5) 4,
  zo_none,
  zo_none,
  zo_pushI (-1) 5,
  zo_icmp (fun x y => decide (x = y)) 22 8,
  zo_none,
  zo_none,
  zo_aload 0 9,
  zo_iload 1 10,
  zo_pushI 23 12,
  zo_none,
  zo_callv zzSC (zz_cl [(1, fX10_read), (2, fX10_read), (3, fX10_read), (4, fX10_read), (5, fX10_read), (6, fX10_read), (7, fX10_read)]) 2 15,
  zo_none,
  zo_none,
  zo_aload 0 16,
  zo_getf zzSC (zz_kf [1, 2, 3, 4, 5, 6, 7] 5) 19,
  zo_none,
  zo_none,
  zo_icmp (fun x y => decide (¬ x = y)) 26 22,
  zo_none,
  zo_none,
  zo_pushI 1 23,
  zo_goto 27,
  zo_none,
  zo_none,
  zo_pushI 0 27,
  zo_iret true]
set_option maxRecDepth 100000 in
theorem tl_X2_isOwnKey : ∀ pc, zz_Tl (tX2_isOwnKey.getD pc zo_none) := by
  refine zz_Tl_mem ?_
  unfold tX2_isOwnKey
  refine List.forall_mem_cons.mpr ⟨(zo_aload_tl _ _), ?_⟩
  refine List.forall_mem_cons.mpr ⟨(zo_getf_tl _ _ _), ?_⟩
  refine List.forall_mem_cons.mpr ⟨zo_none_tl, ?_⟩
  refine List.forall_mem_cons.mpr ⟨zo_none_tl, ?_⟩
  refine List.forall_mem_cons.mpr ⟨(zo_pushI_tl _ _), ?_⟩
  refine List.forall_mem_cons.mpr ⟨(zo_icmp_tl _ _ _), ?_⟩
  refine List.forall_mem_cons.mpr ⟨zo_none_tl, ?_⟩
  refine List.forall_mem_cons.mpr ⟨zo_none_tl, ?_⟩
  refine List.forall_mem_cons.mpr ⟨(zo_aload_tl _ _), ?_⟩
  refine List.forall_mem_cons.mpr ⟨(zo_iload_tl _ _), ?_⟩
  refine List.forall_mem_cons.mpr ⟨(zo_pushI_tl _ _), ?_⟩
  refine List.forall_mem_cons.mpr ⟨zo_none_tl, ?_⟩
  refine List.forall_mem_cons.mpr ⟨(zo_callv_tl _ _ _ _), ?_⟩
  refine List.forall_mem_cons.mpr ⟨zo_none_tl, ?_⟩
  refine List.forall_mem_cons.mpr ⟨zo_none_tl, ?_⟩
  refine List.forall_mem_cons.mpr ⟨(zo_aload_tl _ _), ?_⟩
  refine List.forall_mem_cons.mpr ⟨(zo_getf_tl _ _ _), ?_⟩
  refine List.forall_mem_cons.mpr ⟨zo_none_tl, ?_⟩
  refine List.forall_mem_cons.mpr ⟨zo_none_tl, ?_⟩
  refine List.forall_mem_cons.mpr ⟨(zo_icmp_tl _ _ _), ?_⟩
  refine List.forall_mem_cons.mpr ⟨zo_none_tl, ?_⟩
  refine List.forall_mem_cons.mpr ⟨zo_none_tl, ?_⟩
  refine List.forall_mem_cons.mpr ⟨(zo_pushI_tl _ _), ?_⟩
  refine List.forall_mem_cons.mpr ⟨(zo_goto_tl _), ?_⟩
  refine List.forall_mem_cons.mpr ⟨zo_none_tl, ?_⟩
  refine List.forall_mem_cons.mpr ⟨zo_none_tl, ?_⟩
  refine List.forall_mem_cons.mpr ⟨(zo_pushI_tl _ _), ?_⟩
  refine List.forall_mem_cons.mpr ⟨(zo_iret_tl _), ?_⟩
  exact fun _ h => absurd h List.not_mem_nil
noncomputable def fX2_isOwnKey : zzFn := zz_fn tX2_isOwnKey 2
set_option maxRecDepth 100000 in
set_option maxHeartbeats 4000000 in
theorem mm_X2_isOwnKey {l : Launch} {D : va_G} {cA : Nat → ClassId} {ad : Nat → Nat} {Ex : (Nat → Prop) → State → Heap → Prop} (Wd : zzWC l D cA ad Ex) : zz_Cn l D zzCl cA ad zzSC Ex yX2_isOwnKey cX2_isOwnKey 2 (some .boolean) 1 22 fX2_isOwnKey ∧ zz_Cx l D zzCl cA ad zzSC Ex yX2_isOwnKey cX2_isOwnKey 2 (some .boolean) 1 22 fX2_isOwnKey := by
  refine zz_meth (plainFor_of_name (by decide)) Wd.1 Wd.2.1 Wd.2.2.1 (fun p e R s m args below meth c rr X => ?_)
  unfold tX2_isOwnKey
  refine zz_cons (k' := 1) rfl (zk_aload_n X dX2_isOwnKey_0 rfl rfl) ?_
  refine zz_cons (k' := 2) rfl (zk_getf X ff_X2_21 dX2_isOwnKey_1 rfl) ?_
  refine zz_cons (k' := 3) rfl (zz_Ok_none _ _) ?_
  refine zz_cons (k' := 4) rfl (zz_Ok_none _ _) ?_
  refine zz_cons (k' := 5) rfl (zk_iconst X dX2_isOwnKey_4 (by decide) rfl) ?_
  refine zz_cons (k' := 6) rfl (zk_icmp_eq X dX2_isOwnKey_5 (by decide) rfl) ?_
  refine zz_cons (k' := 7) rfl (zz_Ok_none _ _) ?_
  refine zz_cons (k' := 8) rfl (zz_Ok_none _ _) ?_
  refine zz_cons (k' := 9) rfl (zk_aload_n X dX2_isOwnKey_8 rfl rfl) ?_
  refine zz_cons (k' := 10) rfl (zk_iload_n X dX2_isOwnKey_9 rfl rfl) ?_
  refine zz_cons (k' := 11) rfl (zk_bipush X dX2_isOwnKey_10 (by decide) rfl) ?_
  refine zz_cons (k' := 12) rfl (zz_Ok_none _ _) ?_
  refine zz_cons (k' := 13) rfl (zk_callv X (zz_Cv_of (List.forall_mem_cons.mpr ⟨⟨(RX_1, zzT1, 12), yX10_read, cX10_read, 3, (some .int), 0, 0, rfl, kv_X2_83_1, (mm_X10_read Wd).1, by decide, by decide⟩, (List.forall_mem_cons.mpr ⟨⟨(RX_2, zzT2, 12), yX10_read, cX10_read, 3, (some .int), 0, 0, rfl, kv_X2_83_2, (mm_X10_read Wd).1, by decide, by decide⟩, (List.forall_mem_cons.mpr ⟨⟨(RX_3, zzT3, 12), yX10_read, cX10_read, 3, (some .int), 0, 0, rfl, kv_X2_83_3, (mm_X10_read Wd).1, by decide, by decide⟩, (List.forall_mem_cons.mpr ⟨⟨(RX_4, zzT4, 12), yX10_read, cX10_read, 3, (some .int), 0, 0, rfl, kv_X2_83_4, (mm_X10_read Wd).1, by decide, by decide⟩, (List.forall_mem_cons.mpr ⟨⟨(RX_5, zzT5, 12), yX10_read, cX10_read, 3, (some .int), 0, 0, rfl, kv_X2_83_5, (mm_X10_read Wd).1, by decide, by decide⟩, (List.forall_mem_cons.mpr ⟨⟨(RX_6, zzT6, 13), yX10_read, cX10_read, 3, (some .int), 0, 0, rfl, kv_X2_83_6, (mm_X10_read Wd).1, by decide, by decide⟩, (List.forall_mem_cons.mpr ⟨⟨(RX_7, zzT7, 15), yX10_read, cX10_read, 3, (some .int), 0, 0, rfl, kv_X2_83_7, (mm_X10_read Wd).1, by decide, by decide⟩, (fun _ h => absurd h List.not_mem_nil)⟩)⟩)⟩)⟩)⟩)⟩)⟩)) dX2_isOwnKey_12 rfl) ?_
  refine zz_cons (k' := 14) rfl (zz_Ok_none _ _) ?_
  refine zz_cons (k' := 15) rfl (zz_Ok_none _ _) ?_
  refine zz_cons (k' := 16) rfl (zk_aload_n X dX2_isOwnKey_15 rfl rfl) ?_
  refine zz_cons (k' := 17) rfl (zk_getf X ff_X2_21 dX2_isOwnKey_16 rfl) ?_
  refine zz_cons (k' := 18) rfl (zz_Ok_none _ _) ?_
  refine zz_cons (k' := 19) rfl (zz_Ok_none _ _) ?_
  refine zz_cons (k' := 20) rfl (zk_icmp_ne X dX2_isOwnKey_19 (by decide) rfl) ?_
  refine zz_cons (k' := 21) rfl (zz_Ok_none _ _) ?_
  refine zz_cons (k' := 22) rfl (zz_Ok_none _ _) ?_
  refine zz_cons (k' := 23) rfl (zk_iconst X dX2_isOwnKey_22 (by decide) rfl) ?_
  refine zz_cons (k' := 24) rfl (zk_goto X dX2_isOwnKey_23 (by decide)) ?_
  refine zz_cons (k' := 25) rfl (zz_Ok_none _ _) ?_
  refine zz_cons (k' := 26) rfl (zz_Ok_none _ _) ?_
  refine zz_cons (k' := 27) rfl (zk_iconst X dX2_isOwnKey_26 (by decide) rfl) ?_
  refine zz_cons (k' := 28) rfl (zk_iret X rfl dX2_isOwnKey_27) ?_
  exact trivial
noncomputable def tX2_relist : List zzOp := [
  zo_aload 0 1,
  zo_aload 0 2,
  zo_getf zzSC (zz_kf [1, 2, 3, 4, 5, 6, 7] 4) 5,
  zo_none,
  zo_none,
  zo_callv zzSC (zz_cl [(1, fX10_takeAll), (2, fX10_takeAll), (3, fX10_takeAll), (4, fX10_takeAll), (5, fX10_takeAll), (6, fX10_takeAll), (7, fX10_takeAll)]) 1 8,
  zo_none,
  zo_none,
  zo_pushI 0 9,
  zo_istore 1 10,
  zo_iload 1 11,
  zo_aload 0 12,
  zo_getf zzSC (zz_kf [1, 2, 3, 4, 5, 6, 7] 2) 15,
  zo_none,
  zo_none,
  zo_icmp (fun x y => decide (y ≤ x)) 45 18,
  zo_none,
  zo_none,
  zo_aload 0 19,
  zo_iload 1 20,
  zo_callv zzSC (zz_cl [(1, fX10_isGone), (2, fX10_isGone), (3, fX10_isGone), (4, fX10_isGone), (5, fX10_isGone), (6, fX10_isGone), (7, fX10_isGone)]) 1 23,
  zo_none,
  zo_none,
  zo_if (fun x => decide (¬ x = 0)) 39 26,
  zo_none,
  zo_none,
  zo_aload 0 27,
  zo_iload 1 28,
  zo_callv zzSC (zz_cl [(1, fX2_isOwnKey), (2, fX2_isOwnKey), (3, fX2_isOwnKey), (4, fX2_isOwnKey), (5, fX2_isOwnKey), (6, fX2_isOwnKey), (7, fX2_isOwnKey)]) 1 31,
  zo_none,
  zo_none,
  zo_if (fun x => decide (x = 0)) 39 34,
  zo_none,
  zo_none,
  zo_aload 0 35,
  zo_iload 1 36,
  zo_callv zzSC (zz_cl [(1, fX2_enqueue), (2, fX2_enqueue), (3, fX2_enqueue), (4, fX2_enqueue), (5, fX2_enqueue), (6, fX2_enqueue), (7, fX2_enqueue)]) 1 39,
  zo_none,
  zo_none,
  zo_iinc 1 1 42,
  zo_none,
  zo_none,
  zo_goto 10,
  zo_none,
  zo_none,
  zo_ret]
set_option maxRecDepth 100000 in
theorem tl_X2_relist : ∀ pc, zz_Tl (tX2_relist.getD pc zo_none) := by
  refine zz_Tl_mem ?_
  unfold tX2_relist
  refine List.forall_mem_cons.mpr ⟨(zo_aload_tl _ _), ?_⟩
  refine List.forall_mem_cons.mpr ⟨(zo_aload_tl _ _), ?_⟩
  refine List.forall_mem_cons.mpr ⟨(zo_getf_tl _ _ _), ?_⟩
  refine List.forall_mem_cons.mpr ⟨zo_none_tl, ?_⟩
  refine List.forall_mem_cons.mpr ⟨zo_none_tl, ?_⟩
  refine List.forall_mem_cons.mpr ⟨(zo_callv_tl _ _ _ _), ?_⟩
  refine List.forall_mem_cons.mpr ⟨zo_none_tl, ?_⟩
  refine List.forall_mem_cons.mpr ⟨zo_none_tl, ?_⟩
  refine List.forall_mem_cons.mpr ⟨(zo_pushI_tl _ _), ?_⟩
  refine List.forall_mem_cons.mpr ⟨(zo_istore_tl _ _), ?_⟩
  refine List.forall_mem_cons.mpr ⟨(zo_iload_tl _ _), ?_⟩
  refine List.forall_mem_cons.mpr ⟨(zo_aload_tl _ _), ?_⟩
  refine List.forall_mem_cons.mpr ⟨(zo_getf_tl _ _ _), ?_⟩
  refine List.forall_mem_cons.mpr ⟨zo_none_tl, ?_⟩
  refine List.forall_mem_cons.mpr ⟨zo_none_tl, ?_⟩
  refine List.forall_mem_cons.mpr ⟨(zo_icmp_tl _ _ _), ?_⟩
  refine List.forall_mem_cons.mpr ⟨zo_none_tl, ?_⟩
  refine List.forall_mem_cons.mpr ⟨zo_none_tl, ?_⟩
  refine List.forall_mem_cons.mpr ⟨(zo_aload_tl _ _), ?_⟩
  refine List.forall_mem_cons.mpr ⟨(zo_iload_tl _ _), ?_⟩
  refine List.forall_mem_cons.mpr ⟨(zo_callv_tl _ _ _ _), ?_⟩
  refine List.forall_mem_cons.mpr ⟨zo_none_tl, ?_⟩
  refine List.forall_mem_cons.mpr ⟨zo_none_tl, ?_⟩
  refine List.forall_mem_cons.mpr ⟨(zo_if_tl _ _ _), ?_⟩
  refine List.forall_mem_cons.mpr ⟨zo_none_tl, ?_⟩
  refine List.forall_mem_cons.mpr ⟨zo_none_tl, ?_⟩
  refine List.forall_mem_cons.mpr ⟨(zo_aload_tl _ _), ?_⟩
  refine List.forall_mem_cons.mpr ⟨(zo_iload_tl _ _), ?_⟩
  refine List.forall_mem_cons.mpr ⟨(zo_callv_tl _ _ _ _), ?_⟩
  refine List.forall_mem_cons.mpr ⟨zo_none_tl, ?_⟩
  refine List.forall_mem_cons.mpr ⟨zo_none_tl, ?_⟩
  refine List.forall_mem_cons.mpr ⟨(zo_if_tl _ _ _), ?_⟩
  refine List.forall_mem_cons.mpr ⟨zo_none_tl, ?_⟩
  refine List.forall_mem_cons.mpr ⟨zo_none_tl, ?_⟩
  refine List.forall_mem_cons.mpr ⟨(zo_aload_tl _ _), ?_⟩
  refine List.forall_mem_cons.mpr ⟨(zo_iload_tl _ _), ?_⟩
  refine List.forall_mem_cons.mpr ⟨(zo_callv_tl _ _ _ _), ?_⟩
  refine List.forall_mem_cons.mpr ⟨zo_none_tl, ?_⟩
  refine List.forall_mem_cons.mpr ⟨zo_none_tl, ?_⟩
  refine List.forall_mem_cons.mpr ⟨(zo_iinc_tl _ _ _), ?_⟩
  refine List.forall_mem_cons.mpr ⟨zo_none_tl, ?_⟩
  refine List.forall_mem_cons.mpr ⟨zo_none_tl, ?_⟩
  refine List.forall_mem_cons.mpr ⟨(zo_goto_tl _), ?_⟩
  refine List.forall_mem_cons.mpr ⟨zo_none_tl, ?_⟩
  refine List.forall_mem_cons.mpr ⟨zo_none_tl, ?_⟩
  refine List.forall_mem_cons.mpr ⟨(zo_ret_tl), ?_⟩
  exact fun _ h => absurd h List.not_mem_nil
noncomputable def fX2_relist : zzFn := zz_fn tX2_relist 2
set_option maxRecDepth 100000 in
set_option maxHeartbeats 4000000 in
theorem mm_X2_relist {l : Launch} {D : va_G} {cA : Nat → ClassId} {ad : Nat → Nat} {Ex : (Nat → Prop) → State → Heap → Prop} (Wd : zzWC l D cA ad Ex) : zz_Cn l D zzCl cA ad zzSC Ex yX2_relist cX2_relist 2 none 2 47 fX2_relist ∧ zz_Cx l D zzCl cA ad zzSC Ex yX2_relist cX2_relist 2 none 2 47 fX2_relist := by
  refine zz_meth (plainFor_of_name (by decide)) Wd.1 Wd.2.1 Wd.2.2.1 (fun p e R s m args below meth c rr X => ?_)
  unfold tX2_relist
  refine zz_cons (k' := 1) rfl (zk_aload_n X dX2_relist_0 rfl rfl) ?_
  refine zz_cons (k' := 2) rfl (zk_aload_n X dX2_relist_1 rfl rfl) ?_
  refine zz_cons (k' := 3) rfl (zk_getf X ff_X2_15 dX2_relist_2 rfl) ?_
  refine zz_cons (k' := 4) rfl (zz_Ok_none _ _) ?_
  refine zz_cons (k' := 5) rfl (zz_Ok_none _ _) ?_
  refine zz_cons (k' := 6) rfl (zk_callv X (zz_Cv_of (List.forall_mem_cons.mpr ⟨⟨(RX_1, zzT1, 12), yX10_takeAll, cX10_takeAll, 2, none, 1, 26, rfl, kv_X2_62_1, (mm_X10_takeAll Wd).1, by decide, by decide⟩, (List.forall_mem_cons.mpr ⟨⟨(RX_2, zzT2, 12), yX10_takeAll, cX10_takeAll, 2, none, 1, 26, rfl, kv_X2_62_2, (mm_X10_takeAll Wd).1, by decide, by decide⟩, (List.forall_mem_cons.mpr ⟨⟨(RX_3, zzT3, 12), yX10_takeAll, cX10_takeAll, 2, none, 1, 26, rfl, kv_X2_62_3, (mm_X10_takeAll Wd).1, by decide, by decide⟩, (List.forall_mem_cons.mpr ⟨⟨(RX_4, zzT4, 12), yX10_takeAll, cX10_takeAll, 2, none, 1, 26, rfl, kv_X2_62_4, (mm_X10_takeAll Wd).1, by decide, by decide⟩, (List.forall_mem_cons.mpr ⟨⟨(RX_5, zzT5, 12), yX10_takeAll, cX10_takeAll, 2, none, 1, 26, rfl, kv_X2_62_5, (mm_X10_takeAll Wd).1, by decide, by decide⟩, (List.forall_mem_cons.mpr ⟨⟨(RX_6, zzT6, 13), yX10_takeAll, cX10_takeAll, 2, none, 1, 26, rfl, kv_X2_62_6, (mm_X10_takeAll Wd).1, by decide, by decide⟩, (List.forall_mem_cons.mpr ⟨⟨(RX_7, zzT7, 15), yX10_takeAll, cX10_takeAll, 2, none, 1, 26, rfl, kv_X2_62_7, (mm_X10_takeAll Wd).1, by decide, by decide⟩, (fun _ h => absurd h List.not_mem_nil)⟩)⟩)⟩)⟩)⟩)⟩)⟩)) dX2_relist_5 rfl) ?_
  refine zz_cons (k' := 7) rfl (zz_Ok_none _ _) ?_
  refine zz_cons (k' := 8) rfl (zz_Ok_none _ _) ?_
  refine zz_cons (k' := 9) rfl (zk_iconst X dX2_relist_8 (by decide) rfl) ?_
  refine zz_cons (k' := 10) rfl (zk_istore_n X dX2_relist_9 rfl (by decide) rfl) ?_
  refine zz_cons (k' := 11) rfl (zk_iload_n X dX2_relist_10 rfl rfl) ?_
  refine zz_cons (k' := 12) rfl (zk_aload_n X dX2_relist_11 rfl rfl) ?_
  refine zz_cons (k' := 13) rfl (zk_getf X ff_X2_66 dX2_relist_12 rfl) ?_
  refine zz_cons (k' := 14) rfl (zz_Ok_none _ _) ?_
  refine zz_cons (k' := 15) rfl (zz_Ok_none _ _) ?_
  refine zz_cons (k' := 16) rfl (zk_icmp_ge X dX2_relist_15 (by decide) rfl) ?_
  refine zz_cons (k' := 17) rfl (zz_Ok_none _ _) ?_
  refine zz_cons (k' := 18) rfl (zz_Ok_none _ _) ?_
  refine zz_cons (k' := 19) rfl (zk_aload_n X dX2_relist_18 rfl rfl) ?_
  refine zz_cons (k' := 20) rfl (zk_iload_n X dX2_relist_19 rfl rfl) ?_
  refine zz_cons (k' := 21) rfl (zk_callv X (zz_Cv_of (List.forall_mem_cons.mpr ⟨⟨(RX_1, zzT1, 12), yX10_isGone, cX10_isGone, 2, (some .boolean), 1, 22, rfl, kv_X2_69_1, (mm_X10_isGone Wd).1, by decide, by decide⟩, (List.forall_mem_cons.mpr ⟨⟨(RX_2, zzT2, 12), yX10_isGone, cX10_isGone, 2, (some .boolean), 1, 22, rfl, kv_X2_69_2, (mm_X10_isGone Wd).1, by decide, by decide⟩, (List.forall_mem_cons.mpr ⟨⟨(RX_3, zzT3, 12), yX10_isGone, cX10_isGone, 2, (some .boolean), 1, 22, rfl, kv_X2_69_3, (mm_X10_isGone Wd).1, by decide, by decide⟩, (List.forall_mem_cons.mpr ⟨⟨(RX_4, zzT4, 12), yX10_isGone, cX10_isGone, 2, (some .boolean), 1, 22, rfl, kv_X2_69_4, (mm_X10_isGone Wd).1, by decide, by decide⟩, (List.forall_mem_cons.mpr ⟨⟨(RX_5, zzT5, 12), yX10_isGone, cX10_isGone, 2, (some .boolean), 1, 22, rfl, kv_X2_69_5, (mm_X10_isGone Wd).1, by decide, by decide⟩, (List.forall_mem_cons.mpr ⟨⟨(RX_6, zzT6, 13), yX10_isGone, cX10_isGone, 2, (some .boolean), 1, 22, rfl, kv_X2_69_6, (mm_X10_isGone Wd).1, by decide, by decide⟩, (List.forall_mem_cons.mpr ⟨⟨(RX_7, zzT7, 15), yX10_isGone, cX10_isGone, 2, (some .boolean), 1, 22, rfl, kv_X2_69_7, (mm_X10_isGone Wd).1, by decide, by decide⟩, (fun _ h => absurd h List.not_mem_nil)⟩)⟩)⟩)⟩)⟩)⟩)⟩)) dX2_relist_20 rfl) ?_
  refine zz_cons (k' := 22) rfl (zz_Ok_none _ _) ?_
  refine zz_cons (k' := 23) rfl (zz_Ok_none _ _) ?_
  refine zz_cons (k' := 24) rfl (zk_if_ne X dX2_relist_23 (by decide) rfl) ?_
  refine zz_cons (k' := 25) rfl (zz_Ok_none _ _) ?_
  refine zz_cons (k' := 26) rfl (zz_Ok_none _ _) ?_
  refine zz_cons (k' := 27) rfl (zk_aload_n X dX2_relist_26 rfl rfl) ?_
  refine zz_cons (k' := 28) rfl (zk_iload_n X dX2_relist_27 rfl rfl) ?_
  refine zz_cons (k' := 29) rfl (zk_callv X (zz_Cv_of (List.forall_mem_cons.mpr ⟨⟨(RX_1, zzT1, 12), yX2_isOwnKey, cX2_isOwnKey, 2, (some .boolean), 1, 22, rfl, kv_X2_73_1, (mm_X2_isOwnKey Wd).1, by decide, by decide⟩, (List.forall_mem_cons.mpr ⟨⟨(RX_2, zzT2, 12), yX2_isOwnKey, cX2_isOwnKey, 2, (some .boolean), 1, 22, rfl, kv_X2_73_2, (mm_X2_isOwnKey Wd).1, by decide, by decide⟩, (List.forall_mem_cons.mpr ⟨⟨(RX_3, zzT3, 12), yX2_isOwnKey, cX2_isOwnKey, 2, (some .boolean), 1, 22, rfl, kv_X2_73_3, (mm_X2_isOwnKey Wd).1, by decide, by decide⟩, (List.forall_mem_cons.mpr ⟨⟨(RX_4, zzT4, 12), yX2_isOwnKey, cX2_isOwnKey, 2, (some .boolean), 1, 22, rfl, kv_X2_73_4, (mm_X2_isOwnKey Wd).1, by decide, by decide⟩, (List.forall_mem_cons.mpr ⟨⟨(RX_5, zzT5, 12), yX2_isOwnKey, cX2_isOwnKey, 2, (some .boolean), 1, 22, rfl, kv_X2_73_5, (mm_X2_isOwnKey Wd).1, by decide, by decide⟩, (List.forall_mem_cons.mpr ⟨⟨(RX_6, zzT6, 13), yX2_isOwnKey, cX2_isOwnKey, 2, (some .boolean), 1, 22, rfl, kv_X2_73_6, (mm_X2_isOwnKey Wd).1, by decide, by decide⟩, (List.forall_mem_cons.mpr ⟨⟨(RX_7, zzT7, 15), yX2_isOwnKey, cX2_isOwnKey, 2, (some .boolean), 1, 22, rfl, kv_X2_73_7, (mm_X2_isOwnKey Wd).1, by decide, by decide⟩, (fun _ h => absurd h List.not_mem_nil)⟩)⟩)⟩)⟩)⟩)⟩)⟩)) dX2_relist_28 rfl) ?_
  refine zz_cons (k' := 30) rfl (zz_Ok_none _ _) ?_
  refine zz_cons (k' := 31) rfl (zz_Ok_none _ _) ?_
  refine zz_cons (k' := 32) rfl (zk_if_eq X dX2_relist_31 (by decide) rfl) ?_
  refine zz_cons (k' := 33) rfl (zz_Ok_none _ _) ?_
  refine zz_cons (k' := 34) rfl (zz_Ok_none _ _) ?_
  refine zz_cons (k' := 35) rfl (zk_aload_n X dX2_relist_34 rfl rfl) ?_
  refine zz_cons (k' := 36) rfl (zk_iload_n X dX2_relist_35 rfl rfl) ?_
  refine zz_cons (k' := 37) rfl (zk_callv X (zz_Cv_of (List.forall_mem_cons.mpr ⟨⟨(RX_1, zzT1, 12), yX2_enqueue, cX2_enqueue, 2, none, 0, 0, rfl, kv_X2_76_1, (mm_X2_enqueue Wd).1, by decide, by decide⟩, (List.forall_mem_cons.mpr ⟨⟨(RX_2, zzT2, 12), yX2_enqueue, cX2_enqueue, 2, none, 0, 0, rfl, kv_X2_76_2, (mm_X2_enqueue Wd).1, by decide, by decide⟩, (List.forall_mem_cons.mpr ⟨⟨(RX_3, zzT3, 12), yX2_enqueue, cX2_enqueue, 2, none, 0, 0, rfl, kv_X2_76_3, (mm_X2_enqueue Wd).1, by decide, by decide⟩, (List.forall_mem_cons.mpr ⟨⟨(RX_4, zzT4, 12), yX2_enqueue, cX2_enqueue, 2, none, 0, 0, rfl, kv_X2_76_4, (mm_X2_enqueue Wd).1, by decide, by decide⟩, (List.forall_mem_cons.mpr ⟨⟨(RX_5, zzT5, 12), yX2_enqueue, cX2_enqueue, 2, none, 0, 0, rfl, kv_X2_76_5, (mm_X2_enqueue Wd).1, by decide, by decide⟩, (List.forall_mem_cons.mpr ⟨⟨(RX_6, zzT6, 13), yX2_enqueue, cX2_enqueue, 2, none, 0, 0, rfl, kv_X2_76_6, (mm_X2_enqueue Wd).1, by decide, by decide⟩, (List.forall_mem_cons.mpr ⟨⟨(RX_7, zzT7, 15), yX2_enqueue, cX2_enqueue, 2, none, 0, 0, rfl, kv_X2_76_7, (mm_X2_enqueue Wd).1, by decide, by decide⟩, (fun _ h => absurd h List.not_mem_nil)⟩)⟩)⟩)⟩)⟩)⟩)⟩)) dX2_relist_36 rfl) ?_
  refine zz_cons (k' := 38) rfl (zz_Ok_none _ _) ?_
  refine zz_cons (k' := 39) rfl (zz_Ok_none _ _) ?_
  refine zz_cons (k' := 40) rfl (zk_iinc X dX2_relist_39 (by decide) (by decide) rfl) ?_
  refine zz_cons (k' := 41) rfl (zz_Ok_none _ _) ?_
  refine zz_cons (k' := 42) rfl (zz_Ok_none _ _) ?_
  refine zz_cons (k' := 43) rfl (zk_goto X dX2_relist_42 (by decide)) ?_
  refine zz_cons (k' := 44) rfl (zz_Ok_none _ _) ?_
  refine zz_cons (k' := 45) rfl (zz_Ok_none _ _) ?_
  refine zz_cons (k' := 46) rfl (zk_ret X rfl dX2_relist_45) ?_
  exact trivial
noncomputable def tX3_queueOthers : List zzOp := [
  zo_aload 0 1,
  zo_iload 1 2,
  zo_pushI 23 4,
  zo_none,
  zo_callv zzSC (zz_cl [(2, fX10_read)]) 2 7,
  zo_none,
  zo_none,
  zo_pushI 1 8,
  zo_icmp (fun x y => decide (¬ x = y)) 16 11,
  zo_none,
  zo_none,
  zo_aload 0 12,
  zo_iload 2 13,
  zo_callv zzSC (zz_cl [(2, fX2_enqueue)]) 1 16,
  zo_none,
  zo_none,
  zo_aload 0 17,
  zo_iload 1 18,
  zo_pushI 23 20,
  zo_none,
  zo_callv zzSC (zz_cl [(2, fX10_read)]) 2 23,
  zo_none,
  zo_none,
  zo_pushI 2 24,
  zo_icmp (fun x y => decide (¬ x = y)) 49 27,
  zo_none,
  zo_none,
  zo_aload 0 28,
  zo_iload 2 29,
  zo_pushI 23 31,
  zo_none,
  zo_callv zzSC (zz_cl [(2, fX10_read)]) 2 34,
  zo_none,
  zo_none,
  zo_pushI 1 35,
  zo_icmp (fun x y => decide (¬ x = y)) 49 38,
  zo_none,
  zo_none,
  zo_aload 0 39,
  zo_aload 0 40,
  zo_iload 2 41,
  zo_pushI 24 43,
  zo_none,
  zo_callv zzSC (zz_cl [(2, fX10_read)]) 2 46,
  zo_none,
  zo_none,
  zo_callv zzSC (zz_cl [(2, fX2_enqueue)]) 1 49,
  zo_none,
  zo_none,
  zo_ret]
set_option maxRecDepth 100000 in
theorem tl_X3_queueOthers : ∀ pc, zz_Tl (tX3_queueOthers.getD pc zo_none) := by
  refine zz_Tl_mem ?_
  unfold tX3_queueOthers
  refine List.forall_mem_cons.mpr ⟨(zo_aload_tl _ _), ?_⟩
  refine List.forall_mem_cons.mpr ⟨(zo_iload_tl _ _), ?_⟩
  refine List.forall_mem_cons.mpr ⟨(zo_pushI_tl _ _), ?_⟩
  refine List.forall_mem_cons.mpr ⟨zo_none_tl, ?_⟩
  refine List.forall_mem_cons.mpr ⟨(zo_callv_tl _ _ _ _), ?_⟩
  refine List.forall_mem_cons.mpr ⟨zo_none_tl, ?_⟩
  refine List.forall_mem_cons.mpr ⟨zo_none_tl, ?_⟩
  refine List.forall_mem_cons.mpr ⟨(zo_pushI_tl _ _), ?_⟩
  refine List.forall_mem_cons.mpr ⟨(zo_icmp_tl _ _ _), ?_⟩
  refine List.forall_mem_cons.mpr ⟨zo_none_tl, ?_⟩
  refine List.forall_mem_cons.mpr ⟨zo_none_tl, ?_⟩
  refine List.forall_mem_cons.mpr ⟨(zo_aload_tl _ _), ?_⟩
  refine List.forall_mem_cons.mpr ⟨(zo_iload_tl _ _), ?_⟩
  refine List.forall_mem_cons.mpr ⟨(zo_callv_tl _ _ _ _), ?_⟩
  refine List.forall_mem_cons.mpr ⟨zo_none_tl, ?_⟩
  refine List.forall_mem_cons.mpr ⟨zo_none_tl, ?_⟩
  refine List.forall_mem_cons.mpr ⟨(zo_aload_tl _ _), ?_⟩
  refine List.forall_mem_cons.mpr ⟨(zo_iload_tl _ _), ?_⟩
  refine List.forall_mem_cons.mpr ⟨(zo_pushI_tl _ _), ?_⟩
  refine List.forall_mem_cons.mpr ⟨zo_none_tl, ?_⟩
  refine List.forall_mem_cons.mpr ⟨(zo_callv_tl _ _ _ _), ?_⟩
  refine List.forall_mem_cons.mpr ⟨zo_none_tl, ?_⟩
  refine List.forall_mem_cons.mpr ⟨zo_none_tl, ?_⟩
  refine List.forall_mem_cons.mpr ⟨(zo_pushI_tl _ _), ?_⟩
  refine List.forall_mem_cons.mpr ⟨(zo_icmp_tl _ _ _), ?_⟩
  refine List.forall_mem_cons.mpr ⟨zo_none_tl, ?_⟩
  refine List.forall_mem_cons.mpr ⟨zo_none_tl, ?_⟩
  refine List.forall_mem_cons.mpr ⟨(zo_aload_tl _ _), ?_⟩
  refine List.forall_mem_cons.mpr ⟨(zo_iload_tl _ _), ?_⟩
  refine List.forall_mem_cons.mpr ⟨(zo_pushI_tl _ _), ?_⟩
  refine List.forall_mem_cons.mpr ⟨zo_none_tl, ?_⟩
  refine List.forall_mem_cons.mpr ⟨(zo_callv_tl _ _ _ _), ?_⟩
  refine List.forall_mem_cons.mpr ⟨zo_none_tl, ?_⟩
  refine List.forall_mem_cons.mpr ⟨zo_none_tl, ?_⟩
  refine List.forall_mem_cons.mpr ⟨(zo_pushI_tl _ _), ?_⟩
  refine List.forall_mem_cons.mpr ⟨(zo_icmp_tl _ _ _), ?_⟩
  refine List.forall_mem_cons.mpr ⟨zo_none_tl, ?_⟩
  refine List.forall_mem_cons.mpr ⟨zo_none_tl, ?_⟩
  refine List.forall_mem_cons.mpr ⟨(zo_aload_tl _ _), ?_⟩
  refine List.forall_mem_cons.mpr ⟨(zo_aload_tl _ _), ?_⟩
  refine List.forall_mem_cons.mpr ⟨(zo_iload_tl _ _), ?_⟩
  refine List.forall_mem_cons.mpr ⟨(zo_pushI_tl _ _), ?_⟩
  refine List.forall_mem_cons.mpr ⟨zo_none_tl, ?_⟩
  refine List.forall_mem_cons.mpr ⟨(zo_callv_tl _ _ _ _), ?_⟩
  refine List.forall_mem_cons.mpr ⟨zo_none_tl, ?_⟩
  refine List.forall_mem_cons.mpr ⟨zo_none_tl, ?_⟩
  refine List.forall_mem_cons.mpr ⟨(zo_callv_tl _ _ _ _), ?_⟩
  refine List.forall_mem_cons.mpr ⟨zo_none_tl, ?_⟩
  refine List.forall_mem_cons.mpr ⟨zo_none_tl, ?_⟩
  refine List.forall_mem_cons.mpr ⟨(zo_ret_tl), ?_⟩
  exact fun _ h => absurd h List.not_mem_nil
noncomputable def fX3_queueOthers : zzFn := zz_fn tX3_queueOthers 3
set_option maxRecDepth 100000 in
set_option maxHeartbeats 4000000 in
theorem mm_X3_queueOthers {l : Launch} {D : va_G} {cA : Nat → ClassId} {ad : Nat → Nat} {Ex : (Nat → Prop) → State → Heap → Prop} (Wd : zzWC l D cA ad Ex) : zz_Cn l D zzCl cA ad zzSC Ex yX3_queueOthers cX3_queueOthers 3 none 1 22 fX3_queueOthers ∧ zz_Cx l D zzCl cA ad zzSC Ex yX3_queueOthers cX3_queueOthers 3 none 1 22 fX3_queueOthers := by
  refine zz_meth (plainFor_of_name (by decide)) Wd.1 Wd.2.1 Wd.2.2.1 (fun p e R s m args below meth c rr X => ?_)
  unfold tX3_queueOthers
  refine zz_cons (k' := 1) rfl (zk_aload_n X dX3_queueOthers_0 rfl rfl) ?_
  refine zz_cons (k' := 2) rfl (zk_iload_n X dX3_queueOthers_1 rfl rfl) ?_
  refine zz_cons (k' := 3) rfl (zk_bipush X dX3_queueOthers_2 (by decide) rfl) ?_
  refine zz_cons (k' := 4) rfl (zz_Ok_none _ _) ?_
  refine zz_cons (k' := 5) rfl (zk_callv X (zz_Cv_of (List.forall_mem_cons.mpr ⟨⟨(RX_2, zzT2, 12), yX10_read, cX10_read, 3, (some .int), 0, 0, rfl, kv_X3_9_2, (mm_X10_read Wd).1, by decide, by decide⟩, (fun _ h => absurd h List.not_mem_nil)⟩)) dX3_queueOthers_4 rfl) ?_
  refine zz_cons (k' := 6) rfl (zz_Ok_none _ _) ?_
  refine zz_cons (k' := 7) rfl (zz_Ok_none _ _) ?_
  refine zz_cons (k' := 8) rfl (zk_iconst X dX3_queueOthers_7 (by decide) rfl) ?_
  refine zz_cons (k' := 9) rfl (zk_icmp_ne X dX3_queueOthers_8 (by decide) rfl) ?_
  refine zz_cons (k' := 10) rfl (zz_Ok_none _ _) ?_
  refine zz_cons (k' := 11) rfl (zz_Ok_none _ _) ?_
  refine zz_cons (k' := 12) rfl (zk_aload_n X dX3_queueOthers_11 rfl rfl) ?_
  refine zz_cons (k' := 13) rfl (zk_iload_n X dX3_queueOthers_12 rfl rfl) ?_
  refine zz_cons (k' := 14) rfl (zk_callv X (zz_Cv_of (List.forall_mem_cons.mpr ⟨⟨(RX_2, zzT2, 12), yX2_enqueue, cX2_enqueue, 2, none, 0, 0, rfl, kv_X3_15_2, (mm_X2_enqueue Wd).1, by decide, by decide⟩, (fun _ h => absurd h List.not_mem_nil)⟩)) dX3_queueOthers_13 rfl) ?_
  refine zz_cons (k' := 15) rfl (zz_Ok_none _ _) ?_
  refine zz_cons (k' := 16) rfl (zz_Ok_none _ _) ?_
  refine zz_cons (k' := 17) rfl (zk_aload_n X dX3_queueOthers_16 rfl rfl) ?_
  refine zz_cons (k' := 18) rfl (zk_iload_n X dX3_queueOthers_17 rfl rfl) ?_
  refine zz_cons (k' := 19) rfl (zk_bipush X dX3_queueOthers_18 (by decide) rfl) ?_
  refine zz_cons (k' := 20) rfl (zz_Ok_none _ _) ?_
  refine zz_cons (k' := 21) rfl (zk_callv X (zz_Cv_of (List.forall_mem_cons.mpr ⟨⟨(RX_2, zzT2, 12), yX10_read, cX10_read, 3, (some .int), 0, 0, rfl, kv_X3_9_2, (mm_X10_read Wd).1, by decide, by decide⟩, (fun _ h => absurd h List.not_mem_nil)⟩)) dX3_queueOthers_20 rfl) ?_
  refine zz_cons (k' := 22) rfl (zz_Ok_none _ _) ?_
  refine zz_cons (k' := 23) rfl (zz_Ok_none _ _) ?_
  refine zz_cons (k' := 24) rfl (zk_iconst X dX3_queueOthers_23 (by decide) rfl) ?_
  refine zz_cons (k' := 25) rfl (zk_icmp_ne X dX3_queueOthers_24 (by decide) rfl) ?_
  refine zz_cons (k' := 26) rfl (zz_Ok_none _ _) ?_
  refine zz_cons (k' := 27) rfl (zz_Ok_none _ _) ?_
  refine zz_cons (k' := 28) rfl (zk_aload_n X dX3_queueOthers_27 rfl rfl) ?_
  refine zz_cons (k' := 29) rfl (zk_iload_n X dX3_queueOthers_28 rfl rfl) ?_
  refine zz_cons (k' := 30) rfl (zk_bipush X dX3_queueOthers_29 (by decide) rfl) ?_
  refine zz_cons (k' := 31) rfl (zz_Ok_none _ _) ?_
  refine zz_cons (k' := 32) rfl (zk_callv X (zz_Cv_of (List.forall_mem_cons.mpr ⟨⟨(RX_2, zzT2, 12), yX10_read, cX10_read, 3, (some .int), 0, 0, rfl, kv_X3_9_2, (mm_X10_read Wd).1, by decide, by decide⟩, (fun _ h => absurd h List.not_mem_nil)⟩)) dX3_queueOthers_31 rfl) ?_
  refine zz_cons (k' := 33) rfl (zz_Ok_none _ _) ?_
  refine zz_cons (k' := 34) rfl (zz_Ok_none _ _) ?_
  refine zz_cons (k' := 35) rfl (zk_iconst X dX3_queueOthers_34 (by decide) rfl) ?_
  refine zz_cons (k' := 36) rfl (zk_icmp_ne X dX3_queueOthers_35 (by decide) rfl) ?_
  refine zz_cons (k' := 37) rfl (zz_Ok_none _ _) ?_
  refine zz_cons (k' := 38) rfl (zz_Ok_none _ _) ?_
  refine zz_cons (k' := 39) rfl (zk_aload_n X dX3_queueOthers_38 rfl rfl) ?_
  refine zz_cons (k' := 40) rfl (zk_aload_n X dX3_queueOthers_39 rfl rfl) ?_
  refine zz_cons (k' := 41) rfl (zk_iload_n X dX3_queueOthers_40 rfl rfl) ?_
  refine zz_cons (k' := 42) rfl (zk_bipush X dX3_queueOthers_41 (by decide) rfl) ?_
  refine zz_cons (k' := 43) rfl (zz_Ok_none _ _) ?_
  refine zz_cons (k' := 44) rfl (zk_callv X (zz_Cv_of (List.forall_mem_cons.mpr ⟨⟨(RX_2, zzT2, 12), yX10_read, cX10_read, 3, (some .int), 0, 0, rfl, kv_X3_9_2, (mm_X10_read Wd).1, by decide, by decide⟩, (fun _ h => absurd h List.not_mem_nil)⟩)) dX3_queueOthers_43 rfl) ?_
  refine zz_cons (k' := 45) rfl (zz_Ok_none _ _) ?_
  refine zz_cons (k' := 46) rfl (zz_Ok_none _ _) ?_
  refine zz_cons (k' := 47) rfl (zk_callv X (zz_Cv_of (List.forall_mem_cons.mpr ⟨⟨(RX_2, zzT2, 12), yX2_enqueue, cX2_enqueue, 2, none, 0, 0, rfl, kv_X3_15_2, (mm_X2_enqueue Wd).1, by decide, by decide⟩, (fun _ h => absurd h List.not_mem_nil)⟩)) dX3_queueOthers_46 rfl) ?_
  refine zz_cons (k' := 48) rfl (zz_Ok_none _ _) ?_
  refine zz_cons (k' := 49) rfl (zz_Ok_none _ _) ?_
  refine zz_cons (k' := 50) rfl (zk_ret X rfl dX3_queueOthers_49) ?_
  exact trivial
noncomputable def tX4_queueOthers : List zzOp := [
  zo_aload 0 1,
  zo_iload 1 2,
  zo_pushI 23 4,
  zo_none,
  zo_callv zzSC (zz_cl [(3, fX10_read)]) 2 7,
  zo_none,
  zo_none,
  zo_pushI 2 8,
  zo_icmp (fun x y => decide (¬ x = y)) 30 11,
  zo_none,
  zo_none,
  zo_aload 0 12,
  zo_iload 2 13,
  zo_pushI 23 15,
  zo_none,
  zo_callv zzSC (zz_cl [(3, fX10_read)]) 2 18,
  zo_none,
  zo_none,
  zo_aload 0 19,
  zo_getf zzSC (zz_kf [3] 5) 22,
  zo_none,
  zo_none,
  zo_icmp (fun x y => decide (¬ x = y)) 30 25,
  zo_none,
  zo_none,
  zo_aload 0 26,
  zo_iload 2 27,
  zo_callv zzSC (zz_cl [(3, fX2_enqueue)]) 1 30,
  zo_none,
  zo_none,
  zo_ret]
set_option maxRecDepth 100000 in
theorem tl_X4_queueOthers : ∀ pc, zz_Tl (tX4_queueOthers.getD pc zo_none) := by
  refine zz_Tl_mem ?_
  unfold tX4_queueOthers
  refine List.forall_mem_cons.mpr ⟨(zo_aload_tl _ _), ?_⟩
  refine List.forall_mem_cons.mpr ⟨(zo_iload_tl _ _), ?_⟩
  refine List.forall_mem_cons.mpr ⟨(zo_pushI_tl _ _), ?_⟩
  refine List.forall_mem_cons.mpr ⟨zo_none_tl, ?_⟩
  refine List.forall_mem_cons.mpr ⟨(zo_callv_tl _ _ _ _), ?_⟩
  refine List.forall_mem_cons.mpr ⟨zo_none_tl, ?_⟩
  refine List.forall_mem_cons.mpr ⟨zo_none_tl, ?_⟩
  refine List.forall_mem_cons.mpr ⟨(zo_pushI_tl _ _), ?_⟩
  refine List.forall_mem_cons.mpr ⟨(zo_icmp_tl _ _ _), ?_⟩
  refine List.forall_mem_cons.mpr ⟨zo_none_tl, ?_⟩
  refine List.forall_mem_cons.mpr ⟨zo_none_tl, ?_⟩
  refine List.forall_mem_cons.mpr ⟨(zo_aload_tl _ _), ?_⟩
  refine List.forall_mem_cons.mpr ⟨(zo_iload_tl _ _), ?_⟩
  refine List.forall_mem_cons.mpr ⟨(zo_pushI_tl _ _), ?_⟩
  refine List.forall_mem_cons.mpr ⟨zo_none_tl, ?_⟩
  refine List.forall_mem_cons.mpr ⟨(zo_callv_tl _ _ _ _), ?_⟩
  refine List.forall_mem_cons.mpr ⟨zo_none_tl, ?_⟩
  refine List.forall_mem_cons.mpr ⟨zo_none_tl, ?_⟩
  refine List.forall_mem_cons.mpr ⟨(zo_aload_tl _ _), ?_⟩
  refine List.forall_mem_cons.mpr ⟨(zo_getf_tl _ _ _), ?_⟩
  refine List.forall_mem_cons.mpr ⟨zo_none_tl, ?_⟩
  refine List.forall_mem_cons.mpr ⟨zo_none_tl, ?_⟩
  refine List.forall_mem_cons.mpr ⟨(zo_icmp_tl _ _ _), ?_⟩
  refine List.forall_mem_cons.mpr ⟨zo_none_tl, ?_⟩
  refine List.forall_mem_cons.mpr ⟨zo_none_tl, ?_⟩
  refine List.forall_mem_cons.mpr ⟨(zo_aload_tl _ _), ?_⟩
  refine List.forall_mem_cons.mpr ⟨(zo_iload_tl _ _), ?_⟩
  refine List.forall_mem_cons.mpr ⟨(zo_callv_tl _ _ _ _), ?_⟩
  refine List.forall_mem_cons.mpr ⟨zo_none_tl, ?_⟩
  refine List.forall_mem_cons.mpr ⟨zo_none_tl, ?_⟩
  refine List.forall_mem_cons.mpr ⟨(zo_ret_tl), ?_⟩
  exact fun _ h => absurd h List.not_mem_nil
noncomputable def fX4_queueOthers : zzFn := zz_fn tX4_queueOthers 3
set_option maxRecDepth 100000 in
set_option maxHeartbeats 4000000 in
theorem mm_X4_queueOthers {l : Launch} {D : va_G} {cA : Nat → ClassId} {ad : Nat → Nat} {Ex : (Nat → Prop) → State → Heap → Prop} (Wd : zzWC l D cA ad Ex) : zz_Cn l D zzCl cA ad zzSC Ex yX4_queueOthers cX4_queueOthers 3 none 1 22 fX4_queueOthers ∧ zz_Cx l D zzCl cA ad zzSC Ex yX4_queueOthers cX4_queueOthers 3 none 1 22 fX4_queueOthers := by
  refine zz_meth (plainFor_of_name (by decide)) Wd.1 Wd.2.1 Wd.2.2.1 (fun p e R s m args below meth c rr X => ?_)
  unfold tX4_queueOthers
  refine zz_cons (k' := 1) rfl (zk_aload_n X dX4_queueOthers_0 rfl rfl) ?_
  refine zz_cons (k' := 2) rfl (zk_iload_n X dX4_queueOthers_1 rfl rfl) ?_
  refine zz_cons (k' := 3) rfl (zk_bipush X dX4_queueOthers_2 (by decide) rfl) ?_
  refine zz_cons (k' := 4) rfl (zz_Ok_none _ _) ?_
  refine zz_cons (k' := 5) rfl (zk_callv X (zz_Cv_of (List.forall_mem_cons.mpr ⟨⟨(RX_3, zzT3, 12), yX10_read, cX10_read, 3, (some .int), 0, 0, rfl, kv_X4_9_3, (mm_X10_read Wd).1, by decide, by decide⟩, (fun _ h => absurd h List.not_mem_nil)⟩)) dX4_queueOthers_4 rfl) ?_
  refine zz_cons (k' := 6) rfl (zz_Ok_none _ _) ?_
  refine zz_cons (k' := 7) rfl (zz_Ok_none _ _) ?_
  refine zz_cons (k' := 8) rfl (zk_iconst X dX4_queueOthers_7 (by decide) rfl) ?_
  refine zz_cons (k' := 9) rfl (zk_icmp_ne X dX4_queueOthers_8 (by decide) rfl) ?_
  refine zz_cons (k' := 10) rfl (zz_Ok_none _ _) ?_
  refine zz_cons (k' := 11) rfl (zz_Ok_none _ _) ?_
  refine zz_cons (k' := 12) rfl (zk_aload_n X dX4_queueOthers_11 rfl rfl) ?_
  refine zz_cons (k' := 13) rfl (zk_iload_n X dX4_queueOthers_12 rfl rfl) ?_
  refine zz_cons (k' := 14) rfl (zk_bipush X dX4_queueOthers_13 (by decide) rfl) ?_
  refine zz_cons (k' := 15) rfl (zz_Ok_none _ _) ?_
  refine zz_cons (k' := 16) rfl (zk_callv X (zz_Cv_of (List.forall_mem_cons.mpr ⟨⟨(RX_3, zzT3, 12), yX10_read, cX10_read, 3, (some .int), 0, 0, rfl, kv_X4_9_3, (mm_X10_read Wd).1, by decide, by decide⟩, (fun _ h => absurd h List.not_mem_nil)⟩)) dX4_queueOthers_15 rfl) ?_
  refine zz_cons (k' := 17) rfl (zz_Ok_none _ _) ?_
  refine zz_cons (k' := 18) rfl (zz_Ok_none _ _) ?_
  refine zz_cons (k' := 19) rfl (zk_aload_n X dX4_queueOthers_18 rfl rfl) ?_
  refine zz_cons (k' := 20) rfl (zk_getf X ff_X4_15 dX4_queueOthers_19 rfl) ?_
  refine zz_cons (k' := 21) rfl (zz_Ok_none _ _) ?_
  refine zz_cons (k' := 22) rfl (zz_Ok_none _ _) ?_
  refine zz_cons (k' := 23) rfl (zk_icmp_ne X dX4_queueOthers_22 (by decide) rfl) ?_
  refine zz_cons (k' := 24) rfl (zz_Ok_none _ _) ?_
  refine zz_cons (k' := 25) rfl (zz_Ok_none _ _) ?_
  refine zz_cons (k' := 26) rfl (zk_aload_n X dX4_queueOthers_25 rfl rfl) ?_
  refine zz_cons (k' := 27) rfl (zk_iload_n X dX4_queueOthers_26 rfl rfl) ?_
  refine zz_cons (k' := 28) rfl (zk_callv X (zz_Cv_of (List.forall_mem_cons.mpr ⟨⟨(RX_3, zzT3, 12), yX2_enqueue, cX2_enqueue, 2, none, 0, 0, rfl, kv_X4_19_3, (mm_X2_enqueue Wd).1, by decide, by decide⟩, (fun _ h => absurd h List.not_mem_nil)⟩)) dX4_queueOthers_27 rfl) ?_
  refine zz_cons (k' := 29) rfl (zz_Ok_none _ _) ?_
  refine zz_cons (k' := 30) rfl (zz_Ok_none _ _) ?_
  refine zz_cons (k' := 31) rfl (zk_ret X rfl dX4_queueOthers_30) ?_
  exact trivial
noncomputable def tX5_queueOthers : List zzOp := [
  zo_pushI 0 1,
  zo_istore 3 2,
  zo_iload 3 3,
  zo_aload 0 4,
  zo_getf zzSC (zz_kf [4] 2) 7,
  zo_none,
  zo_none,
  zo_icmp (fun x y => decide (y ≤ x)) 51 10,
  zo_none,
  zo_none,
  zo_aload 0 11,
  zo_iload 1 12,
  zo_pushI 23 14,
  zo_none,
  zo_callv zzSC (zz_cl [(4, fX10_read)]) 2 17,
  zo_none,
  zo_none,
  zo_pushI 2 18,
  zo_icmp (fun x y => decide (¬ x = y)) 51 21,
  zo_none,
  zo_none,
  zo_aload 0 22,
  zo_iload 3 23,
  zo_pushI 23 25,
  zo_none,
  zo_callv zzSC (zz_cl [(4, fX10_read)]) 2 28,
  zo_none,
  zo_none,
  zo_pushI 5 29,
  zo_icmp (fun x y => decide (¬ x = y)) 45 32,
  zo_none,
  zo_none,
  zo_aload 0 33,
  zo_iload 3 34,
  zo_callv zzSC (zz_cl [(4, fX10_isGone)]) 1 37,
  zo_none,
  zo_none,
  zo_if (fun x => decide (¬ x = 0)) 45 40,
  zo_none,
  zo_none,
  zo_aload 0 41,
  zo_iload 3 42,
  zo_callv zzSC (zz_cl [(4, fX2_enqueue)]) 1 45,
  zo_none,
  zo_none,
  zo_iinc 3 1 48,
  zo_none,
  zo_none,
  zo_goto 2,
  zo_none,
  zo_none,
  zo_ret]
set_option maxRecDepth 100000 in
theorem tl_X5_queueOthers : ∀ pc, zz_Tl (tX5_queueOthers.getD pc zo_none) := by
  refine zz_Tl_mem ?_
  unfold tX5_queueOthers
  refine List.forall_mem_cons.mpr ⟨(zo_pushI_tl _ _), ?_⟩
  refine List.forall_mem_cons.mpr ⟨(zo_istore_tl _ _), ?_⟩
  refine List.forall_mem_cons.mpr ⟨(zo_iload_tl _ _), ?_⟩
  refine List.forall_mem_cons.mpr ⟨(zo_aload_tl _ _), ?_⟩
  refine List.forall_mem_cons.mpr ⟨(zo_getf_tl _ _ _), ?_⟩
  refine List.forall_mem_cons.mpr ⟨zo_none_tl, ?_⟩
  refine List.forall_mem_cons.mpr ⟨zo_none_tl, ?_⟩
  refine List.forall_mem_cons.mpr ⟨(zo_icmp_tl _ _ _), ?_⟩
  refine List.forall_mem_cons.mpr ⟨zo_none_tl, ?_⟩
  refine List.forall_mem_cons.mpr ⟨zo_none_tl, ?_⟩
  refine List.forall_mem_cons.mpr ⟨(zo_aload_tl _ _), ?_⟩
  refine List.forall_mem_cons.mpr ⟨(zo_iload_tl _ _), ?_⟩
  refine List.forall_mem_cons.mpr ⟨(zo_pushI_tl _ _), ?_⟩
  refine List.forall_mem_cons.mpr ⟨zo_none_tl, ?_⟩
  refine List.forall_mem_cons.mpr ⟨(zo_callv_tl _ _ _ _), ?_⟩
  refine List.forall_mem_cons.mpr ⟨zo_none_tl, ?_⟩
  refine List.forall_mem_cons.mpr ⟨zo_none_tl, ?_⟩
  refine List.forall_mem_cons.mpr ⟨(zo_pushI_tl _ _), ?_⟩
  refine List.forall_mem_cons.mpr ⟨(zo_icmp_tl _ _ _), ?_⟩
  refine List.forall_mem_cons.mpr ⟨zo_none_tl, ?_⟩
  refine List.forall_mem_cons.mpr ⟨zo_none_tl, ?_⟩
  refine List.forall_mem_cons.mpr ⟨(zo_aload_tl _ _), ?_⟩
  refine List.forall_mem_cons.mpr ⟨(zo_iload_tl _ _), ?_⟩
  refine List.forall_mem_cons.mpr ⟨(zo_pushI_tl _ _), ?_⟩
  refine List.forall_mem_cons.mpr ⟨zo_none_tl, ?_⟩
  refine List.forall_mem_cons.mpr ⟨(zo_callv_tl _ _ _ _), ?_⟩
  refine List.forall_mem_cons.mpr ⟨zo_none_tl, ?_⟩
  refine List.forall_mem_cons.mpr ⟨zo_none_tl, ?_⟩
  refine List.forall_mem_cons.mpr ⟨(zo_pushI_tl _ _), ?_⟩
  refine List.forall_mem_cons.mpr ⟨(zo_icmp_tl _ _ _), ?_⟩
  refine List.forall_mem_cons.mpr ⟨zo_none_tl, ?_⟩
  refine List.forall_mem_cons.mpr ⟨zo_none_tl, ?_⟩
  refine List.forall_mem_cons.mpr ⟨(zo_aload_tl _ _), ?_⟩
  refine List.forall_mem_cons.mpr ⟨(zo_iload_tl _ _), ?_⟩
  refine List.forall_mem_cons.mpr ⟨(zo_callv_tl _ _ _ _), ?_⟩
  refine List.forall_mem_cons.mpr ⟨zo_none_tl, ?_⟩
  refine List.forall_mem_cons.mpr ⟨zo_none_tl, ?_⟩
  refine List.forall_mem_cons.mpr ⟨(zo_if_tl _ _ _), ?_⟩
  refine List.forall_mem_cons.mpr ⟨zo_none_tl, ?_⟩
  refine List.forall_mem_cons.mpr ⟨zo_none_tl, ?_⟩
  refine List.forall_mem_cons.mpr ⟨(zo_aload_tl _ _), ?_⟩
  refine List.forall_mem_cons.mpr ⟨(zo_iload_tl _ _), ?_⟩
  refine List.forall_mem_cons.mpr ⟨(zo_callv_tl _ _ _ _), ?_⟩
  refine List.forall_mem_cons.mpr ⟨zo_none_tl, ?_⟩
  refine List.forall_mem_cons.mpr ⟨zo_none_tl, ?_⟩
  refine List.forall_mem_cons.mpr ⟨(zo_iinc_tl _ _ _), ?_⟩
  refine List.forall_mem_cons.mpr ⟨zo_none_tl, ?_⟩
  refine List.forall_mem_cons.mpr ⟨zo_none_tl, ?_⟩
  refine List.forall_mem_cons.mpr ⟨(zo_goto_tl _), ?_⟩
  refine List.forall_mem_cons.mpr ⟨zo_none_tl, ?_⟩
  refine List.forall_mem_cons.mpr ⟨zo_none_tl, ?_⟩
  refine List.forall_mem_cons.mpr ⟨(zo_ret_tl), ?_⟩
  exact fun _ h => absurd h List.not_mem_nil
noncomputable def fX5_queueOthers : zzFn := zz_fn tX5_queueOthers 4
set_option maxRecDepth 100000 in
set_option maxHeartbeats 4000000 in
theorem mm_X5_queueOthers {l : Launch} {D : va_G} {cA : Nat → ClassId} {ad : Nat → Nat} {Ex : (Nat → Prop) → State → Heap → Prop} (Wd : zzWC l D cA ad Ex) : zz_Cn l D zzCl cA ad zzSC Ex yX5_queueOthers cX5_queueOthers 4 none 2 43 fX5_queueOthers ∧ zz_Cx l D zzCl cA ad zzSC Ex yX5_queueOthers cX5_queueOthers 4 none 2 43 fX5_queueOthers := by
  refine zz_meth (plainFor_of_name (by decide)) Wd.1 Wd.2.1 Wd.2.2.1 (fun p e R s m args below meth c rr X => ?_)
  unfold tX5_queueOthers
  refine zz_cons (k' := 1) rfl (zk_iconst X dX5_queueOthers_0 (by decide) rfl) ?_
  refine zz_cons (k' := 2) rfl (zk_istore_n X dX5_queueOthers_1 rfl (by decide) rfl) ?_
  refine zz_cons (k' := 3) rfl (zk_iload_n X dX5_queueOthers_2 rfl rfl) ?_
  refine zz_cons (k' := 4) rfl (zk_aload_n X dX5_queueOthers_3 rfl rfl) ?_
  refine zz_cons (k' := 5) rfl (zk_getf X ff_X5_9 dX5_queueOthers_4 rfl) ?_
  refine zz_cons (k' := 6) rfl (zz_Ok_none _ _) ?_
  refine zz_cons (k' := 7) rfl (zz_Ok_none _ _) ?_
  refine zz_cons (k' := 8) rfl (zk_icmp_ge X dX5_queueOthers_7 (by decide) rfl) ?_
  refine zz_cons (k' := 9) rfl (zz_Ok_none _ _) ?_
  refine zz_cons (k' := 10) rfl (zz_Ok_none _ _) ?_
  refine zz_cons (k' := 11) rfl (zk_aload_n X dX5_queueOthers_10 rfl rfl) ?_
  refine zz_cons (k' := 12) rfl (zk_iload_n X dX5_queueOthers_11 rfl rfl) ?_
  refine zz_cons (k' := 13) rfl (zk_bipush X dX5_queueOthers_12 (by decide) rfl) ?_
  refine zz_cons (k' := 14) rfl (zz_Ok_none _ _) ?_
  refine zz_cons (k' := 15) rfl (zk_callv X (zz_Cv_of (List.forall_mem_cons.mpr ⟨⟨(RX_4, zzT4, 12), yX10_read, cX10_read, 3, (some .int), 0, 0, rfl, kv_X5_15_4, (mm_X10_read Wd).1, by decide, by decide⟩, (fun _ h => absurd h List.not_mem_nil)⟩)) dX5_queueOthers_14 rfl) ?_
  refine zz_cons (k' := 16) rfl (zz_Ok_none _ _) ?_
  refine zz_cons (k' := 17) rfl (zz_Ok_none _ _) ?_
  refine zz_cons (k' := 18) rfl (zk_iconst X dX5_queueOthers_17 (by decide) rfl) ?_
  refine zz_cons (k' := 19) rfl (zk_icmp_ne X dX5_queueOthers_18 (by decide) rfl) ?_
  refine zz_cons (k' := 20) rfl (zz_Ok_none _ _) ?_
  refine zz_cons (k' := 21) rfl (zz_Ok_none _ _) ?_
  refine zz_cons (k' := 22) rfl (zk_aload_n X dX5_queueOthers_21 rfl rfl) ?_
  refine zz_cons (k' := 23) rfl (zk_iload_n X dX5_queueOthers_22 rfl rfl) ?_
  refine zz_cons (k' := 24) rfl (zk_bipush X dX5_queueOthers_23 (by decide) rfl) ?_
  refine zz_cons (k' := 25) rfl (zz_Ok_none _ _) ?_
  refine zz_cons (k' := 26) rfl (zk_callv X (zz_Cv_of (List.forall_mem_cons.mpr ⟨⟨(RX_4, zzT4, 12), yX10_read, cX10_read, 3, (some .int), 0, 0, rfl, kv_X5_15_4, (mm_X10_read Wd).1, by decide, by decide⟩, (fun _ h => absurd h List.not_mem_nil)⟩)) dX5_queueOthers_25 rfl) ?_
  refine zz_cons (k' := 27) rfl (zz_Ok_none _ _) ?_
  refine zz_cons (k' := 28) rfl (zz_Ok_none _ _) ?_
  refine zz_cons (k' := 29) rfl (zk_iconst X dX5_queueOthers_28 (by decide) rfl) ?_
  refine zz_cons (k' := 30) rfl (zk_icmp_ne X dX5_queueOthers_29 (by decide) rfl) ?_
  refine zz_cons (k' := 31) rfl (zz_Ok_none _ _) ?_
  refine zz_cons (k' := 32) rfl (zz_Ok_none _ _) ?_
  refine zz_cons (k' := 33) rfl (zk_aload_n X dX5_queueOthers_32 rfl rfl) ?_
  refine zz_cons (k' := 34) rfl (zk_iload_n X dX5_queueOthers_33 rfl rfl) ?_
  refine zz_cons (k' := 35) rfl (zk_callv X (zz_Cv_of (List.forall_mem_cons.mpr ⟨⟨(RX_4, zzT4, 12), yX10_isGone, cX10_isGone, 2, (some .boolean), 1, 22, rfl, kv_X5_19_4, (mm_X10_isGone Wd).1, by decide, by decide⟩, (fun _ h => absurd h List.not_mem_nil)⟩)) dX5_queueOthers_34 rfl) ?_
  refine zz_cons (k' := 36) rfl (zz_Ok_none _ _) ?_
  refine zz_cons (k' := 37) rfl (zz_Ok_none _ _) ?_
  refine zz_cons (k' := 38) rfl (zk_if_ne X dX5_queueOthers_37 (by decide) rfl) ?_
  refine zz_cons (k' := 39) rfl (zz_Ok_none _ _) ?_
  refine zz_cons (k' := 40) rfl (zz_Ok_none _ _) ?_
  refine zz_cons (k' := 41) rfl (zk_aload_n X dX5_queueOthers_40 rfl rfl) ?_
  refine zz_cons (k' := 42) rfl (zk_iload_n X dX5_queueOthers_41 rfl rfl) ?_
  refine zz_cons (k' := 43) rfl (zk_callv X (zz_Cv_of (List.forall_mem_cons.mpr ⟨⟨(RX_4, zzT4, 12), yX2_enqueue, cX2_enqueue, 2, none, 0, 0, rfl, kv_X5_23_4, (mm_X2_enqueue Wd).1, by decide, by decide⟩, (fun _ h => absurd h List.not_mem_nil)⟩)) dX5_queueOthers_42 rfl) ?_
  refine zz_cons (k' := 44) rfl (zz_Ok_none _ _) ?_
  refine zz_cons (k' := 45) rfl (zz_Ok_none _ _) ?_
  refine zz_cons (k' := 46) rfl (zk_iinc X dX5_queueOthers_45 (by decide) (by decide) rfl) ?_
  refine zz_cons (k' := 47) rfl (zz_Ok_none _ _) ?_
  refine zz_cons (k' := 48) rfl (zz_Ok_none _ _) ?_
  refine zz_cons (k' := 49) rfl (zk_goto X dX5_queueOthers_48 (by decide)) ?_
  refine zz_cons (k' := 50) rfl (zz_Ok_none _ _) ?_
  refine zz_cons (k' := 51) rfl (zz_Ok_none _ _) ?_
  refine zz_cons (k' := 52) rfl (zk_ret X rfl dX5_queueOthers_51) ?_
  exact trivial
noncomputable def tX6_queueOthers : List zzOp := [
  zo_pushI 0 1,
  zo_istore 3 2,
  zo_iload 3 3,
  zo_aload 0 4,
  zo_getf zzSC (zz_kf [5] 2) 7,
  zo_none,
  zo_none,
  zo_icmp (fun x y => decide (y ≤ x)) 54 10,
  zo_none,
  zo_none,
  zo_aload 0 11,
  zo_iload 1 12,
  zo_pushI 23 14,
  zo_none,
  zo_callv zzSC (zz_cl [(5, fX10_read)]) 2 17,
  zo_none,
  zo_none,
  zo_pushI 4 18,
  zo_icmp (fun x y => decide (¬ x = y)) 54 21,
  zo_none,
  zo_none,
  zo_aload 0 22,
  zo_iload 3 23,
  zo_pushI 23 25,
  zo_none,
  zo_callv zzSC (zz_cl [(5, fX10_read)]) 2 28,
  zo_none,
  zo_none,
  zo_pushI 2 29,
  zo_icmp (fun x y => decide (¬ x = y)) 48 32,
  zo_none,
  zo_none,
  zo_aload 0 33,
  zo_iload 3 34,
  zo_pushI 28 36,
  zo_none,
  zo_callv zzSC (zz_cl [(5, fX10_read)]) 2 39,
  zo_none,
  zo_none,
  zo_iload 1 40,
  zo_icmp (fun x y => decide (¬ x = y)) 48 43,
  zo_none,
  zo_none,
  zo_aload 0 44,
  zo_iload 3 45,
  zo_callv zzSC (zz_cl [(5, fX2_enqueue)]) 1 48,
  zo_none,
  zo_none,
  zo_iinc 3 1 51,
  zo_none,
  zo_none,
  zo_goto 2,
  zo_none,
  zo_none,
  zo_ret]
set_option maxRecDepth 100000 in
theorem tl_X6_queueOthers : ∀ pc, zz_Tl (tX6_queueOthers.getD pc zo_none) := by
  refine zz_Tl_mem ?_
  unfold tX6_queueOthers
  refine List.forall_mem_cons.mpr ⟨(zo_pushI_tl _ _), ?_⟩
  refine List.forall_mem_cons.mpr ⟨(zo_istore_tl _ _), ?_⟩
  refine List.forall_mem_cons.mpr ⟨(zo_iload_tl _ _), ?_⟩
  refine List.forall_mem_cons.mpr ⟨(zo_aload_tl _ _), ?_⟩
  refine List.forall_mem_cons.mpr ⟨(zo_getf_tl _ _ _), ?_⟩
  refine List.forall_mem_cons.mpr ⟨zo_none_tl, ?_⟩
  refine List.forall_mem_cons.mpr ⟨zo_none_tl, ?_⟩
  refine List.forall_mem_cons.mpr ⟨(zo_icmp_tl _ _ _), ?_⟩
  refine List.forall_mem_cons.mpr ⟨zo_none_tl, ?_⟩
  refine List.forall_mem_cons.mpr ⟨zo_none_tl, ?_⟩
  refine List.forall_mem_cons.mpr ⟨(zo_aload_tl _ _), ?_⟩
  refine List.forall_mem_cons.mpr ⟨(zo_iload_tl _ _), ?_⟩
  refine List.forall_mem_cons.mpr ⟨(zo_pushI_tl _ _), ?_⟩
  refine List.forall_mem_cons.mpr ⟨zo_none_tl, ?_⟩
  refine List.forall_mem_cons.mpr ⟨(zo_callv_tl _ _ _ _), ?_⟩
  refine List.forall_mem_cons.mpr ⟨zo_none_tl, ?_⟩
  refine List.forall_mem_cons.mpr ⟨zo_none_tl, ?_⟩
  refine List.forall_mem_cons.mpr ⟨(zo_pushI_tl _ _), ?_⟩
  refine List.forall_mem_cons.mpr ⟨(zo_icmp_tl _ _ _), ?_⟩
  refine List.forall_mem_cons.mpr ⟨zo_none_tl, ?_⟩
  refine List.forall_mem_cons.mpr ⟨zo_none_tl, ?_⟩
  refine List.forall_mem_cons.mpr ⟨(zo_aload_tl _ _), ?_⟩
  refine List.forall_mem_cons.mpr ⟨(zo_iload_tl _ _), ?_⟩
  refine List.forall_mem_cons.mpr ⟨(zo_pushI_tl _ _), ?_⟩
  refine List.forall_mem_cons.mpr ⟨zo_none_tl, ?_⟩
  refine List.forall_mem_cons.mpr ⟨(zo_callv_tl _ _ _ _), ?_⟩
  refine List.forall_mem_cons.mpr ⟨zo_none_tl, ?_⟩
  refine List.forall_mem_cons.mpr ⟨zo_none_tl, ?_⟩
  refine List.forall_mem_cons.mpr ⟨(zo_pushI_tl _ _), ?_⟩
  refine List.forall_mem_cons.mpr ⟨(zo_icmp_tl _ _ _), ?_⟩
  refine List.forall_mem_cons.mpr ⟨zo_none_tl, ?_⟩
  refine List.forall_mem_cons.mpr ⟨zo_none_tl, ?_⟩
  refine List.forall_mem_cons.mpr ⟨(zo_aload_tl _ _), ?_⟩
  refine List.forall_mem_cons.mpr ⟨(zo_iload_tl _ _), ?_⟩
  refine List.forall_mem_cons.mpr ⟨(zo_pushI_tl _ _), ?_⟩
  refine List.forall_mem_cons.mpr ⟨zo_none_tl, ?_⟩
  refine List.forall_mem_cons.mpr ⟨(zo_callv_tl _ _ _ _), ?_⟩
  refine List.forall_mem_cons.mpr ⟨zo_none_tl, ?_⟩
  refine List.forall_mem_cons.mpr ⟨zo_none_tl, ?_⟩
  refine List.forall_mem_cons.mpr ⟨(zo_iload_tl _ _), ?_⟩
  refine List.forall_mem_cons.mpr ⟨(zo_icmp_tl _ _ _), ?_⟩
  refine List.forall_mem_cons.mpr ⟨zo_none_tl, ?_⟩
  refine List.forall_mem_cons.mpr ⟨zo_none_tl, ?_⟩
  refine List.forall_mem_cons.mpr ⟨(zo_aload_tl _ _), ?_⟩
  refine List.forall_mem_cons.mpr ⟨(zo_iload_tl _ _), ?_⟩
  refine List.forall_mem_cons.mpr ⟨(zo_callv_tl _ _ _ _), ?_⟩
  refine List.forall_mem_cons.mpr ⟨zo_none_tl, ?_⟩
  refine List.forall_mem_cons.mpr ⟨zo_none_tl, ?_⟩
  refine List.forall_mem_cons.mpr ⟨(zo_iinc_tl _ _ _), ?_⟩
  refine List.forall_mem_cons.mpr ⟨zo_none_tl, ?_⟩
  refine List.forall_mem_cons.mpr ⟨zo_none_tl, ?_⟩
  refine List.forall_mem_cons.mpr ⟨(zo_goto_tl _), ?_⟩
  refine List.forall_mem_cons.mpr ⟨zo_none_tl, ?_⟩
  refine List.forall_mem_cons.mpr ⟨zo_none_tl, ?_⟩
  refine List.forall_mem_cons.mpr ⟨(zo_ret_tl), ?_⟩
  exact fun _ h => absurd h List.not_mem_nil
noncomputable def fX6_queueOthers : zzFn := zz_fn tX6_queueOthers 4
set_option maxRecDepth 100000 in
set_option maxHeartbeats 4000000 in
theorem mm_X6_queueOthers {l : Launch} {D : va_G} {cA : Nat → ClassId} {ad : Nat → Nat} {Ex : (Nat → Prop) → State → Heap → Prop} (Wd : zzWC l D cA ad Ex) : zz_Cn l D zzCl cA ad zzSC Ex yX6_queueOthers cX6_queueOthers 4 none 1 22 fX6_queueOthers ∧ zz_Cx l D zzCl cA ad zzSC Ex yX6_queueOthers cX6_queueOthers 4 none 1 22 fX6_queueOthers := by
  refine zz_meth (plainFor_of_name (by decide)) Wd.1 Wd.2.1 Wd.2.2.1 (fun p e R s m args below meth c rr X => ?_)
  unfold tX6_queueOthers
  refine zz_cons (k' := 1) rfl (zk_iconst X dX6_queueOthers_0 (by decide) rfl) ?_
  refine zz_cons (k' := 2) rfl (zk_istore_n X dX6_queueOthers_1 rfl (by decide) rfl) ?_
  refine zz_cons (k' := 3) rfl (zk_iload_n X dX6_queueOthers_2 rfl rfl) ?_
  refine zz_cons (k' := 4) rfl (zk_aload_n X dX6_queueOthers_3 rfl rfl) ?_
  refine zz_cons (k' := 5) rfl (zk_getf X ff_X6_9 dX6_queueOthers_4 rfl) ?_
  refine zz_cons (k' := 6) rfl (zz_Ok_none _ _) ?_
  refine zz_cons (k' := 7) rfl (zz_Ok_none _ _) ?_
  refine zz_cons (k' := 8) rfl (zk_icmp_ge X dX6_queueOthers_7 (by decide) rfl) ?_
  refine zz_cons (k' := 9) rfl (zz_Ok_none _ _) ?_
  refine zz_cons (k' := 10) rfl (zz_Ok_none _ _) ?_
  refine zz_cons (k' := 11) rfl (zk_aload_n X dX6_queueOthers_10 rfl rfl) ?_
  refine zz_cons (k' := 12) rfl (zk_iload_n X dX6_queueOthers_11 rfl rfl) ?_
  refine zz_cons (k' := 13) rfl (zk_bipush X dX6_queueOthers_12 (by decide) rfl) ?_
  refine zz_cons (k' := 14) rfl (zz_Ok_none _ _) ?_
  refine zz_cons (k' := 15) rfl (zk_callv X (zz_Cv_of (List.forall_mem_cons.mpr ⟨⟨(RX_5, zzT5, 12), yX10_read, cX10_read, 3, (some .int), 0, 0, rfl, kv_X6_15_5, (mm_X10_read Wd).1, by decide, by decide⟩, (fun _ h => absurd h List.not_mem_nil)⟩)) dX6_queueOthers_14 rfl) ?_
  refine zz_cons (k' := 16) rfl (zz_Ok_none _ _) ?_
  refine zz_cons (k' := 17) rfl (zz_Ok_none _ _) ?_
  refine zz_cons (k' := 18) rfl (zk_iconst X dX6_queueOthers_17 (by decide) rfl) ?_
  refine zz_cons (k' := 19) rfl (zk_icmp_ne X dX6_queueOthers_18 (by decide) rfl) ?_
  refine zz_cons (k' := 20) rfl (zz_Ok_none _ _) ?_
  refine zz_cons (k' := 21) rfl (zz_Ok_none _ _) ?_
  refine zz_cons (k' := 22) rfl (zk_aload_n X dX6_queueOthers_21 rfl rfl) ?_
  refine zz_cons (k' := 23) rfl (zk_iload_n X dX6_queueOthers_22 rfl rfl) ?_
  refine zz_cons (k' := 24) rfl (zk_bipush X dX6_queueOthers_23 (by decide) rfl) ?_
  refine zz_cons (k' := 25) rfl (zz_Ok_none _ _) ?_
  refine zz_cons (k' := 26) rfl (zk_callv X (zz_Cv_of (List.forall_mem_cons.mpr ⟨⟨(RX_5, zzT5, 12), yX10_read, cX10_read, 3, (some .int), 0, 0, rfl, kv_X6_15_5, (mm_X10_read Wd).1, by decide, by decide⟩, (fun _ h => absurd h List.not_mem_nil)⟩)) dX6_queueOthers_25 rfl) ?_
  refine zz_cons (k' := 27) rfl (zz_Ok_none _ _) ?_
  refine zz_cons (k' := 28) rfl (zz_Ok_none _ _) ?_
  refine zz_cons (k' := 29) rfl (zk_iconst X dX6_queueOthers_28 (by decide) rfl) ?_
  refine zz_cons (k' := 30) rfl (zk_icmp_ne X dX6_queueOthers_29 (by decide) rfl) ?_
  refine zz_cons (k' := 31) rfl (zz_Ok_none _ _) ?_
  refine zz_cons (k' := 32) rfl (zz_Ok_none _ _) ?_
  refine zz_cons (k' := 33) rfl (zk_aload_n X dX6_queueOthers_32 rfl rfl) ?_
  refine zz_cons (k' := 34) rfl (zk_iload_n X dX6_queueOthers_33 rfl rfl) ?_
  refine zz_cons (k' := 35) rfl (zk_bipush X dX6_queueOthers_34 (by decide) rfl) ?_
  refine zz_cons (k' := 36) rfl (zz_Ok_none _ _) ?_
  refine zz_cons (k' := 37) rfl (zk_callv X (zz_Cv_of (List.forall_mem_cons.mpr ⟨⟨(RX_5, zzT5, 12), yX10_read, cX10_read, 3, (some .int), 0, 0, rfl, kv_X6_15_5, (mm_X10_read Wd).1, by decide, by decide⟩, (fun _ h => absurd h List.not_mem_nil)⟩)) dX6_queueOthers_36 rfl) ?_
  refine zz_cons (k' := 38) rfl (zz_Ok_none _ _) ?_
  refine zz_cons (k' := 39) rfl (zz_Ok_none _ _) ?_
  refine zz_cons (k' := 40) rfl (zk_iload_n X dX6_queueOthers_39 rfl rfl) ?_
  refine zz_cons (k' := 41) rfl (zk_icmp_ne X dX6_queueOthers_40 (by decide) rfl) ?_
  refine zz_cons (k' := 42) rfl (zz_Ok_none _ _) ?_
  refine zz_cons (k' := 43) rfl (zz_Ok_none _ _) ?_
  refine zz_cons (k' := 44) rfl (zk_aload_n X dX6_queueOthers_43 rfl rfl) ?_
  refine zz_cons (k' := 45) rfl (zk_iload_n X dX6_queueOthers_44 rfl rfl) ?_
  refine zz_cons (k' := 46) rfl (zk_callv X (zz_Cv_of (List.forall_mem_cons.mpr ⟨⟨(RX_5, zzT5, 12), yX2_enqueue, cX2_enqueue, 2, none, 0, 0, rfl, kv_X6_19_5, (mm_X2_enqueue Wd).1, by decide, by decide⟩, (fun _ h => absurd h List.not_mem_nil)⟩)) dX6_queueOthers_45 rfl) ?_
  refine zz_cons (k' := 47) rfl (zz_Ok_none _ _) ?_
  refine zz_cons (k' := 48) rfl (zz_Ok_none _ _) ?_
  refine zz_cons (k' := 49) rfl (zk_iinc X dX6_queueOthers_48 (by decide) (by decide) rfl) ?_
  refine zz_cons (k' := 50) rfl (zz_Ok_none _ _) ?_
  refine zz_cons (k' := 51) rfl (zz_Ok_none _ _) ?_
  refine zz_cons (k' := 52) rfl (zk_goto X dX6_queueOthers_51 (by decide)) ?_
  refine zz_cons (k' := 53) rfl (zz_Ok_none _ _) ?_
  refine zz_cons (k' := 54) rfl (zz_Ok_none _ _) ?_
  refine zz_cons (k' := 55) rfl (zk_ret X rfl dX6_queueOthers_54) ?_
  exact trivial
noncomputable def tX7_queueOthers : List zzOp := [
  zo_ret]
set_option maxRecDepth 100000 in
theorem tl_X7_queueOthers : ∀ pc, zz_Tl (tX7_queueOthers.getD pc zo_none) := by
  refine zz_Tl_mem ?_
  unfold tX7_queueOthers
  refine List.forall_mem_cons.mpr ⟨(zo_ret_tl), ?_⟩
  exact fun _ h => absurd h List.not_mem_nil
noncomputable def fX7_queueOthers : zzFn := zz_fn tX7_queueOthers 3
set_option maxRecDepth 100000 in
set_option maxHeartbeats 4000000 in
theorem mm_X7_queueOthers {l : Launch} {D : va_G} {cA : Nat → ClassId} {ad : Nat → Nat} {Ex : (Nat → Prop) → State → Heap → Prop} (Wd : zzWC l D cA ad Ex) : zz_Cn l D zzCl cA ad zzSC Ex yX7_queueOthers cX7_queueOthers 3 none 0 0 fX7_queueOthers ∧ zz_Cx l D zzCl cA ad zzSC Ex yX7_queueOthers cX7_queueOthers 3 none 0 0 fX7_queueOthers := by
  refine zz_meth (plainFor_of_name (by decide)) Wd.1 Wd.2.1 Wd.2.2.1 (fun p e R s m args below meth c rr X => ?_)
  unfold tX7_queueOthers
  refine zz_cons (k' := 1) rfl (zk_ret X rfl dX7_queueOthers_0) ?_
  exact trivial
noncomputable def tX8_isWithoutPlace : List zzOp := [
  zo_aload 0 1,
  zo_iload 1 2,
  zo_pushI 2 3,
  zo_callv zzSC (zz_cl [(7, fX10_isStaying)]) 2 6,
  zo_none,
  zo_none,
  zo_if (fun x => decide (x = 0)) 34 9,
  zo_none,
  zo_none,
  zo_aload 0 10,
  zo_iload 1 11,
  zo_pushI 29 13,
  zo_none,
  zo_callv zzSC (zz_cl [(7, fX10_read)]) 2 16,
  zo_none,
  zo_none,
  zo_if (fun x => decide (¬ x = 0)) 34 19,
  zo_none,
  zo_none,
  zo_aload 0 20,
  zo_iload 1 21,
  zo_pushI 28 23,
  zo_none,
  zo_callv zzSC (zz_cl [(7, fX10_read)]) 2 26,
  zo_none,
  zo_none,
  zo_pushI (-1) 27,
  zo_icmp (fun x y => decide (¬ x = y)) 34 30,
  zo_none,
  zo_none,
  zo_pushI 1 31,
  zo_goto 35,
  zo_none,
  zo_none,
  zo_pushI 0 35,
  zo_iret true]
set_option maxRecDepth 100000 in
theorem tl_X8_isWithoutPlace : ∀ pc, zz_Tl (tX8_isWithoutPlace.getD pc zo_none) := by
  refine zz_Tl_mem ?_
  unfold tX8_isWithoutPlace
  refine List.forall_mem_cons.mpr ⟨(zo_aload_tl _ _), ?_⟩
  refine List.forall_mem_cons.mpr ⟨(zo_iload_tl _ _), ?_⟩
  refine List.forall_mem_cons.mpr ⟨(zo_pushI_tl _ _), ?_⟩
  refine List.forall_mem_cons.mpr ⟨(zo_callv_tl _ _ _ _), ?_⟩
  refine List.forall_mem_cons.mpr ⟨zo_none_tl, ?_⟩
  refine List.forall_mem_cons.mpr ⟨zo_none_tl, ?_⟩
  refine List.forall_mem_cons.mpr ⟨(zo_if_tl _ _ _), ?_⟩
  refine List.forall_mem_cons.mpr ⟨zo_none_tl, ?_⟩
  refine List.forall_mem_cons.mpr ⟨zo_none_tl, ?_⟩
  refine List.forall_mem_cons.mpr ⟨(zo_aload_tl _ _), ?_⟩
  refine List.forall_mem_cons.mpr ⟨(zo_iload_tl _ _), ?_⟩
  refine List.forall_mem_cons.mpr ⟨(zo_pushI_tl _ _), ?_⟩
  refine List.forall_mem_cons.mpr ⟨zo_none_tl, ?_⟩
  refine List.forall_mem_cons.mpr ⟨(zo_callv_tl _ _ _ _), ?_⟩
  refine List.forall_mem_cons.mpr ⟨zo_none_tl, ?_⟩
  refine List.forall_mem_cons.mpr ⟨zo_none_tl, ?_⟩
  refine List.forall_mem_cons.mpr ⟨(zo_if_tl _ _ _), ?_⟩
  refine List.forall_mem_cons.mpr ⟨zo_none_tl, ?_⟩
  refine List.forall_mem_cons.mpr ⟨zo_none_tl, ?_⟩
  refine List.forall_mem_cons.mpr ⟨(zo_aload_tl _ _), ?_⟩
  refine List.forall_mem_cons.mpr ⟨(zo_iload_tl _ _), ?_⟩
  refine List.forall_mem_cons.mpr ⟨(zo_pushI_tl _ _), ?_⟩
  refine List.forall_mem_cons.mpr ⟨zo_none_tl, ?_⟩
  refine List.forall_mem_cons.mpr ⟨(zo_callv_tl _ _ _ _), ?_⟩
  refine List.forall_mem_cons.mpr ⟨zo_none_tl, ?_⟩
  refine List.forall_mem_cons.mpr ⟨zo_none_tl, ?_⟩
  refine List.forall_mem_cons.mpr ⟨(zo_pushI_tl _ _), ?_⟩
  refine List.forall_mem_cons.mpr ⟨(zo_icmp_tl _ _ _), ?_⟩
  refine List.forall_mem_cons.mpr ⟨zo_none_tl, ?_⟩
  refine List.forall_mem_cons.mpr ⟨zo_none_tl, ?_⟩
  refine List.forall_mem_cons.mpr ⟨(zo_pushI_tl _ _), ?_⟩
  refine List.forall_mem_cons.mpr ⟨(zo_goto_tl _), ?_⟩
  refine List.forall_mem_cons.mpr ⟨zo_none_tl, ?_⟩
  refine List.forall_mem_cons.mpr ⟨zo_none_tl, ?_⟩
  refine List.forall_mem_cons.mpr ⟨(zo_pushI_tl _ _), ?_⟩
  refine List.forall_mem_cons.mpr ⟨(zo_iret_tl _), ?_⟩
  exact fun _ h => absurd h List.not_mem_nil
noncomputable def fX8_isWithoutPlace : zzFn := zz_fn tX8_isWithoutPlace 2
set_option maxRecDepth 100000 in
set_option maxHeartbeats 4000000 in
theorem mm_X8_isWithoutPlace {l : Launch} {D : va_G} {cA : Nat → ClassId} {ad : Nat → Nat} {Ex : (Nat → Prop) → State → Heap → Prop} (Wd : zzWC l D cA ad Ex) : zz_Cn l D zzCl cA ad zzSC Ex yX8_isWithoutPlace cX8_isWithoutPlace 2 (some .boolean) 2 44 fX8_isWithoutPlace ∧ zz_Cx l D zzCl cA ad zzSC Ex yX8_isWithoutPlace cX8_isWithoutPlace 2 (some .boolean) 2 44 fX8_isWithoutPlace := by
  refine zz_meth (plainFor_of_name (by decide)) Wd.1 Wd.2.1 Wd.2.2.1 (fun p e R s m args below meth c rr X => ?_)
  unfold tX8_isWithoutPlace
  refine zz_cons (k' := 1) rfl (zk_aload_n X dX8_isWithoutPlace_0 rfl rfl) ?_
  refine zz_cons (k' := 2) rfl (zk_iload_n X dX8_isWithoutPlace_1 rfl rfl) ?_
  refine zz_cons (k' := 3) rfl (zk_iconst X dX8_isWithoutPlace_2 (by decide) rfl) ?_
  refine zz_cons (k' := 4) rfl (zk_callv X (zz_Cv_of (List.forall_mem_cons.mpr ⟨⟨(RX_7, zzT7, 15), yX10_isStaying, cX10_isStaying, 3, (some .boolean), 1, 22, rfl, kv_X8_37_7, (mm_X10_isStaying Wd).1, by decide, by decide⟩, (fun _ h => absurd h List.not_mem_nil)⟩)) dX8_isWithoutPlace_3 rfl) ?_
  refine zz_cons (k' := 5) rfl (zz_Ok_none _ _) ?_
  refine zz_cons (k' := 6) rfl (zz_Ok_none _ _) ?_
  refine zz_cons (k' := 7) rfl (zk_if_eq X dX8_isWithoutPlace_6 (by decide) rfl) ?_
  refine zz_cons (k' := 8) rfl (zz_Ok_none _ _) ?_
  refine zz_cons (k' := 9) rfl (zz_Ok_none _ _) ?_
  refine zz_cons (k' := 10) rfl (zk_aload_n X dX8_isWithoutPlace_9 rfl rfl) ?_
  refine zz_cons (k' := 11) rfl (zk_iload_n X dX8_isWithoutPlace_10 rfl rfl) ?_
  refine zz_cons (k' := 12) rfl (zk_bipush X dX8_isWithoutPlace_11 (by decide) rfl) ?_
  refine zz_cons (k' := 13) rfl (zz_Ok_none _ _) ?_
  refine zz_cons (k' := 14) rfl (zk_callv X (zz_Cv_of (List.forall_mem_cons.mpr ⟨⟨(RX_7, zzT7, 15), yX10_read, cX10_read, 3, (some .int), 0, 0, rfl, kv_X8_25_7, (mm_X10_read Wd).1, by decide, by decide⟩, (fun _ h => absurd h List.not_mem_nil)⟩)) dX8_isWithoutPlace_13 rfl) ?_
  refine zz_cons (k' := 15) rfl (zz_Ok_none _ _) ?_
  refine zz_cons (k' := 16) rfl (zz_Ok_none _ _) ?_
  refine zz_cons (k' := 17) rfl (zk_if_ne X dX8_isWithoutPlace_16 (by decide) rfl) ?_
  refine zz_cons (k' := 18) rfl (zz_Ok_none _ _) ?_
  refine zz_cons (k' := 19) rfl (zz_Ok_none _ _) ?_
  refine zz_cons (k' := 20) rfl (zk_aload_n X dX8_isWithoutPlace_19 rfl rfl) ?_
  refine zz_cons (k' := 21) rfl (zk_iload_n X dX8_isWithoutPlace_20 rfl rfl) ?_
  refine zz_cons (k' := 22) rfl (zk_bipush X dX8_isWithoutPlace_21 (by decide) rfl) ?_
  refine zz_cons (k' := 23) rfl (zz_Ok_none _ _) ?_
  refine zz_cons (k' := 24) rfl (zk_callv X (zz_Cv_of (List.forall_mem_cons.mpr ⟨⟨(RX_7, zzT7, 15), yX10_read, cX10_read, 3, (some .int), 0, 0, rfl, kv_X8_25_7, (mm_X10_read Wd).1, by decide, by decide⟩, (fun _ h => absurd h List.not_mem_nil)⟩)) dX8_isWithoutPlace_23 rfl) ?_
  refine zz_cons (k' := 25) rfl (zz_Ok_none _ _) ?_
  refine zz_cons (k' := 26) rfl (zz_Ok_none _ _) ?_
  refine zz_cons (k' := 27) rfl (zk_iconst X dX8_isWithoutPlace_26 (by decide) rfl) ?_
  refine zz_cons (k' := 28) rfl (zk_icmp_ne X dX8_isWithoutPlace_27 (by decide) rfl) ?_
  refine zz_cons (k' := 29) rfl (zz_Ok_none _ _) ?_
  refine zz_cons (k' := 30) rfl (zz_Ok_none _ _) ?_
  refine zz_cons (k' := 31) rfl (zk_iconst X dX8_isWithoutPlace_30 (by decide) rfl) ?_
  refine zz_cons (k' := 32) rfl (zk_goto X dX8_isWithoutPlace_31 (by decide)) ?_
  refine zz_cons (k' := 33) rfl (zz_Ok_none _ _) ?_
  refine zz_cons (k' := 34) rfl (zz_Ok_none _ _) ?_
  refine zz_cons (k' := 35) rfl (zk_iconst X dX8_isWithoutPlace_34 (by decide) rfl) ?_
  refine zz_cons (k' := 36) rfl (zk_iret X rfl dX8_isWithoutPlace_35) ?_
  exact trivial
noncomputable def tX8_queueOthers : List zzOp := [
  zo_pushI 0 1,
  zo_istore 3 2,
  zo_iload 3 3,
  zo_aload 0 4,
  zo_getf zzSC (zz_kf [7] 2) 7,
  zo_none,
  zo_none,
  zo_icmp (fun x y => decide (y ≤ x)) 40 10,
  zo_none,
  zo_none,
  zo_aload 0 11,
  zo_iload 1 12,
  zo_pushI 23 14,
  zo_none,
  zo_callv zzSC (zz_cl [(7, fX10_read)]) 2 17,
  zo_none,
  zo_none,
  zo_pushI 4 18,
  zo_icmp (fun x y => decide (¬ x = y)) 40 21,
  zo_none,
  zo_none,
  zo_aload 0 22,
  zo_iload 3 23,
  zo_callv zzSC (zz_cl [(7, fX8_isWithoutPlace)]) 1 26,
  zo_none,
  zo_none,
  zo_if (fun x => decide (x = 0)) 34 29,
  zo_none,
  zo_none,
  zo_aload 0 30,
  zo_iload 3 31,
  zo_callv zzSC (zz_cl [(7, fX2_enqueue)]) 1 34,
  zo_none,
  zo_none,
  zo_iinc 3 1 37,
  zo_none,
  zo_none,
  zo_goto 2,
  zo_none,
  zo_none,
  zo_ret]
set_option maxRecDepth 100000 in
theorem tl_X8_queueOthers : ∀ pc, zz_Tl (tX8_queueOthers.getD pc zo_none) := by
  refine zz_Tl_mem ?_
  unfold tX8_queueOthers
  refine List.forall_mem_cons.mpr ⟨(zo_pushI_tl _ _), ?_⟩
  refine List.forall_mem_cons.mpr ⟨(zo_istore_tl _ _), ?_⟩
  refine List.forall_mem_cons.mpr ⟨(zo_iload_tl _ _), ?_⟩
  refine List.forall_mem_cons.mpr ⟨(zo_aload_tl _ _), ?_⟩
  refine List.forall_mem_cons.mpr ⟨(zo_getf_tl _ _ _), ?_⟩
  refine List.forall_mem_cons.mpr ⟨zo_none_tl, ?_⟩
  refine List.forall_mem_cons.mpr ⟨zo_none_tl, ?_⟩
  refine List.forall_mem_cons.mpr ⟨(zo_icmp_tl _ _ _), ?_⟩
  refine List.forall_mem_cons.mpr ⟨zo_none_tl, ?_⟩
  refine List.forall_mem_cons.mpr ⟨zo_none_tl, ?_⟩
  refine List.forall_mem_cons.mpr ⟨(zo_aload_tl _ _), ?_⟩
  refine List.forall_mem_cons.mpr ⟨(zo_iload_tl _ _), ?_⟩
  refine List.forall_mem_cons.mpr ⟨(zo_pushI_tl _ _), ?_⟩
  refine List.forall_mem_cons.mpr ⟨zo_none_tl, ?_⟩
  refine List.forall_mem_cons.mpr ⟨(zo_callv_tl _ _ _ _), ?_⟩
  refine List.forall_mem_cons.mpr ⟨zo_none_tl, ?_⟩
  refine List.forall_mem_cons.mpr ⟨zo_none_tl, ?_⟩
  refine List.forall_mem_cons.mpr ⟨(zo_pushI_tl _ _), ?_⟩
  refine List.forall_mem_cons.mpr ⟨(zo_icmp_tl _ _ _), ?_⟩
  refine List.forall_mem_cons.mpr ⟨zo_none_tl, ?_⟩
  refine List.forall_mem_cons.mpr ⟨zo_none_tl, ?_⟩
  refine List.forall_mem_cons.mpr ⟨(zo_aload_tl _ _), ?_⟩
  refine List.forall_mem_cons.mpr ⟨(zo_iload_tl _ _), ?_⟩
  refine List.forall_mem_cons.mpr ⟨(zo_callv_tl _ _ _ _), ?_⟩
  refine List.forall_mem_cons.mpr ⟨zo_none_tl, ?_⟩
  refine List.forall_mem_cons.mpr ⟨zo_none_tl, ?_⟩
  refine List.forall_mem_cons.mpr ⟨(zo_if_tl _ _ _), ?_⟩
  refine List.forall_mem_cons.mpr ⟨zo_none_tl, ?_⟩
  refine List.forall_mem_cons.mpr ⟨zo_none_tl, ?_⟩
  refine List.forall_mem_cons.mpr ⟨(zo_aload_tl _ _), ?_⟩
  refine List.forall_mem_cons.mpr ⟨(zo_iload_tl _ _), ?_⟩
  refine List.forall_mem_cons.mpr ⟨(zo_callv_tl _ _ _ _), ?_⟩
  refine List.forall_mem_cons.mpr ⟨zo_none_tl, ?_⟩
  refine List.forall_mem_cons.mpr ⟨zo_none_tl, ?_⟩
  refine List.forall_mem_cons.mpr ⟨(zo_iinc_tl _ _ _), ?_⟩
  refine List.forall_mem_cons.mpr ⟨zo_none_tl, ?_⟩
  refine List.forall_mem_cons.mpr ⟨zo_none_tl, ?_⟩
  refine List.forall_mem_cons.mpr ⟨(zo_goto_tl _), ?_⟩
  refine List.forall_mem_cons.mpr ⟨zo_none_tl, ?_⟩
  refine List.forall_mem_cons.mpr ⟨zo_none_tl, ?_⟩
  refine List.forall_mem_cons.mpr ⟨(zo_ret_tl), ?_⟩
  exact fun _ h => absurd h List.not_mem_nil
noncomputable def fX8_queueOthers : zzFn := zz_fn tX8_queueOthers 4
set_option maxRecDepth 100000 in
set_option maxHeartbeats 4000000 in
theorem mm_X8_queueOthers {l : Launch} {D : va_G} {cA : Nat → ClassId} {ad : Nat → Nat} {Ex : (Nat → Prop) → State → Heap → Prop} (Wd : zzWC l D cA ad Ex) : zz_Cn l D zzCl cA ad zzSC Ex yX8_queueOthers cX8_queueOthers 4 none 3 65 fX8_queueOthers ∧ zz_Cx l D zzCl cA ad zzSC Ex yX8_queueOthers cX8_queueOthers 4 none 3 65 fX8_queueOthers := by
  refine zz_meth (plainFor_of_name (by decide)) Wd.1 Wd.2.1 Wd.2.2.1 (fun p e R s m args below meth c rr X => ?_)
  unfold tX8_queueOthers
  refine zz_cons (k' := 1) rfl (zk_iconst X dX8_queueOthers_0 (by decide) rfl) ?_
  refine zz_cons (k' := 2) rfl (zk_istore_n X dX8_queueOthers_1 rfl (by decide) rfl) ?_
  refine zz_cons (k' := 3) rfl (zk_iload_n X dX8_queueOthers_2 rfl rfl) ?_
  refine zz_cons (k' := 4) rfl (zk_aload_n X dX8_queueOthers_3 rfl rfl) ?_
  refine zz_cons (k' := 5) rfl (zk_getf X ff_X8_21 dX8_queueOthers_4 rfl) ?_
  refine zz_cons (k' := 6) rfl (zz_Ok_none _ _) ?_
  refine zz_cons (k' := 7) rfl (zz_Ok_none _ _) ?_
  refine zz_cons (k' := 8) rfl (zk_icmp_ge X dX8_queueOthers_7 (by decide) rfl) ?_
  refine zz_cons (k' := 9) rfl (zz_Ok_none _ _) ?_
  refine zz_cons (k' := 10) rfl (zz_Ok_none _ _) ?_
  refine zz_cons (k' := 11) rfl (zk_aload_n X dX8_queueOthers_10 rfl rfl) ?_
  refine zz_cons (k' := 12) rfl (zk_iload_n X dX8_queueOthers_11 rfl rfl) ?_
  refine zz_cons (k' := 13) rfl (zk_bipush X dX8_queueOthers_12 (by decide) rfl) ?_
  refine zz_cons (k' := 14) rfl (zz_Ok_none _ _) ?_
  refine zz_cons (k' := 15) rfl (zk_callv X (zz_Cv_of (List.forall_mem_cons.mpr ⟨⟨(RX_7, zzT7, 15), yX10_read, cX10_read, 3, (some .int), 0, 0, rfl, kv_X8_25_7, (mm_X10_read Wd).1, by decide, by decide⟩, (fun _ h => absurd h List.not_mem_nil)⟩)) dX8_queueOthers_14 rfl) ?_
  refine zz_cons (k' := 16) rfl (zz_Ok_none _ _) ?_
  refine zz_cons (k' := 17) rfl (zz_Ok_none _ _) ?_
  refine zz_cons (k' := 18) rfl (zk_iconst X dX8_queueOthers_17 (by decide) rfl) ?_
  refine zz_cons (k' := 19) rfl (zk_icmp_ne X dX8_queueOthers_18 (by decide) rfl) ?_
  refine zz_cons (k' := 20) rfl (zz_Ok_none _ _) ?_
  refine zz_cons (k' := 21) rfl (zz_Ok_none _ _) ?_
  refine zz_cons (k' := 22) rfl (zk_aload_n X dX8_queueOthers_21 rfl rfl) ?_
  refine zz_cons (k' := 23) rfl (zk_iload_n X dX8_queueOthers_22 rfl rfl) ?_
  refine zz_cons (k' := 24) rfl (zk_callv X (zz_Cv_of (List.forall_mem_cons.mpr ⟨⟨(RX_7, zzT7, 15), yX8_isWithoutPlace, cX8_isWithoutPlace, 2, (some .boolean), 2, 44, rfl, kv_X8_29_7.1, (mm_X8_isWithoutPlace Wd).1, by decide, by decide⟩, (fun _ h => absurd h List.not_mem_nil)⟩)) dX8_queueOthers_23 rfl) ?_
  refine zz_cons (k' := 25) rfl (zz_Ok_none _ _) ?_
  refine zz_cons (k' := 26) rfl (zz_Ok_none _ _) ?_
  refine zz_cons (k' := 27) rfl (zk_if_eq X dX8_queueOthers_26 (by decide) rfl) ?_
  refine zz_cons (k' := 28) rfl (zz_Ok_none _ _) ?_
  refine zz_cons (k' := 29) rfl (zz_Ok_none _ _) ?_
  refine zz_cons (k' := 30) rfl (zk_aload_n X dX8_queueOthers_29 rfl rfl) ?_
  refine zz_cons (k' := 31) rfl (zk_iload_n X dX8_queueOthers_30 rfl rfl) ?_
  refine zz_cons (k' := 32) rfl (zk_callv X (zz_Cv_of (List.forall_mem_cons.mpr ⟨⟨(RX_7, zzT7, 15), yX2_enqueue, cX2_enqueue, 2, none, 0, 0, rfl, kv_X8_33_7, (mm_X2_enqueue Wd).1, by decide, by decide⟩, (fun _ h => absurd h List.not_mem_nil)⟩)) dX8_queueOthers_31 rfl) ?_
  refine zz_cons (k' := 33) rfl (zz_Ok_none _ _) ?_
  refine zz_cons (k' := 34) rfl (zz_Ok_none _ _) ?_
  refine zz_cons (k' := 35) rfl (zk_iinc X dX8_queueOthers_34 (by decide) (by decide) rfl) ?_
  refine zz_cons (k' := 36) rfl (zz_Ok_none _ _) ?_
  refine zz_cons (k' := 37) rfl (zz_Ok_none _ _) ?_
  refine zz_cons (k' := 38) rfl (zk_goto X dX8_queueOthers_37 (by decide)) ?_
  refine zz_cons (k' := 39) rfl (zz_Ok_none _ _) ?_
  refine zz_cons (k' := 40) rfl (zz_Ok_none _ _) ?_
  refine zz_cons (k' := 41) rfl (zk_ret X rfl dX8_queueOthers_40) ?_
  exact trivial
noncomputable def tX2_lookAtNext : List zzOp := [
  zo_aload 0 1,
  zo_getf zzSC (zz_kf [1, 2, 3, 4, 5, 6, 7] 3) 4,
  zo_none,
  zo_none,
  zo_pushI 1 5,
  zo_ii (fun x y => x + y) 6,
  zo_istore 1 7,
  zo_aload 0 8,
  zo_iload 1 9,
  zo_callv zzSC (zz_cl [(1, fX10_objectAt), (2, fX10_objectAt), (3, fX10_objectAt), (4, fX10_objectAt), (5, fX10_objectAt), (6, fX10_objectAt), (7, fX10_objectAt)]) 1 12,
  zo_none,
  zo_none,
  zo_istore 2 13,
  zo_aload 0 14,
  zo_iload 2 15,
  zo_pushI 24 17,
  zo_none,
  zo_callv zzSC (zz_cl [(1, fX10_read), (2, fX10_read), (3, fX10_read), (4, fX10_read), (5, fX10_read), (6, fX10_read), (7, fX10_read)]) 2 20,
  zo_none,
  zo_none,
  zo_istore 3 21,
  zo_aload 0 22,
  zo_iload 2 23,
  zo_iload 1 24,
  zo_callv zzSC (zz_cl [(1, fX10_takeIn), (2, fX10_takeIn), (3, fX10_takeIn), (4, fX10_takeIn), (5, fX10_takeIn), (6, fX10_takeIn), (7, fX10_takeIn)]) 2 27,
  zo_none,
  zo_none,
  zo_aload 0 28,
  zo_iload 2 29,
  zo_pushI 24 31,
  zo_none,
  zo_callv zzSC (zz_cl [(1, fX10_read), (2, fX10_read), (3, fX10_read), (4, fX10_read), (5, fX10_read), (6, fX10_read), (7, fX10_read)]) 2 34,
  zo_none,
  zo_none,
  zo_istore 4 36,
  zo_none,
  zo_aload 0 37,
  zo_iload 2 38,
  zo_callv zzSC (zz_cl [(1, fX2_isOwnKey), (2, fX2_isOwnKey), (3, fX2_isOwnKey), (4, fX2_isOwnKey), (5, fX2_isOwnKey), (6, fX2_isOwnKey), (7, fX2_isOwnKey)]) 1 41,
  zo_none,
  zo_none,
  zo_if (fun x => decide (x = 0)) 49 44,
  zo_none,
  zo_none,
  zo_aload 0 45,
  zo_iload 2 46,
  zo_callv zzSC (zz_cl [(1, fX2_enqueue), (2, fX2_enqueue), (3, fX2_enqueue), (4, fX2_enqueue), (5, fX2_enqueue), (6, fX2_enqueue), (7, fX2_enqueue)]) 1 49,
  zo_none,
  zo_none,
  zo_aload 0 50,
  zo_iload 2 51,
  zo_iload 4 53,
  zo_none,
  zo_pushI (-1) 54,
  zo_icmp (fun x y => decide (¬ x = y)) 61 57,
  zo_none,
  zo_none,
  zo_iload 3 58,
  zo_goto 63,
  zo_none,
  zo_none,
  zo_iload 4 63,
  zo_none,
  zo_callv zzSC (zz_cl [(1, fX1_queueOthers), (2, fX3_queueOthers), (3, fX4_queueOthers), (4, fX5_queueOthers), (5, fX6_queueOthers), (6, fX7_queueOthers), (7, fX8_queueOthers)]) 2 66,
  zo_none,
  zo_none,
  zo_ret]
set_option maxRecDepth 100000 in
theorem tl_X2_lookAtNext : ∀ pc, zz_Tl (tX2_lookAtNext.getD pc zo_none) := by
  refine zz_Tl_mem ?_
  unfold tX2_lookAtNext
  refine List.forall_mem_cons.mpr ⟨(zo_aload_tl _ _), ?_⟩
  refine List.forall_mem_cons.mpr ⟨(zo_getf_tl _ _ _), ?_⟩
  refine List.forall_mem_cons.mpr ⟨zo_none_tl, ?_⟩
  refine List.forall_mem_cons.mpr ⟨zo_none_tl, ?_⟩
  refine List.forall_mem_cons.mpr ⟨(zo_pushI_tl _ _), ?_⟩
  refine List.forall_mem_cons.mpr ⟨(zo_ii_tl _ _), ?_⟩
  refine List.forall_mem_cons.mpr ⟨(zo_istore_tl _ _), ?_⟩
  refine List.forall_mem_cons.mpr ⟨(zo_aload_tl _ _), ?_⟩
  refine List.forall_mem_cons.mpr ⟨(zo_iload_tl _ _), ?_⟩
  refine List.forall_mem_cons.mpr ⟨(zo_callv_tl _ _ _ _), ?_⟩
  refine List.forall_mem_cons.mpr ⟨zo_none_tl, ?_⟩
  refine List.forall_mem_cons.mpr ⟨zo_none_tl, ?_⟩
  refine List.forall_mem_cons.mpr ⟨(zo_istore_tl _ _), ?_⟩
  refine List.forall_mem_cons.mpr ⟨(zo_aload_tl _ _), ?_⟩
  refine List.forall_mem_cons.mpr ⟨(zo_iload_tl _ _), ?_⟩
  refine List.forall_mem_cons.mpr ⟨(zo_pushI_tl _ _), ?_⟩
  refine List.forall_mem_cons.mpr ⟨zo_none_tl, ?_⟩
  refine List.forall_mem_cons.mpr ⟨(zo_callv_tl _ _ _ _), ?_⟩
  refine List.forall_mem_cons.mpr ⟨zo_none_tl, ?_⟩
  refine List.forall_mem_cons.mpr ⟨zo_none_tl, ?_⟩
  refine List.forall_mem_cons.mpr ⟨(zo_istore_tl _ _), ?_⟩
  refine List.forall_mem_cons.mpr ⟨(zo_aload_tl _ _), ?_⟩
  refine List.forall_mem_cons.mpr ⟨(zo_iload_tl _ _), ?_⟩
  refine List.forall_mem_cons.mpr ⟨(zo_iload_tl _ _), ?_⟩
  refine List.forall_mem_cons.mpr ⟨(zo_callv_tl _ _ _ _), ?_⟩
  refine List.forall_mem_cons.mpr ⟨zo_none_tl, ?_⟩
  refine List.forall_mem_cons.mpr ⟨zo_none_tl, ?_⟩
  refine List.forall_mem_cons.mpr ⟨(zo_aload_tl _ _), ?_⟩
  refine List.forall_mem_cons.mpr ⟨(zo_iload_tl _ _), ?_⟩
  refine List.forall_mem_cons.mpr ⟨(zo_pushI_tl _ _), ?_⟩
  refine List.forall_mem_cons.mpr ⟨zo_none_tl, ?_⟩
  refine List.forall_mem_cons.mpr ⟨(zo_callv_tl _ _ _ _), ?_⟩
  refine List.forall_mem_cons.mpr ⟨zo_none_tl, ?_⟩
  refine List.forall_mem_cons.mpr ⟨zo_none_tl, ?_⟩
  refine List.forall_mem_cons.mpr ⟨(zo_istore_tl _ _), ?_⟩
  refine List.forall_mem_cons.mpr ⟨zo_none_tl, ?_⟩
  refine List.forall_mem_cons.mpr ⟨(zo_aload_tl _ _), ?_⟩
  refine List.forall_mem_cons.mpr ⟨(zo_iload_tl _ _), ?_⟩
  refine List.forall_mem_cons.mpr ⟨(zo_callv_tl _ _ _ _), ?_⟩
  refine List.forall_mem_cons.mpr ⟨zo_none_tl, ?_⟩
  refine List.forall_mem_cons.mpr ⟨zo_none_tl, ?_⟩
  refine List.forall_mem_cons.mpr ⟨(zo_if_tl _ _ _), ?_⟩
  refine List.forall_mem_cons.mpr ⟨zo_none_tl, ?_⟩
  refine List.forall_mem_cons.mpr ⟨zo_none_tl, ?_⟩
  refine List.forall_mem_cons.mpr ⟨(zo_aload_tl _ _), ?_⟩
  refine List.forall_mem_cons.mpr ⟨(zo_iload_tl _ _), ?_⟩
  refine List.forall_mem_cons.mpr ⟨(zo_callv_tl _ _ _ _), ?_⟩
  refine List.forall_mem_cons.mpr ⟨zo_none_tl, ?_⟩
  refine List.forall_mem_cons.mpr ⟨zo_none_tl, ?_⟩
  refine List.forall_mem_cons.mpr ⟨(zo_aload_tl _ _), ?_⟩
  refine List.forall_mem_cons.mpr ⟨(zo_iload_tl _ _), ?_⟩
  refine List.forall_mem_cons.mpr ⟨(zo_iload_tl _ _), ?_⟩
  refine List.forall_mem_cons.mpr ⟨zo_none_tl, ?_⟩
  refine List.forall_mem_cons.mpr ⟨(zo_pushI_tl _ _), ?_⟩
  refine List.forall_mem_cons.mpr ⟨(zo_icmp_tl _ _ _), ?_⟩
  refine List.forall_mem_cons.mpr ⟨zo_none_tl, ?_⟩
  refine List.forall_mem_cons.mpr ⟨zo_none_tl, ?_⟩
  refine List.forall_mem_cons.mpr ⟨(zo_iload_tl _ _), ?_⟩
  refine List.forall_mem_cons.mpr ⟨(zo_goto_tl _), ?_⟩
  refine List.forall_mem_cons.mpr ⟨zo_none_tl, ?_⟩
  refine List.forall_mem_cons.mpr ⟨zo_none_tl, ?_⟩
  refine List.forall_mem_cons.mpr ⟨(zo_iload_tl _ _), ?_⟩
  refine List.forall_mem_cons.mpr ⟨zo_none_tl, ?_⟩
  refine List.forall_mem_cons.mpr ⟨(zo_callv_tl _ _ _ _), ?_⟩
  refine List.forall_mem_cons.mpr ⟨zo_none_tl, ?_⟩
  refine List.forall_mem_cons.mpr ⟨zo_none_tl, ?_⟩
  refine List.forall_mem_cons.mpr ⟨(zo_ret_tl), ?_⟩
  exact fun _ h => absurd h List.not_mem_nil
noncomputable def fX2_lookAtNext : zzFn := zz_fn tX2_lookAtNext 5
set_option maxRecDepth 100000 in
set_option maxHeartbeats 4000000 in
theorem mm_X2_lookAtNext {l : Launch} {D : va_G} {cA : Nat → ClassId} {ad : Nat → Nat} {Ex : (Nat → Prop) → State → Heap → Prop} (Wd : zzWC l D cA ad Ex) : zz_Cn l D zzCl cA ad zzSC Ex yX2_lookAtNext cX2_lookAtNext 5 none 4 88 fX2_lookAtNext ∧ zz_Cx l D zzCl cA ad zzSC Ex yX2_lookAtNext cX2_lookAtNext 5 none 4 88 fX2_lookAtNext := by
  refine zz_meth (plainFor_of_name (by decide)) Wd.1 Wd.2.1 Wd.2.2.1 (fun p e R s m args below meth c rr X => ?_)
  unfold tX2_lookAtNext
  refine zz_cons (k' := 1) rfl (zk_aload_n X dX2_lookAtNext_0 rfl rfl) ?_
  refine zz_cons (k' := 2) rfl (zk_getf X ff_X2_44 dX2_lookAtNext_1 rfl) ?_
  refine zz_cons (k' := 3) rfl (zz_Ok_none _ _) ?_
  refine zz_cons (k' := 4) rfl (zz_Ok_none _ _) ?_
  refine zz_cons (k' := 5) rfl (zk_iconst X dX2_lookAtNext_4 (by decide) rfl) ?_
  refine zz_cons (k' := 6) rfl (zk_iadd X dX2_lookAtNext_5 rfl) ?_
  refine zz_cons (k' := 7) rfl (zk_istore_n X dX2_lookAtNext_6 rfl (by decide) rfl) ?_
  refine zz_cons (k' := 8) rfl (zk_aload_n X dX2_lookAtNext_7 rfl rfl) ?_
  refine zz_cons (k' := 9) rfl (zk_iload_n X dX2_lookAtNext_8 rfl rfl) ?_
  refine zz_cons (k' := 10) rfl (zk_callv X (zz_Cv_of (List.forall_mem_cons.mpr ⟨⟨(RX_1, zzT1, 12), yX10_objectAt, cX10_objectAt, 2, (some .int), 0, 0, rfl, kv_X2_80_1, (mm_X10_objectAt Wd).1, by decide, by decide⟩, (List.forall_mem_cons.mpr ⟨⟨(RX_2, zzT2, 12), yX10_objectAt, cX10_objectAt, 2, (some .int), 0, 0, rfl, kv_X2_80_2, (mm_X10_objectAt Wd).1, by decide, by decide⟩, (List.forall_mem_cons.mpr ⟨⟨(RX_3, zzT3, 12), yX10_objectAt, cX10_objectAt, 2, (some .int), 0, 0, rfl, kv_X2_80_3, (mm_X10_objectAt Wd).1, by decide, by decide⟩, (List.forall_mem_cons.mpr ⟨⟨(RX_4, zzT4, 12), yX10_objectAt, cX10_objectAt, 2, (some .int), 0, 0, rfl, kv_X2_80_4, (mm_X10_objectAt Wd).1, by decide, by decide⟩, (List.forall_mem_cons.mpr ⟨⟨(RX_5, zzT5, 12), yX10_objectAt, cX10_objectAt, 2, (some .int), 0, 0, rfl, kv_X2_80_5, (mm_X10_objectAt Wd).1, by decide, by decide⟩, (List.forall_mem_cons.mpr ⟨⟨(RX_6, zzT6, 13), yX10_objectAt, cX10_objectAt, 2, (some .int), 0, 0, rfl, kv_X2_80_6, (mm_X10_objectAt Wd).1, by decide, by decide⟩, (List.forall_mem_cons.mpr ⟨⟨(RX_7, zzT7, 15), yX10_objectAt, cX10_objectAt, 2, (some .int), 0, 0, rfl, kv_X2_80_7, (mm_X10_objectAt Wd).1, by decide, by decide⟩, (fun _ h => absurd h List.not_mem_nil)⟩)⟩)⟩)⟩)⟩)⟩)⟩)) dX2_lookAtNext_9 rfl) ?_
  refine zz_cons (k' := 11) rfl (zz_Ok_none _ _) ?_
  refine zz_cons (k' := 12) rfl (zz_Ok_none _ _) ?_
  refine zz_cons (k' := 13) rfl (zk_istore_n X dX2_lookAtNext_12 rfl (by decide) rfl) ?_
  refine zz_cons (k' := 14) rfl (zk_aload_n X dX2_lookAtNext_13 rfl rfl) ?_
  refine zz_cons (k' := 15) rfl (zk_iload_n X dX2_lookAtNext_14 rfl rfl) ?_
  refine zz_cons (k' := 16) rfl (zk_bipush X dX2_lookAtNext_15 (by decide) rfl) ?_
  refine zz_cons (k' := 17) rfl (zz_Ok_none _ _) ?_
  refine zz_cons (k' := 18) rfl (zk_callv X (zz_Cv_of (List.forall_mem_cons.mpr ⟨⟨(RX_1, zzT1, 12), yX10_read, cX10_read, 3, (some .int), 0, 0, rfl, kv_X2_83_1, (mm_X10_read Wd).1, by decide, by decide⟩, (List.forall_mem_cons.mpr ⟨⟨(RX_2, zzT2, 12), yX10_read, cX10_read, 3, (some .int), 0, 0, rfl, kv_X2_83_2, (mm_X10_read Wd).1, by decide, by decide⟩, (List.forall_mem_cons.mpr ⟨⟨(RX_3, zzT3, 12), yX10_read, cX10_read, 3, (some .int), 0, 0, rfl, kv_X2_83_3, (mm_X10_read Wd).1, by decide, by decide⟩, (List.forall_mem_cons.mpr ⟨⟨(RX_4, zzT4, 12), yX10_read, cX10_read, 3, (some .int), 0, 0, rfl, kv_X2_83_4, (mm_X10_read Wd).1, by decide, by decide⟩, (List.forall_mem_cons.mpr ⟨⟨(RX_5, zzT5, 12), yX10_read, cX10_read, 3, (some .int), 0, 0, rfl, kv_X2_83_5, (mm_X10_read Wd).1, by decide, by decide⟩, (List.forall_mem_cons.mpr ⟨⟨(RX_6, zzT6, 13), yX10_read, cX10_read, 3, (some .int), 0, 0, rfl, kv_X2_83_6, (mm_X10_read Wd).1, by decide, by decide⟩, (List.forall_mem_cons.mpr ⟨⟨(RX_7, zzT7, 15), yX10_read, cX10_read, 3, (some .int), 0, 0, rfl, kv_X2_83_7, (mm_X10_read Wd).1, by decide, by decide⟩, (fun _ h => absurd h List.not_mem_nil)⟩)⟩)⟩)⟩)⟩)⟩)⟩)) dX2_lookAtNext_17 rfl) ?_
  refine zz_cons (k' := 19) rfl (zz_Ok_none _ _) ?_
  refine zz_cons (k' := 20) rfl (zz_Ok_none _ _) ?_
  refine zz_cons (k' := 21) rfl (zk_istore_n X dX2_lookAtNext_20 rfl (by decide) rfl) ?_
  refine zz_cons (k' := 22) rfl (zk_aload_n X dX2_lookAtNext_21 rfl rfl) ?_
  refine zz_cons (k' := 23) rfl (zk_iload_n X dX2_lookAtNext_22 rfl rfl) ?_
  refine zz_cons (k' := 24) rfl (zk_iload_n X dX2_lookAtNext_23 rfl rfl) ?_
  refine zz_cons (k' := 25) rfl (zk_callv X (zz_Cv_of (List.forall_mem_cons.mpr ⟨⟨(RX_1, zzT1, 12), yX10_takeIn, cX10_takeIn, 3, none, 0, 0, rfl, kv_X2_87_1, (mm_X10_takeIn Wd).1, by decide, by decide⟩, (List.forall_mem_cons.mpr ⟨⟨(RX_2, zzT2, 12), yX10_takeIn, cX10_takeIn, 3, none, 0, 0, rfl, kv_X2_87_2, (mm_X10_takeIn Wd).1, by decide, by decide⟩, (List.forall_mem_cons.mpr ⟨⟨(RX_3, zzT3, 12), yX10_takeIn, cX10_takeIn, 3, none, 0, 0, rfl, kv_X2_87_3, (mm_X10_takeIn Wd).1, by decide, by decide⟩, (List.forall_mem_cons.mpr ⟨⟨(RX_4, zzT4, 12), yX10_takeIn, cX10_takeIn, 3, none, 0, 0, rfl, kv_X2_87_4, (mm_X10_takeIn Wd).1, by decide, by decide⟩, (List.forall_mem_cons.mpr ⟨⟨(RX_5, zzT5, 12), yX10_takeIn, cX10_takeIn, 3, none, 0, 0, rfl, kv_X2_87_5, (mm_X10_takeIn Wd).1, by decide, by decide⟩, (List.forall_mem_cons.mpr ⟨⟨(RX_6, zzT6, 13), yX10_takeIn, cX10_takeIn, 3, none, 0, 0, rfl, kv_X2_87_6, (mm_X10_takeIn Wd).1, by decide, by decide⟩, (List.forall_mem_cons.mpr ⟨⟨(RX_7, zzT7, 15), yX10_takeIn, cX10_takeIn, 3, none, 0, 0, rfl, kv_X2_87_7, (mm_X10_takeIn Wd).1, by decide, by decide⟩, (fun _ h => absurd h List.not_mem_nil)⟩)⟩)⟩)⟩)⟩)⟩)⟩)) dX2_lookAtNext_24 rfl) ?_
  refine zz_cons (k' := 26) rfl (zz_Ok_none _ _) ?_
  refine zz_cons (k' := 27) rfl (zz_Ok_none _ _) ?_
  refine zz_cons (k' := 28) rfl (zk_aload_n X dX2_lookAtNext_27 rfl rfl) ?_
  refine zz_cons (k' := 29) rfl (zk_iload_n X dX2_lookAtNext_28 rfl rfl) ?_
  refine zz_cons (k' := 30) rfl (zk_bipush X dX2_lookAtNext_29 (by decide) rfl) ?_
  refine zz_cons (k' := 31) rfl (zz_Ok_none _ _) ?_
  refine zz_cons (k' := 32) rfl (zk_callv X (zz_Cv_of (List.forall_mem_cons.mpr ⟨⟨(RX_1, zzT1, 12), yX10_read, cX10_read, 3, (some .int), 0, 0, rfl, kv_X2_83_1, (mm_X10_read Wd).1, by decide, by decide⟩, (List.forall_mem_cons.mpr ⟨⟨(RX_2, zzT2, 12), yX10_read, cX10_read, 3, (some .int), 0, 0, rfl, kv_X2_83_2, (mm_X10_read Wd).1, by decide, by decide⟩, (List.forall_mem_cons.mpr ⟨⟨(RX_3, zzT3, 12), yX10_read, cX10_read, 3, (some .int), 0, 0, rfl, kv_X2_83_3, (mm_X10_read Wd).1, by decide, by decide⟩, (List.forall_mem_cons.mpr ⟨⟨(RX_4, zzT4, 12), yX10_read, cX10_read, 3, (some .int), 0, 0, rfl, kv_X2_83_4, (mm_X10_read Wd).1, by decide, by decide⟩, (List.forall_mem_cons.mpr ⟨⟨(RX_5, zzT5, 12), yX10_read, cX10_read, 3, (some .int), 0, 0, rfl, kv_X2_83_5, (mm_X10_read Wd).1, by decide, by decide⟩, (List.forall_mem_cons.mpr ⟨⟨(RX_6, zzT6, 13), yX10_read, cX10_read, 3, (some .int), 0, 0, rfl, kv_X2_83_6, (mm_X10_read Wd).1, by decide, by decide⟩, (List.forall_mem_cons.mpr ⟨⟨(RX_7, zzT7, 15), yX10_read, cX10_read, 3, (some .int), 0, 0, rfl, kv_X2_83_7, (mm_X10_read Wd).1, by decide, by decide⟩, (fun _ h => absurd h List.not_mem_nil)⟩)⟩)⟩)⟩)⟩)⟩)⟩)) dX2_lookAtNext_31 rfl) ?_
  refine zz_cons (k' := 33) rfl (zz_Ok_none _ _) ?_
  refine zz_cons (k' := 34) rfl (zz_Ok_none _ _) ?_
  refine zz_cons (k' := 35) rfl (zk_istore X dX2_lookAtNext_34 (by decide) rfl) ?_
  refine zz_cons (k' := 36) rfl (zz_Ok_none _ _) ?_
  refine zz_cons (k' := 37) rfl (zk_aload_n X dX2_lookAtNext_36 rfl rfl) ?_
  refine zz_cons (k' := 38) rfl (zk_iload_n X dX2_lookAtNext_37 rfl rfl) ?_
  refine zz_cons (k' := 39) rfl (zk_callv X (zz_Cv_of (List.forall_mem_cons.mpr ⟨⟨(RX_1, zzT1, 12), yX2_isOwnKey, cX2_isOwnKey, 2, (some .boolean), 1, 22, rfl, kv_X2_73_1, (mm_X2_isOwnKey Wd).1, by decide, by decide⟩, (List.forall_mem_cons.mpr ⟨⟨(RX_2, zzT2, 12), yX2_isOwnKey, cX2_isOwnKey, 2, (some .boolean), 1, 22, rfl, kv_X2_73_2, (mm_X2_isOwnKey Wd).1, by decide, by decide⟩, (List.forall_mem_cons.mpr ⟨⟨(RX_3, zzT3, 12), yX2_isOwnKey, cX2_isOwnKey, 2, (some .boolean), 1, 22, rfl, kv_X2_73_3, (mm_X2_isOwnKey Wd).1, by decide, by decide⟩, (List.forall_mem_cons.mpr ⟨⟨(RX_4, zzT4, 12), yX2_isOwnKey, cX2_isOwnKey, 2, (some .boolean), 1, 22, rfl, kv_X2_73_4, (mm_X2_isOwnKey Wd).1, by decide, by decide⟩, (List.forall_mem_cons.mpr ⟨⟨(RX_5, zzT5, 12), yX2_isOwnKey, cX2_isOwnKey, 2, (some .boolean), 1, 22, rfl, kv_X2_73_5, (mm_X2_isOwnKey Wd).1, by decide, by decide⟩, (List.forall_mem_cons.mpr ⟨⟨(RX_6, zzT6, 13), yX2_isOwnKey, cX2_isOwnKey, 2, (some .boolean), 1, 22, rfl, kv_X2_73_6, (mm_X2_isOwnKey Wd).1, by decide, by decide⟩, (List.forall_mem_cons.mpr ⟨⟨(RX_7, zzT7, 15), yX2_isOwnKey, cX2_isOwnKey, 2, (some .boolean), 1, 22, rfl, kv_X2_73_7, (mm_X2_isOwnKey Wd).1, by decide, by decide⟩, (fun _ h => absurd h List.not_mem_nil)⟩)⟩)⟩)⟩)⟩)⟩)⟩)) dX2_lookAtNext_38 rfl) ?_
  refine zz_cons (k' := 40) rfl (zz_Ok_none _ _) ?_
  refine zz_cons (k' := 41) rfl (zz_Ok_none _ _) ?_
  refine zz_cons (k' := 42) rfl (zk_if_eq X dX2_lookAtNext_41 (by decide) rfl) ?_
  refine zz_cons (k' := 43) rfl (zz_Ok_none _ _) ?_
  refine zz_cons (k' := 44) rfl (zz_Ok_none _ _) ?_
  refine zz_cons (k' := 45) rfl (zk_aload_n X dX2_lookAtNext_44 rfl rfl) ?_
  refine zz_cons (k' := 46) rfl (zk_iload_n X dX2_lookAtNext_45 rfl rfl) ?_
  refine zz_cons (k' := 47) rfl (zk_callv X (zz_Cv_of (List.forall_mem_cons.mpr ⟨⟨(RX_1, zzT1, 12), yX2_enqueue, cX2_enqueue, 2, none, 0, 0, rfl, kv_X2_76_1, (mm_X2_enqueue Wd).1, by decide, by decide⟩, (List.forall_mem_cons.mpr ⟨⟨(RX_2, zzT2, 12), yX2_enqueue, cX2_enqueue, 2, none, 0, 0, rfl, kv_X2_76_2, (mm_X2_enqueue Wd).1, by decide, by decide⟩, (List.forall_mem_cons.mpr ⟨⟨(RX_3, zzT3, 12), yX2_enqueue, cX2_enqueue, 2, none, 0, 0, rfl, kv_X2_76_3, (mm_X2_enqueue Wd).1, by decide, by decide⟩, (List.forall_mem_cons.mpr ⟨⟨(RX_4, zzT4, 12), yX2_enqueue, cX2_enqueue, 2, none, 0, 0, rfl, kv_X2_76_4, (mm_X2_enqueue Wd).1, by decide, by decide⟩, (List.forall_mem_cons.mpr ⟨⟨(RX_5, zzT5, 12), yX2_enqueue, cX2_enqueue, 2, none, 0, 0, rfl, kv_X2_76_5, (mm_X2_enqueue Wd).1, by decide, by decide⟩, (List.forall_mem_cons.mpr ⟨⟨(RX_6, zzT6, 13), yX2_enqueue, cX2_enqueue, 2, none, 0, 0, rfl, kv_X2_76_6, (mm_X2_enqueue Wd).1, by decide, by decide⟩, (List.forall_mem_cons.mpr ⟨⟨(RX_7, zzT7, 15), yX2_enqueue, cX2_enqueue, 2, none, 0, 0, rfl, kv_X2_76_7, (mm_X2_enqueue Wd).1, by decide, by decide⟩, (fun _ h => absurd h List.not_mem_nil)⟩)⟩)⟩)⟩)⟩)⟩)⟩)) dX2_lookAtNext_46 rfl) ?_
  refine zz_cons (k' := 48) rfl (zz_Ok_none _ _) ?_
  refine zz_cons (k' := 49) rfl (zz_Ok_none _ _) ?_
  refine zz_cons (k' := 50) rfl (zk_aload_n X dX2_lookAtNext_49 rfl rfl) ?_
  refine zz_cons (k' := 51) rfl (zk_iload_n X dX2_lookAtNext_50 rfl rfl) ?_
  refine zz_cons (k' := 52) rfl (zk_iload X dX2_lookAtNext_51 rfl) ?_
  refine zz_cons (k' := 53) rfl (zz_Ok_none _ _) ?_
  refine zz_cons (k' := 54) rfl (zk_iconst X dX2_lookAtNext_53 (by decide) rfl) ?_
  refine zz_cons (k' := 55) rfl (zk_icmp_ne X dX2_lookAtNext_54 (by decide) rfl) ?_
  refine zz_cons (k' := 56) rfl (zz_Ok_none _ _) ?_
  refine zz_cons (k' := 57) rfl (zz_Ok_none _ _) ?_
  refine zz_cons (k' := 58) rfl (zk_iload_n X dX2_lookAtNext_57 rfl rfl) ?_
  refine zz_cons (k' := 59) rfl (zk_goto X dX2_lookAtNext_58 (by decide)) ?_
  refine zz_cons (k' := 60) rfl (zz_Ok_none _ _) ?_
  refine zz_cons (k' := 61) rfl (zz_Ok_none _ _) ?_
  refine zz_cons (k' := 62) rfl (zk_iload X dX2_lookAtNext_61 rfl) ?_
  refine zz_cons (k' := 63) rfl (zz_Ok_none _ _) ?_
  refine zz_cons (k' := 64) rfl (zk_callv X (zz_Cv_of (List.forall_mem_cons.mpr ⟨⟨(RX_1, zzT1, 12), yX1_queueOthers, cX1_queueOthers, 4, none, 1, 22, rfl, kv_X2_91_1, (mm_X1_queueOthers Wd).1, by decide, by decide⟩, (List.forall_mem_cons.mpr ⟨⟨(RX_2, zzT2, 12), yX3_queueOthers, cX3_queueOthers, 3, none, 1, 22, rfl, kv_X2_91_2, (mm_X3_queueOthers Wd).1, by decide, by decide⟩, (List.forall_mem_cons.mpr ⟨⟨(RX_3, zzT3, 12), yX4_queueOthers, cX4_queueOthers, 3, none, 1, 22, rfl, kv_X2_91_3, (mm_X4_queueOthers Wd).1, by decide, by decide⟩, (List.forall_mem_cons.mpr ⟨⟨(RX_4, zzT4, 12), yX5_queueOthers, cX5_queueOthers, 4, none, 2, 43, rfl, kv_X2_91_4, (mm_X5_queueOthers Wd).1, by decide, by decide⟩, (List.forall_mem_cons.mpr ⟨⟨(RX_5, zzT5, 12), yX6_queueOthers, cX6_queueOthers, 4, none, 1, 22, rfl, kv_X2_91_5, (mm_X6_queueOthers Wd).1, by decide, by decide⟩, (List.forall_mem_cons.mpr ⟨⟨(RX_6, zzT6, 13), yX7_queueOthers, cX7_queueOthers, 3, none, 0, 0, rfl, kv_X2_91_6, (mm_X7_queueOthers Wd).1, by decide, by decide⟩, (List.forall_mem_cons.mpr ⟨⟨(RX_7, zzT7, 15), yX8_queueOthers, cX8_queueOthers, 4, none, 3, 65, rfl, kv_X2_91_7, (mm_X8_queueOthers Wd).1, by decide, by decide⟩, (fun _ h => absurd h List.not_mem_nil)⟩)⟩)⟩)⟩)⟩)⟩)⟩)) dX2_lookAtNext_63 rfl) ?_
  refine zz_cons (k' := 65) rfl (zz_Ok_none _ _) ?_
  refine zz_cons (k' := 66) rfl (zz_Ok_none _ _) ?_
  refine zz_cons (k' := 67) rfl (zk_ret X rfl dX2_lookAtNext_66) ?_
  exact trivial
noncomputable def tX2_look : List zzOp := [
  zo_aload 0 1,
  zo_getf zzSC (zz_kf [1, 2, 3, 4, 5, 6, 7] 11) 4,
  zo_none,
  zo_none,
  zo_istore 2 5,
  zo_aload 0 6,
  zo_getf zzSC (zz_kf [1, 2, 3, 4, 5, 6, 7] 3) 9,
  zo_none,
  zo_none,
  zo_aload 0 10,
  zo_getf zzSC (zz_kf [1, 2, 3, 4, 5, 6, 7] 4) 13,
  zo_none,
  zo_none,
  zo_getf zzSC (zz_kf [8] 8) 16,
  zo_none,
  zo_none,
  zo_icmp (fun x y => decide (y ≤ x)) 30 19,
  zo_none,
  zo_none,
  zo_aload 0 20,
  zo_callv zzSC (zz_cl [(1, fX2_relist), (2, fX2_relist), (3, fX2_relist), (4, fX2_relist), (5, fX2_relist), (6, fX2_relist), (7, fX2_relist)]) 0 23,
  zo_none,
  zo_none,
  zo_aload 0 24,
  zo_getf zzSC (zz_kf [1, 2, 3, 4, 5, 6, 7] 11) 27,
  zo_none,
  zo_none,
  zo_iload 2 28,
  zo_ii (fun x y => x - y) 29,
  zo_iret false,
  zo_pushI 0 31,
  zo_istore 3 32,
  zo_iload 3 33,
  zo_iload 1 34,
  zo_icmp (fun x y => decide (y ≤ x)) 61 37,
  zo_none,
  zo_none,
  zo_aload 0 38,
  zo_getf zzSC (zz_kf [1, 2, 3, 4, 5, 6, 7] 3) 41,
  zo_none,
  zo_none,
  zo_aload 0 42,
  zo_getf zzSC (zz_kf [1, 2, 3, 4, 5, 6, 7] 4) 45,
  zo_none,
  zo_none,
  zo_getf zzSC (zz_kf [8] 3) 48,
  zo_none,
  zo_none,
  zo_icmp (fun x y => decide (y ≤ x)) 61 51,
  zo_none,
  zo_none,
  zo_aload 0 52,
  zo_callv zzSC (zz_cl [(1, fX2_lookAtNext), (2, fX2_lookAtNext), (3, fX2_lookAtNext), (4, fX2_lookAtNext), (5, fX2_lookAtNext), (6, fX2_lookAtNext), (7, fX2_lookAtNext)]) 0 55,
  zo_none,
  zo_none,
  zo_iinc 3 1 58,
  zo_none,
  zo_none,
  zo_goto 32,
  zo_none,
  zo_none,
  zo_aload 0 62,
  zo_getf zzSC (zz_kf [1, 2, 3, 4, 5, 6, 7] 11) 65,
  zo_none,
  zo_none,
  zo_iload 2 66,
  zo_ii (fun x y => x - y) 67,
  zo_iret false]
set_option maxRecDepth 100000 in
theorem tl_X2_look : ∀ pc, zz_Tl (tX2_look.getD pc zo_none) := by
  refine zz_Tl_mem ?_
  unfold tX2_look
  refine List.forall_mem_cons.mpr ⟨(zo_aload_tl _ _), ?_⟩
  refine List.forall_mem_cons.mpr ⟨(zo_getf_tl _ _ _), ?_⟩
  refine List.forall_mem_cons.mpr ⟨zo_none_tl, ?_⟩
  refine List.forall_mem_cons.mpr ⟨zo_none_tl, ?_⟩
  refine List.forall_mem_cons.mpr ⟨(zo_istore_tl _ _), ?_⟩
  refine List.forall_mem_cons.mpr ⟨(zo_aload_tl _ _), ?_⟩
  refine List.forall_mem_cons.mpr ⟨(zo_getf_tl _ _ _), ?_⟩
  refine List.forall_mem_cons.mpr ⟨zo_none_tl, ?_⟩
  refine List.forall_mem_cons.mpr ⟨zo_none_tl, ?_⟩
  refine List.forall_mem_cons.mpr ⟨(zo_aload_tl _ _), ?_⟩
  refine List.forall_mem_cons.mpr ⟨(zo_getf_tl _ _ _), ?_⟩
  refine List.forall_mem_cons.mpr ⟨zo_none_tl, ?_⟩
  refine List.forall_mem_cons.mpr ⟨zo_none_tl, ?_⟩
  refine List.forall_mem_cons.mpr ⟨(zo_getf_tl _ _ _), ?_⟩
  refine List.forall_mem_cons.mpr ⟨zo_none_tl, ?_⟩
  refine List.forall_mem_cons.mpr ⟨zo_none_tl, ?_⟩
  refine List.forall_mem_cons.mpr ⟨(zo_icmp_tl _ _ _), ?_⟩
  refine List.forall_mem_cons.mpr ⟨zo_none_tl, ?_⟩
  refine List.forall_mem_cons.mpr ⟨zo_none_tl, ?_⟩
  refine List.forall_mem_cons.mpr ⟨(zo_aload_tl _ _), ?_⟩
  refine List.forall_mem_cons.mpr ⟨(zo_callv_tl _ _ _ _), ?_⟩
  refine List.forall_mem_cons.mpr ⟨zo_none_tl, ?_⟩
  refine List.forall_mem_cons.mpr ⟨zo_none_tl, ?_⟩
  refine List.forall_mem_cons.mpr ⟨(zo_aload_tl _ _), ?_⟩
  refine List.forall_mem_cons.mpr ⟨(zo_getf_tl _ _ _), ?_⟩
  refine List.forall_mem_cons.mpr ⟨zo_none_tl, ?_⟩
  refine List.forall_mem_cons.mpr ⟨zo_none_tl, ?_⟩
  refine List.forall_mem_cons.mpr ⟨(zo_iload_tl _ _), ?_⟩
  refine List.forall_mem_cons.mpr ⟨(zo_ii_tl _ _), ?_⟩
  refine List.forall_mem_cons.mpr ⟨(zo_iret_tl _), ?_⟩
  refine List.forall_mem_cons.mpr ⟨(zo_pushI_tl _ _), ?_⟩
  refine List.forall_mem_cons.mpr ⟨(zo_istore_tl _ _), ?_⟩
  refine List.forall_mem_cons.mpr ⟨(zo_iload_tl _ _), ?_⟩
  refine List.forall_mem_cons.mpr ⟨(zo_iload_tl _ _), ?_⟩
  refine List.forall_mem_cons.mpr ⟨(zo_icmp_tl _ _ _), ?_⟩
  refine List.forall_mem_cons.mpr ⟨zo_none_tl, ?_⟩
  refine List.forall_mem_cons.mpr ⟨zo_none_tl, ?_⟩
  refine List.forall_mem_cons.mpr ⟨(zo_aload_tl _ _), ?_⟩
  refine List.forall_mem_cons.mpr ⟨(zo_getf_tl _ _ _), ?_⟩
  refine List.forall_mem_cons.mpr ⟨zo_none_tl, ?_⟩
  refine List.forall_mem_cons.mpr ⟨zo_none_tl, ?_⟩
  refine List.forall_mem_cons.mpr ⟨(zo_aload_tl _ _), ?_⟩
  refine List.forall_mem_cons.mpr ⟨(zo_getf_tl _ _ _), ?_⟩
  refine List.forall_mem_cons.mpr ⟨zo_none_tl, ?_⟩
  refine List.forall_mem_cons.mpr ⟨zo_none_tl, ?_⟩
  refine List.forall_mem_cons.mpr ⟨(zo_getf_tl _ _ _), ?_⟩
  refine List.forall_mem_cons.mpr ⟨zo_none_tl, ?_⟩
  refine List.forall_mem_cons.mpr ⟨zo_none_tl, ?_⟩
  refine List.forall_mem_cons.mpr ⟨(zo_icmp_tl _ _ _), ?_⟩
  refine List.forall_mem_cons.mpr ⟨zo_none_tl, ?_⟩
  refine List.forall_mem_cons.mpr ⟨zo_none_tl, ?_⟩
  refine List.forall_mem_cons.mpr ⟨(zo_aload_tl _ _), ?_⟩
  refine List.forall_mem_cons.mpr ⟨(zo_callv_tl _ _ _ _), ?_⟩
  refine List.forall_mem_cons.mpr ⟨zo_none_tl, ?_⟩
  refine List.forall_mem_cons.mpr ⟨zo_none_tl, ?_⟩
  refine List.forall_mem_cons.mpr ⟨(zo_iinc_tl _ _ _), ?_⟩
  refine List.forall_mem_cons.mpr ⟨zo_none_tl, ?_⟩
  refine List.forall_mem_cons.mpr ⟨zo_none_tl, ?_⟩
  refine List.forall_mem_cons.mpr ⟨(zo_goto_tl _), ?_⟩
  refine List.forall_mem_cons.mpr ⟨zo_none_tl, ?_⟩
  refine List.forall_mem_cons.mpr ⟨zo_none_tl, ?_⟩
  refine List.forall_mem_cons.mpr ⟨(zo_aload_tl _ _), ?_⟩
  refine List.forall_mem_cons.mpr ⟨(zo_getf_tl _ _ _), ?_⟩
  refine List.forall_mem_cons.mpr ⟨zo_none_tl, ?_⟩
  refine List.forall_mem_cons.mpr ⟨zo_none_tl, ?_⟩
  refine List.forall_mem_cons.mpr ⟨(zo_iload_tl _ _), ?_⟩
  refine List.forall_mem_cons.mpr ⟨(zo_ii_tl _ _), ?_⟩
  refine List.forall_mem_cons.mpr ⟨(zo_iret_tl _), ?_⟩
  exact fun _ h => absurd h List.not_mem_nil
noncomputable def fX2_look : zzFn := zz_fn tX2_look 4
set_option maxRecDepth 100000 in
set_option maxHeartbeats 4000000 in
theorem mm_X2_look {l : Launch} {D : va_G} {cA : Nat → ClassId} {ad : Nat → Nat} {Ex : (Nat → Prop) → State → Heap → Prop} (Wd : zzWC l D cA ad Ex) : zz_Cn l D zzCl cA ad zzSC Ex yX2_look cX2_look 4 (some .int) 5 112 fX2_look ∧ zz_Cx l D zzCl cA ad zzSC Ex yX2_look cX2_look 4 (some .int) 5 112 fX2_look := by
  refine zz_meth (plainFor_of_name (by decide)) Wd.1 Wd.2.1 Wd.2.2.1 (fun p e R s m args below meth c rr X => ?_)
  unfold tX2_look
  refine zz_cons (k' := 1) rfl (zk_aload_n X dX2_look_0 rfl rfl) ?_
  refine zz_cons (k' := 2) rfl (zk_getf X ff_X2_41 dX2_look_1 rfl) ?_
  refine zz_cons (k' := 3) rfl (zz_Ok_none _ _) ?_
  refine zz_cons (k' := 4) rfl (zz_Ok_none _ _) ?_
  refine zz_cons (k' := 5) rfl (zk_istore_n X dX2_look_4 rfl (by decide) rfl) ?_
  refine zz_cons (k' := 6) rfl (zk_aload_n X dX2_look_5 rfl rfl) ?_
  refine zz_cons (k' := 7) rfl (zk_getf X ff_X2_44 dX2_look_6 rfl) ?_
  refine zz_cons (k' := 8) rfl (zz_Ok_none _ _) ?_
  refine zz_cons (k' := 9) rfl (zz_Ok_none _ _) ?_
  refine zz_cons (k' := 10) rfl (zk_aload_n X dX2_look_9 rfl rfl) ?_
  refine zz_cons (k' := 11) rfl (zk_getf X ff_X2_15 dX2_look_10 rfl) ?_
  refine zz_cons (k' := 12) rfl (zz_Ok_none _ _) ?_
  refine zz_cons (k' := 13) rfl (zz_Ok_none _ _) ?_
  refine zz_cons (k' := 14) rfl (zk_getf X ff_X2_47 dX2_look_13 rfl) ?_
  refine zz_cons (k' := 15) rfl (zz_Ok_none _ _) ?_
  refine zz_cons (k' := 16) rfl (zz_Ok_none _ _) ?_
  refine zz_cons (k' := 17) rfl (zk_icmp_ge X dX2_look_16 (by decide) rfl) ?_
  refine zz_cons (k' := 18) rfl (zz_Ok_none _ _) ?_
  refine zz_cons (k' := 19) rfl (zz_Ok_none _ _) ?_
  refine zz_cons (k' := 20) rfl (zk_aload_n X dX2_look_19 rfl rfl) ?_
  refine zz_cons (k' := 21) rfl (zk_callv X (zz_Cv_of (List.forall_mem_cons.mpr ⟨⟨(RX_1, zzT1, 12), yX2_relist, cX2_relist, 2, none, 2, 47, rfl, kv_X2_50_1, (mm_X2_relist Wd).1, by decide, by decide⟩, (List.forall_mem_cons.mpr ⟨⟨(RX_2, zzT2, 12), yX2_relist, cX2_relist, 2, none, 2, 47, rfl, kv_X2_50_2, (mm_X2_relist Wd).1, by decide, by decide⟩, (List.forall_mem_cons.mpr ⟨⟨(RX_3, zzT3, 12), yX2_relist, cX2_relist, 2, none, 2, 47, rfl, kv_X2_50_3, (mm_X2_relist Wd).1, by decide, by decide⟩, (List.forall_mem_cons.mpr ⟨⟨(RX_4, zzT4, 12), yX2_relist, cX2_relist, 2, none, 2, 47, rfl, kv_X2_50_4, (mm_X2_relist Wd).1, by decide, by decide⟩, (List.forall_mem_cons.mpr ⟨⟨(RX_5, zzT5, 12), yX2_relist, cX2_relist, 2, none, 2, 47, rfl, kv_X2_50_5, (mm_X2_relist Wd).1, by decide, by decide⟩, (List.forall_mem_cons.mpr ⟨⟨(RX_6, zzT6, 13), yX2_relist, cX2_relist, 2, none, 2, 47, rfl, kv_X2_50_6, (mm_X2_relist Wd).1, by decide, by decide⟩, (List.forall_mem_cons.mpr ⟨⟨(RX_7, zzT7, 15), yX2_relist, cX2_relist, 2, none, 2, 47, rfl, kv_X2_50_7, (mm_X2_relist Wd).1, by decide, by decide⟩, (fun _ h => absurd h List.not_mem_nil)⟩)⟩)⟩)⟩)⟩)⟩)⟩)) dX2_look_20 rfl) ?_
  refine zz_cons (k' := 22) rfl (zz_Ok_none _ _) ?_
  refine zz_cons (k' := 23) rfl (zz_Ok_none _ _) ?_
  refine zz_cons (k' := 24) rfl (zk_aload_n X dX2_look_23 rfl rfl) ?_
  refine zz_cons (k' := 25) rfl (zk_getf X ff_X2_41 dX2_look_24 rfl) ?_
  refine zz_cons (k' := 26) rfl (zz_Ok_none _ _) ?_
  refine zz_cons (k' := 27) rfl (zz_Ok_none _ _) ?_
  refine zz_cons (k' := 28) rfl (zk_iload_n X dX2_look_27 rfl rfl) ?_
  refine zz_cons (k' := 29) rfl (zk_isub X dX2_look_28 rfl) ?_
  refine zz_cons (k' := 30) rfl (zk_iret X rfl dX2_look_29) ?_
  refine zz_cons (k' := 31) rfl (zk_iconst X dX2_look_30 (by decide) rfl) ?_
  refine zz_cons (k' := 32) rfl (zk_istore_n X dX2_look_31 rfl (by decide) rfl) ?_
  refine zz_cons (k' := 33) rfl (zk_iload_n X dX2_look_32 rfl rfl) ?_
  refine zz_cons (k' := 34) rfl (zk_iload_n X dX2_look_33 rfl rfl) ?_
  refine zz_cons (k' := 35) rfl (zk_icmp_ge X dX2_look_34 (by decide) rfl) ?_
  refine zz_cons (k' := 36) rfl (zz_Ok_none _ _) ?_
  refine zz_cons (k' := 37) rfl (zz_Ok_none _ _) ?_
  refine zz_cons (k' := 38) rfl (zk_aload_n X dX2_look_37 rfl rfl) ?_
  refine zz_cons (k' := 39) rfl (zk_getf X ff_X2_44 dX2_look_38 rfl) ?_
  refine zz_cons (k' := 40) rfl (zz_Ok_none _ _) ?_
  refine zz_cons (k' := 41) rfl (zz_Ok_none _ _) ?_
  refine zz_cons (k' := 42) rfl (zk_aload_n X dX2_look_41 rfl rfl) ?_
  refine zz_cons (k' := 43) rfl (zk_getf X ff_X2_15 dX2_look_42 rfl) ?_
  refine zz_cons (k' := 44) rfl (zz_Ok_none _ _) ?_
  refine zz_cons (k' := 45) rfl (zz_Ok_none _ _) ?_
  refine zz_cons (k' := 46) rfl (zk_getf X ff_X2_54 dX2_look_45 rfl) ?_
  refine zz_cons (k' := 47) rfl (zz_Ok_none _ _) ?_
  refine zz_cons (k' := 48) rfl (zz_Ok_none _ _) ?_
  refine zz_cons (k' := 49) rfl (zk_icmp_ge X dX2_look_48 (by decide) rfl) ?_
  refine zz_cons (k' := 50) rfl (zz_Ok_none _ _) ?_
  refine zz_cons (k' := 51) rfl (zz_Ok_none _ _) ?_
  refine zz_cons (k' := 52) rfl (zk_aload_n X dX2_look_51 rfl rfl) ?_
  refine zz_cons (k' := 53) rfl (zk_callv X (zz_Cv_of (List.forall_mem_cons.mpr ⟨⟨(RX_1, zzT1, 12), yX2_lookAtNext, cX2_lookAtNext, 5, none, 4, 88, rfl, kv_X2_55_1, (mm_X2_lookAtNext Wd).1, by decide, by decide⟩, (List.forall_mem_cons.mpr ⟨⟨(RX_2, zzT2, 12), yX2_lookAtNext, cX2_lookAtNext, 5, none, 4, 88, rfl, kv_X2_55_2, (mm_X2_lookAtNext Wd).1, by decide, by decide⟩, (List.forall_mem_cons.mpr ⟨⟨(RX_3, zzT3, 12), yX2_lookAtNext, cX2_lookAtNext, 5, none, 4, 88, rfl, kv_X2_55_3, (mm_X2_lookAtNext Wd).1, by decide, by decide⟩, (List.forall_mem_cons.mpr ⟨⟨(RX_4, zzT4, 12), yX2_lookAtNext, cX2_lookAtNext, 5, none, 4, 88, rfl, kv_X2_55_4, (mm_X2_lookAtNext Wd).1, by decide, by decide⟩, (List.forall_mem_cons.mpr ⟨⟨(RX_5, zzT5, 12), yX2_lookAtNext, cX2_lookAtNext, 5, none, 4, 88, rfl, kv_X2_55_5, (mm_X2_lookAtNext Wd).1, by decide, by decide⟩, (List.forall_mem_cons.mpr ⟨⟨(RX_6, zzT6, 13), yX2_lookAtNext, cX2_lookAtNext, 5, none, 4, 88, rfl, kv_X2_55_6, (mm_X2_lookAtNext Wd).1, by decide, by decide⟩, (List.forall_mem_cons.mpr ⟨⟨(RX_7, zzT7, 15), yX2_lookAtNext, cX2_lookAtNext, 5, none, 4, 88, rfl, kv_X2_55_7, (mm_X2_lookAtNext Wd).1, by decide, by decide⟩, (fun _ h => absurd h List.not_mem_nil)⟩)⟩)⟩)⟩)⟩)⟩)⟩)) dX2_look_52 rfl) ?_
  refine zz_cons (k' := 54) rfl (zz_Ok_none _ _) ?_
  refine zz_cons (k' := 55) rfl (zz_Ok_none _ _) ?_
  refine zz_cons (k' := 56) rfl (zk_iinc X dX2_look_55 (by decide) (by decide) rfl) ?_
  refine zz_cons (k' := 57) rfl (zz_Ok_none _ _) ?_
  refine zz_cons (k' := 58) rfl (zz_Ok_none _ _) ?_
  refine zz_cons (k' := 59) rfl (zk_goto X dX2_look_58 (by decide)) ?_
  refine zz_cons (k' := 60) rfl (zz_Ok_none _ _) ?_
  refine zz_cons (k' := 61) rfl (zz_Ok_none _ _) ?_
  refine zz_cons (k' := 62) rfl (zk_aload_n X dX2_look_61 rfl rfl) ?_
  refine zz_cons (k' := 63) rfl (zk_getf X ff_X2_41 dX2_look_62 rfl) ?_
  refine zz_cons (k' := 64) rfl (zz_Ok_none _ _) ?_
  refine zz_cons (k' := 65) rfl (zz_Ok_none _ _) ?_
  refine zz_cons (k' := 66) rfl (zk_iload_n X dX2_look_65 rfl rfl) ?_
  refine zz_cons (k' := 67) rfl (zk_isub X dX2_look_66 rfl) ?_
  refine zz_cons (k' := 68) rfl (zk_iret X rfl dX2_look_67) ?_
  exact trivial
noncomputable def tX2_lookAtAll : List zzOp := [
  zo_aload 0 1,
  zo_pushI 400 4,
  zo_none,
  zo_none,
  zo_callv zzSC (zz_cl [(1, fX2_look), (2, fX2_look), (3, fX2_look), (4, fX2_look), (5, fX2_look), (6, fX2_look), (7, fX2_look)]) 1 7,
  zo_none,
  zo_none,
  zo_pop 8,
  zo_aload 0 9,
  zo_getf zzSC (zz_kf [1, 2, 3, 4, 5, 6, 7] 11) 12,
  zo_none,
  zo_none,
  zo_iret false]
set_option maxRecDepth 100000 in
theorem tl_X2_lookAtAll : ∀ pc, zz_Tl (tX2_lookAtAll.getD pc zo_none) := by
  refine zz_Tl_mem ?_
  unfold tX2_lookAtAll
  refine List.forall_mem_cons.mpr ⟨(zo_aload_tl _ _), ?_⟩
  refine List.forall_mem_cons.mpr ⟨(zo_pushI_tl _ _), ?_⟩
  refine List.forall_mem_cons.mpr ⟨zo_none_tl, ?_⟩
  refine List.forall_mem_cons.mpr ⟨zo_none_tl, ?_⟩
  refine List.forall_mem_cons.mpr ⟨(zo_callv_tl _ _ _ _), ?_⟩
  refine List.forall_mem_cons.mpr ⟨zo_none_tl, ?_⟩
  refine List.forall_mem_cons.mpr ⟨zo_none_tl, ?_⟩
  refine List.forall_mem_cons.mpr ⟨(zo_pop_tl _), ?_⟩
  refine List.forall_mem_cons.mpr ⟨(zo_aload_tl _ _), ?_⟩
  refine List.forall_mem_cons.mpr ⟨(zo_getf_tl _ _ _), ?_⟩
  refine List.forall_mem_cons.mpr ⟨zo_none_tl, ?_⟩
  refine List.forall_mem_cons.mpr ⟨zo_none_tl, ?_⟩
  refine List.forall_mem_cons.mpr ⟨(zo_iret_tl _), ?_⟩
  exact fun _ h => absurd h List.not_mem_nil
noncomputable def fX2_lookAtAll : zzFn := zz_fn tX2_lookAtAll 1
set_option maxRecDepth 100000 in
set_option maxHeartbeats 4000000 in
theorem mm_X2_lookAtAll {l : Launch} {D : va_G} {cA : Nat → ClassId} {ad : Nat → Nat} {Ex : (Nat → Prop) → State → Heap → Prop} (Wd : zzWC l D cA ad Ex) : zz_Cn l D zzCl cA ad zzSC Ex yX2_lookAtAll cX2_lookAtAll 1 (some .int) 6 135 fX2_lookAtAll ∧ zz_Cx l D zzCl cA ad zzSC Ex yX2_lookAtAll cX2_lookAtAll 1 (some .int) 6 135 fX2_lookAtAll := by
  refine zz_meth (plainFor_of_name (by decide)) Wd.1 Wd.2.1 Wd.2.2.1 (fun p e R s m args below meth c rr X => ?_)
  unfold tX2_lookAtAll
  refine zz_cons (k' := 1) rfl (zk_aload_n X dX2_lookAtAll_0 rfl rfl) ?_
  refine zz_cons (k' := 2) rfl (zk_sipush X dX2_lookAtAll_1 (by decide) rfl) ?_
  refine zz_cons (k' := 3) rfl (zz_Ok_none _ _) ?_
  refine zz_cons (k' := 4) rfl (zz_Ok_none _ _) ?_
  refine zz_cons (k' := 5) rfl (zk_callv X (zz_Cv_of (List.forall_mem_cons.mpr ⟨⟨(RX_1, zzT1, 12), yX2_look, cX2_look, 4, (some .int), 5, 112, rfl, kv_X2_58_1, (mm_X2_look Wd).1, by decide, by decide⟩, (List.forall_mem_cons.mpr ⟨⟨(RX_2, zzT2, 12), yX2_look, cX2_look, 4, (some .int), 5, 112, rfl, kv_X2_58_2, (mm_X2_look Wd).1, by decide, by decide⟩, (List.forall_mem_cons.mpr ⟨⟨(RX_3, zzT3, 12), yX2_look, cX2_look, 4, (some .int), 5, 112, rfl, kv_X2_58_3, (mm_X2_look Wd).1, by decide, by decide⟩, (List.forall_mem_cons.mpr ⟨⟨(RX_4, zzT4, 12), yX2_look, cX2_look, 4, (some .int), 5, 112, rfl, kv_X2_58_4, (mm_X2_look Wd).1, by decide, by decide⟩, (List.forall_mem_cons.mpr ⟨⟨(RX_5, zzT5, 12), yX2_look, cX2_look, 4, (some .int), 5, 112, rfl, kv_X2_58_5, (mm_X2_look Wd).1, by decide, by decide⟩, (List.forall_mem_cons.mpr ⟨⟨(RX_6, zzT6, 13), yX2_look, cX2_look, 4, (some .int), 5, 112, rfl, kv_X2_58_6, (mm_X2_look Wd).1, by decide, by decide⟩, (List.forall_mem_cons.mpr ⟨⟨(RX_7, zzT7, 15), yX2_look, cX2_look, 4, (some .int), 5, 112, rfl, kv_X2_58_7, (mm_X2_look Wd).1, by decide, by decide⟩, (fun _ h => absurd h List.not_mem_nil)⟩)⟩)⟩)⟩)⟩)⟩)⟩)) dX2_lookAtAll_4 rfl) ?_
  refine zz_cons (k' := 6) rfl (zz_Ok_none _ _) ?_
  refine zz_cons (k' := 7) rfl (zz_Ok_none _ _) ?_
  refine zz_cons (k' := 8) rfl (zk_pop X dX2_lookAtAll_7 rfl) ?_
  refine zz_cons (k' := 9) rfl (zk_aload_n X dX2_lookAtAll_8 rfl rfl) ?_
  refine zz_cons (k' := 10) rfl (zk_getf X ff_X2_41 dX2_lookAtAll_9 rfl) ?_
  refine zz_cons (k' := 11) rfl (zz_Ok_none _ _) ?_
  refine zz_cons (k' := 12) rfl (zz_Ok_none _ _) ?_
  refine zz_cons (k' := 13) rfl (zk_iret X rfl dX2_lookAtAll_12) ?_
  exact trivial
noncomputable def tX2_keyAt : List zzOp := [
  zo_iload 1 1,
  zo_if (fun x => decide (x < 0)) 21 4,
  zo_none,
  zo_none,
  zo_iload 1 5,
  zo_aload 0 6,
  zo_getf zzSC (zz_kf [1, 2, 3, 4, 5, 6, 7] 11) 9,
  zo_none,
  zo_none,
  zo_icmp (fun x y => decide (y ≤ x)) 21 12,
  zo_none,
  zo_none,
  zo_aload 0 13,
  zo_getf zzSC (zz_kf [1, 2, 3, 4, 5, 6, 7] 6) 16,
  zo_none,
  zo_none,
  zo_iload 1 17,
  zo_iald zzSC zzSTC 18,
  zo_goto 22,
  zo_none,
  zo_none,
  zo_pushI (-1) 22,
  zo_iret false]
set_option maxRecDepth 100000 in
theorem tl_X2_keyAt : ∀ pc, zz_Tl (tX2_keyAt.getD pc zo_none) := by
  refine zz_Tl_mem ?_
  unfold tX2_keyAt
  refine List.forall_mem_cons.mpr ⟨(zo_iload_tl _ _), ?_⟩
  refine List.forall_mem_cons.mpr ⟨(zo_if_tl _ _ _), ?_⟩
  refine List.forall_mem_cons.mpr ⟨zo_none_tl, ?_⟩
  refine List.forall_mem_cons.mpr ⟨zo_none_tl, ?_⟩
  refine List.forall_mem_cons.mpr ⟨(zo_iload_tl _ _), ?_⟩
  refine List.forall_mem_cons.mpr ⟨(zo_aload_tl _ _), ?_⟩
  refine List.forall_mem_cons.mpr ⟨(zo_getf_tl _ _ _), ?_⟩
  refine List.forall_mem_cons.mpr ⟨zo_none_tl, ?_⟩
  refine List.forall_mem_cons.mpr ⟨zo_none_tl, ?_⟩
  refine List.forall_mem_cons.mpr ⟨(zo_icmp_tl _ _ _), ?_⟩
  refine List.forall_mem_cons.mpr ⟨zo_none_tl, ?_⟩
  refine List.forall_mem_cons.mpr ⟨zo_none_tl, ?_⟩
  refine List.forall_mem_cons.mpr ⟨(zo_aload_tl _ _), ?_⟩
  refine List.forall_mem_cons.mpr ⟨(zo_getf_tl _ _ _), ?_⟩
  refine List.forall_mem_cons.mpr ⟨zo_none_tl, ?_⟩
  refine List.forall_mem_cons.mpr ⟨zo_none_tl, ?_⟩
  refine List.forall_mem_cons.mpr ⟨(zo_iload_tl _ _), ?_⟩
  refine List.forall_mem_cons.mpr ⟨(zo_iald_tl _ _ _), ?_⟩
  refine List.forall_mem_cons.mpr ⟨(zo_goto_tl _), ?_⟩
  refine List.forall_mem_cons.mpr ⟨zo_none_tl, ?_⟩
  refine List.forall_mem_cons.mpr ⟨zo_none_tl, ?_⟩
  refine List.forall_mem_cons.mpr ⟨(zo_pushI_tl _ _), ?_⟩
  refine List.forall_mem_cons.mpr ⟨(zo_iret_tl _), ?_⟩
  exact fun _ h => absurd h List.not_mem_nil
noncomputable def fX2_keyAt : zzFn := zz_fn tX2_keyAt 2
set_option maxRecDepth 100000 in
set_option maxHeartbeats 4000000 in
theorem mm_X2_keyAt {l : Launch} {D : va_G} {cA : Nat → ClassId} {ad : Nat → Nat} {Ex : (Nat → Prop) → State → Heap → Prop} (Wd : zzWC l D cA ad Ex) : zz_Cn l D zzCl cA ad zzSC Ex yX2_keyAt cX2_keyAt 2 (some .int) 0 0 fX2_keyAt ∧ zz_Cx l D zzCl cA ad zzSC Ex yX2_keyAt cX2_keyAt 2 (some .int) 0 0 fX2_keyAt := by
  refine zz_meth (plainFor_of_name (by decide)) Wd.1 Wd.2.1 Wd.2.2.1 (fun p e R s m args below meth c rr X => ?_)
  unfold tX2_keyAt
  refine zz_cons (k' := 1) rfl (zk_iload_n X dX2_keyAt_0 rfl rfl) ?_
  refine zz_cons (k' := 2) rfl (zk_if_lt X dX2_keyAt_1 (by decide) rfl) ?_
  refine zz_cons (k' := 3) rfl (zz_Ok_none _ _) ?_
  refine zz_cons (k' := 4) rfl (zz_Ok_none _ _) ?_
  refine zz_cons (k' := 5) rfl (zk_iload_n X dX2_keyAt_4 rfl rfl) ?_
  refine zz_cons (k' := 6) rfl (zk_aload_n X dX2_keyAt_5 rfl rfl) ?_
  refine zz_cons (k' := 7) rfl (zk_getf X ff_X2_41 dX2_keyAt_6 rfl) ?_
  refine zz_cons (k' := 8) rfl (zz_Ok_none _ _) ?_
  refine zz_cons (k' := 9) rfl (zz_Ok_none _ _) ?_
  refine zz_cons (k' := 10) rfl (zk_icmp_ge X dX2_keyAt_9 (by decide) rfl) ?_
  refine zz_cons (k' := 11) rfl (zz_Ok_none _ _) ?_
  refine zz_cons (k' := 12) rfl (zz_Ok_none _ _) ?_
  refine zz_cons (k' := 13) rfl (zk_aload_n X dX2_keyAt_12 rfl rfl) ?_
  refine zz_cons (k' := 14) rfl (zk_getf X ff_X2_25 dX2_keyAt_13 rfl) ?_
  refine zz_cons (k' := 15) rfl (zz_Ok_none _ _) ?_
  refine zz_cons (k' := 16) rfl (zz_Ok_none _ _) ?_
  refine zz_cons (k' := 17) rfl (zk_iload_n X dX2_keyAt_16 rfl rfl) ?_
  refine zz_cons (k' := 18) rfl (zk_iald X (zzWC_st Wd) dX2_keyAt_17 rfl) ?_
  refine zz_cons (k' := 19) rfl (zk_goto X dX2_keyAt_18 (by decide)) ?_
  refine zz_cons (k' := 20) rfl (zz_Ok_none _ _) ?_
  refine zz_cons (k' := 21) rfl (zz_Ok_none _ _) ?_
  refine zz_cons (k' := 22) rfl (zk_iconst X dX2_keyAt_21 (by decide) rfl) ?_
  refine zz_cons (k' := 23) rfl (zk_iret X rfl dX2_keyAt_22) ?_
  exact trivial
noncomputable def tX2_takeKey : List zzOp := [
  zo_pushI 0 1,
  zo_istore 1 2,
  zo_iload 1 3,
  zo_aload 0 4,
  zo_getf zzSC (zz_kf [1, 2, 3, 4, 5, 6, 7] 11) 7,
  zo_none,
  zo_none,
  zo_icmp (fun x y => decide (y ≤ x)) 81 10,
  zo_none,
  zo_none,
  zo_aload 0 11,
  zo_getf zzSC (zz_kf [1, 2, 3, 4, 5, 6, 7] 6) 14,
  zo_none,
  zo_none,
  zo_iload 1 15,
  zo_iald zzSC zzSTC 16,
  zo_istore 2 17,
  zo_aload 0 18,
  zo_getf zzSC (zz_kf [1, 2, 3, 4, 5, 6, 7] 9) 21,
  zo_none,
  zo_none,
  zo_iload 2 22,
  zo_iald zzSC zzSTC 23,
  zo_aload 0 24,
  zo_getf zzSC (zz_kf [1, 2, 3, 4, 5, 6, 7] 4) 27,
  zo_none,
  zo_none,
  zo_getf zzSC (zz_kf [8] 7) 30,
  zo_none,
  zo_none,
  zo_icmp (fun x y => decide (y < x)) 75 33,
  zo_none,
  zo_none,
  zo_aload 0 34,
  zo_getf zzSC (zz_kf [1, 2, 3, 4, 5, 6, 7] 6) 37,
  zo_none,
  zo_none,
  zo_iload 1 38,
  zo_pushI 1 39,
  zo_ii (fun x y => x + y) 40,
  zo_aload 0 41,
  zo_getf zzSC (zz_kf [1, 2, 3, 4, 5, 6, 7] 6) 44,
  zo_none,
  zo_none,
  zo_iload 1 45,
  zo_aload 0 46,
  zo_getf zzSC (zz_kf [1, 2, 3, 4, 5, 6, 7] 11) 49,
  zo_none,
  zo_none,
  zo_iload 1 50,
  zo_ii (fun x y => x - y) 51,
  zo_pushI 1 52,
  zo_ii (fun x y => x - y) 53,
  zo_copy zzSC 56,
  zo_none,
  zo_none,
  zo_aload 0 57,
  zo_dup 58,
  zo_getf zzSC (zz_kf [1, 2, 3, 4, 5, 6, 7] 11) 61,
  zo_none,
  zo_none,
  zo_pushI 1 62,
  zo_ii (fun x y => x - y) 63,
  zo_putf zzSC (zz_kf [1, 2, 3, 4, 5, 6, 7] 11) false 66,
  zo_none,
  zo_none,
  zo_aload 0 67,
  zo_getf zzSC (zz_kf [1, 2, 3, 4, 5, 6, 7] 7) 70,
  zo_none,
  zo_none,
  zo_iload 2 71,
  zo_pushI 0 72,
  zo_zast zzSC 73,
  zo_iload 2 74,
  zo_iret false,
  zo_iinc 1 1 78,
  zo_none,
  zo_none,
  zo_goto 2,
  zo_none,
  zo_none,
  zo_pushI (-1) 82,
  zo_iret false]
set_option maxRecDepth 100000 in
theorem tl_X2_takeKey : ∀ pc, zz_Tl (tX2_takeKey.getD pc zo_none) := by
  refine zz_Tl_mem ?_
  unfold tX2_takeKey
  refine List.forall_mem_cons.mpr ⟨(zo_pushI_tl _ _), ?_⟩
  refine List.forall_mem_cons.mpr ⟨(zo_istore_tl _ _), ?_⟩
  refine List.forall_mem_cons.mpr ⟨(zo_iload_tl _ _), ?_⟩
  refine List.forall_mem_cons.mpr ⟨(zo_aload_tl _ _), ?_⟩
  refine List.forall_mem_cons.mpr ⟨(zo_getf_tl _ _ _), ?_⟩
  refine List.forall_mem_cons.mpr ⟨zo_none_tl, ?_⟩
  refine List.forall_mem_cons.mpr ⟨zo_none_tl, ?_⟩
  refine List.forall_mem_cons.mpr ⟨(zo_icmp_tl _ _ _), ?_⟩
  refine List.forall_mem_cons.mpr ⟨zo_none_tl, ?_⟩
  refine List.forall_mem_cons.mpr ⟨zo_none_tl, ?_⟩
  refine List.forall_mem_cons.mpr ⟨(zo_aload_tl _ _), ?_⟩
  refine List.forall_mem_cons.mpr ⟨(zo_getf_tl _ _ _), ?_⟩
  refine List.forall_mem_cons.mpr ⟨zo_none_tl, ?_⟩
  refine List.forall_mem_cons.mpr ⟨zo_none_tl, ?_⟩
  refine List.forall_mem_cons.mpr ⟨(zo_iload_tl _ _), ?_⟩
  refine List.forall_mem_cons.mpr ⟨(zo_iald_tl _ _ _), ?_⟩
  refine List.forall_mem_cons.mpr ⟨(zo_istore_tl _ _), ?_⟩
  refine List.forall_mem_cons.mpr ⟨(zo_aload_tl _ _), ?_⟩
  refine List.forall_mem_cons.mpr ⟨(zo_getf_tl _ _ _), ?_⟩
  refine List.forall_mem_cons.mpr ⟨zo_none_tl, ?_⟩
  refine List.forall_mem_cons.mpr ⟨zo_none_tl, ?_⟩
  refine List.forall_mem_cons.mpr ⟨(zo_iload_tl _ _), ?_⟩
  refine List.forall_mem_cons.mpr ⟨(zo_iald_tl _ _ _), ?_⟩
  refine List.forall_mem_cons.mpr ⟨(zo_aload_tl _ _), ?_⟩
  refine List.forall_mem_cons.mpr ⟨(zo_getf_tl _ _ _), ?_⟩
  refine List.forall_mem_cons.mpr ⟨zo_none_tl, ?_⟩
  refine List.forall_mem_cons.mpr ⟨zo_none_tl, ?_⟩
  refine List.forall_mem_cons.mpr ⟨(zo_getf_tl _ _ _), ?_⟩
  refine List.forall_mem_cons.mpr ⟨zo_none_tl, ?_⟩
  refine List.forall_mem_cons.mpr ⟨zo_none_tl, ?_⟩
  refine List.forall_mem_cons.mpr ⟨(zo_icmp_tl _ _ _), ?_⟩
  refine List.forall_mem_cons.mpr ⟨zo_none_tl, ?_⟩
  refine List.forall_mem_cons.mpr ⟨zo_none_tl, ?_⟩
  refine List.forall_mem_cons.mpr ⟨(zo_aload_tl _ _), ?_⟩
  refine List.forall_mem_cons.mpr ⟨(zo_getf_tl _ _ _), ?_⟩
  refine List.forall_mem_cons.mpr ⟨zo_none_tl, ?_⟩
  refine List.forall_mem_cons.mpr ⟨zo_none_tl, ?_⟩
  refine List.forall_mem_cons.mpr ⟨(zo_iload_tl _ _), ?_⟩
  refine List.forall_mem_cons.mpr ⟨(zo_pushI_tl _ _), ?_⟩
  refine List.forall_mem_cons.mpr ⟨(zo_ii_tl _ _), ?_⟩
  refine List.forall_mem_cons.mpr ⟨(zo_aload_tl _ _), ?_⟩
  refine List.forall_mem_cons.mpr ⟨(zo_getf_tl _ _ _), ?_⟩
  refine List.forall_mem_cons.mpr ⟨zo_none_tl, ?_⟩
  refine List.forall_mem_cons.mpr ⟨zo_none_tl, ?_⟩
  refine List.forall_mem_cons.mpr ⟨(zo_iload_tl _ _), ?_⟩
  refine List.forall_mem_cons.mpr ⟨(zo_aload_tl _ _), ?_⟩
  refine List.forall_mem_cons.mpr ⟨(zo_getf_tl _ _ _), ?_⟩
  refine List.forall_mem_cons.mpr ⟨zo_none_tl, ?_⟩
  refine List.forall_mem_cons.mpr ⟨zo_none_tl, ?_⟩
  refine List.forall_mem_cons.mpr ⟨(zo_iload_tl _ _), ?_⟩
  refine List.forall_mem_cons.mpr ⟨(zo_ii_tl _ _), ?_⟩
  refine List.forall_mem_cons.mpr ⟨(zo_pushI_tl _ _), ?_⟩
  refine List.forall_mem_cons.mpr ⟨(zo_ii_tl _ _), ?_⟩
  refine List.forall_mem_cons.mpr ⟨(zo_copy_tl _ _), ?_⟩
  refine List.forall_mem_cons.mpr ⟨zo_none_tl, ?_⟩
  refine List.forall_mem_cons.mpr ⟨zo_none_tl, ?_⟩
  refine List.forall_mem_cons.mpr ⟨(zo_aload_tl _ _), ?_⟩
  refine List.forall_mem_cons.mpr ⟨(zo_dup_tl _), ?_⟩
  refine List.forall_mem_cons.mpr ⟨(zo_getf_tl _ _ _), ?_⟩
  refine List.forall_mem_cons.mpr ⟨zo_none_tl, ?_⟩
  refine List.forall_mem_cons.mpr ⟨zo_none_tl, ?_⟩
  refine List.forall_mem_cons.mpr ⟨(zo_pushI_tl _ _), ?_⟩
  refine List.forall_mem_cons.mpr ⟨(zo_ii_tl _ _), ?_⟩
  refine List.forall_mem_cons.mpr ⟨(zo_putf_tl _ _ _ _), ?_⟩
  refine List.forall_mem_cons.mpr ⟨zo_none_tl, ?_⟩
  refine List.forall_mem_cons.mpr ⟨zo_none_tl, ?_⟩
  refine List.forall_mem_cons.mpr ⟨(zo_aload_tl _ _), ?_⟩
  refine List.forall_mem_cons.mpr ⟨(zo_getf_tl _ _ _), ?_⟩
  refine List.forall_mem_cons.mpr ⟨zo_none_tl, ?_⟩
  refine List.forall_mem_cons.mpr ⟨zo_none_tl, ?_⟩
  refine List.forall_mem_cons.mpr ⟨(zo_iload_tl _ _), ?_⟩
  refine List.forall_mem_cons.mpr ⟨(zo_pushI_tl _ _), ?_⟩
  refine List.forall_mem_cons.mpr ⟨(zo_zast_tl _ _), ?_⟩
  refine List.forall_mem_cons.mpr ⟨(zo_iload_tl _ _), ?_⟩
  refine List.forall_mem_cons.mpr ⟨(zo_iret_tl _), ?_⟩
  refine List.forall_mem_cons.mpr ⟨(zo_iinc_tl _ _ _), ?_⟩
  refine List.forall_mem_cons.mpr ⟨zo_none_tl, ?_⟩
  refine List.forall_mem_cons.mpr ⟨zo_none_tl, ?_⟩
  refine List.forall_mem_cons.mpr ⟨(zo_goto_tl _), ?_⟩
  refine List.forall_mem_cons.mpr ⟨zo_none_tl, ?_⟩
  refine List.forall_mem_cons.mpr ⟨zo_none_tl, ?_⟩
  refine List.forall_mem_cons.mpr ⟨(zo_pushI_tl _ _), ?_⟩
  refine List.forall_mem_cons.mpr ⟨(zo_iret_tl _), ?_⟩
  exact fun _ h => absurd h List.not_mem_nil
noncomputable def fX2_takeKey : zzFn := zz_fn tX2_takeKey 3
set_option maxRecDepth 100000 in
set_option maxHeartbeats 4000000 in
theorem mm_X2_takeKey {l : Launch} {D : va_G} {cA : Nat → ClassId} {ad : Nat → Nat} {Ex : (Nat → Prop) → State → Heap → Prop} (Wd : zzWC l D cA ad Ex) : zz_Cn l D zzCl cA ad zzSC Ex yX2_takeKey cX2_takeKey 3 (some .int) 1 26 fX2_takeKey ∧ zz_Cx l D zzCl cA ad zzSC Ex yX2_takeKey cX2_takeKey 3 (some .int) 1 26 fX2_takeKey := by
  refine zz_meth (plainFor_of_name (by decide)) Wd.1 Wd.2.1 Wd.2.2.1 (fun p e R s m args below meth c rr X => ?_)
  unfold tX2_takeKey
  refine zz_cons (k' := 1) rfl (zk_iconst X dX2_takeKey_0 (by decide) rfl) ?_
  refine zz_cons (k' := 2) rfl (zk_istore_n X dX2_takeKey_1 rfl (by decide) rfl) ?_
  refine zz_cons (k' := 3) rfl (zk_iload_n X dX2_takeKey_2 rfl rfl) ?_
  refine zz_cons (k' := 4) rfl (zk_aload_n X dX2_takeKey_3 rfl rfl) ?_
  refine zz_cons (k' := 5) rfl (zk_getf X ff_X2_41 dX2_takeKey_4 rfl) ?_
  refine zz_cons (k' := 6) rfl (zz_Ok_none _ _) ?_
  refine zz_cons (k' := 7) rfl (zz_Ok_none _ _) ?_
  refine zz_cons (k' := 8) rfl (zk_icmp_ge X dX2_takeKey_7 (by decide) rfl) ?_
  refine zz_cons (k' := 9) rfl (zz_Ok_none _ _) ?_
  refine zz_cons (k' := 10) rfl (zz_Ok_none _ _) ?_
  refine zz_cons (k' := 11) rfl (zk_aload_n X dX2_takeKey_10 rfl rfl) ?_
  refine zz_cons (k' := 12) rfl (zk_getf X ff_X2_25 dX2_takeKey_11 rfl) ?_
  refine zz_cons (k' := 13) rfl (zz_Ok_none _ _) ?_
  refine zz_cons (k' := 14) rfl (zz_Ok_none _ _) ?_
  refine zz_cons (k' := 15) rfl (zk_iload_n X dX2_takeKey_14 rfl rfl) ?_
  refine zz_cons (k' := 16) rfl (zk_iald X (zzWC_st Wd) dX2_takeKey_15 rfl) ?_
  refine zz_cons (k' := 17) rfl (zk_istore_n X dX2_takeKey_16 rfl (by decide) rfl) ?_
  refine zz_cons (k' := 18) rfl (zk_aload_n X dX2_takeKey_17 rfl rfl) ?_
  refine zz_cons (k' := 19) rfl (zk_getf X ff_X2_35 dX2_takeKey_18 rfl) ?_
  refine zz_cons (k' := 20) rfl (zz_Ok_none _ _) ?_
  refine zz_cons (k' := 21) rfl (zz_Ok_none _ _) ?_
  refine zz_cons (k' := 22) rfl (zk_iload_n X dX2_takeKey_21 rfl rfl) ?_
  refine zz_cons (k' := 23) rfl (zk_iald X (zzWC_st Wd) dX2_takeKey_22 rfl) ?_
  refine zz_cons (k' := 24) rfl (zk_aload_n X dX2_takeKey_23 rfl rfl) ?_
  refine zz_cons (k' := 25) rfl (zk_getf X ff_X2_15 dX2_takeKey_24 rfl) ?_
  refine zz_cons (k' := 26) rfl (zz_Ok_none _ _) ?_
  refine zz_cons (k' := 27) rfl (zz_Ok_none _ _) ?_
  refine zz_cons (k' := 28) rfl (zk_getf X ff_X2_94 dX2_takeKey_27 rfl) ?_
  refine zz_cons (k' := 29) rfl (zz_Ok_none _ _) ?_
  refine zz_cons (k' := 30) rfl (zz_Ok_none _ _) ?_
  refine zz_cons (k' := 31) rfl (zk_icmp_gt X dX2_takeKey_30 (by decide) rfl) ?_
  refine zz_cons (k' := 32) rfl (zz_Ok_none _ _) ?_
  refine zz_cons (k' := 33) rfl (zz_Ok_none _ _) ?_
  refine zz_cons (k' := 34) rfl (zk_aload_n X dX2_takeKey_33 rfl rfl) ?_
  refine zz_cons (k' := 35) rfl (zk_getf X ff_X2_25 dX2_takeKey_34 rfl) ?_
  refine zz_cons (k' := 36) rfl (zz_Ok_none _ _) ?_
  refine zz_cons (k' := 37) rfl (zz_Ok_none _ _) ?_
  refine zz_cons (k' := 38) rfl (zk_iload_n X dX2_takeKey_37 rfl rfl) ?_
  refine zz_cons (k' := 39) rfl (zk_iconst X dX2_takeKey_38 (by decide) rfl) ?_
  refine zz_cons (k' := 40) rfl (zk_iadd X dX2_takeKey_39 rfl) ?_
  refine zz_cons (k' := 41) rfl (zk_aload_n X dX2_takeKey_40 rfl rfl) ?_
  refine zz_cons (k' := 42) rfl (zk_getf X ff_X2_25 dX2_takeKey_41 rfl) ?_
  refine zz_cons (k' := 43) rfl (zz_Ok_none _ _) ?_
  refine zz_cons (k' := 44) rfl (zz_Ok_none _ _) ?_
  refine zz_cons (k' := 45) rfl (zk_iload_n X dX2_takeKey_44 rfl rfl) ?_
  refine zz_cons (k' := 46) rfl (zk_aload_n X dX2_takeKey_45 rfl rfl) ?_
  refine zz_cons (k' := 47) rfl (zk_getf X ff_X2_41 dX2_takeKey_46 rfl) ?_
  refine zz_cons (k' := 48) rfl (zz_Ok_none _ _) ?_
  refine zz_cons (k' := 49) rfl (zz_Ok_none _ _) ?_
  refine zz_cons (k' := 50) rfl (zk_iload_n X dX2_takeKey_49 rfl rfl) ?_
  refine zz_cons (k' := 51) rfl (zk_isub X dX2_takeKey_50 rfl) ?_
  refine zz_cons (k' := 52) rfl (zk_iconst X dX2_takeKey_51 (by decide) rfl) ?_
  refine zz_cons (k' := 53) rfl (zk_isub X dX2_takeKey_52 rfl) ?_
  refine zz_cons (k' := 54) rfl (zk_copy X (zz_in (by decide +kernel)) (zz_in (by decide +kernel)) (zz_in (by decide +kernel)) (zz_in (by decide +kernel)) (by decide +kernel) dX2_takeKey_53 rfl) ?_
  refine zz_cons (k' := 55) rfl (zz_Ok_none _ _) ?_
  refine zz_cons (k' := 56) rfl (zz_Ok_none _ _) ?_
  refine zz_cons (k' := 57) rfl (zk_aload_n X dX2_takeKey_56 rfl rfl) ?_
  refine zz_cons (k' := 58) rfl (zk_dup X dX2_takeKey_57 rfl) ?_
  refine zz_cons (k' := 59) rfl (zk_getf X ff_X2_41 dX2_takeKey_58 rfl) ?_
  refine zz_cons (k' := 60) rfl (zz_Ok_none _ _) ?_
  refine zz_cons (k' := 61) rfl (zz_Ok_none _ _) ?_
  refine zz_cons (k' := 62) rfl (zk_iconst X dX2_takeKey_61 (by decide) rfl) ?_
  refine zz_cons (k' := 63) rfl (zk_isub X dX2_takeKey_62 rfl) ?_
  refine zz_cons (k' := 64) rfl (zk_putf X ff_X2_41 fp_1_2_3_4_5_6_7_11 dX2_takeKey_63 rfl) ?_
  refine zz_cons (k' := 65) rfl (zz_Ok_none _ _) ?_
  refine zz_cons (k' := 66) rfl (zz_Ok_none _ _) ?_
  refine zz_cons (k' := 67) rfl (zk_aload_n X dX2_takeKey_66 rfl rfl) ?_
  refine zz_cons (k' := 68) rfl (zk_getf X ff_X2_28 dX2_takeKey_67 rfl) ?_
  refine zz_cons (k' := 69) rfl (zz_Ok_none _ _) ?_
  refine zz_cons (k' := 70) rfl (zz_Ok_none _ _) ?_
  refine zz_cons (k' := 71) rfl (zk_iload_n X dX2_takeKey_70 rfl rfl) ?_
  refine zz_cons (k' := 72) rfl (zk_iconst X dX2_takeKey_71 (by decide) rfl) ?_
  refine zz_cons (k' := 73) rfl (zk_zast X dX2_takeKey_72 rfl) ?_
  refine zz_cons (k' := 74) rfl (zk_iload_n X dX2_takeKey_73 rfl rfl) ?_
  refine zz_cons (k' := 75) rfl (zk_iret X rfl dX2_takeKey_74) ?_
  refine zz_cons (k' := 76) rfl (zk_iinc X dX2_takeKey_75 (by decide) (by decide) rfl) ?_
  refine zz_cons (k' := 77) rfl (zz_Ok_none _ _) ?_
  refine zz_cons (k' := 78) rfl (zz_Ok_none _ _) ?_
  refine zz_cons (k' := 79) rfl (zk_goto X dX2_takeKey_78 (by decide)) ?_
  refine zz_cons (k' := 80) rfl (zz_Ok_none _ _) ?_
  refine zz_cons (k' := 81) rfl (zz_Ok_none _ _) ?_
  refine zz_cons (k' := 82) rfl (zk_iconst X dX2_takeKey_81 (by decide) rfl) ?_
  refine zz_cons (k' := 83) rfl (zk_iret X rfl dX2_takeKey_82) ?_
  exact trivial
noncomputable def tX2_makeFor : List zzOp := [
  zo_aload 0 1,
  zo_getf zzSC (zz_kf [1, 2, 3, 4, 5, 6, 7] 4) 4,
  zo_none,
  zo_none,
  zo_pushI 4 5,
  zo_iload 2 6,
  zo_iload 1 7,
  zo_aload 0 8,
  zo_iload 1 9,
  zo_pushI 1 10,
  zo_callv zzSC (zz_cl [(1, fX10_read), (2, fX10_read), (3, fX10_read), (4, fX10_read), (5, fX10_read), (6, fX10_read), (7, fX10_read)]) 2 13,
  zo_none,
  zo_none,
  zo_callv zzSC (zz_cl [(8, fX9_open)]) 4 16,
  zo_none,
  zo_none,
  zo_pushI (-1) 17,
  zo_icmp (fun x y => decide (x = y)) 24 20,
  zo_none,
  zo_none,
  zo_pushI 1 21,
  zo_goto 25,
  zo_none,
  zo_none,
  zo_pushI 0 25,
  zo_iret true]
set_option maxRecDepth 100000 in
theorem tl_X2_makeFor : ∀ pc, zz_Tl (tX2_makeFor.getD pc zo_none) := by
  refine zz_Tl_mem ?_
  unfold tX2_makeFor
  refine List.forall_mem_cons.mpr ⟨(zo_aload_tl _ _), ?_⟩
  refine List.forall_mem_cons.mpr ⟨(zo_getf_tl _ _ _), ?_⟩
  refine List.forall_mem_cons.mpr ⟨zo_none_tl, ?_⟩
  refine List.forall_mem_cons.mpr ⟨zo_none_tl, ?_⟩
  refine List.forall_mem_cons.mpr ⟨(zo_pushI_tl _ _), ?_⟩
  refine List.forall_mem_cons.mpr ⟨(zo_iload_tl _ _), ?_⟩
  refine List.forall_mem_cons.mpr ⟨(zo_iload_tl _ _), ?_⟩
  refine List.forall_mem_cons.mpr ⟨(zo_aload_tl _ _), ?_⟩
  refine List.forall_mem_cons.mpr ⟨(zo_iload_tl _ _), ?_⟩
  refine List.forall_mem_cons.mpr ⟨(zo_pushI_tl _ _), ?_⟩
  refine List.forall_mem_cons.mpr ⟨(zo_callv_tl _ _ _ _), ?_⟩
  refine List.forall_mem_cons.mpr ⟨zo_none_tl, ?_⟩
  refine List.forall_mem_cons.mpr ⟨zo_none_tl, ?_⟩
  refine List.forall_mem_cons.mpr ⟨(zo_callv_tl _ _ _ _), ?_⟩
  refine List.forall_mem_cons.mpr ⟨zo_none_tl, ?_⟩
  refine List.forall_mem_cons.mpr ⟨zo_none_tl, ?_⟩
  refine List.forall_mem_cons.mpr ⟨(zo_pushI_tl _ _), ?_⟩
  refine List.forall_mem_cons.mpr ⟨(zo_icmp_tl _ _ _), ?_⟩
  refine List.forall_mem_cons.mpr ⟨zo_none_tl, ?_⟩
  refine List.forall_mem_cons.mpr ⟨zo_none_tl, ?_⟩
  refine List.forall_mem_cons.mpr ⟨(zo_pushI_tl _ _), ?_⟩
  refine List.forall_mem_cons.mpr ⟨(zo_goto_tl _), ?_⟩
  refine List.forall_mem_cons.mpr ⟨zo_none_tl, ?_⟩
  refine List.forall_mem_cons.mpr ⟨zo_none_tl, ?_⟩
  refine List.forall_mem_cons.mpr ⟨(zo_pushI_tl _ _), ?_⟩
  refine List.forall_mem_cons.mpr ⟨(zo_iret_tl _), ?_⟩
  exact fun _ h => absurd h List.not_mem_nil
noncomputable def fX2_makeFor : zzFn := zz_fn tX2_makeFor 3
set_option maxRecDepth 100000 in
set_option maxHeartbeats 4000000 in
theorem mm_X2_makeFor {l : Launch} {D : va_G} {cA : Nat → ClassId} {ad : Nat → Nat} {Ex : (Nat → Prop) → State → Heap → Prop} (Wd : zzWC l D cA ad Ex) : zz_Cn l D zzCl cA ad zzSC Ex yX2_makeFor cX2_makeFor 3 (some .boolean) 3 75 fX2_makeFor ∧ zz_Cx l D zzCl cA ad zzSC Ex yX2_makeFor cX2_makeFor 3 (some .boolean) 3 75 fX2_makeFor := by
  refine zz_meth (plainFor_of_name (by decide)) Wd.1 Wd.2.1 Wd.2.2.1 (fun p e R s m args below meth c rr X => ?_)
  unfold tX2_makeFor
  refine zz_cons (k' := 1) rfl (zk_aload_n X dX2_makeFor_0 rfl rfl) ?_
  refine zz_cons (k' := 2) rfl (zk_getf X ff_X2_15 dX2_makeFor_1 rfl) ?_
  refine zz_cons (k' := 3) rfl (zz_Ok_none _ _) ?_
  refine zz_cons (k' := 4) rfl (zz_Ok_none _ _) ?_
  refine zz_cons (k' := 5) rfl (zk_iconst X dX2_makeFor_4 (by decide) rfl) ?_
  refine zz_cons (k' := 6) rfl (zk_iload_n X dX2_makeFor_5 rfl rfl) ?_
  refine zz_cons (k' := 7) rfl (zk_iload_n X dX2_makeFor_6 rfl rfl) ?_
  refine zz_cons (k' := 8) rfl (zk_aload_n X dX2_makeFor_7 rfl rfl) ?_
  refine zz_cons (k' := 9) rfl (zk_iload_n X dX2_makeFor_8 rfl rfl) ?_
  refine zz_cons (k' := 10) rfl (zk_iconst X dX2_makeFor_9 (by decide) rfl) ?_
  refine zz_cons (k' := 11) rfl (zk_callv X (zz_Cv_of (List.forall_mem_cons.mpr ⟨⟨(RX_1, zzT1, 12), yX10_read, cX10_read, 3, (some .int), 0, 0, rfl, kv_X2_83_1, (mm_X10_read Wd).1, by decide, by decide⟩, (List.forall_mem_cons.mpr ⟨⟨(RX_2, zzT2, 12), yX10_read, cX10_read, 3, (some .int), 0, 0, rfl, kv_X2_83_2, (mm_X10_read Wd).1, by decide, by decide⟩, (List.forall_mem_cons.mpr ⟨⟨(RX_3, zzT3, 12), yX10_read, cX10_read, 3, (some .int), 0, 0, rfl, kv_X2_83_3, (mm_X10_read Wd).1, by decide, by decide⟩, (List.forall_mem_cons.mpr ⟨⟨(RX_4, zzT4, 12), yX10_read, cX10_read, 3, (some .int), 0, 0, rfl, kv_X2_83_4, (mm_X10_read Wd).1, by decide, by decide⟩, (List.forall_mem_cons.mpr ⟨⟨(RX_5, zzT5, 12), yX10_read, cX10_read, 3, (some .int), 0, 0, rfl, kv_X2_83_5, (mm_X10_read Wd).1, by decide, by decide⟩, (List.forall_mem_cons.mpr ⟨⟨(RX_6, zzT6, 13), yX10_read, cX10_read, 3, (some .int), 0, 0, rfl, kv_X2_83_6, (mm_X10_read Wd).1, by decide, by decide⟩, (List.forall_mem_cons.mpr ⟨⟨(RX_7, zzT7, 15), yX10_read, cX10_read, 3, (some .int), 0, 0, rfl, kv_X2_83_7, (mm_X10_read Wd).1, by decide, by decide⟩, (fun _ h => absurd h List.not_mem_nil)⟩)⟩)⟩)⟩)⟩)⟩)⟩)) dX2_makeFor_10 rfl) ?_
  refine zz_cons (k' := 12) rfl (zz_Ok_none _ _) ?_
  refine zz_cons (k' := 13) rfl (zz_Ok_none _ _) ?_
  refine zz_cons (k' := 14) rfl (zk_callv X (zz_Cv_of (List.forall_mem_cons.mpr ⟨⟨(RX_8, zzT8, 9), yX9_open, cX9_open, 6, (some .int), 2, 50, rfl, kv_X2_132_8.1, (mm_X9_open Wd).1, by decide, by decide⟩, (fun _ h => absurd h List.not_mem_nil)⟩)) dX2_makeFor_13 rfl) ?_
  refine zz_cons (k' := 15) rfl (zz_Ok_none _ _) ?_
  refine zz_cons (k' := 16) rfl (zz_Ok_none _ _) ?_
  refine zz_cons (k' := 17) rfl (zk_iconst X dX2_makeFor_16 (by decide) rfl) ?_
  refine zz_cons (k' := 18) rfl (zk_icmp_eq X dX2_makeFor_17 (by decide) rfl) ?_
  refine zz_cons (k' := 19) rfl (zz_Ok_none _ _) ?_
  refine zz_cons (k' := 20) rfl (zz_Ok_none _ _) ?_
  refine zz_cons (k' := 21) rfl (zk_iconst X dX2_makeFor_20 (by decide) rfl) ?_
  refine zz_cons (k' := 22) rfl (zk_goto X dX2_makeFor_21 (by decide)) ?_
  refine zz_cons (k' := 23) rfl (zz_Ok_none _ _) ?_
  refine zz_cons (k' := 24) rfl (zz_Ok_none _ _) ?_
  refine zz_cons (k' := 25) rfl (zk_iconst X dX2_makeFor_24 (by decide) rfl) ?_
  refine zz_cons (k' := 26) rfl (zk_iret X rfl dX2_makeFor_25) ?_
  exact trivial
noncomputable def tX2_want : List zzOp := [
  zo_aload 0 1,
  zo_iload 1 2,
  zo_pushI 0 3,
  zo_callv zzSC (zz_cl [(1, fX10_read), (2, fX10_read), (3, fX10_read), (4, fX10_read), (5, fX10_read), (6, fX10_read), (7, fX10_read)]) 2 6,
  zo_none,
  zo_none,
  zo_iload 2 7,
  zo_icmp (fun x y => decide (¬ x = y)) 12 10,
  zo_none,
  zo_none,
  zo_pushI 1 11,
  zo_iret true,
  zo_aload 0 13,
  zo_iload 1 14,
  zo_callv zzSC (zz_cl [(1, fX2_isUpToDate), (2, fX2_isUpToDate), (3, fX2_isUpToDate), (4, fX2_isUpToDate), (5, fX2_isUpToDate), (6, fX2_isUpToDate), (7, fX2_isUpToDate)]) 1 17,
  zo_none,
  zo_none,
  zo_if (fun x => decide (x = 0)) 38 20,
  zo_none,
  zo_none,
  zo_aload 0 21,
  zo_getf zzSC (zz_kf [1, 2, 3, 4, 5, 6, 7] 4) 24,
  zo_none,
  zo_none,
  zo_pushI 4 25,
  zo_iload 1 26,
  zo_pushI 0 27,
  zo_iload 2 28,
  zo_callv zzSC (zz_cl [(8, fX9_applyField)]) 4 31,
  zo_none,
  zo_none,
  zo_if (fun x => decide (x = 0)) 38 34,
  zo_none,
  zo_none,
  zo_pushI 1 35,
  zo_goto 39,
  zo_none,
  zo_none,
  zo_pushI 0 39,
  zo_iret true]
set_option maxRecDepth 100000 in
theorem tl_X2_want : ∀ pc, zz_Tl (tX2_want.getD pc zo_none) := by
  refine zz_Tl_mem ?_
  unfold tX2_want
  refine List.forall_mem_cons.mpr ⟨(zo_aload_tl _ _), ?_⟩
  refine List.forall_mem_cons.mpr ⟨(zo_iload_tl _ _), ?_⟩
  refine List.forall_mem_cons.mpr ⟨(zo_pushI_tl _ _), ?_⟩
  refine List.forall_mem_cons.mpr ⟨(zo_callv_tl _ _ _ _), ?_⟩
  refine List.forall_mem_cons.mpr ⟨zo_none_tl, ?_⟩
  refine List.forall_mem_cons.mpr ⟨zo_none_tl, ?_⟩
  refine List.forall_mem_cons.mpr ⟨(zo_iload_tl _ _), ?_⟩
  refine List.forall_mem_cons.mpr ⟨(zo_icmp_tl _ _ _), ?_⟩
  refine List.forall_mem_cons.mpr ⟨zo_none_tl, ?_⟩
  refine List.forall_mem_cons.mpr ⟨zo_none_tl, ?_⟩
  refine List.forall_mem_cons.mpr ⟨(zo_pushI_tl _ _), ?_⟩
  refine List.forall_mem_cons.mpr ⟨(zo_iret_tl _), ?_⟩
  refine List.forall_mem_cons.mpr ⟨(zo_aload_tl _ _), ?_⟩
  refine List.forall_mem_cons.mpr ⟨(zo_iload_tl _ _), ?_⟩
  refine List.forall_mem_cons.mpr ⟨(zo_callv_tl _ _ _ _), ?_⟩
  refine List.forall_mem_cons.mpr ⟨zo_none_tl, ?_⟩
  refine List.forall_mem_cons.mpr ⟨zo_none_tl, ?_⟩
  refine List.forall_mem_cons.mpr ⟨(zo_if_tl _ _ _), ?_⟩
  refine List.forall_mem_cons.mpr ⟨zo_none_tl, ?_⟩
  refine List.forall_mem_cons.mpr ⟨zo_none_tl, ?_⟩
  refine List.forall_mem_cons.mpr ⟨(zo_aload_tl _ _), ?_⟩
  refine List.forall_mem_cons.mpr ⟨(zo_getf_tl _ _ _), ?_⟩
  refine List.forall_mem_cons.mpr ⟨zo_none_tl, ?_⟩
  refine List.forall_mem_cons.mpr ⟨zo_none_tl, ?_⟩
  refine List.forall_mem_cons.mpr ⟨(zo_pushI_tl _ _), ?_⟩
  refine List.forall_mem_cons.mpr ⟨(zo_iload_tl _ _), ?_⟩
  refine List.forall_mem_cons.mpr ⟨(zo_pushI_tl _ _), ?_⟩
  refine List.forall_mem_cons.mpr ⟨(zo_iload_tl _ _), ?_⟩
  refine List.forall_mem_cons.mpr ⟨(zo_callv_tl _ _ _ _), ?_⟩
  refine List.forall_mem_cons.mpr ⟨zo_none_tl, ?_⟩
  refine List.forall_mem_cons.mpr ⟨zo_none_tl, ?_⟩
  refine List.forall_mem_cons.mpr ⟨(zo_if_tl _ _ _), ?_⟩
  refine List.forall_mem_cons.mpr ⟨zo_none_tl, ?_⟩
  refine List.forall_mem_cons.mpr ⟨zo_none_tl, ?_⟩
  refine List.forall_mem_cons.mpr ⟨(zo_pushI_tl _ _), ?_⟩
  refine List.forall_mem_cons.mpr ⟨(zo_goto_tl _), ?_⟩
  refine List.forall_mem_cons.mpr ⟨zo_none_tl, ?_⟩
  refine List.forall_mem_cons.mpr ⟨zo_none_tl, ?_⟩
  refine List.forall_mem_cons.mpr ⟨(zo_pushI_tl _ _), ?_⟩
  refine List.forall_mem_cons.mpr ⟨(zo_iret_tl _), ?_⟩
  exact fun _ h => absurd h List.not_mem_nil
noncomputable def fX2_want : zzFn := zz_fn tX2_want 3
set_option maxRecDepth 100000 in
set_option maxHeartbeats 4000000 in
theorem mm_X2_want {l : Launch} {D : va_G} {cA : Nat → ClassId} {ad : Nat → Nat} {Ex : (Nat → Prop) → State → Heap → Prop} (Wd : zzWC l D cA ad Ex) : zz_Cn l D zzCl cA ad zzSC Ex yX2_want cX2_want 3 (some .boolean) 3 74 fX2_want ∧ zz_Cx l D zzCl cA ad zzSC Ex yX2_want cX2_want 3 (some .boolean) 3 74 fX2_want := by
  refine zz_meth (plainFor_of_name (by decide)) Wd.1 Wd.2.1 Wd.2.2.1 (fun p e R s m args below meth c rr X => ?_)
  unfold tX2_want
  refine zz_cons (k' := 1) rfl (zk_aload_n X dX2_want_0 rfl rfl) ?_
  refine zz_cons (k' := 2) rfl (zk_iload_n X dX2_want_1 rfl rfl) ?_
  refine zz_cons (k' := 3) rfl (zk_iconst X dX2_want_2 (by decide) rfl) ?_
  refine zz_cons (k' := 4) rfl (zk_callv X (zz_Cv_of (List.forall_mem_cons.mpr ⟨⟨(RX_1, zzT1, 12), yX10_read, cX10_read, 3, (some .int), 0, 0, rfl, kv_X2_83_1, (mm_X10_read Wd).1, by decide, by decide⟩, (List.forall_mem_cons.mpr ⟨⟨(RX_2, zzT2, 12), yX10_read, cX10_read, 3, (some .int), 0, 0, rfl, kv_X2_83_2, (mm_X10_read Wd).1, by decide, by decide⟩, (List.forall_mem_cons.mpr ⟨⟨(RX_3, zzT3, 12), yX10_read, cX10_read, 3, (some .int), 0, 0, rfl, kv_X2_83_3, (mm_X10_read Wd).1, by decide, by decide⟩, (List.forall_mem_cons.mpr ⟨⟨(RX_4, zzT4, 12), yX10_read, cX10_read, 3, (some .int), 0, 0, rfl, kv_X2_83_4, (mm_X10_read Wd).1, by decide, by decide⟩, (List.forall_mem_cons.mpr ⟨⟨(RX_5, zzT5, 12), yX10_read, cX10_read, 3, (some .int), 0, 0, rfl, kv_X2_83_5, (mm_X10_read Wd).1, by decide, by decide⟩, (List.forall_mem_cons.mpr ⟨⟨(RX_6, zzT6, 13), yX10_read, cX10_read, 3, (some .int), 0, 0, rfl, kv_X2_83_6, (mm_X10_read Wd).1, by decide, by decide⟩, (List.forall_mem_cons.mpr ⟨⟨(RX_7, zzT7, 15), yX10_read, cX10_read, 3, (some .int), 0, 0, rfl, kv_X2_83_7, (mm_X10_read Wd).1, by decide, by decide⟩, (fun _ h => absurd h List.not_mem_nil)⟩)⟩)⟩)⟩)⟩)⟩)⟩)) dX2_want_3 rfl) ?_
  refine zz_cons (k' := 5) rfl (zz_Ok_none _ _) ?_
  refine zz_cons (k' := 6) rfl (zz_Ok_none _ _) ?_
  refine zz_cons (k' := 7) rfl (zk_iload_n X dX2_want_6 rfl rfl) ?_
  refine zz_cons (k' := 8) rfl (zk_icmp_ne X dX2_want_7 (by decide) rfl) ?_
  refine zz_cons (k' := 9) rfl (zz_Ok_none _ _) ?_
  refine zz_cons (k' := 10) rfl (zz_Ok_none _ _) ?_
  refine zz_cons (k' := 11) rfl (zk_iconst X dX2_want_10 (by decide) rfl) ?_
  refine zz_cons (k' := 12) rfl (zk_iret X rfl dX2_want_11) ?_
  refine zz_cons (k' := 13) rfl (zk_aload_n X dX2_want_12 rfl rfl) ?_
  refine zz_cons (k' := 14) rfl (zk_iload_n X dX2_want_13 rfl rfl) ?_
  refine zz_cons (k' := 15) rfl (zk_callv X (zz_Cv_of (List.forall_mem_cons.mpr ⟨⟨(RX_1, zzT1, 12), yX2_isUpToDate, cX2_isUpToDate, 2, (some .boolean), 1, 21, rfl, kv_X2_117_1, (mm_X2_isUpToDate Wd).1, by decide, by decide⟩, (List.forall_mem_cons.mpr ⟨⟨(RX_2, zzT2, 12), yX2_isUpToDate, cX2_isUpToDate, 2, (some .boolean), 1, 21, rfl, kv_X2_117_2, (mm_X2_isUpToDate Wd).1, by decide, by decide⟩, (List.forall_mem_cons.mpr ⟨⟨(RX_3, zzT3, 12), yX2_isUpToDate, cX2_isUpToDate, 2, (some .boolean), 1, 21, rfl, kv_X2_117_3, (mm_X2_isUpToDate Wd).1, by decide, by decide⟩, (List.forall_mem_cons.mpr ⟨⟨(RX_4, zzT4, 12), yX2_isUpToDate, cX2_isUpToDate, 2, (some .boolean), 1, 21, rfl, kv_X2_117_4, (mm_X2_isUpToDate Wd).1, by decide, by decide⟩, (List.forall_mem_cons.mpr ⟨⟨(RX_5, zzT5, 12), yX2_isUpToDate, cX2_isUpToDate, 2, (some .boolean), 1, 21, rfl, kv_X2_117_5, (mm_X2_isUpToDate Wd).1, by decide, by decide⟩, (List.forall_mem_cons.mpr ⟨⟨(RX_6, zzT6, 13), yX2_isUpToDate, cX2_isUpToDate, 2, (some .boolean), 1, 21, rfl, kv_X2_117_6, (mm_X2_isUpToDate Wd).1, by decide, by decide⟩, (List.forall_mem_cons.mpr ⟨⟨(RX_7, zzT7, 15), yX2_isUpToDate, cX2_isUpToDate, 2, (some .boolean), 1, 21, rfl, kv_X2_117_7, (mm_X2_isUpToDate Wd).1, by decide, by decide⟩, (fun _ h => absurd h List.not_mem_nil)⟩)⟩)⟩)⟩)⟩)⟩)⟩)) dX2_want_14 rfl) ?_
  refine zz_cons (k' := 16) rfl (zz_Ok_none _ _) ?_
  refine zz_cons (k' := 17) rfl (zz_Ok_none _ _) ?_
  refine zz_cons (k' := 18) rfl (zk_if_eq X dX2_want_17 (by decide) rfl) ?_
  refine zz_cons (k' := 19) rfl (zz_Ok_none _ _) ?_
  refine zz_cons (k' := 20) rfl (zz_Ok_none _ _) ?_
  refine zz_cons (k' := 21) rfl (zk_aload_n X dX2_want_20 rfl rfl) ?_
  refine zz_cons (k' := 22) rfl (zk_getf X ff_X2_15 dX2_want_21 rfl) ?_
  refine zz_cons (k' := 23) rfl (zz_Ok_none _ _) ?_
  refine zz_cons (k' := 24) rfl (zz_Ok_none _ _) ?_
  refine zz_cons (k' := 25) rfl (zk_iconst X dX2_want_24 (by decide) rfl) ?_
  refine zz_cons (k' := 26) rfl (zk_iload_n X dX2_want_25 rfl rfl) ?_
  refine zz_cons (k' := 27) rfl (zk_iconst X dX2_want_26 (by decide) rfl) ?_
  refine zz_cons (k' := 28) rfl (zk_iload_n X dX2_want_27 rfl rfl) ?_
  refine zz_cons (k' := 29) rfl (zk_callv X (zz_Cv_of (List.forall_mem_cons.mpr ⟨⟨(RX_8, zzT8, 9), yX9_applyField, cX9_applyField, 5, (some .boolean), 2, 50, rfl, kv_X2_120_8.1, (mm_X9_applyField Wd).1, by decide, by decide⟩, (fun _ h => absurd h List.not_mem_nil)⟩)) dX2_want_28 rfl) ?_
  refine zz_cons (k' := 30) rfl (zz_Ok_none _ _) ?_
  refine zz_cons (k' := 31) rfl (zz_Ok_none _ _) ?_
  refine zz_cons (k' := 32) rfl (zk_if_eq X dX2_want_31 (by decide) rfl) ?_
  refine zz_cons (k' := 33) rfl (zz_Ok_none _ _) ?_
  refine zz_cons (k' := 34) rfl (zz_Ok_none _ _) ?_
  refine zz_cons (k' := 35) rfl (zk_iconst X dX2_want_34 (by decide) rfl) ?_
  refine zz_cons (k' := 36) rfl (zk_goto X dX2_want_35 (by decide)) ?_
  refine zz_cons (k' := 37) rfl (zz_Ok_none _ _) ?_
  refine zz_cons (k' := 38) rfl (zz_Ok_none _ _) ?_
  refine zz_cons (k' := 39) rfl (zk_iconst X dX2_want_38 (by decide) rfl) ?_
  refine zz_cons (k' := 40) rfl (zk_iret X rfl dX2_want_39) ?_
  exact trivial
noncomputable def tX3_wantedTogether : List zzOp := [
  zo_pushI 0 1,
  zo_istore 2 2,
  zo_pushI 0 3,
  zo_istore 3 4,
  zo_iload 3 5,
  zo_aload 0 6,
  zo_getf zzSC (zz_kf [2] 2) 9,
  zo_none,
  zo_none,
  zo_icmp (fun x y => decide (y ≤ x)) 41 12,
  zo_none,
  zo_none,
  zo_iload 2 13,
  zo_aload 0 14,
  zo_iload 3 15,
  zo_pushI 1 16,
  zo_iload 1 17,
  zo_callv zzSC (zz_cl [(2, fX10_isOwned)]) 3 20,
  zo_none,
  zo_none,
  zo_if (fun x => decide (x = 0)) 32 23,
  zo_none,
  zo_none,
  zo_aload 0 24,
  zo_iload 3 25,
  zo_pushI 0 26,
  zo_callv zzSC (zz_cl [(2, fX10_read)]) 2 29,
  zo_none,
  zo_none,
  zo_goto 33,
  zo_none,
  zo_none,
  zo_pushI 0 33,
  zo_ii (fun x y => x + y) 34,
  zo_istore 2 35,
  zo_iinc 3 1 38,
  zo_none,
  zo_none,
  zo_goto 4,
  zo_none,
  zo_none,
  zo_iload 2 42,
  zo_iret false]
set_option maxRecDepth 100000 in
theorem tl_X3_wantedTogether : ∀ pc, zz_Tl (tX3_wantedTogether.getD pc zo_none) := by
  refine zz_Tl_mem ?_
  unfold tX3_wantedTogether
  refine List.forall_mem_cons.mpr ⟨(zo_pushI_tl _ _), ?_⟩
  refine List.forall_mem_cons.mpr ⟨(zo_istore_tl _ _), ?_⟩
  refine List.forall_mem_cons.mpr ⟨(zo_pushI_tl _ _), ?_⟩
  refine List.forall_mem_cons.mpr ⟨(zo_istore_tl _ _), ?_⟩
  refine List.forall_mem_cons.mpr ⟨(zo_iload_tl _ _), ?_⟩
  refine List.forall_mem_cons.mpr ⟨(zo_aload_tl _ _), ?_⟩
  refine List.forall_mem_cons.mpr ⟨(zo_getf_tl _ _ _), ?_⟩
  refine List.forall_mem_cons.mpr ⟨zo_none_tl, ?_⟩
  refine List.forall_mem_cons.mpr ⟨zo_none_tl, ?_⟩
  refine List.forall_mem_cons.mpr ⟨(zo_icmp_tl _ _ _), ?_⟩
  refine List.forall_mem_cons.mpr ⟨zo_none_tl, ?_⟩
  refine List.forall_mem_cons.mpr ⟨zo_none_tl, ?_⟩
  refine List.forall_mem_cons.mpr ⟨(zo_iload_tl _ _), ?_⟩
  refine List.forall_mem_cons.mpr ⟨(zo_aload_tl _ _), ?_⟩
  refine List.forall_mem_cons.mpr ⟨(zo_iload_tl _ _), ?_⟩
  refine List.forall_mem_cons.mpr ⟨(zo_pushI_tl _ _), ?_⟩
  refine List.forall_mem_cons.mpr ⟨(zo_iload_tl _ _), ?_⟩
  refine List.forall_mem_cons.mpr ⟨(zo_callv_tl _ _ _ _), ?_⟩
  refine List.forall_mem_cons.mpr ⟨zo_none_tl, ?_⟩
  refine List.forall_mem_cons.mpr ⟨zo_none_tl, ?_⟩
  refine List.forall_mem_cons.mpr ⟨(zo_if_tl _ _ _), ?_⟩
  refine List.forall_mem_cons.mpr ⟨zo_none_tl, ?_⟩
  refine List.forall_mem_cons.mpr ⟨zo_none_tl, ?_⟩
  refine List.forall_mem_cons.mpr ⟨(zo_aload_tl _ _), ?_⟩
  refine List.forall_mem_cons.mpr ⟨(zo_iload_tl _ _), ?_⟩
  refine List.forall_mem_cons.mpr ⟨(zo_pushI_tl _ _), ?_⟩
  refine List.forall_mem_cons.mpr ⟨(zo_callv_tl _ _ _ _), ?_⟩
  refine List.forall_mem_cons.mpr ⟨zo_none_tl, ?_⟩
  refine List.forall_mem_cons.mpr ⟨zo_none_tl, ?_⟩
  refine List.forall_mem_cons.mpr ⟨(zo_goto_tl _), ?_⟩
  refine List.forall_mem_cons.mpr ⟨zo_none_tl, ?_⟩
  refine List.forall_mem_cons.mpr ⟨zo_none_tl, ?_⟩
  refine List.forall_mem_cons.mpr ⟨(zo_pushI_tl _ _), ?_⟩
  refine List.forall_mem_cons.mpr ⟨(zo_ii_tl _ _), ?_⟩
  refine List.forall_mem_cons.mpr ⟨(zo_istore_tl _ _), ?_⟩
  refine List.forall_mem_cons.mpr ⟨(zo_iinc_tl _ _ _), ?_⟩
  refine List.forall_mem_cons.mpr ⟨zo_none_tl, ?_⟩
  refine List.forall_mem_cons.mpr ⟨zo_none_tl, ?_⟩
  refine List.forall_mem_cons.mpr ⟨(zo_goto_tl _), ?_⟩
  refine List.forall_mem_cons.mpr ⟨zo_none_tl, ?_⟩
  refine List.forall_mem_cons.mpr ⟨zo_none_tl, ?_⟩
  refine List.forall_mem_cons.mpr ⟨(zo_iload_tl _ _), ?_⟩
  refine List.forall_mem_cons.mpr ⟨(zo_iret_tl _), ?_⟩
  exact fun _ h => absurd h List.not_mem_nil
noncomputable def fX3_wantedTogether : zzFn := zz_fn tX3_wantedTogether 4
set_option maxRecDepth 100000 in
set_option maxHeartbeats 4000000 in
theorem mm_X3_wantedTogether {l : Launch} {D : va_G} {cA : Nat → ClassId} {ad : Nat → Nat} {Ex : (Nat → Prop) → State → Heap → Prop} (Wd : zzWC l D cA ad Ex) : zz_Cn l D zzCl cA ad zzSC Ex yX3_wantedTogether cX3_wantedTogether 4 (some .int) 2 45 fX3_wantedTogether ∧ zz_Cx l D zzCl cA ad zzSC Ex yX3_wantedTogether cX3_wantedTogether 4 (some .int) 2 45 fX3_wantedTogether := by
  refine zz_meth (plainFor_of_name (by decide)) Wd.1 Wd.2.1 Wd.2.2.1 (fun p e R s m args below meth c rr X => ?_)
  unfold tX3_wantedTogether
  refine zz_cons (k' := 1) rfl (zk_iconst X dX3_wantedTogether_0 (by decide) rfl) ?_
  refine zz_cons (k' := 2) rfl (zk_istore_n X dX3_wantedTogether_1 rfl (by decide) rfl) ?_
  refine zz_cons (k' := 3) rfl (zk_iconst X dX3_wantedTogether_2 (by decide) rfl) ?_
  refine zz_cons (k' := 4) rfl (zk_istore_n X dX3_wantedTogether_3 rfl (by decide) rfl) ?_
  refine zz_cons (k' := 5) rfl (zk_iload_n X dX3_wantedTogether_4 rfl rfl) ?_
  refine zz_cons (k' := 6) rfl (zk_aload_n X dX3_wantedTogether_5 rfl rfl) ?_
  refine zz_cons (k' := 7) rfl (zk_getf X ff_X3_51 dX3_wantedTogether_6 rfl) ?_
  refine zz_cons (k' := 8) rfl (zz_Ok_none _ _) ?_
  refine zz_cons (k' := 9) rfl (zz_Ok_none _ _) ?_
  refine zz_cons (k' := 10) rfl (zk_icmp_ge X dX3_wantedTogether_9 (by decide) rfl) ?_
  refine zz_cons (k' := 11) rfl (zz_Ok_none _ _) ?_
  refine zz_cons (k' := 12) rfl (zz_Ok_none _ _) ?_
  refine zz_cons (k' := 13) rfl (zk_iload_n X dX3_wantedTogether_12 rfl rfl) ?_
  refine zz_cons (k' := 14) rfl (zk_aload_n X dX3_wantedTogether_13 rfl rfl) ?_
  refine zz_cons (k' := 15) rfl (zk_iload_n X dX3_wantedTogether_14 rfl rfl) ?_
  refine zz_cons (k' := 16) rfl (zk_iconst X dX3_wantedTogether_15 (by decide) rfl) ?_
  refine zz_cons (k' := 17) rfl (zk_iload_n X dX3_wantedTogether_16 rfl rfl) ?_
  refine zz_cons (k' := 18) rfl (zk_callv X (zz_Cv_of (List.forall_mem_cons.mpr ⟨⟨(RX_2, zzT2, 12), yX10_isOwned, cX10_isOwned, 4, (some .boolean), 1, 22, rfl, kv_X3_55_2, (mm_X10_isOwned Wd).1, by decide, by decide⟩, (fun _ h => absurd h List.not_mem_nil)⟩)) dX3_wantedTogether_17 rfl) ?_
  refine zz_cons (k' := 19) rfl (zz_Ok_none _ _) ?_
  refine zz_cons (k' := 20) rfl (zz_Ok_none _ _) ?_
  refine zz_cons (k' := 21) rfl (zk_if_eq X dX3_wantedTogether_20 (by decide) rfl) ?_
  refine zz_cons (k' := 22) rfl (zz_Ok_none _ _) ?_
  refine zz_cons (k' := 23) rfl (zz_Ok_none _ _) ?_
  refine zz_cons (k' := 24) rfl (zk_aload_n X dX3_wantedTogether_23 rfl rfl) ?_
  refine zz_cons (k' := 25) rfl (zk_iload_n X dX3_wantedTogether_24 rfl rfl) ?_
  refine zz_cons (k' := 26) rfl (zk_iconst X dX3_wantedTogether_25 (by decide) rfl) ?_
  refine zz_cons (k' := 27) rfl (zk_callv X (zz_Cv_of (List.forall_mem_cons.mpr ⟨⟨(RX_2, zzT2, 12), yX10_read, cX10_read, 3, (some .int), 0, 0, rfl, kv_X3_9_2, (mm_X10_read Wd).1, by decide, by decide⟩, (fun _ h => absurd h List.not_mem_nil)⟩)) dX3_wantedTogether_26 rfl) ?_
  refine zz_cons (k' := 28) rfl (zz_Ok_none _ _) ?_
  refine zz_cons (k' := 29) rfl (zz_Ok_none _ _) ?_
  refine zz_cons (k' := 30) rfl (zk_goto X dX3_wantedTogether_29 (by decide)) ?_
  refine zz_cons (k' := 31) rfl (zz_Ok_none _ _) ?_
  refine zz_cons (k' := 32) rfl (zz_Ok_none _ _) ?_
  refine zz_cons (k' := 33) rfl (zk_iconst X dX3_wantedTogether_32 (by decide) rfl) ?_
  refine zz_cons (k' := 34) rfl (zk_iadd X dX3_wantedTogether_33 rfl) ?_
  refine zz_cons (k' := 35) rfl (zk_istore_n X dX3_wantedTogether_34 rfl (by decide) rfl) ?_
  refine zz_cons (k' := 36) rfl (zk_iinc X dX3_wantedTogether_35 (by decide) (by decide) rfl) ?_
  refine zz_cons (k' := 37) rfl (zz_Ok_none _ _) ?_
  refine zz_cons (k' := 38) rfl (zz_Ok_none _ _) ?_
  refine zz_cons (k' := 39) rfl (zk_goto X dX3_wantedTogether_38 (by decide)) ?_
  refine zz_cons (k' := 40) rfl (zz_Ok_none _ _) ?_
  refine zz_cons (k' := 41) rfl (zz_Ok_none _ _) ?_
  refine zz_cons (k' := 42) rfl (zk_iload_n X dX3_wantedTogether_41 rfl rfl) ?_
  refine zz_cons (k' := 43) rfl (zk_iret X rfl dX3_wantedTogether_42) ?_
  exact trivial
noncomputable def tX3_otherSetOf : List zzOp := [
  zo_pushI 0 1,
  zo_istore 3 2,
  zo_iload 3 3,
  zo_aload 0 4,
  zo_getf zzSC (zz_kf [2] 2) 7,
  zo_none,
  zo_none,
  zo_icmp (fun x y => decide (y ≤ x)) 42 10,
  zo_none,
  zo_none,
  zo_iload 3 11,
  zo_iload 2 12,
  zo_icmp (fun x y => decide (x = y)) 36 15,
  zo_none,
  zo_none,
  zo_aload 0 16,
  zo_iload 3 17,
  zo_pushI 1 18,
  zo_iload 1 19,
  zo_callv zzSC (zz_cl [(2, fX10_isOwned)]) 3 22,
  zo_none,
  zo_none,
  zo_if (fun x => decide (x = 0)) 36 25,
  zo_none,
  zo_none,
  zo_aload 0 26,
  zo_iload 3 27,
  zo_pushI 0 28,
  zo_callv zzSC (zz_cl [(2, fX10_read)]) 2 31,
  zo_none,
  zo_none,
  zo_if (fun x => decide (x ≤ 0)) 36 34,
  zo_none,
  zo_none,
  zo_iload 3 35,
  zo_iret false,
  zo_iinc 3 1 39,
  zo_none,
  zo_none,
  zo_goto 2,
  zo_none,
  zo_none,
  zo_pushI (-1) 43,
  zo_iret false]
set_option maxRecDepth 100000 in
theorem tl_X3_otherSetOf : ∀ pc, zz_Tl (tX3_otherSetOf.getD pc zo_none) := by
  refine zz_Tl_mem ?_
  unfold tX3_otherSetOf
  refine List.forall_mem_cons.mpr ⟨(zo_pushI_tl _ _), ?_⟩
  refine List.forall_mem_cons.mpr ⟨(zo_istore_tl _ _), ?_⟩
  refine List.forall_mem_cons.mpr ⟨(zo_iload_tl _ _), ?_⟩
  refine List.forall_mem_cons.mpr ⟨(zo_aload_tl _ _), ?_⟩
  refine List.forall_mem_cons.mpr ⟨(zo_getf_tl _ _ _), ?_⟩
  refine List.forall_mem_cons.mpr ⟨zo_none_tl, ?_⟩
  refine List.forall_mem_cons.mpr ⟨zo_none_tl, ?_⟩
  refine List.forall_mem_cons.mpr ⟨(zo_icmp_tl _ _ _), ?_⟩
  refine List.forall_mem_cons.mpr ⟨zo_none_tl, ?_⟩
  refine List.forall_mem_cons.mpr ⟨zo_none_tl, ?_⟩
  refine List.forall_mem_cons.mpr ⟨(zo_iload_tl _ _), ?_⟩
  refine List.forall_mem_cons.mpr ⟨(zo_iload_tl _ _), ?_⟩
  refine List.forall_mem_cons.mpr ⟨(zo_icmp_tl _ _ _), ?_⟩
  refine List.forall_mem_cons.mpr ⟨zo_none_tl, ?_⟩
  refine List.forall_mem_cons.mpr ⟨zo_none_tl, ?_⟩
  refine List.forall_mem_cons.mpr ⟨(zo_aload_tl _ _), ?_⟩
  refine List.forall_mem_cons.mpr ⟨(zo_iload_tl _ _), ?_⟩
  refine List.forall_mem_cons.mpr ⟨(zo_pushI_tl _ _), ?_⟩
  refine List.forall_mem_cons.mpr ⟨(zo_iload_tl _ _), ?_⟩
  refine List.forall_mem_cons.mpr ⟨(zo_callv_tl _ _ _ _), ?_⟩
  refine List.forall_mem_cons.mpr ⟨zo_none_tl, ?_⟩
  refine List.forall_mem_cons.mpr ⟨zo_none_tl, ?_⟩
  refine List.forall_mem_cons.mpr ⟨(zo_if_tl _ _ _), ?_⟩
  refine List.forall_mem_cons.mpr ⟨zo_none_tl, ?_⟩
  refine List.forall_mem_cons.mpr ⟨zo_none_tl, ?_⟩
  refine List.forall_mem_cons.mpr ⟨(zo_aload_tl _ _), ?_⟩
  refine List.forall_mem_cons.mpr ⟨(zo_iload_tl _ _), ?_⟩
  refine List.forall_mem_cons.mpr ⟨(zo_pushI_tl _ _), ?_⟩
  refine List.forall_mem_cons.mpr ⟨(zo_callv_tl _ _ _ _), ?_⟩
  refine List.forall_mem_cons.mpr ⟨zo_none_tl, ?_⟩
  refine List.forall_mem_cons.mpr ⟨zo_none_tl, ?_⟩
  refine List.forall_mem_cons.mpr ⟨(zo_if_tl _ _ _), ?_⟩
  refine List.forall_mem_cons.mpr ⟨zo_none_tl, ?_⟩
  refine List.forall_mem_cons.mpr ⟨zo_none_tl, ?_⟩
  refine List.forall_mem_cons.mpr ⟨(zo_iload_tl _ _), ?_⟩
  refine List.forall_mem_cons.mpr ⟨(zo_iret_tl _), ?_⟩
  refine List.forall_mem_cons.mpr ⟨(zo_iinc_tl _ _ _), ?_⟩
  refine List.forall_mem_cons.mpr ⟨zo_none_tl, ?_⟩
  refine List.forall_mem_cons.mpr ⟨zo_none_tl, ?_⟩
  refine List.forall_mem_cons.mpr ⟨(zo_goto_tl _), ?_⟩
  refine List.forall_mem_cons.mpr ⟨zo_none_tl, ?_⟩
  refine List.forall_mem_cons.mpr ⟨zo_none_tl, ?_⟩
  refine List.forall_mem_cons.mpr ⟨(zo_pushI_tl _ _), ?_⟩
  refine List.forall_mem_cons.mpr ⟨(zo_iret_tl _), ?_⟩
  exact fun _ h => absurd h List.not_mem_nil
noncomputable def fX3_otherSetOf : zzFn := zz_fn tX3_otherSetOf 4
set_option maxRecDepth 100000 in
set_option maxHeartbeats 4000000 in
theorem mm_X3_otherSetOf {l : Launch} {D : va_G} {cA : Nat → ClassId} {ad : Nat → Nat} {Ex : (Nat → Prop) → State → Heap → Prop} (Wd : zzWC l D cA ad Ex) : zz_Cn l D zzCl cA ad zzSC Ex yX3_otherSetOf cX3_otherSetOf 4 (some .int) 2 45 fX3_otherSetOf ∧ zz_Cx l D zzCl cA ad zzSC Ex yX3_otherSetOf cX3_otherSetOf 4 (some .int) 2 45 fX3_otherSetOf := by
  refine zz_meth (plainFor_of_name (by decide)) Wd.1 Wd.2.1 Wd.2.2.1 (fun p e R s m args below meth c rr X => ?_)
  unfold tX3_otherSetOf
  refine zz_cons (k' := 1) rfl (zk_iconst X dX3_otherSetOf_0 (by decide) rfl) ?_
  refine zz_cons (k' := 2) rfl (zk_istore_n X dX3_otherSetOf_1 rfl (by decide) rfl) ?_
  refine zz_cons (k' := 3) rfl (zk_iload_n X dX3_otherSetOf_2 rfl rfl) ?_
  refine zz_cons (k' := 4) rfl (zk_aload_n X dX3_otherSetOf_3 rfl rfl) ?_
  refine zz_cons (k' := 5) rfl (zk_getf X ff_X3_51 dX3_otherSetOf_4 rfl) ?_
  refine zz_cons (k' := 6) rfl (zz_Ok_none _ _) ?_
  refine zz_cons (k' := 7) rfl (zz_Ok_none _ _) ?_
  refine zz_cons (k' := 8) rfl (zk_icmp_ge X dX3_otherSetOf_7 (by decide) rfl) ?_
  refine zz_cons (k' := 9) rfl (zz_Ok_none _ _) ?_
  refine zz_cons (k' := 10) rfl (zz_Ok_none _ _) ?_
  refine zz_cons (k' := 11) rfl (zk_iload_n X dX3_otherSetOf_10 rfl rfl) ?_
  refine zz_cons (k' := 12) rfl (zk_iload_n X dX3_otherSetOf_11 rfl rfl) ?_
  refine zz_cons (k' := 13) rfl (zk_icmp_eq X dX3_otherSetOf_12 (by decide) rfl) ?_
  refine zz_cons (k' := 14) rfl (zz_Ok_none _ _) ?_
  refine zz_cons (k' := 15) rfl (zz_Ok_none _ _) ?_
  refine zz_cons (k' := 16) rfl (zk_aload_n X dX3_otherSetOf_15 rfl rfl) ?_
  refine zz_cons (k' := 17) rfl (zk_iload_n X dX3_otherSetOf_16 rfl rfl) ?_
  refine zz_cons (k' := 18) rfl (zk_iconst X dX3_otherSetOf_17 (by decide) rfl) ?_
  refine zz_cons (k' := 19) rfl (zk_iload_n X dX3_otherSetOf_18 rfl rfl) ?_
  refine zz_cons (k' := 20) rfl (zk_callv X (zz_Cv_of (List.forall_mem_cons.mpr ⟨⟨(RX_2, zzT2, 12), yX10_isOwned, cX10_isOwned, 4, (some .boolean), 1, 22, rfl, kv_X3_55_2, (mm_X10_isOwned Wd).1, by decide, by decide⟩, (fun _ h => absurd h List.not_mem_nil)⟩)) dX3_otherSetOf_19 rfl) ?_
  refine zz_cons (k' := 21) rfl (zz_Ok_none _ _) ?_
  refine zz_cons (k' := 22) rfl (zz_Ok_none _ _) ?_
  refine zz_cons (k' := 23) rfl (zk_if_eq X dX3_otherSetOf_22 (by decide) rfl) ?_
  refine zz_cons (k' := 24) rfl (zz_Ok_none _ _) ?_
  refine zz_cons (k' := 25) rfl (zz_Ok_none _ _) ?_
  refine zz_cons (k' := 26) rfl (zk_aload_n X dX3_otherSetOf_25 rfl rfl) ?_
  refine zz_cons (k' := 27) rfl (zk_iload_n X dX3_otherSetOf_26 rfl rfl) ?_
  refine zz_cons (k' := 28) rfl (zk_iconst X dX3_otherSetOf_27 (by decide) rfl) ?_
  refine zz_cons (k' := 29) rfl (zk_callv X (zz_Cv_of (List.forall_mem_cons.mpr ⟨⟨(RX_2, zzT2, 12), yX10_read, cX10_read, 3, (some .int), 0, 0, rfl, kv_X3_9_2, (mm_X10_read Wd).1, by decide, by decide⟩, (fun _ h => absurd h List.not_mem_nil)⟩)) dX3_otherSetOf_28 rfl) ?_
  refine zz_cons (k' := 30) rfl (zz_Ok_none _ _) ?_
  refine zz_cons (k' := 31) rfl (zz_Ok_none _ _) ?_
  refine zz_cons (k' := 32) rfl (zk_if_le X dX3_otherSetOf_31 (by decide) rfl) ?_
  refine zz_cons (k' := 33) rfl (zz_Ok_none _ _) ?_
  refine zz_cons (k' := 34) rfl (zz_Ok_none _ _) ?_
  refine zz_cons (k' := 35) rfl (zk_iload_n X dX3_otherSetOf_34 rfl rfl) ?_
  refine zz_cons (k' := 36) rfl (zk_iret X rfl dX3_otherSetOf_35) ?_
  refine zz_cons (k' := 37) rfl (zk_iinc X dX3_otherSetOf_36 (by decide) (by decide) rfl) ?_
  refine zz_cons (k' := 38) rfl (zz_Ok_none _ _) ?_
  refine zz_cons (k' := 39) rfl (zz_Ok_none _ _) ?_
  refine zz_cons (k' := 40) rfl (zk_goto X dX3_otherSetOf_39 (by decide)) ?_
  refine zz_cons (k' := 41) rfl (zz_Ok_none _ _) ?_
  refine zz_cons (k' := 42) rfl (zz_Ok_none _ _) ?_
  refine zz_cons (k' := 43) rfl (zk_iconst X dX3_otherSetOf_42 (by decide) rfl) ?_
  refine zz_cons (k' := 44) rfl (zk_iret X rfl dX3_otherSetOf_43) ?_
  exact trivial
noncomputable def tX3_lessWanted : List zzOp := [
  zo_aload 0 1,
  zo_iload 2 2,
  zo_pushI 0 3,
  zo_callv zzSC (zz_cl [(2, fX10_read)]) 2 6,
  zo_none,
  zo_none,
  zo_istore 3 7,
  zo_aload 0 8,
  zo_iload 2 9,
  zo_callv zzSC (zz_cl [(2, fX10_countRunning)]) 1 12,
  zo_none,
  zo_none,
  zo_istore 4 14,
  zo_none,
  zo_iload 3 15,
  zo_iload 4 17,
  zo_none,
  zo_icmp (fun x y => decide (x ≤ y)) 23 20,
  zo_none,
  zo_none,
  zo_iload 4 22,
  zo_none,
  zo_iret false,
  zo_aload 0 24,
  zo_iload 1 25,
  zo_callv zzSC (zz_cl [(2, fX10_countRunningOfAll)]) 1 28,
  zo_none,
  zo_none,
  zo_aload 0 29,
  zo_iload 1 30,
  zo_pushI 0 31,
  zo_callv zzSC (zz_cl [(2, fX10_read)]) 2 34,
  zo_none,
  zo_none,
  zo_aload 0 35,
  zo_iload 1 36,
  zo_pushI 3 37,
  zo_callv zzSC (zz_cl [(2, fX10_read)]) 2 40,
  zo_none,
  zo_none,
  zo_ii (fun x y => x - y) 41,
  zo_ii (fun x y => x - y) 42,
  zo_istore 5 44,
  zo_none,
  zo_iload 5 46,
  zo_none,
  zo_if (fun x => decide (x ≤ 0)) 60 49,
  zo_none,
  zo_none,
  zo_iload 3 50,
  zo_iload 5 52,
  zo_none,
  zo_iload 3 53,
  zo_mm (fun x y => if y < x then y else x) 56,
  zo_none,
  zo_none,
  zo_ii (fun x y => x - y) 57,
  zo_goto 61,
  zo_none,
  zo_none,
  zo_iload 3 61,
  zo_iret false]
set_option maxRecDepth 100000 in
theorem tl_X3_lessWanted : ∀ pc, zz_Tl (tX3_lessWanted.getD pc zo_none) := by
  refine zz_Tl_mem ?_
  unfold tX3_lessWanted
  refine List.forall_mem_cons.mpr ⟨(zo_aload_tl _ _), ?_⟩
  refine List.forall_mem_cons.mpr ⟨(zo_iload_tl _ _), ?_⟩
  refine List.forall_mem_cons.mpr ⟨(zo_pushI_tl _ _), ?_⟩
  refine List.forall_mem_cons.mpr ⟨(zo_callv_tl _ _ _ _), ?_⟩
  refine List.forall_mem_cons.mpr ⟨zo_none_tl, ?_⟩
  refine List.forall_mem_cons.mpr ⟨zo_none_tl, ?_⟩
  refine List.forall_mem_cons.mpr ⟨(zo_istore_tl _ _), ?_⟩
  refine List.forall_mem_cons.mpr ⟨(zo_aload_tl _ _), ?_⟩
  refine List.forall_mem_cons.mpr ⟨(zo_iload_tl _ _), ?_⟩
  refine List.forall_mem_cons.mpr ⟨(zo_callv_tl _ _ _ _), ?_⟩
  refine List.forall_mem_cons.mpr ⟨zo_none_tl, ?_⟩
  refine List.forall_mem_cons.mpr ⟨zo_none_tl, ?_⟩
  refine List.forall_mem_cons.mpr ⟨(zo_istore_tl _ _), ?_⟩
  refine List.forall_mem_cons.mpr ⟨zo_none_tl, ?_⟩
  refine List.forall_mem_cons.mpr ⟨(zo_iload_tl _ _), ?_⟩
  refine List.forall_mem_cons.mpr ⟨(zo_iload_tl _ _), ?_⟩
  refine List.forall_mem_cons.mpr ⟨zo_none_tl, ?_⟩
  refine List.forall_mem_cons.mpr ⟨(zo_icmp_tl _ _ _), ?_⟩
  refine List.forall_mem_cons.mpr ⟨zo_none_tl, ?_⟩
  refine List.forall_mem_cons.mpr ⟨zo_none_tl, ?_⟩
  refine List.forall_mem_cons.mpr ⟨(zo_iload_tl _ _), ?_⟩
  refine List.forall_mem_cons.mpr ⟨zo_none_tl, ?_⟩
  refine List.forall_mem_cons.mpr ⟨(zo_iret_tl _), ?_⟩
  refine List.forall_mem_cons.mpr ⟨(zo_aload_tl _ _), ?_⟩
  refine List.forall_mem_cons.mpr ⟨(zo_iload_tl _ _), ?_⟩
  refine List.forall_mem_cons.mpr ⟨(zo_callv_tl _ _ _ _), ?_⟩
  refine List.forall_mem_cons.mpr ⟨zo_none_tl, ?_⟩
  refine List.forall_mem_cons.mpr ⟨zo_none_tl, ?_⟩
  refine List.forall_mem_cons.mpr ⟨(zo_aload_tl _ _), ?_⟩
  refine List.forall_mem_cons.mpr ⟨(zo_iload_tl _ _), ?_⟩
  refine List.forall_mem_cons.mpr ⟨(zo_pushI_tl _ _), ?_⟩
  refine List.forall_mem_cons.mpr ⟨(zo_callv_tl _ _ _ _), ?_⟩
  refine List.forall_mem_cons.mpr ⟨zo_none_tl, ?_⟩
  refine List.forall_mem_cons.mpr ⟨zo_none_tl, ?_⟩
  refine List.forall_mem_cons.mpr ⟨(zo_aload_tl _ _), ?_⟩
  refine List.forall_mem_cons.mpr ⟨(zo_iload_tl _ _), ?_⟩
  refine List.forall_mem_cons.mpr ⟨(zo_pushI_tl _ _), ?_⟩
  refine List.forall_mem_cons.mpr ⟨(zo_callv_tl _ _ _ _), ?_⟩
  refine List.forall_mem_cons.mpr ⟨zo_none_tl, ?_⟩
  refine List.forall_mem_cons.mpr ⟨zo_none_tl, ?_⟩
  refine List.forall_mem_cons.mpr ⟨(zo_ii_tl _ _), ?_⟩
  refine List.forall_mem_cons.mpr ⟨(zo_ii_tl _ _), ?_⟩
  refine List.forall_mem_cons.mpr ⟨(zo_istore_tl _ _), ?_⟩
  refine List.forall_mem_cons.mpr ⟨zo_none_tl, ?_⟩
  refine List.forall_mem_cons.mpr ⟨(zo_iload_tl _ _), ?_⟩
  refine List.forall_mem_cons.mpr ⟨zo_none_tl, ?_⟩
  refine List.forall_mem_cons.mpr ⟨(zo_if_tl _ _ _), ?_⟩
  refine List.forall_mem_cons.mpr ⟨zo_none_tl, ?_⟩
  refine List.forall_mem_cons.mpr ⟨zo_none_tl, ?_⟩
  refine List.forall_mem_cons.mpr ⟨(zo_iload_tl _ _), ?_⟩
  refine List.forall_mem_cons.mpr ⟨(zo_iload_tl _ _), ?_⟩
  refine List.forall_mem_cons.mpr ⟨zo_none_tl, ?_⟩
  refine List.forall_mem_cons.mpr ⟨(zo_iload_tl _ _), ?_⟩
  refine List.forall_mem_cons.mpr ⟨(zo_mm_tl _ _), ?_⟩
  refine List.forall_mem_cons.mpr ⟨zo_none_tl, ?_⟩
  refine List.forall_mem_cons.mpr ⟨zo_none_tl, ?_⟩
  refine List.forall_mem_cons.mpr ⟨(zo_ii_tl _ _), ?_⟩
  refine List.forall_mem_cons.mpr ⟨(zo_goto_tl _), ?_⟩
  refine List.forall_mem_cons.mpr ⟨zo_none_tl, ?_⟩
  refine List.forall_mem_cons.mpr ⟨zo_none_tl, ?_⟩
  refine List.forall_mem_cons.mpr ⟨(zo_iload_tl _ _), ?_⟩
  refine List.forall_mem_cons.mpr ⟨(zo_iret_tl _), ?_⟩
  exact fun _ h => absurd h List.not_mem_nil
noncomputable def fX3_lessWanted : zzFn := zz_fn tX3_lessWanted 6
set_option maxRecDepth 100000 in
set_option maxHeartbeats 4000000 in
theorem mm_X3_lessWanted {l : Launch} {D : va_G} {cA : Nat → ClassId} {ad : Nat → Nat} {Ex : (Nat → Prop) → State → Heap → Prop} (Wd : zzWC l D cA ad Ex) : zz_Cn l D zzCl cA ad zzSC Ex yX3_lessWanted cX3_lessWanted 6 (some .int) 4 91 fX3_lessWanted ∧ zz_Cx l D zzCl cA ad zzSC Ex yX3_lessWanted cX3_lessWanted 6 (some .int) 4 91 fX3_lessWanted := by
  refine zz_meth (plainFor_of_name (by decide)) Wd.1 Wd.2.1 Wd.2.2.1 (fun p e R s m args below meth c rr X => ?_)
  unfold tX3_lessWanted
  refine zz_cons (k' := 1) rfl (zk_aload_n X dX3_lessWanted_0 rfl rfl) ?_
  refine zz_cons (k' := 2) rfl (zk_iload_n X dX3_lessWanted_1 rfl rfl) ?_
  refine zz_cons (k' := 3) rfl (zk_iconst X dX3_lessWanted_2 (by decide) rfl) ?_
  refine zz_cons (k' := 4) rfl (zk_callv X (zz_Cv_of (List.forall_mem_cons.mpr ⟨⟨(RX_2, zzT2, 12), yX10_read, cX10_read, 3, (some .int), 0, 0, rfl, kv_X3_9_2, (mm_X10_read Wd).1, by decide, by decide⟩, (fun _ h => absurd h List.not_mem_nil)⟩)) dX3_lessWanted_3 rfl) ?_
  refine zz_cons (k' := 5) rfl (zz_Ok_none _ _) ?_
  refine zz_cons (k' := 6) rfl (zz_Ok_none _ _) ?_
  refine zz_cons (k' := 7) rfl (zk_istore_n X dX3_lessWanted_6 rfl (by decide) rfl) ?_
  refine zz_cons (k' := 8) rfl (zk_aload_n X dX3_lessWanted_7 rfl rfl) ?_
  refine zz_cons (k' := 9) rfl (zk_iload_n X dX3_lessWanted_8 rfl rfl) ?_
  refine zz_cons (k' := 10) rfl (zk_callv X (zz_Cv_of (List.forall_mem_cons.mpr ⟨⟨(RX_2, zzT2, 12), yX10_countRunning, cX10_countRunning, 4, (some .int), 2, 45, rfl, kv_X3_59_2, (mm_X10_countRunning Wd).1, by decide, by decide⟩, (fun _ h => absurd h List.not_mem_nil)⟩)) dX3_lessWanted_9 rfl) ?_
  refine zz_cons (k' := 11) rfl (zz_Ok_none _ _) ?_
  refine zz_cons (k' := 12) rfl (zz_Ok_none _ _) ?_
  refine zz_cons (k' := 13) rfl (zk_istore X dX3_lessWanted_12 (by decide) rfl) ?_
  refine zz_cons (k' := 14) rfl (zz_Ok_none _ _) ?_
  refine zz_cons (k' := 15) rfl (zk_iload_n X dX3_lessWanted_14 rfl rfl) ?_
  refine zz_cons (k' := 16) rfl (zk_iload X dX3_lessWanted_15 rfl) ?_
  refine zz_cons (k' := 17) rfl (zz_Ok_none _ _) ?_
  refine zz_cons (k' := 18) rfl (zk_icmp_le X dX3_lessWanted_17 (by decide) rfl) ?_
  refine zz_cons (k' := 19) rfl (zz_Ok_none _ _) ?_
  refine zz_cons (k' := 20) rfl (zz_Ok_none _ _) ?_
  refine zz_cons (k' := 21) rfl (zk_iload X dX3_lessWanted_20 rfl) ?_
  refine zz_cons (k' := 22) rfl (zz_Ok_none _ _) ?_
  refine zz_cons (k' := 23) rfl (zk_iret X rfl dX3_lessWanted_22) ?_
  refine zz_cons (k' := 24) rfl (zk_aload_n X dX3_lessWanted_23 rfl rfl) ?_
  refine zz_cons (k' := 25) rfl (zk_iload_n X dX3_lessWanted_24 rfl rfl) ?_
  refine zz_cons (k' := 26) rfl (zk_callv X (zz_Cv_of (List.forall_mem_cons.mpr ⟨⟨(RX_2, zzT2, 12), yX10_countRunningOfAll, cX10_countRunningOfAll, 4, (some .int), 3, 68, rfl, kv_X3_62_2, (mm_X10_countRunningOfAll Wd).1, by decide, by decide⟩, (fun _ h => absurd h List.not_mem_nil)⟩)) dX3_lessWanted_25 rfl) ?_
  refine zz_cons (k' := 27) rfl (zz_Ok_none _ _) ?_
  refine zz_cons (k' := 28) rfl (zz_Ok_none _ _) ?_
  refine zz_cons (k' := 29) rfl (zk_aload_n X dX3_lessWanted_28 rfl rfl) ?_
  refine zz_cons (k' := 30) rfl (zk_iload_n X dX3_lessWanted_29 rfl rfl) ?_
  refine zz_cons (k' := 31) rfl (zk_iconst X dX3_lessWanted_30 (by decide) rfl) ?_
  refine zz_cons (k' := 32) rfl (zk_callv X (zz_Cv_of (List.forall_mem_cons.mpr ⟨⟨(RX_2, zzT2, 12), yX10_read, cX10_read, 3, (some .int), 0, 0, rfl, kv_X3_9_2, (mm_X10_read Wd).1, by decide, by decide⟩, (fun _ h => absurd h List.not_mem_nil)⟩)) dX3_lessWanted_31 rfl) ?_
  refine zz_cons (k' := 33) rfl (zz_Ok_none _ _) ?_
  refine zz_cons (k' := 34) rfl (zz_Ok_none _ _) ?_
  refine zz_cons (k' := 35) rfl (zk_aload_n X dX3_lessWanted_34 rfl rfl) ?_
  refine zz_cons (k' := 36) rfl (zk_iload_n X dX3_lessWanted_35 rfl rfl) ?_
  refine zz_cons (k' := 37) rfl (zk_iconst X dX3_lessWanted_36 (by decide) rfl) ?_
  refine zz_cons (k' := 38) rfl (zk_callv X (zz_Cv_of (List.forall_mem_cons.mpr ⟨⟨(RX_2, zzT2, 12), yX10_read, cX10_read, 3, (some .int), 0, 0, rfl, kv_X3_9_2, (mm_X10_read Wd).1, by decide, by decide⟩, (fun _ h => absurd h List.not_mem_nil)⟩)) dX3_lessWanted_37 rfl) ?_
  refine zz_cons (k' := 39) rfl (zz_Ok_none _ _) ?_
  refine zz_cons (k' := 40) rfl (zz_Ok_none _ _) ?_
  refine zz_cons (k' := 41) rfl (zk_isub X dX3_lessWanted_40 rfl) ?_
  refine zz_cons (k' := 42) rfl (zk_isub X dX3_lessWanted_41 rfl) ?_
  refine zz_cons (k' := 43) rfl (zk_istore X dX3_lessWanted_42 (by decide) rfl) ?_
  refine zz_cons (k' := 44) rfl (zz_Ok_none _ _) ?_
  refine zz_cons (k' := 45) rfl (zk_iload X dX3_lessWanted_44 rfl) ?_
  refine zz_cons (k' := 46) rfl (zz_Ok_none _ _) ?_
  refine zz_cons (k' := 47) rfl (zk_if_le X dX3_lessWanted_46 (by decide) rfl) ?_
  refine zz_cons (k' := 48) rfl (zz_Ok_none _ _) ?_
  refine zz_cons (k' := 49) rfl (zz_Ok_none _ _) ?_
  refine zz_cons (k' := 50) rfl (zk_iload_n X dX3_lessWanted_49 rfl rfl) ?_
  refine zz_cons (k' := 51) rfl (zk_iload X dX3_lessWanted_50 rfl) ?_
  refine zz_cons (k' := 52) rfl (zz_Ok_none _ _) ?_
  refine zz_cons (k' := 53) rfl (zk_iload_n X dX3_lessWanted_52 rfl rfl) ?_
  refine zz_cons (k' := 54) rfl (zk_min X (zz_in (by decide +kernel)) (zz_in (by decide +kernel)) (zz_in (by decide +kernel)) (zz_in (by decide +kernel)) (by decide) dX3_lessWanted_53 rfl) ?_
  refine zz_cons (k' := 55) rfl (zz_Ok_none _ _) ?_
  refine zz_cons (k' := 56) rfl (zz_Ok_none _ _) ?_
  refine zz_cons (k' := 57) rfl (zk_isub X dX3_lessWanted_56 rfl) ?_
  refine zz_cons (k' := 58) rfl (zk_goto X dX3_lessWanted_57 (by decide)) ?_
  refine zz_cons (k' := 59) rfl (zz_Ok_none _ _) ?_
  refine zz_cons (k' := 60) rfl (zz_Ok_none _ _) ?_
  refine zz_cons (k' := 61) rfl (zk_iload_n X dX3_lessWanted_60 rfl rfl) ?_
  refine zz_cons (k' := 62) rfl (zk_iret X rfl dX3_lessWanted_61) ?_
  exact trivial
noncomputable def tX3_serve : List zzOp := [
  zo_aload 0 1,
  zo_iload 1 2,
  zo_pushI 0 3,
  zo_callv zzSC (zz_cl [(2, fX10_isStaying)]) 2 6,
  zo_none,
  zo_none,
  zo_if (fun x => decide (x = 0)) 19 9,
  zo_none,
  zo_none,
  zo_aload 0 10,
  zo_iload 1 11,
  zo_pushI 4 12,
  zo_callv zzSC (zz_cl [(2, fX10_read)]) 2 15,
  zo_none,
  zo_none,
  zo_pushI 1 16,
  zo_icmp (fun x y => decide (¬ x = y)) 21 19,
  zo_none,
  zo_none,
  zo_pushI 1 20,
  zo_iret false,
  zo_aload 0 22,
  zo_iload 1 23,
  zo_callv zzSC (zz_cl [(2, fX10_newSetOf)]) 1 26,
  zo_none,
  zo_none,
  zo_istore 2 27,
  zo_iload 2 28,
  zo_pushI (-1) 29,
  zo_icmp (fun x y => decide (¬ x = y)) 42 32,
  zo_none,
  zo_none,
  zo_aload 0 33,
  zo_iload 1 34,
  zo_pushI 1 35,
  zo_callv zzSC (zz_cl [(2, fX2_makeFor)]) 2 38,
  zo_none,
  zo_none,
  zo_calls fX2_outcomeOf 1 41,
  zo_none,
  zo_none,
  zo_iret false,
  zo_aload 0 43,
  zo_iload 1 44,
  zo_pushI 0 45,
  zo_callv zzSC (zz_cl [(2, fX10_read)]) 2 48,
  zo_none,
  zo_none,
  zo_istore 3 49,
  zo_aload 0 50,
  zo_iload 2 51,
  zo_pushI 0 52,
  zo_callv zzSC (zz_cl [(2, fX10_read)]) 2 55,
  zo_none,
  zo_none,
  zo_istore 4 57,
  zo_none,
  zo_iload 4 59,
  zo_none,
  zo_iload 3 60,
  zo_icmp (fun x y => decide (x ≤ y)) 73 63,
  zo_none,
  zo_none,
  zo_aload 0 64,
  zo_iload 2 65,
  zo_iload 3 66,
  zo_callv zzSC (zz_cl [(2, fX2_want)]) 2 69,
  zo_none,
  zo_none,
  zo_calls fX2_outcomeOf 1 72,
  zo_none,
  zo_none,
  zo_iret false,
  zo_iload 3 74,
  zo_aload 0 75,
  zo_iload 1 76,
  zo_pushI 2 77,
  zo_callv zzSC (zz_cl [(2, fX10_read)]) 2 80,
  zo_none,
  zo_none,
  zo_ii (fun x y => x + y) 81,
  zo_aload 0 82,
  zo_iload 1 83,
  zo_callv zzSC (zz_cl [(2, fX3_wantedTogether)]) 1 86,
  zo_none,
  zo_none,
  zo_ii (fun x y => x - y) 87,
  zo_istore 5 89,
  zo_none,
  zo_iload 4 91,
  zo_none,
  zo_iload 3 92,
  zo_icmp (fun x y => decide (y ≤ x)) 118 95,
  zo_none,
  zo_none,
  zo_iload 5 97,
  zo_none,
  zo_if (fun x => decide (x ≤ 0)) 118 100,
  zo_none,
  zo_none,
  zo_aload 0 101,
  zo_iload 2 102,
  zo_iload 3 103,
  zo_iload 4 105,
  zo_none,
  zo_iload 5 107,
  zo_none,
  zo_ii (fun x y => x + y) 108,
  zo_mm (fun x y => if y < x then y else x) 111,
  zo_none,
  zo_none,
  zo_callv zzSC (zz_cl [(2, fX2_want)]) 2 114,
  zo_none,
  zo_none,
  zo_calls fX2_outcomeOf 1 117,
  zo_none,
  zo_none,
  zo_iret false,
  zo_aload 0 119,
  zo_iload 1 120,
  zo_iload 2 121,
  zo_callv zzSC (zz_cl [(2, fX3_otherSetOf)]) 2 124,
  zo_none,
  zo_none,
  zo_istore 6 126,
  zo_none,
  zo_iload 6 128,
  zo_none,
  zo_pushI (-1) 129,
  zo_icmp (fun x y => decide (¬ x = y)) 136 132,
  zo_none,
  zo_none,
  zo_pushI 1 133,
  zo_goto 152,
  zo_none,
  zo_none,
  zo_aload 0 137,
  zo_iload 6 139,
  zo_none,
  zo_aload 0 140,
  zo_iload 1 141,
  zo_iload 6 143,
  zo_none,
  zo_callv zzSC (zz_cl [(2, fX3_lessWanted)]) 2 146,
  zo_none,
  zo_none,
  zo_callv zzSC (zz_cl [(2, fX2_want)]) 2 149,
  zo_none,
  zo_none,
  zo_calls fX2_outcomeOf 1 152,
  zo_none,
  zo_none,
  zo_iret false]
set_option maxRecDepth 100000 in
theorem tl_X3_serve : ∀ pc, zz_Tl (tX3_serve.getD pc zo_none) := by
  refine zz_Tl_mem ?_
  unfold tX3_serve
  refine List.forall_mem_cons.mpr ⟨(zo_aload_tl _ _), ?_⟩
  refine List.forall_mem_cons.mpr ⟨(zo_iload_tl _ _), ?_⟩
  refine List.forall_mem_cons.mpr ⟨(zo_pushI_tl _ _), ?_⟩
  refine List.forall_mem_cons.mpr ⟨(zo_callv_tl _ _ _ _), ?_⟩
  refine List.forall_mem_cons.mpr ⟨zo_none_tl, ?_⟩
  refine List.forall_mem_cons.mpr ⟨zo_none_tl, ?_⟩
  refine List.forall_mem_cons.mpr ⟨(zo_if_tl _ _ _), ?_⟩
  refine List.forall_mem_cons.mpr ⟨zo_none_tl, ?_⟩
  refine List.forall_mem_cons.mpr ⟨zo_none_tl, ?_⟩
  refine List.forall_mem_cons.mpr ⟨(zo_aload_tl _ _), ?_⟩
  refine List.forall_mem_cons.mpr ⟨(zo_iload_tl _ _), ?_⟩
  refine List.forall_mem_cons.mpr ⟨(zo_pushI_tl _ _), ?_⟩
  refine List.forall_mem_cons.mpr ⟨(zo_callv_tl _ _ _ _), ?_⟩
  refine List.forall_mem_cons.mpr ⟨zo_none_tl, ?_⟩
  refine List.forall_mem_cons.mpr ⟨zo_none_tl, ?_⟩
  refine List.forall_mem_cons.mpr ⟨(zo_pushI_tl _ _), ?_⟩
  refine List.forall_mem_cons.mpr ⟨(zo_icmp_tl _ _ _), ?_⟩
  refine List.forall_mem_cons.mpr ⟨zo_none_tl, ?_⟩
  refine List.forall_mem_cons.mpr ⟨zo_none_tl, ?_⟩
  refine List.forall_mem_cons.mpr ⟨(zo_pushI_tl _ _), ?_⟩
  refine List.forall_mem_cons.mpr ⟨(zo_iret_tl _), ?_⟩
  refine List.forall_mem_cons.mpr ⟨(zo_aload_tl _ _), ?_⟩
  refine List.forall_mem_cons.mpr ⟨(zo_iload_tl _ _), ?_⟩
  refine List.forall_mem_cons.mpr ⟨(zo_callv_tl _ _ _ _), ?_⟩
  refine List.forall_mem_cons.mpr ⟨zo_none_tl, ?_⟩
  refine List.forall_mem_cons.mpr ⟨zo_none_tl, ?_⟩
  refine List.forall_mem_cons.mpr ⟨(zo_istore_tl _ _), ?_⟩
  refine List.forall_mem_cons.mpr ⟨(zo_iload_tl _ _), ?_⟩
  refine List.forall_mem_cons.mpr ⟨(zo_pushI_tl _ _), ?_⟩
  refine List.forall_mem_cons.mpr ⟨(zo_icmp_tl _ _ _), ?_⟩
  refine List.forall_mem_cons.mpr ⟨zo_none_tl, ?_⟩
  refine List.forall_mem_cons.mpr ⟨zo_none_tl, ?_⟩
  refine List.forall_mem_cons.mpr ⟨(zo_aload_tl _ _), ?_⟩
  refine List.forall_mem_cons.mpr ⟨(zo_iload_tl _ _), ?_⟩
  refine List.forall_mem_cons.mpr ⟨(zo_pushI_tl _ _), ?_⟩
  refine List.forall_mem_cons.mpr ⟨(zo_callv_tl _ _ _ _), ?_⟩
  refine List.forall_mem_cons.mpr ⟨zo_none_tl, ?_⟩
  refine List.forall_mem_cons.mpr ⟨zo_none_tl, ?_⟩
  refine List.forall_mem_cons.mpr ⟨(zo_calls_tl _ _ _), ?_⟩
  refine List.forall_mem_cons.mpr ⟨zo_none_tl, ?_⟩
  refine List.forall_mem_cons.mpr ⟨zo_none_tl, ?_⟩
  refine List.forall_mem_cons.mpr ⟨(zo_iret_tl _), ?_⟩
  refine List.forall_mem_cons.mpr ⟨(zo_aload_tl _ _), ?_⟩
  refine List.forall_mem_cons.mpr ⟨(zo_iload_tl _ _), ?_⟩
  refine List.forall_mem_cons.mpr ⟨(zo_pushI_tl _ _), ?_⟩
  refine List.forall_mem_cons.mpr ⟨(zo_callv_tl _ _ _ _), ?_⟩
  refine List.forall_mem_cons.mpr ⟨zo_none_tl, ?_⟩
  refine List.forall_mem_cons.mpr ⟨zo_none_tl, ?_⟩
  refine List.forall_mem_cons.mpr ⟨(zo_istore_tl _ _), ?_⟩
  refine List.forall_mem_cons.mpr ⟨(zo_aload_tl _ _), ?_⟩
  refine List.forall_mem_cons.mpr ⟨(zo_iload_tl _ _), ?_⟩
  refine List.forall_mem_cons.mpr ⟨(zo_pushI_tl _ _), ?_⟩
  refine List.forall_mem_cons.mpr ⟨(zo_callv_tl _ _ _ _), ?_⟩
  refine List.forall_mem_cons.mpr ⟨zo_none_tl, ?_⟩
  refine List.forall_mem_cons.mpr ⟨zo_none_tl, ?_⟩
  refine List.forall_mem_cons.mpr ⟨(zo_istore_tl _ _), ?_⟩
  refine List.forall_mem_cons.mpr ⟨zo_none_tl, ?_⟩
  refine List.forall_mem_cons.mpr ⟨(zo_iload_tl _ _), ?_⟩
  refine List.forall_mem_cons.mpr ⟨zo_none_tl, ?_⟩
  refine List.forall_mem_cons.mpr ⟨(zo_iload_tl _ _), ?_⟩
  refine List.forall_mem_cons.mpr ⟨(zo_icmp_tl _ _ _), ?_⟩
  refine List.forall_mem_cons.mpr ⟨zo_none_tl, ?_⟩
  refine List.forall_mem_cons.mpr ⟨zo_none_tl, ?_⟩
  refine List.forall_mem_cons.mpr ⟨(zo_aload_tl _ _), ?_⟩
  refine List.forall_mem_cons.mpr ⟨(zo_iload_tl _ _), ?_⟩
  refine List.forall_mem_cons.mpr ⟨(zo_iload_tl _ _), ?_⟩
  refine List.forall_mem_cons.mpr ⟨(zo_callv_tl _ _ _ _), ?_⟩
  refine List.forall_mem_cons.mpr ⟨zo_none_tl, ?_⟩
  refine List.forall_mem_cons.mpr ⟨zo_none_tl, ?_⟩
  refine List.forall_mem_cons.mpr ⟨(zo_calls_tl _ _ _), ?_⟩
  refine List.forall_mem_cons.mpr ⟨zo_none_tl, ?_⟩
  refine List.forall_mem_cons.mpr ⟨zo_none_tl, ?_⟩
  refine List.forall_mem_cons.mpr ⟨(zo_iret_tl _), ?_⟩
  refine List.forall_mem_cons.mpr ⟨(zo_iload_tl _ _), ?_⟩
  refine List.forall_mem_cons.mpr ⟨(zo_aload_tl _ _), ?_⟩
  refine List.forall_mem_cons.mpr ⟨(zo_iload_tl _ _), ?_⟩
  refine List.forall_mem_cons.mpr ⟨(zo_pushI_tl _ _), ?_⟩
  refine List.forall_mem_cons.mpr ⟨(zo_callv_tl _ _ _ _), ?_⟩
  refine List.forall_mem_cons.mpr ⟨zo_none_tl, ?_⟩
  refine List.forall_mem_cons.mpr ⟨zo_none_tl, ?_⟩
  refine List.forall_mem_cons.mpr ⟨(zo_ii_tl _ _), ?_⟩
  refine List.forall_mem_cons.mpr ⟨(zo_aload_tl _ _), ?_⟩
  refine List.forall_mem_cons.mpr ⟨(zo_iload_tl _ _), ?_⟩
  refine List.forall_mem_cons.mpr ⟨(zo_callv_tl _ _ _ _), ?_⟩
  refine List.forall_mem_cons.mpr ⟨zo_none_tl, ?_⟩
  refine List.forall_mem_cons.mpr ⟨zo_none_tl, ?_⟩
  refine List.forall_mem_cons.mpr ⟨(zo_ii_tl _ _), ?_⟩
  refine List.forall_mem_cons.mpr ⟨(zo_istore_tl _ _), ?_⟩
  refine List.forall_mem_cons.mpr ⟨zo_none_tl, ?_⟩
  refine List.forall_mem_cons.mpr ⟨(zo_iload_tl _ _), ?_⟩
  refine List.forall_mem_cons.mpr ⟨zo_none_tl, ?_⟩
  refine List.forall_mem_cons.mpr ⟨(zo_iload_tl _ _), ?_⟩
  refine List.forall_mem_cons.mpr ⟨(zo_icmp_tl _ _ _), ?_⟩
  refine List.forall_mem_cons.mpr ⟨zo_none_tl, ?_⟩
  refine List.forall_mem_cons.mpr ⟨zo_none_tl, ?_⟩
  refine List.forall_mem_cons.mpr ⟨(zo_iload_tl _ _), ?_⟩
  refine List.forall_mem_cons.mpr ⟨zo_none_tl, ?_⟩
  refine List.forall_mem_cons.mpr ⟨(zo_if_tl _ _ _), ?_⟩
  refine List.forall_mem_cons.mpr ⟨zo_none_tl, ?_⟩
  refine List.forall_mem_cons.mpr ⟨zo_none_tl, ?_⟩
  refine List.forall_mem_cons.mpr ⟨(zo_aload_tl _ _), ?_⟩
  refine List.forall_mem_cons.mpr ⟨(zo_iload_tl _ _), ?_⟩
  refine List.forall_mem_cons.mpr ⟨(zo_iload_tl _ _), ?_⟩
  refine List.forall_mem_cons.mpr ⟨(zo_iload_tl _ _), ?_⟩
  refine List.forall_mem_cons.mpr ⟨zo_none_tl, ?_⟩
  refine List.forall_mem_cons.mpr ⟨(zo_iload_tl _ _), ?_⟩
  refine List.forall_mem_cons.mpr ⟨zo_none_tl, ?_⟩
  refine List.forall_mem_cons.mpr ⟨(zo_ii_tl _ _), ?_⟩
  refine List.forall_mem_cons.mpr ⟨(zo_mm_tl _ _), ?_⟩
  refine List.forall_mem_cons.mpr ⟨zo_none_tl, ?_⟩
  refine List.forall_mem_cons.mpr ⟨zo_none_tl, ?_⟩
  refine List.forall_mem_cons.mpr ⟨(zo_callv_tl _ _ _ _), ?_⟩
  refine List.forall_mem_cons.mpr ⟨zo_none_tl, ?_⟩
  refine List.forall_mem_cons.mpr ⟨zo_none_tl, ?_⟩
  refine List.forall_mem_cons.mpr ⟨(zo_calls_tl _ _ _), ?_⟩
  refine List.forall_mem_cons.mpr ⟨zo_none_tl, ?_⟩
  refine List.forall_mem_cons.mpr ⟨zo_none_tl, ?_⟩
  refine List.forall_mem_cons.mpr ⟨(zo_iret_tl _), ?_⟩
  refine List.forall_mem_cons.mpr ⟨(zo_aload_tl _ _), ?_⟩
  refine List.forall_mem_cons.mpr ⟨(zo_iload_tl _ _), ?_⟩
  refine List.forall_mem_cons.mpr ⟨(zo_iload_tl _ _), ?_⟩
  refine List.forall_mem_cons.mpr ⟨(zo_callv_tl _ _ _ _), ?_⟩
  refine List.forall_mem_cons.mpr ⟨zo_none_tl, ?_⟩
  refine List.forall_mem_cons.mpr ⟨zo_none_tl, ?_⟩
  refine List.forall_mem_cons.mpr ⟨(zo_istore_tl _ _), ?_⟩
  refine List.forall_mem_cons.mpr ⟨zo_none_tl, ?_⟩
  refine List.forall_mem_cons.mpr ⟨(zo_iload_tl _ _), ?_⟩
  refine List.forall_mem_cons.mpr ⟨zo_none_tl, ?_⟩
  refine List.forall_mem_cons.mpr ⟨(zo_pushI_tl _ _), ?_⟩
  refine List.forall_mem_cons.mpr ⟨(zo_icmp_tl _ _ _), ?_⟩
  refine List.forall_mem_cons.mpr ⟨zo_none_tl, ?_⟩
  refine List.forall_mem_cons.mpr ⟨zo_none_tl, ?_⟩
  refine List.forall_mem_cons.mpr ⟨(zo_pushI_tl _ _), ?_⟩
  refine List.forall_mem_cons.mpr ⟨(zo_goto_tl _), ?_⟩
  refine List.forall_mem_cons.mpr ⟨zo_none_tl, ?_⟩
  refine List.forall_mem_cons.mpr ⟨zo_none_tl, ?_⟩
  refine List.forall_mem_cons.mpr ⟨(zo_aload_tl _ _), ?_⟩
  refine List.forall_mem_cons.mpr ⟨(zo_iload_tl _ _), ?_⟩
  refine List.forall_mem_cons.mpr ⟨zo_none_tl, ?_⟩
  refine List.forall_mem_cons.mpr ⟨(zo_aload_tl _ _), ?_⟩
  refine List.forall_mem_cons.mpr ⟨(zo_iload_tl _ _), ?_⟩
  refine List.forall_mem_cons.mpr ⟨(zo_iload_tl _ _), ?_⟩
  refine List.forall_mem_cons.mpr ⟨zo_none_tl, ?_⟩
  refine List.forall_mem_cons.mpr ⟨(zo_callv_tl _ _ _ _), ?_⟩
  refine List.forall_mem_cons.mpr ⟨zo_none_tl, ?_⟩
  refine List.forall_mem_cons.mpr ⟨zo_none_tl, ?_⟩
  refine List.forall_mem_cons.mpr ⟨(zo_callv_tl _ _ _ _), ?_⟩
  refine List.forall_mem_cons.mpr ⟨zo_none_tl, ?_⟩
  refine List.forall_mem_cons.mpr ⟨zo_none_tl, ?_⟩
  refine List.forall_mem_cons.mpr ⟨(zo_calls_tl _ _ _), ?_⟩
  refine List.forall_mem_cons.mpr ⟨zo_none_tl, ?_⟩
  refine List.forall_mem_cons.mpr ⟨zo_none_tl, ?_⟩
  refine List.forall_mem_cons.mpr ⟨(zo_iret_tl _), ?_⟩
  exact fun _ h => absurd h List.not_mem_nil
noncomputable def fX3_serve : zzFn := zz_fn tX3_serve 7
set_option maxRecDepth 100000 in
set_option maxHeartbeats 4000000 in
theorem mm_X3_serve {l : Launch} {D : va_G} {cA : Nat → ClassId} {ad : Nat → Nat} {Ex : (Nat → Prop) → State → Heap → Prop} (Wd : zzWC l D cA ad Ex) : zz_Cn l D zzCl cA ad zzSC Ex yX3_serve cX3_serve 7 (some .int) 5 116 fX3_serve ∧ zz_Cx l D zzCl cA ad zzSC Ex yX3_serve cX3_serve 7 (some .int) 5 116 fX3_serve := by
  refine zz_meth (plainFor_of_name (by decide)) Wd.1 Wd.2.1 Wd.2.2.1 (fun p e R s m args below meth c rr X => ?_)
  unfold tX3_serve
  refine zz_cons (k' := 1) rfl (zk_aload_n X dX3_serve_0 rfl rfl) ?_
  refine zz_cons (k' := 2) rfl (zk_iload_n X dX3_serve_1 rfl rfl) ?_
  refine zz_cons (k' := 3) rfl (zk_iconst X dX3_serve_2 (by decide) rfl) ?_
  refine zz_cons (k' := 4) rfl (zk_callv X (zz_Cv_of (List.forall_mem_cons.mpr ⟨⟨(RX_2, zzT2, 12), yX10_isStaying, cX10_isStaying, 3, (some .boolean), 1, 22, rfl, kv_X3_19_2, (mm_X10_isStaying Wd).1, by decide, by decide⟩, (fun _ h => absurd h List.not_mem_nil)⟩)) dX3_serve_3 rfl) ?_
  refine zz_cons (k' := 5) rfl (zz_Ok_none _ _) ?_
  refine zz_cons (k' := 6) rfl (zz_Ok_none _ _) ?_
  refine zz_cons (k' := 7) rfl (zk_if_eq X dX3_serve_6 (by decide) rfl) ?_
  refine zz_cons (k' := 8) rfl (zz_Ok_none _ _) ?_
  refine zz_cons (k' := 9) rfl (zz_Ok_none _ _) ?_
  refine zz_cons (k' := 10) rfl (zk_aload_n X dX3_serve_9 rfl rfl) ?_
  refine zz_cons (k' := 11) rfl (zk_iload_n X dX3_serve_10 rfl rfl) ?_
  refine zz_cons (k' := 12) rfl (zk_iconst X dX3_serve_11 (by decide) rfl) ?_
  refine zz_cons (k' := 13) rfl (zk_callv X (zz_Cv_of (List.forall_mem_cons.mpr ⟨⟨(RX_2, zzT2, 12), yX10_read, cX10_read, 3, (some .int), 0, 0, rfl, kv_X3_9_2, (mm_X10_read Wd).1, by decide, by decide⟩, (fun _ h => absurd h List.not_mem_nil)⟩)) dX3_serve_12 rfl) ?_
  refine zz_cons (k' := 14) rfl (zz_Ok_none _ _) ?_
  refine zz_cons (k' := 15) rfl (zz_Ok_none _ _) ?_
  refine zz_cons (k' := 16) rfl (zk_iconst X dX3_serve_15 (by decide) rfl) ?_
  refine zz_cons (k' := 17) rfl (zk_icmp_ne X dX3_serve_16 (by decide) rfl) ?_
  refine zz_cons (k' := 18) rfl (zz_Ok_none _ _) ?_
  refine zz_cons (k' := 19) rfl (zz_Ok_none _ _) ?_
  refine zz_cons (k' := 20) rfl (zk_iconst X dX3_serve_19 (by decide) rfl) ?_
  refine zz_cons (k' := 21) rfl (zk_iret X rfl dX3_serve_20) ?_
  refine zz_cons (k' := 22) rfl (zk_aload_n X dX3_serve_21 rfl rfl) ?_
  refine zz_cons (k' := 23) rfl (zk_iload_n X dX3_serve_22 rfl rfl) ?_
  refine zz_cons (k' := 24) rfl (zk_callv X (zz_Cv_of (List.forall_mem_cons.mpr ⟨⟨(RX_2, zzT2, 12), yX10_newSetOf, cX10_newSetOf, 4, (some .int), 2, 45, rfl, kv_X3_23_2, (mm_X10_newSetOf Wd).1, by decide, by decide⟩, (fun _ h => absurd h List.not_mem_nil)⟩)) dX3_serve_23 rfl) ?_
  refine zz_cons (k' := 25) rfl (zz_Ok_none _ _) ?_
  refine zz_cons (k' := 26) rfl (zz_Ok_none _ _) ?_
  refine zz_cons (k' := 27) rfl (zk_istore_n X dX3_serve_26 rfl (by decide) rfl) ?_
  refine zz_cons (k' := 28) rfl (zk_iload_n X dX3_serve_27 rfl rfl) ?_
  refine zz_cons (k' := 29) rfl (zk_iconst X dX3_serve_28 (by decide) rfl) ?_
  refine zz_cons (k' := 30) rfl (zk_icmp_ne X dX3_serve_29 (by decide) rfl) ?_
  refine zz_cons (k' := 31) rfl (zz_Ok_none _ _) ?_
  refine zz_cons (k' := 32) rfl (zz_Ok_none _ _) ?_
  refine zz_cons (k' := 33) rfl (zk_aload_n X dX3_serve_32 rfl rfl) ?_
  refine zz_cons (k' := 34) rfl (zk_iload_n X dX3_serve_33 rfl rfl) ?_
  refine zz_cons (k' := 35) rfl (zk_iconst X dX3_serve_34 (by decide) rfl) ?_
  refine zz_cons (k' := 36) rfl (zk_callv X (zz_Cv_of (List.forall_mem_cons.mpr ⟨⟨(RX_2, zzT2, 12), yX2_makeFor, cX2_makeFor, 3, (some .boolean), 3, 75, rfl, kv_X3_27_2, (mm_X2_makeFor Wd).1, by decide, by decide⟩, (fun _ h => absurd h List.not_mem_nil)⟩)) dX3_serve_35 rfl) ?_
  refine zz_cons (k' := 37) rfl (zz_Ok_none _ _) ?_
  refine zz_cons (k' := 38) rfl (zz_Ok_none _ _) ?_
  refine zz_cons (k' := 39) rfl (zk_calls X ks_X3_30 (mm_X2_outcomeOf Wd).1 (by decide) dX3_serve_38 rfl) ?_
  refine zz_cons (k' := 40) rfl (zz_Ok_none _ _) ?_
  refine zz_cons (k' := 41) rfl (zz_Ok_none _ _) ?_
  refine zz_cons (k' := 42) rfl (zk_iret X rfl dX3_serve_41) ?_
  refine zz_cons (k' := 43) rfl (zk_aload_n X dX3_serve_42 rfl rfl) ?_
  refine zz_cons (k' := 44) rfl (zk_iload_n X dX3_serve_43 rfl rfl) ?_
  refine zz_cons (k' := 45) rfl (zk_iconst X dX3_serve_44 (by decide) rfl) ?_
  refine zz_cons (k' := 46) rfl (zk_callv X (zz_Cv_of (List.forall_mem_cons.mpr ⟨⟨(RX_2, zzT2, 12), yX10_read, cX10_read, 3, (some .int), 0, 0, rfl, kv_X3_9_2, (mm_X10_read Wd).1, by decide, by decide⟩, (fun _ h => absurd h List.not_mem_nil)⟩)) dX3_serve_45 rfl) ?_
  refine zz_cons (k' := 47) rfl (zz_Ok_none _ _) ?_
  refine zz_cons (k' := 48) rfl (zz_Ok_none _ _) ?_
  refine zz_cons (k' := 49) rfl (zk_istore_n X dX3_serve_48 rfl (by decide) rfl) ?_
  refine zz_cons (k' := 50) rfl (zk_aload_n X dX3_serve_49 rfl rfl) ?_
  refine zz_cons (k' := 51) rfl (zk_iload_n X dX3_serve_50 rfl rfl) ?_
  refine zz_cons (k' := 52) rfl (zk_iconst X dX3_serve_51 (by decide) rfl) ?_
  refine zz_cons (k' := 53) rfl (zk_callv X (zz_Cv_of (List.forall_mem_cons.mpr ⟨⟨(RX_2, zzT2, 12), yX10_read, cX10_read, 3, (some .int), 0, 0, rfl, kv_X3_9_2, (mm_X10_read Wd).1, by decide, by decide⟩, (fun _ h => absurd h List.not_mem_nil)⟩)) dX3_serve_52 rfl) ?_
  refine zz_cons (k' := 54) rfl (zz_Ok_none _ _) ?_
  refine zz_cons (k' := 55) rfl (zz_Ok_none _ _) ?_
  refine zz_cons (k' := 56) rfl (zk_istore X dX3_serve_55 (by decide) rfl) ?_
  refine zz_cons (k' := 57) rfl (zz_Ok_none _ _) ?_
  refine zz_cons (k' := 58) rfl (zk_iload X dX3_serve_57 rfl) ?_
  refine zz_cons (k' := 59) rfl (zz_Ok_none _ _) ?_
  refine zz_cons (k' := 60) rfl (zk_iload_n X dX3_serve_59 rfl rfl) ?_
  refine zz_cons (k' := 61) rfl (zk_icmp_le X dX3_serve_60 (by decide) rfl) ?_
  refine zz_cons (k' := 62) rfl (zz_Ok_none _ _) ?_
  refine zz_cons (k' := 63) rfl (zz_Ok_none _ _) ?_
  refine zz_cons (k' := 64) rfl (zk_aload_n X dX3_serve_63 rfl rfl) ?_
  refine zz_cons (k' := 65) rfl (zk_iload_n X dX3_serve_64 rfl rfl) ?_
  refine zz_cons (k' := 66) rfl (zk_iload_n X dX3_serve_65 rfl rfl) ?_
  refine zz_cons (k' := 67) rfl (zk_callv X (zz_Cv_of (List.forall_mem_cons.mpr ⟨⟨(RX_2, zzT2, 12), yX2_want, cX2_want, 3, (some .boolean), 3, 74, rfl, kv_X3_34_2, (mm_X2_want Wd).1, by decide, by decide⟩, (fun _ h => absurd h List.not_mem_nil)⟩)) dX3_serve_66 rfl) ?_
  refine zz_cons (k' := 68) rfl (zz_Ok_none _ _) ?_
  refine zz_cons (k' := 69) rfl (zz_Ok_none _ _) ?_
  refine zz_cons (k' := 70) rfl (zk_calls X ks_X3_30 (mm_X2_outcomeOf Wd).1 (by decide) dX3_serve_69 rfl) ?_
  refine zz_cons (k' := 71) rfl (zz_Ok_none _ _) ?_
  refine zz_cons (k' := 72) rfl (zz_Ok_none _ _) ?_
  refine zz_cons (k' := 73) rfl (zk_iret X rfl dX3_serve_72) ?_
  refine zz_cons (k' := 74) rfl (zk_iload_n X dX3_serve_73 rfl rfl) ?_
  refine zz_cons (k' := 75) rfl (zk_aload_n X dX3_serve_74 rfl rfl) ?_
  refine zz_cons (k' := 76) rfl (zk_iload_n X dX3_serve_75 rfl rfl) ?_
  refine zz_cons (k' := 77) rfl (zk_iconst X dX3_serve_76 (by decide) rfl) ?_
  refine zz_cons (k' := 78) rfl (zk_callv X (zz_Cv_of (List.forall_mem_cons.mpr ⟨⟨(RX_2, zzT2, 12), yX10_read, cX10_read, 3, (some .int), 0, 0, rfl, kv_X3_9_2, (mm_X10_read Wd).1, by decide, by decide⟩, (fun _ h => absurd h List.not_mem_nil)⟩)) dX3_serve_77 rfl) ?_
  refine zz_cons (k' := 79) rfl (zz_Ok_none _ _) ?_
  refine zz_cons (k' := 80) rfl (zz_Ok_none _ _) ?_
  refine zz_cons (k' := 81) rfl (zk_iadd X dX3_serve_80 rfl) ?_
  refine zz_cons (k' := 82) rfl (zk_aload_n X dX3_serve_81 rfl rfl) ?_
  refine zz_cons (k' := 83) rfl (zk_iload_n X dX3_serve_82 rfl rfl) ?_
  refine zz_cons (k' := 84) rfl (zk_callv X (zz_Cv_of (List.forall_mem_cons.mpr ⟨⟨(RX_2, zzT2, 12), yX3_wantedTogether, cX3_wantedTogether, 4, (some .int), 2, 45, rfl, kv_X3_37_2.1, (mm_X3_wantedTogether Wd).1, by decide, by decide⟩, (fun _ h => absurd h List.not_mem_nil)⟩)) dX3_serve_83 rfl) ?_
  refine zz_cons (k' := 85) rfl (zz_Ok_none _ _) ?_
  refine zz_cons (k' := 86) rfl (zz_Ok_none _ _) ?_
  refine zz_cons (k' := 87) rfl (zk_isub X dX3_serve_86 rfl) ?_
  refine zz_cons (k' := 88) rfl (zk_istore X dX3_serve_87 (by decide) rfl) ?_
  refine zz_cons (k' := 89) rfl (zz_Ok_none _ _) ?_
  refine zz_cons (k' := 90) rfl (zk_iload X dX3_serve_89 rfl) ?_
  refine zz_cons (k' := 91) rfl (zz_Ok_none _ _) ?_
  refine zz_cons (k' := 92) rfl (zk_iload_n X dX3_serve_91 rfl rfl) ?_
  refine zz_cons (k' := 93) rfl (zk_icmp_ge X dX3_serve_92 (by decide) rfl) ?_
  refine zz_cons (k' := 94) rfl (zz_Ok_none _ _) ?_
  refine zz_cons (k' := 95) rfl (zz_Ok_none _ _) ?_
  refine zz_cons (k' := 96) rfl (zk_iload X dX3_serve_95 rfl) ?_
  refine zz_cons (k' := 97) rfl (zz_Ok_none _ _) ?_
  refine zz_cons (k' := 98) rfl (zk_if_le X dX3_serve_97 (by decide) rfl) ?_
  refine zz_cons (k' := 99) rfl (zz_Ok_none _ _) ?_
  refine zz_cons (k' := 100) rfl (zz_Ok_none _ _) ?_
  refine zz_cons (k' := 101) rfl (zk_aload_n X dX3_serve_100 rfl rfl) ?_
  refine zz_cons (k' := 102) rfl (zk_iload_n X dX3_serve_101 rfl rfl) ?_
  refine zz_cons (k' := 103) rfl (zk_iload_n X dX3_serve_102 rfl rfl) ?_
  refine zz_cons (k' := 104) rfl (zk_iload X dX3_serve_103 rfl) ?_
  refine zz_cons (k' := 105) rfl (zz_Ok_none _ _) ?_
  refine zz_cons (k' := 106) rfl (zk_iload X dX3_serve_105 rfl) ?_
  refine zz_cons (k' := 107) rfl (zz_Ok_none _ _) ?_
  refine zz_cons (k' := 108) rfl (zk_iadd X dX3_serve_107 rfl) ?_
  refine zz_cons (k' := 109) rfl (zk_min X (zz_in (by decide +kernel)) (zz_in (by decide +kernel)) (zz_in (by decide +kernel)) (zz_in (by decide +kernel)) (by decide) dX3_serve_108 rfl) ?_
  refine zz_cons (k' := 110) rfl (zz_Ok_none _ _) ?_
  refine zz_cons (k' := 111) rfl (zz_Ok_none _ _) ?_
  refine zz_cons (k' := 112) rfl (zk_callv X (zz_Cv_of (List.forall_mem_cons.mpr ⟨⟨(RX_2, zzT2, 12), yX2_want, cX2_want, 3, (some .boolean), 3, 74, rfl, kv_X3_34_2, (mm_X2_want Wd).1, by decide, by decide⟩, (fun _ h => absurd h List.not_mem_nil)⟩)) dX3_serve_111 rfl) ?_
  refine zz_cons (k' := 113) rfl (zz_Ok_none _ _) ?_
  refine zz_cons (k' := 114) rfl (zz_Ok_none _ _) ?_
  refine zz_cons (k' := 115) rfl (zk_calls X ks_X3_30 (mm_X2_outcomeOf Wd).1 (by decide) dX3_serve_114 rfl) ?_
  refine zz_cons (k' := 116) rfl (zz_Ok_none _ _) ?_
  refine zz_cons (k' := 117) rfl (zz_Ok_none _ _) ?_
  refine zz_cons (k' := 118) rfl (zk_iret X rfl dX3_serve_117) ?_
  refine zz_cons (k' := 119) rfl (zk_aload_n X dX3_serve_118 rfl rfl) ?_
  refine zz_cons (k' := 120) rfl (zk_iload_n X dX3_serve_119 rfl rfl) ?_
  refine zz_cons (k' := 121) rfl (zk_iload_n X dX3_serve_120 rfl rfl) ?_
  refine zz_cons (k' := 122) rfl (zk_callv X (zz_Cv_of (List.forall_mem_cons.mpr ⟨⟨(RX_2, zzT2, 12), yX3_otherSetOf, cX3_otherSetOf, 4, (some .int), 2, 45, rfl, kv_X3_45_2.1, (mm_X3_otherSetOf Wd).1, by decide, by decide⟩, (fun _ h => absurd h List.not_mem_nil)⟩)) dX3_serve_121 rfl) ?_
  refine zz_cons (k' := 123) rfl (zz_Ok_none _ _) ?_
  refine zz_cons (k' := 124) rfl (zz_Ok_none _ _) ?_
  refine zz_cons (k' := 125) rfl (zk_istore X dX3_serve_124 (by decide) rfl) ?_
  refine zz_cons (k' := 126) rfl (zz_Ok_none _ _) ?_
  refine zz_cons (k' := 127) rfl (zk_iload X dX3_serve_126 rfl) ?_
  refine zz_cons (k' := 128) rfl (zz_Ok_none _ _) ?_
  refine zz_cons (k' := 129) rfl (zk_iconst X dX3_serve_128 (by decide) rfl) ?_
  refine zz_cons (k' := 130) rfl (zk_icmp_ne X dX3_serve_129 (by decide) rfl) ?_
  refine zz_cons (k' := 131) rfl (zz_Ok_none _ _) ?_
  refine zz_cons (k' := 132) rfl (zz_Ok_none _ _) ?_
  refine zz_cons (k' := 133) rfl (zk_iconst X dX3_serve_132 (by decide) rfl) ?_
  refine zz_cons (k' := 134) rfl (zk_goto X dX3_serve_133 (by decide)) ?_
  refine zz_cons (k' := 135) rfl (zz_Ok_none _ _) ?_
  refine zz_cons (k' := 136) rfl (zz_Ok_none _ _) ?_
  refine zz_cons (k' := 137) rfl (zk_aload_n X dX3_serve_136 rfl rfl) ?_
  refine zz_cons (k' := 138) rfl (zk_iload X dX3_serve_137 rfl) ?_
  refine zz_cons (k' := 139) rfl (zz_Ok_none _ _) ?_
  refine zz_cons (k' := 140) rfl (zk_aload_n X dX3_serve_139 rfl rfl) ?_
  refine zz_cons (k' := 141) rfl (zk_iload_n X dX3_serve_140 rfl rfl) ?_
  refine zz_cons (k' := 142) rfl (zk_iload X dX3_serve_141 rfl) ?_
  refine zz_cons (k' := 143) rfl (zz_Ok_none _ _) ?_
  refine zz_cons (k' := 144) rfl (zk_callv X (zz_Cv_of (List.forall_mem_cons.mpr ⟨⟨(RX_2, zzT2, 12), yX3_lessWanted, cX3_lessWanted, 6, (some .int), 4, 91, rfl, kv_X3_48_2.1, (mm_X3_lessWanted Wd).1, by decide, by decide⟩, (fun _ h => absurd h List.not_mem_nil)⟩)) dX3_serve_143 rfl) ?_
  refine zz_cons (k' := 145) rfl (zz_Ok_none _ _) ?_
  refine zz_cons (k' := 146) rfl (zz_Ok_none _ _) ?_
  refine zz_cons (k' := 147) rfl (zk_callv X (zz_Cv_of (List.forall_mem_cons.mpr ⟨⟨(RX_2, zzT2, 12), yX2_want, cX2_want, 3, (some .boolean), 3, 74, rfl, kv_X3_34_2, (mm_X2_want Wd).1, by decide, by decide⟩, (fun _ h => absurd h List.not_mem_nil)⟩)) dX3_serve_146 rfl) ?_
  refine zz_cons (k' := 148) rfl (zz_Ok_none _ _) ?_
  refine zz_cons (k' := 149) rfl (zz_Ok_none _ _) ?_
  refine zz_cons (k' := 150) rfl (zk_calls X ks_X3_30 (mm_X2_outcomeOf Wd).1 (by decide) dX3_serve_149 rfl) ?_
  refine zz_cons (k' := 151) rfl (zz_Ok_none _ _) ?_
  refine zz_cons (k' := 152) rfl (zz_Ok_none _ _) ?_
  refine zz_cons (k' := 153) rfl (zk_iret X rfl dX3_serve_152) ?_
  exact trivial
noncomputable def tX4_podTooMany : List zzOp := [
  zo_pushI (-1) 1,
  zo_istore 2 2,
  zo_pushI (-1) 3,
  zo_istore 3 4,
  zo_pushI 0 5,
  zo_istore 4 7,
  zo_none,
  zo_iload 4 9,
  zo_none,
  zo_aload 0 10,
  zo_getf zzSC (zz_kf [3] 2) 13,
  zo_none,
  zo_none,
  zo_icmp (fun x y => decide (y ≤ x)) 79 16,
  zo_none,
  zo_none,
  zo_aload 0 17,
  zo_iload 4 19,
  zo_none,
  zo_pushI 2 20,
  zo_iload 1 21,
  zo_callv zzSC (zz_cl [(3, fX10_isOwned)]) 3 24,
  zo_none,
  zo_none,
  zo_if (fun x => decide (x = 0)) 73 27,
  zo_none,
  zo_none,
  zo_aload 0 28,
  zo_iload 4 30,
  zo_none,
  zo_pushI 28 32,
  zo_none,
  zo_callv zzSC (zz_cl [(3, fX10_read)]) 2 35,
  zo_none,
  zo_none,
  zo_pushI (-1) 36,
  zo_icmp (fun x y => decide (¬ x = y)) 43 39,
  zo_none,
  zo_none,
  zo_pushI 2 40,
  zo_goto 59,
  zo_none,
  zo_none,
  zo_aload 0 44,
  zo_iload 4 46,
  zo_none,
  zo_pushI 29 48,
  zo_none,
  zo_callv zzSC (zz_cl [(3, fX10_read)]) 2 51,
  zo_none,
  zo_none,
  zo_if (fun x => decide (¬ x = 0)) 58 54,
  zo_none,
  zo_none,
  zo_pushI 1 55,
  zo_goto 59,
  zo_none,
  zo_none,
  zo_pushI 0 59,
  zo_istore 5 61,
  zo_none,
  zo_iload 5 63,
  zo_none,
  zo_iload 3 64,
  zo_icmp (fun x y => decide (x < y)) 73 67,
  zo_none,
  zo_none,
  zo_iload 4 69,
  zo_none,
  zo_istore 2 70,
  zo_iload 5 72,
  zo_none,
  zo_istore 3 73,
  zo_iinc 4 1 76,
  zo_none,
  zo_none,
  zo_goto 7,
  zo_none,
  zo_none,
  zo_iload 2 80,
  zo_iret false]
set_option maxRecDepth 100000 in
theorem tl_X4_podTooMany : ∀ pc, zz_Tl (tX4_podTooMany.getD pc zo_none) := by
  refine zz_Tl_mem ?_
  unfold tX4_podTooMany
  refine List.forall_mem_cons.mpr ⟨(zo_pushI_tl _ _), ?_⟩
  refine List.forall_mem_cons.mpr ⟨(zo_istore_tl _ _), ?_⟩
  refine List.forall_mem_cons.mpr ⟨(zo_pushI_tl _ _), ?_⟩
  refine List.forall_mem_cons.mpr ⟨(zo_istore_tl _ _), ?_⟩
  refine List.forall_mem_cons.mpr ⟨(zo_pushI_tl _ _), ?_⟩
  refine List.forall_mem_cons.mpr ⟨(zo_istore_tl _ _), ?_⟩
  refine List.forall_mem_cons.mpr ⟨zo_none_tl, ?_⟩
  refine List.forall_mem_cons.mpr ⟨(zo_iload_tl _ _), ?_⟩
  refine List.forall_mem_cons.mpr ⟨zo_none_tl, ?_⟩
  refine List.forall_mem_cons.mpr ⟨(zo_aload_tl _ _), ?_⟩
  refine List.forall_mem_cons.mpr ⟨(zo_getf_tl _ _ _), ?_⟩
  refine List.forall_mem_cons.mpr ⟨zo_none_tl, ?_⟩
  refine List.forall_mem_cons.mpr ⟨zo_none_tl, ?_⟩
  refine List.forall_mem_cons.mpr ⟨(zo_icmp_tl _ _ _), ?_⟩
  refine List.forall_mem_cons.mpr ⟨zo_none_tl, ?_⟩
  refine List.forall_mem_cons.mpr ⟨zo_none_tl, ?_⟩
  refine List.forall_mem_cons.mpr ⟨(zo_aload_tl _ _), ?_⟩
  refine List.forall_mem_cons.mpr ⟨(zo_iload_tl _ _), ?_⟩
  refine List.forall_mem_cons.mpr ⟨zo_none_tl, ?_⟩
  refine List.forall_mem_cons.mpr ⟨(zo_pushI_tl _ _), ?_⟩
  refine List.forall_mem_cons.mpr ⟨(zo_iload_tl _ _), ?_⟩
  refine List.forall_mem_cons.mpr ⟨(zo_callv_tl _ _ _ _), ?_⟩
  refine List.forall_mem_cons.mpr ⟨zo_none_tl, ?_⟩
  refine List.forall_mem_cons.mpr ⟨zo_none_tl, ?_⟩
  refine List.forall_mem_cons.mpr ⟨(zo_if_tl _ _ _), ?_⟩
  refine List.forall_mem_cons.mpr ⟨zo_none_tl, ?_⟩
  refine List.forall_mem_cons.mpr ⟨zo_none_tl, ?_⟩
  refine List.forall_mem_cons.mpr ⟨(zo_aload_tl _ _), ?_⟩
  refine List.forall_mem_cons.mpr ⟨(zo_iload_tl _ _), ?_⟩
  refine List.forall_mem_cons.mpr ⟨zo_none_tl, ?_⟩
  refine List.forall_mem_cons.mpr ⟨(zo_pushI_tl _ _), ?_⟩
  refine List.forall_mem_cons.mpr ⟨zo_none_tl, ?_⟩
  refine List.forall_mem_cons.mpr ⟨(zo_callv_tl _ _ _ _), ?_⟩
  refine List.forall_mem_cons.mpr ⟨zo_none_tl, ?_⟩
  refine List.forall_mem_cons.mpr ⟨zo_none_tl, ?_⟩
  refine List.forall_mem_cons.mpr ⟨(zo_pushI_tl _ _), ?_⟩
  refine List.forall_mem_cons.mpr ⟨(zo_icmp_tl _ _ _), ?_⟩
  refine List.forall_mem_cons.mpr ⟨zo_none_tl, ?_⟩
  refine List.forall_mem_cons.mpr ⟨zo_none_tl, ?_⟩
  refine List.forall_mem_cons.mpr ⟨(zo_pushI_tl _ _), ?_⟩
  refine List.forall_mem_cons.mpr ⟨(zo_goto_tl _), ?_⟩
  refine List.forall_mem_cons.mpr ⟨zo_none_tl, ?_⟩
  refine List.forall_mem_cons.mpr ⟨zo_none_tl, ?_⟩
  refine List.forall_mem_cons.mpr ⟨(zo_aload_tl _ _), ?_⟩
  refine List.forall_mem_cons.mpr ⟨(zo_iload_tl _ _), ?_⟩
  refine List.forall_mem_cons.mpr ⟨zo_none_tl, ?_⟩
  refine List.forall_mem_cons.mpr ⟨(zo_pushI_tl _ _), ?_⟩
  refine List.forall_mem_cons.mpr ⟨zo_none_tl, ?_⟩
  refine List.forall_mem_cons.mpr ⟨(zo_callv_tl _ _ _ _), ?_⟩
  refine List.forall_mem_cons.mpr ⟨zo_none_tl, ?_⟩
  refine List.forall_mem_cons.mpr ⟨zo_none_tl, ?_⟩
  refine List.forall_mem_cons.mpr ⟨(zo_if_tl _ _ _), ?_⟩
  refine List.forall_mem_cons.mpr ⟨zo_none_tl, ?_⟩
  refine List.forall_mem_cons.mpr ⟨zo_none_tl, ?_⟩
  refine List.forall_mem_cons.mpr ⟨(zo_pushI_tl _ _), ?_⟩
  refine List.forall_mem_cons.mpr ⟨(zo_goto_tl _), ?_⟩
  refine List.forall_mem_cons.mpr ⟨zo_none_tl, ?_⟩
  refine List.forall_mem_cons.mpr ⟨zo_none_tl, ?_⟩
  refine List.forall_mem_cons.mpr ⟨(zo_pushI_tl _ _), ?_⟩
  refine List.forall_mem_cons.mpr ⟨(zo_istore_tl _ _), ?_⟩
  refine List.forall_mem_cons.mpr ⟨zo_none_tl, ?_⟩
  refine List.forall_mem_cons.mpr ⟨(zo_iload_tl _ _), ?_⟩
  refine List.forall_mem_cons.mpr ⟨zo_none_tl, ?_⟩
  refine List.forall_mem_cons.mpr ⟨(zo_iload_tl _ _), ?_⟩
  refine List.forall_mem_cons.mpr ⟨(zo_icmp_tl _ _ _), ?_⟩
  refine List.forall_mem_cons.mpr ⟨zo_none_tl, ?_⟩
  refine List.forall_mem_cons.mpr ⟨zo_none_tl, ?_⟩
  refine List.forall_mem_cons.mpr ⟨(zo_iload_tl _ _), ?_⟩
  refine List.forall_mem_cons.mpr ⟨zo_none_tl, ?_⟩
  refine List.forall_mem_cons.mpr ⟨(zo_istore_tl _ _), ?_⟩
  refine List.forall_mem_cons.mpr ⟨(zo_iload_tl _ _), ?_⟩
  refine List.forall_mem_cons.mpr ⟨zo_none_tl, ?_⟩
  refine List.forall_mem_cons.mpr ⟨(zo_istore_tl _ _), ?_⟩
  refine List.forall_mem_cons.mpr ⟨(zo_iinc_tl _ _ _), ?_⟩
  refine List.forall_mem_cons.mpr ⟨zo_none_tl, ?_⟩
  refine List.forall_mem_cons.mpr ⟨zo_none_tl, ?_⟩
  refine List.forall_mem_cons.mpr ⟨(zo_goto_tl _), ?_⟩
  refine List.forall_mem_cons.mpr ⟨zo_none_tl, ?_⟩
  refine List.forall_mem_cons.mpr ⟨zo_none_tl, ?_⟩
  refine List.forall_mem_cons.mpr ⟨(zo_iload_tl _ _), ?_⟩
  refine List.forall_mem_cons.mpr ⟨(zo_iret_tl _), ?_⟩
  exact fun _ h => absurd h List.not_mem_nil
noncomputable def fX4_podTooMany : zzFn := zz_fn tX4_podTooMany 6
set_option maxRecDepth 100000 in
set_option maxHeartbeats 4000000 in
theorem mm_X4_podTooMany {l : Launch} {D : va_G} {cA : Nat → ClassId} {ad : Nat → Nat} {Ex : (Nat → Prop) → State → Heap → Prop} (Wd : zzWC l D cA ad Ex) : zz_Cn l D zzCl cA ad zzSC Ex yX4_podTooMany cX4_podTooMany 6 (some .int) 2 45 fX4_podTooMany ∧ zz_Cx l D zzCl cA ad zzSC Ex yX4_podTooMany cX4_podTooMany 6 (some .int) 2 45 fX4_podTooMany := by
  refine zz_meth (plainFor_of_name (by decide)) Wd.1 Wd.2.1 Wd.2.2.1 (fun p e R s m args below meth c rr X => ?_)
  unfold tX4_podTooMany
  refine zz_cons (k' := 1) rfl (zk_iconst X dX4_podTooMany_0 (by decide) rfl) ?_
  refine zz_cons (k' := 2) rfl (zk_istore_n X dX4_podTooMany_1 rfl (by decide) rfl) ?_
  refine zz_cons (k' := 3) rfl (zk_iconst X dX4_podTooMany_2 (by decide) rfl) ?_
  refine zz_cons (k' := 4) rfl (zk_istore_n X dX4_podTooMany_3 rfl (by decide) rfl) ?_
  refine zz_cons (k' := 5) rfl (zk_iconst X dX4_podTooMany_4 (by decide) rfl) ?_
  refine zz_cons (k' := 6) rfl (zk_istore X dX4_podTooMany_5 (by decide) rfl) ?_
  refine zz_cons (k' := 7) rfl (zz_Ok_none _ _) ?_
  refine zz_cons (k' := 8) rfl (zk_iload X dX4_podTooMany_7 rfl) ?_
  refine zz_cons (k' := 9) rfl (zz_Ok_none _ _) ?_
  refine zz_cons (k' := 10) rfl (zk_aload_n X dX4_podTooMany_9 rfl rfl) ?_
  refine zz_cons (k' := 11) rfl (zk_getf X ff_X4_34 dX4_podTooMany_10 rfl) ?_
  refine zz_cons (k' := 12) rfl (zz_Ok_none _ _) ?_
  refine zz_cons (k' := 13) rfl (zz_Ok_none _ _) ?_
  refine zz_cons (k' := 14) rfl (zk_icmp_ge X dX4_podTooMany_13 (by decide) rfl) ?_
  refine zz_cons (k' := 15) rfl (zz_Ok_none _ _) ?_
  refine zz_cons (k' := 16) rfl (zz_Ok_none _ _) ?_
  refine zz_cons (k' := 17) rfl (zk_aload_n X dX4_podTooMany_16 rfl rfl) ?_
  refine zz_cons (k' := 18) rfl (zk_iload X dX4_podTooMany_17 rfl) ?_
  refine zz_cons (k' := 19) rfl (zz_Ok_none _ _) ?_
  refine zz_cons (k' := 20) rfl (zk_iconst X dX4_podTooMany_19 (by decide) rfl) ?_
  refine zz_cons (k' := 21) rfl (zk_iload_n X dX4_podTooMany_20 rfl rfl) ?_
  refine zz_cons (k' := 22) rfl (zk_callv X (zz_Cv_of (List.forall_mem_cons.mpr ⟨⟨(RX_3, zzT3, 12), yX10_isOwned, cX10_isOwned, 4, (some .boolean), 1, 22, rfl, kv_X4_37_3, (mm_X10_isOwned Wd).1, by decide, by decide⟩, (fun _ h => absurd h List.not_mem_nil)⟩)) dX4_podTooMany_21 rfl) ?_
  refine zz_cons (k' := 23) rfl (zz_Ok_none _ _) ?_
  refine zz_cons (k' := 24) rfl (zz_Ok_none _ _) ?_
  refine zz_cons (k' := 25) rfl (zk_if_eq X dX4_podTooMany_24 (by decide) rfl) ?_
  refine zz_cons (k' := 26) rfl (zz_Ok_none _ _) ?_
  refine zz_cons (k' := 27) rfl (zz_Ok_none _ _) ?_
  refine zz_cons (k' := 28) rfl (zk_aload_n X dX4_podTooMany_27 rfl rfl) ?_
  refine zz_cons (k' := 29) rfl (zk_iload X dX4_podTooMany_28 rfl) ?_
  refine zz_cons (k' := 30) rfl (zz_Ok_none _ _) ?_
  refine zz_cons (k' := 31) rfl (zk_bipush X dX4_podTooMany_30 (by decide) rfl) ?_
  refine zz_cons (k' := 32) rfl (zz_Ok_none _ _) ?_
  refine zz_cons (k' := 33) rfl (zk_callv X (zz_Cv_of (List.forall_mem_cons.mpr ⟨⟨(RX_3, zzT3, 12), yX10_read, cX10_read, 3, (some .int), 0, 0, rfl, kv_X4_9_3, (mm_X10_read Wd).1, by decide, by decide⟩, (fun _ h => absurd h List.not_mem_nil)⟩)) dX4_podTooMany_32 rfl) ?_
  refine zz_cons (k' := 34) rfl (zz_Ok_none _ _) ?_
  refine zz_cons (k' := 35) rfl (zz_Ok_none _ _) ?_
  refine zz_cons (k' := 36) rfl (zk_iconst X dX4_podTooMany_35 (by decide) rfl) ?_
  refine zz_cons (k' := 37) rfl (zk_icmp_ne X dX4_podTooMany_36 (by decide) rfl) ?_
  refine zz_cons (k' := 38) rfl (zz_Ok_none _ _) ?_
  refine zz_cons (k' := 39) rfl (zz_Ok_none _ _) ?_
  refine zz_cons (k' := 40) rfl (zk_iconst X dX4_podTooMany_39 (by decide) rfl) ?_
  refine zz_cons (k' := 41) rfl (zk_goto X dX4_podTooMany_40 (by decide)) ?_
  refine zz_cons (k' := 42) rfl (zz_Ok_none _ _) ?_
  refine zz_cons (k' := 43) rfl (zz_Ok_none _ _) ?_
  refine zz_cons (k' := 44) rfl (zk_aload_n X dX4_podTooMany_43 rfl rfl) ?_
  refine zz_cons (k' := 45) rfl (zk_iload X dX4_podTooMany_44 rfl) ?_
  refine zz_cons (k' := 46) rfl (zz_Ok_none _ _) ?_
  refine zz_cons (k' := 47) rfl (zk_bipush X dX4_podTooMany_46 (by decide) rfl) ?_
  refine zz_cons (k' := 48) rfl (zz_Ok_none _ _) ?_
  refine zz_cons (k' := 49) rfl (zk_callv X (zz_Cv_of (List.forall_mem_cons.mpr ⟨⟨(RX_3, zzT3, 12), yX10_read, cX10_read, 3, (some .int), 0, 0, rfl, kv_X4_9_3, (mm_X10_read Wd).1, by decide, by decide⟩, (fun _ h => absurd h List.not_mem_nil)⟩)) dX4_podTooMany_48 rfl) ?_
  refine zz_cons (k' := 50) rfl (zz_Ok_none _ _) ?_
  refine zz_cons (k' := 51) rfl (zz_Ok_none _ _) ?_
  refine zz_cons (k' := 52) rfl (zk_if_ne X dX4_podTooMany_51 (by decide) rfl) ?_
  refine zz_cons (k' := 53) rfl (zz_Ok_none _ _) ?_
  refine zz_cons (k' := 54) rfl (zz_Ok_none _ _) ?_
  refine zz_cons (k' := 55) rfl (zk_iconst X dX4_podTooMany_54 (by decide) rfl) ?_
  refine zz_cons (k' := 56) rfl (zk_goto X dX4_podTooMany_55 (by decide)) ?_
  refine zz_cons (k' := 57) rfl (zz_Ok_none _ _) ?_
  refine zz_cons (k' := 58) rfl (zz_Ok_none _ _) ?_
  refine zz_cons (k' := 59) rfl (zk_iconst X dX4_podTooMany_58 (by decide) rfl) ?_
  refine zz_cons (k' := 60) rfl (zk_istore X dX4_podTooMany_59 (by decide) rfl) ?_
  refine zz_cons (k' := 61) rfl (zz_Ok_none _ _) ?_
  refine zz_cons (k' := 62) rfl (zk_iload X dX4_podTooMany_61 rfl) ?_
  refine zz_cons (k' := 63) rfl (zz_Ok_none _ _) ?_
  refine zz_cons (k' := 64) rfl (zk_iload_n X dX4_podTooMany_63 rfl rfl) ?_
  refine zz_cons (k' := 65) rfl (zk_icmp_lt X dX4_podTooMany_64 (by decide) rfl) ?_
  refine zz_cons (k' := 66) rfl (zz_Ok_none _ _) ?_
  refine zz_cons (k' := 67) rfl (zz_Ok_none _ _) ?_
  refine zz_cons (k' := 68) rfl (zk_iload X dX4_podTooMany_67 rfl) ?_
  refine zz_cons (k' := 69) rfl (zz_Ok_none _ _) ?_
  refine zz_cons (k' := 70) rfl (zk_istore_n X dX4_podTooMany_69 rfl (by decide) rfl) ?_
  refine zz_cons (k' := 71) rfl (zk_iload X dX4_podTooMany_70 rfl) ?_
  refine zz_cons (k' := 72) rfl (zz_Ok_none _ _) ?_
  refine zz_cons (k' := 73) rfl (zk_istore_n X dX4_podTooMany_72 rfl (by decide) rfl) ?_
  refine zz_cons (k' := 74) rfl (zk_iinc X dX4_podTooMany_73 (by decide) (by decide) rfl) ?_
  refine zz_cons (k' := 75) rfl (zz_Ok_none _ _) ?_
  refine zz_cons (k' := 76) rfl (zz_Ok_none _ _) ?_
  refine zz_cons (k' := 77) rfl (zk_goto X dX4_podTooMany_76 (by decide)) ?_
  refine zz_cons (k' := 78) rfl (zz_Ok_none _ _) ?_
  refine zz_cons (k' := 79) rfl (zz_Ok_none _ _) ?_
  refine zz_cons (k' := 80) rfl (zk_iload_n X dX4_podTooMany_79 rfl rfl) ?_
  refine zz_cons (k' := 81) rfl (zk_iret X rfl dX4_podTooMany_80) ?_
  exact trivial
noncomputable def tX4_serveSet : List zzOp := [
  zo_pushI 0 1,
  zo_istore 2 2,
  zo_pushI 0 3,
  zo_istore 3 4,
  zo_iload 3 5,
  zo_aload 0 6,
  zo_getf zzSC (zz_kf [3] 2) 9,
  zo_none,
  zo_none,
  zo_icmp (fun x y => decide (y ≤ x)) 62 12,
  zo_none,
  zo_none,
  zo_aload 0 13,
  zo_iload 3 14,
  zo_pushI 2 15,
  zo_iload 1 16,
  zo_callv zzSC (zz_cl [(3, fX10_isOwned)]) 3 19,
  zo_none,
  zo_none,
  zo_if (fun x => decide (x = 0)) 56 22,
  zo_none,
  zo_none,
  zo_iinc 2 1 25,
  zo_none,
  zo_none,
  zo_aload 0 26,
  zo_iload 3 27,
  zo_pushI 29 29,
  zo_none,
  zo_callv zzSC (zz_cl [(3, fX10_read)]) 2 32,
  zo_none,
  zo_none,
  zo_pushI 2 33,
  zo_icmp (fun x y => decide (x = y)) 47 36,
  zo_none,
  zo_none,
  zo_aload 0 37,
  zo_iload 3 38,
  zo_pushI 29 40,
  zo_none,
  zo_callv zzSC (zz_cl [(3, fX10_read)]) 2 43,
  zo_none,
  zo_none,
  zo_pushI 3 44,
  zo_icmp (fun x y => decide (¬ x = y)) 56 47,
  zo_none,
  zo_none,
  zo_aload 0 48,
  zo_iload 3 49,
  zo_callv zzSC (zz_cl [(3, fX2_remove)]) 1 52,
  zo_none,
  zo_none,
  zo_calls fX2_outcomeOf 1 55,
  zo_none,
  zo_none,
  zo_iret false,
  zo_iinc 3 1 59,
  zo_none,
  zo_none,
  zo_goto 4,
  zo_none,
  zo_none,
  zo_iload 2 63,
  zo_aload 0 64,
  zo_iload 1 65,
  zo_pushI 0 66,
  zo_callv zzSC (zz_cl [(3, fX10_read)]) 2 69,
  zo_none,
  zo_none,
  zo_icmp (fun x y => decide (y ≤ x)) 82 72,
  zo_none,
  zo_none,
  zo_aload 0 73,
  zo_iload 1 74,
  zo_pushI 2 75,
  zo_callv zzSC (zz_cl [(3, fX2_makeFor)]) 2 78,
  zo_none,
  zo_none,
  zo_calls fX2_outcomeOf 1 81,
  zo_none,
  zo_none,
  zo_iret false,
  zo_iload 2 83,
  zo_aload 0 84,
  zo_iload 1 85,
  zo_pushI 0 86,
  zo_callv zzSC (zz_cl [(3, fX10_read)]) 2 89,
  zo_none,
  zo_none,
  zo_icmp (fun x y => decide (x ≤ y)) 107 92,
  zo_none,
  zo_none,
  zo_aload 0 93,
  zo_aload 0 94,
  zo_iload 1 95,
  zo_callv zzSC (zz_cl [(3, fX4_podTooMany)]) 1 98,
  zo_none,
  zo_none,
  zo_callv zzSC (zz_cl [(3, fX2_remove)]) 1 101,
  zo_none,
  zo_none,
  zo_calls fX2_outcomeOf 1 104,
  zo_none,
  zo_none,
  zo_goto 108,
  zo_none,
  zo_none,
  zo_pushI 1 108,
  zo_iret false]
set_option maxRecDepth 100000 in
theorem tl_X4_serveSet : ∀ pc, zz_Tl (tX4_serveSet.getD pc zo_none) := by
  refine zz_Tl_mem ?_
  unfold tX4_serveSet
  refine List.forall_mem_cons.mpr ⟨(zo_pushI_tl _ _), ?_⟩
  refine List.forall_mem_cons.mpr ⟨(zo_istore_tl _ _), ?_⟩
  refine List.forall_mem_cons.mpr ⟨(zo_pushI_tl _ _), ?_⟩
  refine List.forall_mem_cons.mpr ⟨(zo_istore_tl _ _), ?_⟩
  refine List.forall_mem_cons.mpr ⟨(zo_iload_tl _ _), ?_⟩
  refine List.forall_mem_cons.mpr ⟨(zo_aload_tl _ _), ?_⟩
  refine List.forall_mem_cons.mpr ⟨(zo_getf_tl _ _ _), ?_⟩
  refine List.forall_mem_cons.mpr ⟨zo_none_tl, ?_⟩
  refine List.forall_mem_cons.mpr ⟨zo_none_tl, ?_⟩
  refine List.forall_mem_cons.mpr ⟨(zo_icmp_tl _ _ _), ?_⟩
  refine List.forall_mem_cons.mpr ⟨zo_none_tl, ?_⟩
  refine List.forall_mem_cons.mpr ⟨zo_none_tl, ?_⟩
  refine List.forall_mem_cons.mpr ⟨(zo_aload_tl _ _), ?_⟩
  refine List.forall_mem_cons.mpr ⟨(zo_iload_tl _ _), ?_⟩
  refine List.forall_mem_cons.mpr ⟨(zo_pushI_tl _ _), ?_⟩
  refine List.forall_mem_cons.mpr ⟨(zo_iload_tl _ _), ?_⟩
  refine List.forall_mem_cons.mpr ⟨(zo_callv_tl _ _ _ _), ?_⟩
  refine List.forall_mem_cons.mpr ⟨zo_none_tl, ?_⟩
  refine List.forall_mem_cons.mpr ⟨zo_none_tl, ?_⟩
  refine List.forall_mem_cons.mpr ⟨(zo_if_tl _ _ _), ?_⟩
  refine List.forall_mem_cons.mpr ⟨zo_none_tl, ?_⟩
  refine List.forall_mem_cons.mpr ⟨zo_none_tl, ?_⟩
  refine List.forall_mem_cons.mpr ⟨(zo_iinc_tl _ _ _), ?_⟩
  refine List.forall_mem_cons.mpr ⟨zo_none_tl, ?_⟩
  refine List.forall_mem_cons.mpr ⟨zo_none_tl, ?_⟩
  refine List.forall_mem_cons.mpr ⟨(zo_aload_tl _ _), ?_⟩
  refine List.forall_mem_cons.mpr ⟨(zo_iload_tl _ _), ?_⟩
  refine List.forall_mem_cons.mpr ⟨(zo_pushI_tl _ _), ?_⟩
  refine List.forall_mem_cons.mpr ⟨zo_none_tl, ?_⟩
  refine List.forall_mem_cons.mpr ⟨(zo_callv_tl _ _ _ _), ?_⟩
  refine List.forall_mem_cons.mpr ⟨zo_none_tl, ?_⟩
  refine List.forall_mem_cons.mpr ⟨zo_none_tl, ?_⟩
  refine List.forall_mem_cons.mpr ⟨(zo_pushI_tl _ _), ?_⟩
  refine List.forall_mem_cons.mpr ⟨(zo_icmp_tl _ _ _), ?_⟩
  refine List.forall_mem_cons.mpr ⟨zo_none_tl, ?_⟩
  refine List.forall_mem_cons.mpr ⟨zo_none_tl, ?_⟩
  refine List.forall_mem_cons.mpr ⟨(zo_aload_tl _ _), ?_⟩
  refine List.forall_mem_cons.mpr ⟨(zo_iload_tl _ _), ?_⟩
  refine List.forall_mem_cons.mpr ⟨(zo_pushI_tl _ _), ?_⟩
  refine List.forall_mem_cons.mpr ⟨zo_none_tl, ?_⟩
  refine List.forall_mem_cons.mpr ⟨(zo_callv_tl _ _ _ _), ?_⟩
  refine List.forall_mem_cons.mpr ⟨zo_none_tl, ?_⟩
  refine List.forall_mem_cons.mpr ⟨zo_none_tl, ?_⟩
  refine List.forall_mem_cons.mpr ⟨(zo_pushI_tl _ _), ?_⟩
  refine List.forall_mem_cons.mpr ⟨(zo_icmp_tl _ _ _), ?_⟩
  refine List.forall_mem_cons.mpr ⟨zo_none_tl, ?_⟩
  refine List.forall_mem_cons.mpr ⟨zo_none_tl, ?_⟩
  refine List.forall_mem_cons.mpr ⟨(zo_aload_tl _ _), ?_⟩
  refine List.forall_mem_cons.mpr ⟨(zo_iload_tl _ _), ?_⟩
  refine List.forall_mem_cons.mpr ⟨(zo_callv_tl _ _ _ _), ?_⟩
  refine List.forall_mem_cons.mpr ⟨zo_none_tl, ?_⟩
  refine List.forall_mem_cons.mpr ⟨zo_none_tl, ?_⟩
  refine List.forall_mem_cons.mpr ⟨(zo_calls_tl _ _ _), ?_⟩
  refine List.forall_mem_cons.mpr ⟨zo_none_tl, ?_⟩
  refine List.forall_mem_cons.mpr ⟨zo_none_tl, ?_⟩
  refine List.forall_mem_cons.mpr ⟨(zo_iret_tl _), ?_⟩
  refine List.forall_mem_cons.mpr ⟨(zo_iinc_tl _ _ _), ?_⟩
  refine List.forall_mem_cons.mpr ⟨zo_none_tl, ?_⟩
  refine List.forall_mem_cons.mpr ⟨zo_none_tl, ?_⟩
  refine List.forall_mem_cons.mpr ⟨(zo_goto_tl _), ?_⟩
  refine List.forall_mem_cons.mpr ⟨zo_none_tl, ?_⟩
  refine List.forall_mem_cons.mpr ⟨zo_none_tl, ?_⟩
  refine List.forall_mem_cons.mpr ⟨(zo_iload_tl _ _), ?_⟩
  refine List.forall_mem_cons.mpr ⟨(zo_aload_tl _ _), ?_⟩
  refine List.forall_mem_cons.mpr ⟨(zo_iload_tl _ _), ?_⟩
  refine List.forall_mem_cons.mpr ⟨(zo_pushI_tl _ _), ?_⟩
  refine List.forall_mem_cons.mpr ⟨(zo_callv_tl _ _ _ _), ?_⟩
  refine List.forall_mem_cons.mpr ⟨zo_none_tl, ?_⟩
  refine List.forall_mem_cons.mpr ⟨zo_none_tl, ?_⟩
  refine List.forall_mem_cons.mpr ⟨(zo_icmp_tl _ _ _), ?_⟩
  refine List.forall_mem_cons.mpr ⟨zo_none_tl, ?_⟩
  refine List.forall_mem_cons.mpr ⟨zo_none_tl, ?_⟩
  refine List.forall_mem_cons.mpr ⟨(zo_aload_tl _ _), ?_⟩
  refine List.forall_mem_cons.mpr ⟨(zo_iload_tl _ _), ?_⟩
  refine List.forall_mem_cons.mpr ⟨(zo_pushI_tl _ _), ?_⟩
  refine List.forall_mem_cons.mpr ⟨(zo_callv_tl _ _ _ _), ?_⟩
  refine List.forall_mem_cons.mpr ⟨zo_none_tl, ?_⟩
  refine List.forall_mem_cons.mpr ⟨zo_none_tl, ?_⟩
  refine List.forall_mem_cons.mpr ⟨(zo_calls_tl _ _ _), ?_⟩
  refine List.forall_mem_cons.mpr ⟨zo_none_tl, ?_⟩
  refine List.forall_mem_cons.mpr ⟨zo_none_tl, ?_⟩
  refine List.forall_mem_cons.mpr ⟨(zo_iret_tl _), ?_⟩
  refine List.forall_mem_cons.mpr ⟨(zo_iload_tl _ _), ?_⟩
  refine List.forall_mem_cons.mpr ⟨(zo_aload_tl _ _), ?_⟩
  refine List.forall_mem_cons.mpr ⟨(zo_iload_tl _ _), ?_⟩
  refine List.forall_mem_cons.mpr ⟨(zo_pushI_tl _ _), ?_⟩
  refine List.forall_mem_cons.mpr ⟨(zo_callv_tl _ _ _ _), ?_⟩
  refine List.forall_mem_cons.mpr ⟨zo_none_tl, ?_⟩
  refine List.forall_mem_cons.mpr ⟨zo_none_tl, ?_⟩
  refine List.forall_mem_cons.mpr ⟨(zo_icmp_tl _ _ _), ?_⟩
  refine List.forall_mem_cons.mpr ⟨zo_none_tl, ?_⟩
  refine List.forall_mem_cons.mpr ⟨zo_none_tl, ?_⟩
  refine List.forall_mem_cons.mpr ⟨(zo_aload_tl _ _), ?_⟩
  refine List.forall_mem_cons.mpr ⟨(zo_aload_tl _ _), ?_⟩
  refine List.forall_mem_cons.mpr ⟨(zo_iload_tl _ _), ?_⟩
  refine List.forall_mem_cons.mpr ⟨(zo_callv_tl _ _ _ _), ?_⟩
  refine List.forall_mem_cons.mpr ⟨zo_none_tl, ?_⟩
  refine List.forall_mem_cons.mpr ⟨zo_none_tl, ?_⟩
  refine List.forall_mem_cons.mpr ⟨(zo_callv_tl _ _ _ _), ?_⟩
  refine List.forall_mem_cons.mpr ⟨zo_none_tl, ?_⟩
  refine List.forall_mem_cons.mpr ⟨zo_none_tl, ?_⟩
  refine List.forall_mem_cons.mpr ⟨(zo_calls_tl _ _ _), ?_⟩
  refine List.forall_mem_cons.mpr ⟨zo_none_tl, ?_⟩
  refine List.forall_mem_cons.mpr ⟨zo_none_tl, ?_⟩
  refine List.forall_mem_cons.mpr ⟨(zo_goto_tl _), ?_⟩
  refine List.forall_mem_cons.mpr ⟨zo_none_tl, ?_⟩
  refine List.forall_mem_cons.mpr ⟨zo_none_tl, ?_⟩
  refine List.forall_mem_cons.mpr ⟨(zo_pushI_tl _ _), ?_⟩
  refine List.forall_mem_cons.mpr ⟨(zo_iret_tl _), ?_⟩
  exact fun _ h => absurd h List.not_mem_nil
noncomputable def fX4_serveSet : zzFn := zz_fn tX4_serveSet 4
set_option maxRecDepth 100000 in
set_option maxHeartbeats 4000000 in
theorem mm_X4_serveSet {l : Launch} {D : va_G} {cA : Nat → ClassId} {ad : Nat → Nat} {Ex : (Nat → Prop) → State → Heap → Prop} (Wd : zzWC l D cA ad Ex) : zz_Cn l D zzCl cA ad zzSC Ex yX4_serveSet cX4_serveSet 4 (some .int) 4 97 fX4_serveSet ∧ zz_Cx l D zzCl cA ad zzSC Ex yX4_serveSet cX4_serveSet 4 (some .int) 4 97 fX4_serveSet := by
  refine zz_meth (plainFor_of_name (by decide)) Wd.1 Wd.2.1 Wd.2.2.1 (fun p e R s m args below meth c rr X => ?_)
  unfold tX4_serveSet
  refine zz_cons (k' := 1) rfl (zk_iconst X dX4_serveSet_0 (by decide) rfl) ?_
  refine zz_cons (k' := 2) rfl (zk_istore_n X dX4_serveSet_1 rfl (by decide) rfl) ?_
  refine zz_cons (k' := 3) rfl (zk_iconst X dX4_serveSet_2 (by decide) rfl) ?_
  refine zz_cons (k' := 4) rfl (zk_istore_n X dX4_serveSet_3 rfl (by decide) rfl) ?_
  refine zz_cons (k' := 5) rfl (zk_iload_n X dX4_serveSet_4 rfl rfl) ?_
  refine zz_cons (k' := 6) rfl (zk_aload_n X dX4_serveSet_5 rfl rfl) ?_
  refine zz_cons (k' := 7) rfl (zk_getf X ff_X4_34 dX4_serveSet_6 rfl) ?_
  refine zz_cons (k' := 8) rfl (zz_Ok_none _ _) ?_
  refine zz_cons (k' := 9) rfl (zz_Ok_none _ _) ?_
  refine zz_cons (k' := 10) rfl (zk_icmp_ge X dX4_serveSet_9 (by decide) rfl) ?_
  refine zz_cons (k' := 11) rfl (zz_Ok_none _ _) ?_
  refine zz_cons (k' := 12) rfl (zz_Ok_none _ _) ?_
  refine zz_cons (k' := 13) rfl (zk_aload_n X dX4_serveSet_12 rfl rfl) ?_
  refine zz_cons (k' := 14) rfl (zk_iload_n X dX4_serveSet_13 rfl rfl) ?_
  refine zz_cons (k' := 15) rfl (zk_iconst X dX4_serveSet_14 (by decide) rfl) ?_
  refine zz_cons (k' := 16) rfl (zk_iload_n X dX4_serveSet_15 rfl rfl) ?_
  refine zz_cons (k' := 17) rfl (zk_callv X (zz_Cv_of (List.forall_mem_cons.mpr ⟨⟨(RX_3, zzT3, 12), yX10_isOwned, cX10_isOwned, 4, (some .boolean), 1, 22, rfl, kv_X4_37_3, (mm_X10_isOwned Wd).1, by decide, by decide⟩, (fun _ h => absurd h List.not_mem_nil)⟩)) dX4_serveSet_16 rfl) ?_
  refine zz_cons (k' := 18) rfl (zz_Ok_none _ _) ?_
  refine zz_cons (k' := 19) rfl (zz_Ok_none _ _) ?_
  refine zz_cons (k' := 20) rfl (zk_if_eq X dX4_serveSet_19 (by decide) rfl) ?_
  refine zz_cons (k' := 21) rfl (zz_Ok_none _ _) ?_
  refine zz_cons (k' := 22) rfl (zz_Ok_none _ _) ?_
  refine zz_cons (k' := 23) rfl (zk_iinc X dX4_serveSet_22 (by decide) (by decide) rfl) ?_
  refine zz_cons (k' := 24) rfl (zz_Ok_none _ _) ?_
  refine zz_cons (k' := 25) rfl (zz_Ok_none _ _) ?_
  refine zz_cons (k' := 26) rfl (zk_aload_n X dX4_serveSet_25 rfl rfl) ?_
  refine zz_cons (k' := 27) rfl (zk_iload_n X dX4_serveSet_26 rfl rfl) ?_
  refine zz_cons (k' := 28) rfl (zk_bipush X dX4_serveSet_27 (by decide) rfl) ?_
  refine zz_cons (k' := 29) rfl (zz_Ok_none _ _) ?_
  refine zz_cons (k' := 30) rfl (zk_callv X (zz_Cv_of (List.forall_mem_cons.mpr ⟨⟨(RX_3, zzT3, 12), yX10_read, cX10_read, 3, (some .int), 0, 0, rfl, kv_X4_9_3, (mm_X10_read Wd).1, by decide, by decide⟩, (fun _ h => absurd h List.not_mem_nil)⟩)) dX4_serveSet_29 rfl) ?_
  refine zz_cons (k' := 31) rfl (zz_Ok_none _ _) ?_
  refine zz_cons (k' := 32) rfl (zz_Ok_none _ _) ?_
  refine zz_cons (k' := 33) rfl (zk_iconst X dX4_serveSet_32 (by decide) rfl) ?_
  refine zz_cons (k' := 34) rfl (zk_icmp_eq X dX4_serveSet_33 (by decide) rfl) ?_
  refine zz_cons (k' := 35) rfl (zz_Ok_none _ _) ?_
  refine zz_cons (k' := 36) rfl (zz_Ok_none _ _) ?_
  refine zz_cons (k' := 37) rfl (zk_aload_n X dX4_serveSet_36 rfl rfl) ?_
  refine zz_cons (k' := 38) rfl (zk_iload_n X dX4_serveSet_37 rfl rfl) ?_
  refine zz_cons (k' := 39) rfl (zk_bipush X dX4_serveSet_38 (by decide) rfl) ?_
  refine zz_cons (k' := 40) rfl (zz_Ok_none _ _) ?_
  refine zz_cons (k' := 41) rfl (zk_callv X (zz_Cv_of (List.forall_mem_cons.mpr ⟨⟨(RX_3, zzT3, 12), yX10_read, cX10_read, 3, (some .int), 0, 0, rfl, kv_X4_9_3, (mm_X10_read Wd).1, by decide, by decide⟩, (fun _ h => absurd h List.not_mem_nil)⟩)) dX4_serveSet_40 rfl) ?_
  refine zz_cons (k' := 42) rfl (zz_Ok_none _ _) ?_
  refine zz_cons (k' := 43) rfl (zz_Ok_none _ _) ?_
  refine zz_cons (k' := 44) rfl (zk_iconst X dX4_serveSet_43 (by decide) rfl) ?_
  refine zz_cons (k' := 45) rfl (zk_icmp_ne X dX4_serveSet_44 (by decide) rfl) ?_
  refine zz_cons (k' := 46) rfl (zz_Ok_none _ _) ?_
  refine zz_cons (k' := 47) rfl (zz_Ok_none _ _) ?_
  refine zz_cons (k' := 48) rfl (zk_aload_n X dX4_serveSet_47 rfl rfl) ?_
  refine zz_cons (k' := 49) rfl (zk_iload_n X dX4_serveSet_48 rfl rfl) ?_
  refine zz_cons (k' := 50) rfl (zk_callv X (zz_Cv_of (List.forall_mem_cons.mpr ⟨⟨(RX_3, zzT3, 12), yX2_remove, cX2_remove, 2, (some .boolean), 3, 69, rfl, kv_X4_41_3, (mm_X2_remove Wd).1, by decide, by decide⟩, (fun _ h => absurd h List.not_mem_nil)⟩)) dX4_serveSet_49 rfl) ?_
  refine zz_cons (k' := 51) rfl (zz_Ok_none _ _) ?_
  refine zz_cons (k' := 52) rfl (zz_Ok_none _ _) ?_
  refine zz_cons (k' := 53) rfl (zk_calls X ks_X4_45 (mm_X2_outcomeOf Wd).1 (by decide) dX4_serveSet_52 rfl) ?_
  refine zz_cons (k' := 54) rfl (zz_Ok_none _ _) ?_
  refine zz_cons (k' := 55) rfl (zz_Ok_none _ _) ?_
  refine zz_cons (k' := 56) rfl (zk_iret X rfl dX4_serveSet_55) ?_
  refine zz_cons (k' := 57) rfl (zk_iinc X dX4_serveSet_56 (by decide) (by decide) rfl) ?_
  refine zz_cons (k' := 58) rfl (zz_Ok_none _ _) ?_
  refine zz_cons (k' := 59) rfl (zz_Ok_none _ _) ?_
  refine zz_cons (k' := 60) rfl (zk_goto X dX4_serveSet_59 (by decide)) ?_
  refine zz_cons (k' := 61) rfl (zz_Ok_none _ _) ?_
  refine zz_cons (k' := 62) rfl (zz_Ok_none _ _) ?_
  refine zz_cons (k' := 63) rfl (zk_iload_n X dX4_serveSet_62 rfl rfl) ?_
  refine zz_cons (k' := 64) rfl (zk_aload_n X dX4_serveSet_63 rfl rfl) ?_
  refine zz_cons (k' := 65) rfl (zk_iload_n X dX4_serveSet_64 rfl rfl) ?_
  refine zz_cons (k' := 66) rfl (zk_iconst X dX4_serveSet_65 (by decide) rfl) ?_
  refine zz_cons (k' := 67) rfl (zk_callv X (zz_Cv_of (List.forall_mem_cons.mpr ⟨⟨(RX_3, zzT3, 12), yX10_read, cX10_read, 3, (some .int), 0, 0, rfl, kv_X4_9_3, (mm_X10_read Wd).1, by decide, by decide⟩, (fun _ h => absurd h List.not_mem_nil)⟩)) dX4_serveSet_66 rfl) ?_
  refine zz_cons (k' := 68) rfl (zz_Ok_none _ _) ?_
  refine zz_cons (k' := 69) rfl (zz_Ok_none _ _) ?_
  refine zz_cons (k' := 70) rfl (zk_icmp_ge X dX4_serveSet_69 (by decide) rfl) ?_
  refine zz_cons (k' := 71) rfl (zz_Ok_none _ _) ?_
  refine zz_cons (k' := 72) rfl (zz_Ok_none _ _) ?_
  refine zz_cons (k' := 73) rfl (zk_aload_n X dX4_serveSet_72 rfl rfl) ?_
  refine zz_cons (k' := 74) rfl (zk_iload_n X dX4_serveSet_73 rfl rfl) ?_
  refine zz_cons (k' := 75) rfl (zk_iconst X dX4_serveSet_74 (by decide) rfl) ?_
  refine zz_cons (k' := 76) rfl (zk_callv X (zz_Cv_of (List.forall_mem_cons.mpr ⟨⟨(RX_3, zzT3, 12), yX2_makeFor, cX2_makeFor, 3, (some .boolean), 3, 75, rfl, kv_X4_49_3, (mm_X2_makeFor Wd).1, by decide, by decide⟩, (fun _ h => absurd h List.not_mem_nil)⟩)) dX4_serveSet_75 rfl) ?_
  refine zz_cons (k' := 77) rfl (zz_Ok_none _ _) ?_
  refine zz_cons (k' := 78) rfl (zz_Ok_none _ _) ?_
  refine zz_cons (k' := 79) rfl (zk_calls X ks_X4_45 (mm_X2_outcomeOf Wd).1 (by decide) dX4_serveSet_78 rfl) ?_
  refine zz_cons (k' := 80) rfl (zz_Ok_none _ _) ?_
  refine zz_cons (k' := 81) rfl (zz_Ok_none _ _) ?_
  refine zz_cons (k' := 82) rfl (zk_iret X rfl dX4_serveSet_81) ?_
  refine zz_cons (k' := 83) rfl (zk_iload_n X dX4_serveSet_82 rfl rfl) ?_
  refine zz_cons (k' := 84) rfl (zk_aload_n X dX4_serveSet_83 rfl rfl) ?_
  refine zz_cons (k' := 85) rfl (zk_iload_n X dX4_serveSet_84 rfl rfl) ?_
  refine zz_cons (k' := 86) rfl (zk_iconst X dX4_serveSet_85 (by decide) rfl) ?_
  refine zz_cons (k' := 87) rfl (zk_callv X (zz_Cv_of (List.forall_mem_cons.mpr ⟨⟨(RX_3, zzT3, 12), yX10_read, cX10_read, 3, (some .int), 0, 0, rfl, kv_X4_9_3, (mm_X10_read Wd).1, by decide, by decide⟩, (fun _ h => absurd h List.not_mem_nil)⟩)) dX4_serveSet_86 rfl) ?_
  refine zz_cons (k' := 88) rfl (zz_Ok_none _ _) ?_
  refine zz_cons (k' := 89) rfl (zz_Ok_none _ _) ?_
  refine zz_cons (k' := 90) rfl (zk_icmp_le X dX4_serveSet_89 (by decide) rfl) ?_
  refine zz_cons (k' := 91) rfl (zz_Ok_none _ _) ?_
  refine zz_cons (k' := 92) rfl (zz_Ok_none _ _) ?_
  refine zz_cons (k' := 93) rfl (zk_aload_n X dX4_serveSet_92 rfl rfl) ?_
  refine zz_cons (k' := 94) rfl (zk_aload_n X dX4_serveSet_93 rfl rfl) ?_
  refine zz_cons (k' := 95) rfl (zk_iload_n X dX4_serveSet_94 rfl rfl) ?_
  refine zz_cons (k' := 96) rfl (zk_callv X (zz_Cv_of (List.forall_mem_cons.mpr ⟨⟨(RX_3, zzT3, 12), yX4_podTooMany, cX4_podTooMany, 6, (some .int), 2, 45, rfl, kv_X4_52_3.1, (mm_X4_podTooMany Wd).1, by decide, by decide⟩, (fun _ h => absurd h List.not_mem_nil)⟩)) dX4_serveSet_95 rfl) ?_
  refine zz_cons (k' := 97) rfl (zz_Ok_none _ _) ?_
  refine zz_cons (k' := 98) rfl (zz_Ok_none _ _) ?_
  refine zz_cons (k' := 99) rfl (zk_callv X (zz_Cv_of (List.forall_mem_cons.mpr ⟨⟨(RX_3, zzT3, 12), yX2_remove, cX2_remove, 2, (some .boolean), 3, 69, rfl, kv_X4_41_3, (mm_X2_remove Wd).1, by decide, by decide⟩, (fun _ h => absurd h List.not_mem_nil)⟩)) dX4_serveSet_98 rfl) ?_
  refine zz_cons (k' := 100) rfl (zz_Ok_none _ _) ?_
  refine zz_cons (k' := 101) rfl (zz_Ok_none _ _) ?_
  refine zz_cons (k' := 102) rfl (zk_calls X ks_X4_45 (mm_X2_outcomeOf Wd).1 (by decide) dX4_serveSet_101 rfl) ?_
  refine zz_cons (k' := 103) rfl (zz_Ok_none _ _) ?_
  refine zz_cons (k' := 104) rfl (zz_Ok_none _ _) ?_
  refine zz_cons (k' := 105) rfl (zk_goto X dX4_serveSet_104 (by decide)) ?_
  refine zz_cons (k' := 106) rfl (zz_Ok_none _ _) ?_
  refine zz_cons (k' := 107) rfl (zz_Ok_none _ _) ?_
  refine zz_cons (k' := 108) rfl (zk_iconst X dX4_serveSet_107 (by decide) rfl) ?_
  refine zz_cons (k' := 109) rfl (zk_iret X rfl dX4_serveSet_108) ?_
  exact trivial
noncomputable def tX4_serveJob : List zzOp := [
  zo_pushI 0 1,
  zo_istore 2 2,
  zo_pushI 0 3,
  zo_istore 3 4,
  zo_pushI 0 5,
  zo_istore 4 7,
  zo_none,
  zo_iload 4 9,
  zo_none,
  zo_aload 0 10,
  zo_getf zzSC (zz_kf [3] 2) 13,
  zo_none,
  zo_none,
  zo_icmp (fun x y => decide (y ≤ x)) 76 16,
  zo_none,
  zo_none,
  zo_aload 0 17,
  zo_iload 4 19,
  zo_none,
  zo_pushI 2 20,
  zo_iload 1 21,
  zo_callv zzSC (zz_cl [(3, fX10_isOwned)]) 3 24,
  zo_none,
  zo_none,
  zo_if (fun x => decide (x = 0)) 70 27,
  zo_none,
  zo_none,
  zo_aload 0 28,
  zo_iload 4 30,
  zo_none,
  zo_pushI 29 32,
  zo_none,
  zo_callv zzSC (zz_cl [(3, fX10_read)]) 2 35,
  zo_none,
  zo_none,
  zo_istore 5 37,
  zo_none,
  zo_iload 2 38,
  zo_iload 5 40,
  zo_none,
  zo_pushI 2 41,
  zo_icmp (fun x y => decide (¬ x = y)) 48 44,
  zo_none,
  zo_none,
  zo_pushI 1 45,
  zo_goto 49,
  zo_none,
  zo_none,
  zo_pushI 0 49,
  zo_ii (fun x y => x + y) 50,
  zo_istore 2 51,
  zo_iload 3 52,
  zo_iload 5 54,
  zo_none,
  zo_if (fun x => decide (x = 0)) 63 57,
  zo_none,
  zo_none,
  zo_iload 5 59,
  zo_none,
  zo_pushI 1 60,
  zo_icmp (fun x y => decide (¬ x = y)) 67 63,
  zo_none,
  zo_none,
  zo_pushI 1 64,
  zo_goto 68,
  zo_none,
  zo_none,
  zo_pushI 0 68,
  zo_ii (fun x y => x + y) 69,
  zo_istore 3 70,
  zo_iinc 4 1 73,
  zo_none,
  zo_none,
  zo_goto 7,
  zo_none,
  zo_none,
  zo_iload 2 77,
  zo_iload 3 78,
  zo_ii (fun x y => x + y) 79,
  zo_aload 0 80,
  zo_iload 1 81,
  zo_pushI 0 82,
  zo_callv zzSC (zz_cl [(3, fX10_read)]) 2 85,
  zo_none,
  zo_none,
  zo_icmp (fun x y => decide (y ≤ x)) 103 88,
  zo_none,
  zo_none,
  zo_iload 3 89,
  zo_aload 0 90,
  zo_iload 1 91,
  zo_pushI 10 93,
  zo_none,
  zo_callv zzSC (zz_cl [(3, fX10_read)]) 2 96,
  zo_none,
  zo_none,
  zo_icmp (fun x y => decide (y ≤ x)) 103 99,
  zo_none,
  zo_none,
  zo_pushI 1 100,
  zo_goto 104,
  zo_none,
  zo_none,
  zo_pushI 0 104,
  zo_istore 4 106,
  zo_none,
  zo_iload 4 108,
  zo_none,
  zo_if (fun x => decide (x = 0)) 123 111,
  zo_none,
  zo_none,
  zo_aload 0 112,
  zo_iload 1 113,
  zo_pushI 2 114,
  zo_callv zzSC (zz_cl [(3, fX2_makeFor)]) 2 117,
  zo_none,
  zo_none,
  zo_calls fX2_outcomeOf 1 120,
  zo_none,
  zo_none,
  zo_goto 124,
  zo_none,
  zo_none,
  zo_pushI 1 124,
  zo_iret false]
set_option maxRecDepth 100000 in
theorem tl_X4_serveJob : ∀ pc, zz_Tl (tX4_serveJob.getD pc zo_none) := by
  refine zz_Tl_mem ?_
  unfold tX4_serveJob
  refine List.forall_mem_cons.mpr ⟨(zo_pushI_tl _ _), ?_⟩
  refine List.forall_mem_cons.mpr ⟨(zo_istore_tl _ _), ?_⟩
  refine List.forall_mem_cons.mpr ⟨(zo_pushI_tl _ _), ?_⟩
  refine List.forall_mem_cons.mpr ⟨(zo_istore_tl _ _), ?_⟩
  refine List.forall_mem_cons.mpr ⟨(zo_pushI_tl _ _), ?_⟩
  refine List.forall_mem_cons.mpr ⟨(zo_istore_tl _ _), ?_⟩
  refine List.forall_mem_cons.mpr ⟨zo_none_tl, ?_⟩
  refine List.forall_mem_cons.mpr ⟨(zo_iload_tl _ _), ?_⟩
  refine List.forall_mem_cons.mpr ⟨zo_none_tl, ?_⟩
  refine List.forall_mem_cons.mpr ⟨(zo_aload_tl _ _), ?_⟩
  refine List.forall_mem_cons.mpr ⟨(zo_getf_tl _ _ _), ?_⟩
  refine List.forall_mem_cons.mpr ⟨zo_none_tl, ?_⟩
  refine List.forall_mem_cons.mpr ⟨zo_none_tl, ?_⟩
  refine List.forall_mem_cons.mpr ⟨(zo_icmp_tl _ _ _), ?_⟩
  refine List.forall_mem_cons.mpr ⟨zo_none_tl, ?_⟩
  refine List.forall_mem_cons.mpr ⟨zo_none_tl, ?_⟩
  refine List.forall_mem_cons.mpr ⟨(zo_aload_tl _ _), ?_⟩
  refine List.forall_mem_cons.mpr ⟨(zo_iload_tl _ _), ?_⟩
  refine List.forall_mem_cons.mpr ⟨zo_none_tl, ?_⟩
  refine List.forall_mem_cons.mpr ⟨(zo_pushI_tl _ _), ?_⟩
  refine List.forall_mem_cons.mpr ⟨(zo_iload_tl _ _), ?_⟩
  refine List.forall_mem_cons.mpr ⟨(zo_callv_tl _ _ _ _), ?_⟩
  refine List.forall_mem_cons.mpr ⟨zo_none_tl, ?_⟩
  refine List.forall_mem_cons.mpr ⟨zo_none_tl, ?_⟩
  refine List.forall_mem_cons.mpr ⟨(zo_if_tl _ _ _), ?_⟩
  refine List.forall_mem_cons.mpr ⟨zo_none_tl, ?_⟩
  refine List.forall_mem_cons.mpr ⟨zo_none_tl, ?_⟩
  refine List.forall_mem_cons.mpr ⟨(zo_aload_tl _ _), ?_⟩
  refine List.forall_mem_cons.mpr ⟨(zo_iload_tl _ _), ?_⟩
  refine List.forall_mem_cons.mpr ⟨zo_none_tl, ?_⟩
  refine List.forall_mem_cons.mpr ⟨(zo_pushI_tl _ _), ?_⟩
  refine List.forall_mem_cons.mpr ⟨zo_none_tl, ?_⟩
  refine List.forall_mem_cons.mpr ⟨(zo_callv_tl _ _ _ _), ?_⟩
  refine List.forall_mem_cons.mpr ⟨zo_none_tl, ?_⟩
  refine List.forall_mem_cons.mpr ⟨zo_none_tl, ?_⟩
  refine List.forall_mem_cons.mpr ⟨(zo_istore_tl _ _), ?_⟩
  refine List.forall_mem_cons.mpr ⟨zo_none_tl, ?_⟩
  refine List.forall_mem_cons.mpr ⟨(zo_iload_tl _ _), ?_⟩
  refine List.forall_mem_cons.mpr ⟨(zo_iload_tl _ _), ?_⟩
  refine List.forall_mem_cons.mpr ⟨zo_none_tl, ?_⟩
  refine List.forall_mem_cons.mpr ⟨(zo_pushI_tl _ _), ?_⟩
  refine List.forall_mem_cons.mpr ⟨(zo_icmp_tl _ _ _), ?_⟩
  refine List.forall_mem_cons.mpr ⟨zo_none_tl, ?_⟩
  refine List.forall_mem_cons.mpr ⟨zo_none_tl, ?_⟩
  refine List.forall_mem_cons.mpr ⟨(zo_pushI_tl _ _), ?_⟩
  refine List.forall_mem_cons.mpr ⟨(zo_goto_tl _), ?_⟩
  refine List.forall_mem_cons.mpr ⟨zo_none_tl, ?_⟩
  refine List.forall_mem_cons.mpr ⟨zo_none_tl, ?_⟩
  refine List.forall_mem_cons.mpr ⟨(zo_pushI_tl _ _), ?_⟩
  refine List.forall_mem_cons.mpr ⟨(zo_ii_tl _ _), ?_⟩
  refine List.forall_mem_cons.mpr ⟨(zo_istore_tl _ _), ?_⟩
  refine List.forall_mem_cons.mpr ⟨(zo_iload_tl _ _), ?_⟩
  refine List.forall_mem_cons.mpr ⟨(zo_iload_tl _ _), ?_⟩
  refine List.forall_mem_cons.mpr ⟨zo_none_tl, ?_⟩
  refine List.forall_mem_cons.mpr ⟨(zo_if_tl _ _ _), ?_⟩
  refine List.forall_mem_cons.mpr ⟨zo_none_tl, ?_⟩
  refine List.forall_mem_cons.mpr ⟨zo_none_tl, ?_⟩
  refine List.forall_mem_cons.mpr ⟨(zo_iload_tl _ _), ?_⟩
  refine List.forall_mem_cons.mpr ⟨zo_none_tl, ?_⟩
  refine List.forall_mem_cons.mpr ⟨(zo_pushI_tl _ _), ?_⟩
  refine List.forall_mem_cons.mpr ⟨(zo_icmp_tl _ _ _), ?_⟩
  refine List.forall_mem_cons.mpr ⟨zo_none_tl, ?_⟩
  refine List.forall_mem_cons.mpr ⟨zo_none_tl, ?_⟩
  refine List.forall_mem_cons.mpr ⟨(zo_pushI_tl _ _), ?_⟩
  refine List.forall_mem_cons.mpr ⟨(zo_goto_tl _), ?_⟩
  refine List.forall_mem_cons.mpr ⟨zo_none_tl, ?_⟩
  refine List.forall_mem_cons.mpr ⟨zo_none_tl, ?_⟩
  refine List.forall_mem_cons.mpr ⟨(zo_pushI_tl _ _), ?_⟩
  refine List.forall_mem_cons.mpr ⟨(zo_ii_tl _ _), ?_⟩
  refine List.forall_mem_cons.mpr ⟨(zo_istore_tl _ _), ?_⟩
  refine List.forall_mem_cons.mpr ⟨(zo_iinc_tl _ _ _), ?_⟩
  refine List.forall_mem_cons.mpr ⟨zo_none_tl, ?_⟩
  refine List.forall_mem_cons.mpr ⟨zo_none_tl, ?_⟩
  refine List.forall_mem_cons.mpr ⟨(zo_goto_tl _), ?_⟩
  refine List.forall_mem_cons.mpr ⟨zo_none_tl, ?_⟩
  refine List.forall_mem_cons.mpr ⟨zo_none_tl, ?_⟩
  refine List.forall_mem_cons.mpr ⟨(zo_iload_tl _ _), ?_⟩
  refine List.forall_mem_cons.mpr ⟨(zo_iload_tl _ _), ?_⟩
  refine List.forall_mem_cons.mpr ⟨(zo_ii_tl _ _), ?_⟩
  refine List.forall_mem_cons.mpr ⟨(zo_aload_tl _ _), ?_⟩
  refine List.forall_mem_cons.mpr ⟨(zo_iload_tl _ _), ?_⟩
  refine List.forall_mem_cons.mpr ⟨(zo_pushI_tl _ _), ?_⟩
  refine List.forall_mem_cons.mpr ⟨(zo_callv_tl _ _ _ _), ?_⟩
  refine List.forall_mem_cons.mpr ⟨zo_none_tl, ?_⟩
  refine List.forall_mem_cons.mpr ⟨zo_none_tl, ?_⟩
  refine List.forall_mem_cons.mpr ⟨(zo_icmp_tl _ _ _), ?_⟩
  refine List.forall_mem_cons.mpr ⟨zo_none_tl, ?_⟩
  refine List.forall_mem_cons.mpr ⟨zo_none_tl, ?_⟩
  refine List.forall_mem_cons.mpr ⟨(zo_iload_tl _ _), ?_⟩
  refine List.forall_mem_cons.mpr ⟨(zo_aload_tl _ _), ?_⟩
  refine List.forall_mem_cons.mpr ⟨(zo_iload_tl _ _), ?_⟩
  refine List.forall_mem_cons.mpr ⟨(zo_pushI_tl _ _), ?_⟩
  refine List.forall_mem_cons.mpr ⟨zo_none_tl, ?_⟩
  refine List.forall_mem_cons.mpr ⟨(zo_callv_tl _ _ _ _), ?_⟩
  refine List.forall_mem_cons.mpr ⟨zo_none_tl, ?_⟩
  refine List.forall_mem_cons.mpr ⟨zo_none_tl, ?_⟩
  refine List.forall_mem_cons.mpr ⟨(zo_icmp_tl _ _ _), ?_⟩
  refine List.forall_mem_cons.mpr ⟨zo_none_tl, ?_⟩
  refine List.forall_mem_cons.mpr ⟨zo_none_tl, ?_⟩
  refine List.forall_mem_cons.mpr ⟨(zo_pushI_tl _ _), ?_⟩
  refine List.forall_mem_cons.mpr ⟨(zo_goto_tl _), ?_⟩
  refine List.forall_mem_cons.mpr ⟨zo_none_tl, ?_⟩
  refine List.forall_mem_cons.mpr ⟨zo_none_tl, ?_⟩
  refine List.forall_mem_cons.mpr ⟨(zo_pushI_tl _ _), ?_⟩
  refine List.forall_mem_cons.mpr ⟨(zo_istore_tl _ _), ?_⟩
  refine List.forall_mem_cons.mpr ⟨zo_none_tl, ?_⟩
  refine List.forall_mem_cons.mpr ⟨(zo_iload_tl _ _), ?_⟩
  refine List.forall_mem_cons.mpr ⟨zo_none_tl, ?_⟩
  refine List.forall_mem_cons.mpr ⟨(zo_if_tl _ _ _), ?_⟩
  refine List.forall_mem_cons.mpr ⟨zo_none_tl, ?_⟩
  refine List.forall_mem_cons.mpr ⟨zo_none_tl, ?_⟩
  refine List.forall_mem_cons.mpr ⟨(zo_aload_tl _ _), ?_⟩
  refine List.forall_mem_cons.mpr ⟨(zo_iload_tl _ _), ?_⟩
  refine List.forall_mem_cons.mpr ⟨(zo_pushI_tl _ _), ?_⟩
  refine List.forall_mem_cons.mpr ⟨(zo_callv_tl _ _ _ _), ?_⟩
  refine List.forall_mem_cons.mpr ⟨zo_none_tl, ?_⟩
  refine List.forall_mem_cons.mpr ⟨zo_none_tl, ?_⟩
  refine List.forall_mem_cons.mpr ⟨(zo_calls_tl _ _ _), ?_⟩
  refine List.forall_mem_cons.mpr ⟨zo_none_tl, ?_⟩
  refine List.forall_mem_cons.mpr ⟨zo_none_tl, ?_⟩
  refine List.forall_mem_cons.mpr ⟨(zo_goto_tl _), ?_⟩
  refine List.forall_mem_cons.mpr ⟨zo_none_tl, ?_⟩
  refine List.forall_mem_cons.mpr ⟨zo_none_tl, ?_⟩
  refine List.forall_mem_cons.mpr ⟨(zo_pushI_tl _ _), ?_⟩
  refine List.forall_mem_cons.mpr ⟨(zo_iret_tl _), ?_⟩
  exact fun _ h => absurd h List.not_mem_nil
noncomputable def fX4_serveJob : zzFn := zz_fn tX4_serveJob 6
set_option maxRecDepth 100000 in
set_option maxHeartbeats 4000000 in
theorem mm_X4_serveJob {l : Launch} {D : va_G} {cA : Nat → ClassId} {ad : Nat → Nat} {Ex : (Nat → Prop) → State → Heap → Prop} (Wd : zzWC l D cA ad Ex) : zz_Cn l D zzCl cA ad zzSC Ex yX4_serveJob cX4_serveJob 6 (some .int) 4 97 fX4_serveJob ∧ zz_Cx l D zzCl cA ad zzSC Ex yX4_serveJob cX4_serveJob 6 (some .int) 4 97 fX4_serveJob := by
  refine zz_meth (plainFor_of_name (by decide)) Wd.1 Wd.2.1 Wd.2.2.1 (fun p e R s m args below meth c rr X => ?_)
  unfold tX4_serveJob
  refine zz_cons (k' := 1) rfl (zk_iconst X dX4_serveJob_0 (by decide) rfl) ?_
  refine zz_cons (k' := 2) rfl (zk_istore_n X dX4_serveJob_1 rfl (by decide) rfl) ?_
  refine zz_cons (k' := 3) rfl (zk_iconst X dX4_serveJob_2 (by decide) rfl) ?_
  refine zz_cons (k' := 4) rfl (zk_istore_n X dX4_serveJob_3 rfl (by decide) rfl) ?_
  refine zz_cons (k' := 5) rfl (zk_iconst X dX4_serveJob_4 (by decide) rfl) ?_
  refine zz_cons (k' := 6) rfl (zk_istore X dX4_serveJob_5 (by decide) rfl) ?_
  refine zz_cons (k' := 7) rfl (zz_Ok_none _ _) ?_
  refine zz_cons (k' := 8) rfl (zk_iload X dX4_serveJob_7 rfl) ?_
  refine zz_cons (k' := 9) rfl (zz_Ok_none _ _) ?_
  refine zz_cons (k' := 10) rfl (zk_aload_n X dX4_serveJob_9 rfl rfl) ?_
  refine zz_cons (k' := 11) rfl (zk_getf X ff_X4_34 dX4_serveJob_10 rfl) ?_
  refine zz_cons (k' := 12) rfl (zz_Ok_none _ _) ?_
  refine zz_cons (k' := 13) rfl (zz_Ok_none _ _) ?_
  refine zz_cons (k' := 14) rfl (zk_icmp_ge X dX4_serveJob_13 (by decide) rfl) ?_
  refine zz_cons (k' := 15) rfl (zz_Ok_none _ _) ?_
  refine zz_cons (k' := 16) rfl (zz_Ok_none _ _) ?_
  refine zz_cons (k' := 17) rfl (zk_aload_n X dX4_serveJob_16 rfl rfl) ?_
  refine zz_cons (k' := 18) rfl (zk_iload X dX4_serveJob_17 rfl) ?_
  refine zz_cons (k' := 19) rfl (zz_Ok_none _ _) ?_
  refine zz_cons (k' := 20) rfl (zk_iconst X dX4_serveJob_19 (by decide) rfl) ?_
  refine zz_cons (k' := 21) rfl (zk_iload_n X dX4_serveJob_20 rfl rfl) ?_
  refine zz_cons (k' := 22) rfl (zk_callv X (zz_Cv_of (List.forall_mem_cons.mpr ⟨⟨(RX_3, zzT3, 12), yX10_isOwned, cX10_isOwned, 4, (some .boolean), 1, 22, rfl, kv_X4_37_3, (mm_X10_isOwned Wd).1, by decide, by decide⟩, (fun _ h => absurd h List.not_mem_nil)⟩)) dX4_serveJob_21 rfl) ?_
  refine zz_cons (k' := 23) rfl (zz_Ok_none _ _) ?_
  refine zz_cons (k' := 24) rfl (zz_Ok_none _ _) ?_
  refine zz_cons (k' := 25) rfl (zk_if_eq X dX4_serveJob_24 (by decide) rfl) ?_
  refine zz_cons (k' := 26) rfl (zz_Ok_none _ _) ?_
  refine zz_cons (k' := 27) rfl (zz_Ok_none _ _) ?_
  refine zz_cons (k' := 28) rfl (zk_aload_n X dX4_serveJob_27 rfl rfl) ?_
  refine zz_cons (k' := 29) rfl (zk_iload X dX4_serveJob_28 rfl) ?_
  refine zz_cons (k' := 30) rfl (zz_Ok_none _ _) ?_
  refine zz_cons (k' := 31) rfl (zk_bipush X dX4_serveJob_30 (by decide) rfl) ?_
  refine zz_cons (k' := 32) rfl (zz_Ok_none _ _) ?_
  refine zz_cons (k' := 33) rfl (zk_callv X (zz_Cv_of (List.forall_mem_cons.mpr ⟨⟨(RX_3, zzT3, 12), yX10_read, cX10_read, 3, (some .int), 0, 0, rfl, kv_X4_9_3, (mm_X10_read Wd).1, by decide, by decide⟩, (fun _ h => absurd h List.not_mem_nil)⟩)) dX4_serveJob_32 rfl) ?_
  refine zz_cons (k' := 34) rfl (zz_Ok_none _ _) ?_
  refine zz_cons (k' := 35) rfl (zz_Ok_none _ _) ?_
  refine zz_cons (k' := 36) rfl (zk_istore X dX4_serveJob_35 (by decide) rfl) ?_
  refine zz_cons (k' := 37) rfl (zz_Ok_none _ _) ?_
  refine zz_cons (k' := 38) rfl (zk_iload_n X dX4_serveJob_37 rfl rfl) ?_
  refine zz_cons (k' := 39) rfl (zk_iload X dX4_serveJob_38 rfl) ?_
  refine zz_cons (k' := 40) rfl (zz_Ok_none _ _) ?_
  refine zz_cons (k' := 41) rfl (zk_iconst X dX4_serveJob_40 (by decide) rfl) ?_
  refine zz_cons (k' := 42) rfl (zk_icmp_ne X dX4_serveJob_41 (by decide) rfl) ?_
  refine zz_cons (k' := 43) rfl (zz_Ok_none _ _) ?_
  refine zz_cons (k' := 44) rfl (zz_Ok_none _ _) ?_
  refine zz_cons (k' := 45) rfl (zk_iconst X dX4_serveJob_44 (by decide) rfl) ?_
  refine zz_cons (k' := 46) rfl (zk_goto X dX4_serveJob_45 (by decide)) ?_
  refine zz_cons (k' := 47) rfl (zz_Ok_none _ _) ?_
  refine zz_cons (k' := 48) rfl (zz_Ok_none _ _) ?_
  refine zz_cons (k' := 49) rfl (zk_iconst X dX4_serveJob_48 (by decide) rfl) ?_
  refine zz_cons (k' := 50) rfl (zk_iadd X dX4_serveJob_49 rfl) ?_
  refine zz_cons (k' := 51) rfl (zk_istore_n X dX4_serveJob_50 rfl (by decide) rfl) ?_
  refine zz_cons (k' := 52) rfl (zk_iload_n X dX4_serveJob_51 rfl rfl) ?_
  refine zz_cons (k' := 53) rfl (zk_iload X dX4_serveJob_52 rfl) ?_
  refine zz_cons (k' := 54) rfl (zz_Ok_none _ _) ?_
  refine zz_cons (k' := 55) rfl (zk_if_eq X dX4_serveJob_54 (by decide) rfl) ?_
  refine zz_cons (k' := 56) rfl (zz_Ok_none _ _) ?_
  refine zz_cons (k' := 57) rfl (zz_Ok_none _ _) ?_
  refine zz_cons (k' := 58) rfl (zk_iload X dX4_serveJob_57 rfl) ?_
  refine zz_cons (k' := 59) rfl (zz_Ok_none _ _) ?_
  refine zz_cons (k' := 60) rfl (zk_iconst X dX4_serveJob_59 (by decide) rfl) ?_
  refine zz_cons (k' := 61) rfl (zk_icmp_ne X dX4_serveJob_60 (by decide) rfl) ?_
  refine zz_cons (k' := 62) rfl (zz_Ok_none _ _) ?_
  refine zz_cons (k' := 63) rfl (zz_Ok_none _ _) ?_
  refine zz_cons (k' := 64) rfl (zk_iconst X dX4_serveJob_63 (by decide) rfl) ?_
  refine zz_cons (k' := 65) rfl (zk_goto X dX4_serveJob_64 (by decide)) ?_
  refine zz_cons (k' := 66) rfl (zz_Ok_none _ _) ?_
  refine zz_cons (k' := 67) rfl (zz_Ok_none _ _) ?_
  refine zz_cons (k' := 68) rfl (zk_iconst X dX4_serveJob_67 (by decide) rfl) ?_
  refine zz_cons (k' := 69) rfl (zk_iadd X dX4_serveJob_68 rfl) ?_
  refine zz_cons (k' := 70) rfl (zk_istore_n X dX4_serveJob_69 rfl (by decide) rfl) ?_
  refine zz_cons (k' := 71) rfl (zk_iinc X dX4_serveJob_70 (by decide) (by decide) rfl) ?_
  refine zz_cons (k' := 72) rfl (zz_Ok_none _ _) ?_
  refine zz_cons (k' := 73) rfl (zz_Ok_none _ _) ?_
  refine zz_cons (k' := 74) rfl (zk_goto X dX4_serveJob_73 (by decide)) ?_
  refine zz_cons (k' := 75) rfl (zz_Ok_none _ _) ?_
  refine zz_cons (k' := 76) rfl (zz_Ok_none _ _) ?_
  refine zz_cons (k' := 77) rfl (zk_iload_n X dX4_serveJob_76 rfl rfl) ?_
  refine zz_cons (k' := 78) rfl (zk_iload_n X dX4_serveJob_77 rfl rfl) ?_
  refine zz_cons (k' := 79) rfl (zk_iadd X dX4_serveJob_78 rfl) ?_
  refine zz_cons (k' := 80) rfl (zk_aload_n X dX4_serveJob_79 rfl rfl) ?_
  refine zz_cons (k' := 81) rfl (zk_iload_n X dX4_serveJob_80 rfl rfl) ?_
  refine zz_cons (k' := 82) rfl (zk_iconst X dX4_serveJob_81 (by decide) rfl) ?_
  refine zz_cons (k' := 83) rfl (zk_callv X (zz_Cv_of (List.forall_mem_cons.mpr ⟨⟨(RX_3, zzT3, 12), yX10_read, cX10_read, 3, (some .int), 0, 0, rfl, kv_X4_9_3, (mm_X10_read Wd).1, by decide, by decide⟩, (fun _ h => absurd h List.not_mem_nil)⟩)) dX4_serveJob_82 rfl) ?_
  refine zz_cons (k' := 84) rfl (zz_Ok_none _ _) ?_
  refine zz_cons (k' := 85) rfl (zz_Ok_none _ _) ?_
  refine zz_cons (k' := 86) rfl (zk_icmp_ge X dX4_serveJob_85 (by decide) rfl) ?_
  refine zz_cons (k' := 87) rfl (zz_Ok_none _ _) ?_
  refine zz_cons (k' := 88) rfl (zz_Ok_none _ _) ?_
  refine zz_cons (k' := 89) rfl (zk_iload_n X dX4_serveJob_88 rfl rfl) ?_
  refine zz_cons (k' := 90) rfl (zk_aload_n X dX4_serveJob_89 rfl rfl) ?_
  refine zz_cons (k' := 91) rfl (zk_iload_n X dX4_serveJob_90 rfl rfl) ?_
  refine zz_cons (k' := 92) rfl (zk_bipush X dX4_serveJob_91 (by decide) rfl) ?_
  refine zz_cons (k' := 93) rfl (zz_Ok_none _ _) ?_
  refine zz_cons (k' := 94) rfl (zk_callv X (zz_Cv_of (List.forall_mem_cons.mpr ⟨⟨(RX_3, zzT3, 12), yX10_read, cX10_read, 3, (some .int), 0, 0, rfl, kv_X4_9_3, (mm_X10_read Wd).1, by decide, by decide⟩, (fun _ h => absurd h List.not_mem_nil)⟩)) dX4_serveJob_93 rfl) ?_
  refine zz_cons (k' := 95) rfl (zz_Ok_none _ _) ?_
  refine zz_cons (k' := 96) rfl (zz_Ok_none _ _) ?_
  refine zz_cons (k' := 97) rfl (zk_icmp_ge X dX4_serveJob_96 (by decide) rfl) ?_
  refine zz_cons (k' := 98) rfl (zz_Ok_none _ _) ?_
  refine zz_cons (k' := 99) rfl (zz_Ok_none _ _) ?_
  refine zz_cons (k' := 100) rfl (zk_iconst X dX4_serveJob_99 (by decide) rfl) ?_
  refine zz_cons (k' := 101) rfl (zk_goto X dX4_serveJob_100 (by decide)) ?_
  refine zz_cons (k' := 102) rfl (zz_Ok_none _ _) ?_
  refine zz_cons (k' := 103) rfl (zz_Ok_none _ _) ?_
  refine zz_cons (k' := 104) rfl (zk_iconst X dX4_serveJob_103 (by decide) rfl) ?_
  refine zz_cons (k' := 105) rfl (zk_istore X dX4_serveJob_104 (by decide) rfl) ?_
  refine zz_cons (k' := 106) rfl (zz_Ok_none _ _) ?_
  refine zz_cons (k' := 107) rfl (zk_iload X dX4_serveJob_106 rfl) ?_
  refine zz_cons (k' := 108) rfl (zz_Ok_none _ _) ?_
  refine zz_cons (k' := 109) rfl (zk_if_eq X dX4_serveJob_108 (by decide) rfl) ?_
  refine zz_cons (k' := 110) rfl (zz_Ok_none _ _) ?_
  refine zz_cons (k' := 111) rfl (zz_Ok_none _ _) ?_
  refine zz_cons (k' := 112) rfl (zk_aload_n X dX4_serveJob_111 rfl rfl) ?_
  refine zz_cons (k' := 113) rfl (zk_iload_n X dX4_serveJob_112 rfl rfl) ?_
  refine zz_cons (k' := 114) rfl (zk_iconst X dX4_serveJob_113 (by decide) rfl) ?_
  refine zz_cons (k' := 115) rfl (zk_callv X (zz_Cv_of (List.forall_mem_cons.mpr ⟨⟨(RX_3, zzT3, 12), yX2_makeFor, cX2_makeFor, 3, (some .boolean), 3, 75, rfl, kv_X4_49_3, (mm_X2_makeFor Wd).1, by decide, by decide⟩, (fun _ h => absurd h List.not_mem_nil)⟩)) dX4_serveJob_114 rfl) ?_
  refine zz_cons (k' := 116) rfl (zz_Ok_none _ _) ?_
  refine zz_cons (k' := 117) rfl (zz_Ok_none _ _) ?_
  refine zz_cons (k' := 118) rfl (zk_calls X ks_X4_45 (mm_X2_outcomeOf Wd).1 (by decide) dX4_serveJob_117 rfl) ?_
  refine zz_cons (k' := 119) rfl (zz_Ok_none _ _) ?_
  refine zz_cons (k' := 120) rfl (zz_Ok_none _ _) ?_
  refine zz_cons (k' := 121) rfl (zk_goto X dX4_serveJob_120 (by decide)) ?_
  refine zz_cons (k' := 122) rfl (zz_Ok_none _ _) ?_
  refine zz_cons (k' := 123) rfl (zz_Ok_none _ _) ?_
  refine zz_cons (k' := 124) rfl (zk_iconst X dX4_serveJob_123 (by decide) rfl) ?_
  refine zz_cons (k' := 125) rfl (zk_iret X rfl dX4_serveJob_124) ?_
  exact trivial
noncomputable def tX4_serve : List zzOp := [
  zo_aload 0 1,
  zo_iload 1 2,
  zo_aload 0 3,
  zo_getf zzSC (zz_kf [3] 5) 6,
  zo_none,
  zo_none,
  zo_callv zzSC (zz_cl [(3, fX10_isStaying)]) 2 9,
  zo_none,
  zo_none,
  zo_if (fun x => decide (¬ x = 0)) 14 12,
  zo_none,
  zo_none,
  zo_pushI 1 13,
  zo_iret false,
  zo_aload 0 15,
  zo_getf zzSC (zz_kf [3] 5) 18,
  zo_none,
  zo_none,
  zo_pushI 1 19,
  zo_icmp (fun x y => decide (¬ x = y)) 30 22,
  zo_none,
  zo_none,
  zo_aload 0 23,
  zo_iload 1 24,
  zo_callv zzSC (zz_cl [(3, fX4_serveSet)]) 1 27,
  zo_none,
  zo_none,
  zo_goto 35,
  zo_none,
  zo_none,
  zo_aload 0 31,
  zo_iload 1 32,
  zo_callv zzSC (zz_cl [(3, fX4_serveJob)]) 1 35,
  zo_none,
  zo_none,
  zo_iret false]
set_option maxRecDepth 100000 in
theorem tl_X4_serve : ∀ pc, zz_Tl (tX4_serve.getD pc zo_none) := by
  refine zz_Tl_mem ?_
  unfold tX4_serve
  refine List.forall_mem_cons.mpr ⟨(zo_aload_tl _ _), ?_⟩
  refine List.forall_mem_cons.mpr ⟨(zo_iload_tl _ _), ?_⟩
  refine List.forall_mem_cons.mpr ⟨(zo_aload_tl _ _), ?_⟩
  refine List.forall_mem_cons.mpr ⟨(zo_getf_tl _ _ _), ?_⟩
  refine List.forall_mem_cons.mpr ⟨zo_none_tl, ?_⟩
  refine List.forall_mem_cons.mpr ⟨zo_none_tl, ?_⟩
  refine List.forall_mem_cons.mpr ⟨(zo_callv_tl _ _ _ _), ?_⟩
  refine List.forall_mem_cons.mpr ⟨zo_none_tl, ?_⟩
  refine List.forall_mem_cons.mpr ⟨zo_none_tl, ?_⟩
  refine List.forall_mem_cons.mpr ⟨(zo_if_tl _ _ _), ?_⟩
  refine List.forall_mem_cons.mpr ⟨zo_none_tl, ?_⟩
  refine List.forall_mem_cons.mpr ⟨zo_none_tl, ?_⟩
  refine List.forall_mem_cons.mpr ⟨(zo_pushI_tl _ _), ?_⟩
  refine List.forall_mem_cons.mpr ⟨(zo_iret_tl _), ?_⟩
  refine List.forall_mem_cons.mpr ⟨(zo_aload_tl _ _), ?_⟩
  refine List.forall_mem_cons.mpr ⟨(zo_getf_tl _ _ _), ?_⟩
  refine List.forall_mem_cons.mpr ⟨zo_none_tl, ?_⟩
  refine List.forall_mem_cons.mpr ⟨zo_none_tl, ?_⟩
  refine List.forall_mem_cons.mpr ⟨(zo_pushI_tl _ _), ?_⟩
  refine List.forall_mem_cons.mpr ⟨(zo_icmp_tl _ _ _), ?_⟩
  refine List.forall_mem_cons.mpr ⟨zo_none_tl, ?_⟩
  refine List.forall_mem_cons.mpr ⟨zo_none_tl, ?_⟩
  refine List.forall_mem_cons.mpr ⟨(zo_aload_tl _ _), ?_⟩
  refine List.forall_mem_cons.mpr ⟨(zo_iload_tl _ _), ?_⟩
  refine List.forall_mem_cons.mpr ⟨(zo_callv_tl _ _ _ _), ?_⟩
  refine List.forall_mem_cons.mpr ⟨zo_none_tl, ?_⟩
  refine List.forall_mem_cons.mpr ⟨zo_none_tl, ?_⟩
  refine List.forall_mem_cons.mpr ⟨(zo_goto_tl _), ?_⟩
  refine List.forall_mem_cons.mpr ⟨zo_none_tl, ?_⟩
  refine List.forall_mem_cons.mpr ⟨zo_none_tl, ?_⟩
  refine List.forall_mem_cons.mpr ⟨(zo_aload_tl _ _), ?_⟩
  refine List.forall_mem_cons.mpr ⟨(zo_iload_tl _ _), ?_⟩
  refine List.forall_mem_cons.mpr ⟨(zo_callv_tl _ _ _ _), ?_⟩
  refine List.forall_mem_cons.mpr ⟨zo_none_tl, ?_⟩
  refine List.forall_mem_cons.mpr ⟨zo_none_tl, ?_⟩
  refine List.forall_mem_cons.mpr ⟨(zo_iret_tl _), ?_⟩
  exact fun _ h => absurd h List.not_mem_nil
noncomputable def fX4_serve : zzFn := zz_fn tX4_serve 2
set_option maxRecDepth 100000 in
set_option maxHeartbeats 4000000 in
theorem mm_X4_serve {l : Launch} {D : va_G} {cA : Nat → ClassId} {ad : Nat → Nat} {Ex : (Nat → Prop) → State → Heap → Prop} (Wd : zzWC l D cA ad Ex) : zz_Cn l D zzCl cA ad zzSC Ex yX4_serve cX4_serve 2 (some .int) 5 122 fX4_serve ∧ zz_Cx l D zzCl cA ad zzSC Ex yX4_serve cX4_serve 2 (some .int) 5 122 fX4_serve := by
  refine zz_meth (plainFor_of_name (by decide)) Wd.1 Wd.2.1 Wd.2.2.1 (fun p e R s m args below meth c rr X => ?_)
  unfold tX4_serve
  refine zz_cons (k' := 1) rfl (zk_aload_n X dX4_serve_0 rfl rfl) ?_
  refine zz_cons (k' := 2) rfl (zk_iload_n X dX4_serve_1 rfl rfl) ?_
  refine zz_cons (k' := 3) rfl (zk_aload_n X dX4_serve_2 rfl rfl) ?_
  refine zz_cons (k' := 4) rfl (zk_getf X ff_X4_15 dX4_serve_3 rfl) ?_
  refine zz_cons (k' := 5) rfl (zz_Ok_none _ _) ?_
  refine zz_cons (k' := 6) rfl (zz_Ok_none _ _) ?_
  refine zz_cons (k' := 7) rfl (zk_callv X (zz_Cv_of (List.forall_mem_cons.mpr ⟨⟨(RX_3, zzT3, 12), yX10_isStaying, cX10_isStaying, 3, (some .boolean), 1, 22, rfl, kv_X4_23_3, (mm_X10_isStaying Wd).1, by decide, by decide⟩, (fun _ h => absurd h List.not_mem_nil)⟩)) dX4_serve_6 rfl) ?_
  refine zz_cons (k' := 8) rfl (zz_Ok_none _ _) ?_
  refine zz_cons (k' := 9) rfl (zz_Ok_none _ _) ?_
  refine zz_cons (k' := 10) rfl (zk_if_ne X dX4_serve_9 (by decide) rfl) ?_
  refine zz_cons (k' := 11) rfl (zz_Ok_none _ _) ?_
  refine zz_cons (k' := 12) rfl (zz_Ok_none _ _) ?_
  refine zz_cons (k' := 13) rfl (zk_iconst X dX4_serve_12 (by decide) rfl) ?_
  refine zz_cons (k' := 14) rfl (zk_iret X rfl dX4_serve_13) ?_
  refine zz_cons (k' := 15) rfl (zk_aload_n X dX4_serve_14 rfl rfl) ?_
  refine zz_cons (k' := 16) rfl (zk_getf X ff_X4_15 dX4_serve_15 rfl) ?_
  refine zz_cons (k' := 17) rfl (zz_Ok_none _ _) ?_
  refine zz_cons (k' := 18) rfl (zz_Ok_none _ _) ?_
  refine zz_cons (k' := 19) rfl (zk_iconst X dX4_serve_18 (by decide) rfl) ?_
  refine zz_cons (k' := 20) rfl (zk_icmp_ne X dX4_serve_19 (by decide) rfl) ?_
  refine zz_cons (k' := 21) rfl (zz_Ok_none _ _) ?_
  refine zz_cons (k' := 22) rfl (zz_Ok_none _ _) ?_
  refine zz_cons (k' := 23) rfl (zk_aload_n X dX4_serve_22 rfl rfl) ?_
  refine zz_cons (k' := 24) rfl (zk_iload_n X dX4_serve_23 rfl rfl) ?_
  refine zz_cons (k' := 25) rfl (zk_callv X (zz_Cv_of (List.forall_mem_cons.mpr ⟨⟨(RX_3, zzT3, 12), yX4_serveSet, cX4_serveSet, 4, (some .int), 4, 97, rfl, kv_X4_27_3.1, (mm_X4_serveSet Wd).1, by decide, by decide⟩, (fun _ h => absurd h List.not_mem_nil)⟩)) dX4_serve_24 rfl) ?_
  refine zz_cons (k' := 26) rfl (zz_Ok_none _ _) ?_
  refine zz_cons (k' := 27) rfl (zz_Ok_none _ _) ?_
  refine zz_cons (k' := 28) rfl (zk_goto X dX4_serve_27 (by decide)) ?_
  refine zz_cons (k' := 29) rfl (zz_Ok_none _ _) ?_
  refine zz_cons (k' := 30) rfl (zz_Ok_none _ _) ?_
  refine zz_cons (k' := 31) rfl (zk_aload_n X dX4_serve_30 rfl rfl) ?_
  refine zz_cons (k' := 32) rfl (zk_iload_n X dX4_serve_31 rfl rfl) ?_
  refine zz_cons (k' := 33) rfl (zk_callv X (zz_Cv_of (List.forall_mem_cons.mpr ⟨⟨(RX_3, zzT3, 12), yX4_serveJob, cX4_serveJob, 6, (some .int), 4, 97, rfl, kv_X4_31_3.1, (mm_X4_serveJob Wd).1, by decide, by decide⟩, (fun _ h => absurd h List.not_mem_nil)⟩)) dX4_serve_32 rfl) ?_
  refine zz_cons (k' := 34) rfl (zz_Ok_none _ _) ?_
  refine zz_cons (k' := 35) rfl (zz_Ok_none _ _) ?_
  refine zz_cons (k' := 36) rfl (zk_iret X rfl dX4_serve_35) ?_
  exact trivial
noncomputable def tX5_podsBehind : List zzOp := [
  zo_aload 0 1,
  zo_iload 1 2,
  zo_pushI 1 3,
  zo_callv zzSC (zz_cl [(4, fX10_read)]) 2 6,
  zo_none,
  zo_none,
  zo_istore 3 7,
  zo_pushI 0 8,
  zo_istore 4 10,
  zo_none,
  zo_iload 2 11,
  zo_istore 5 13,
  zo_none,
  zo_iload 5 15,
  zo_none,
  zo_aload 0 16,
  zo_getf zzSC (zz_kf [4] 2) 19,
  zo_none,
  zo_none,
  zo_icmp (fun x y => decide (y ≤ x)) 81 22,
  zo_none,
  zo_none,
  zo_iload 5 24,
  zo_none,
  zo_iload 2 25,
  zo_pushI 30 27,
  zo_none,
  zo_ii (fun x y => x + y) 28,
  zo_icmp (fun x y => decide (y ≤ x)) 81 31,
  zo_none,
  zo_none,
  zo_aload 0 32,
  zo_iload 5 34,
  zo_none,
  zo_pushI 2 35,
  zo_callv zzSC (zz_cl [(4, fX10_isStaying)]) 2 38,
  zo_none,
  zo_none,
  zo_if (fun x => decide (x = 0)) 75 41,
  zo_none,
  zo_none,
  zo_aload 0 42,
  zo_iload 5 44,
  zo_none,
  zo_pushI 29 46,
  zo_none,
  zo_callv zzSC (zz_cl [(4, fX10_read)]) 2 49,
  zo_none,
  zo_none,
  zo_pushI 1 50,
  zo_icmp (fun x y => decide (¬ x = y)) 75 53,
  zo_none,
  zo_none,
  zo_aload 0 54,
  zo_iload 5 56,
  zo_none,
  zo_pushI 1 57,
  zo_callv zzSC (zz_cl [(4, fX10_read)]) 2 60,
  zo_none,
  zo_none,
  zo_iload 3 61,
  zo_icmp (fun x y => decide (¬ x = y)) 75 64,
  zo_none,
  zo_none,
  zo_iload 4 66,
  zo_none,
  zo_pushI 1 67,
  zo_iload 5 69,
  zo_none,
  zo_iload 2 70,
  zo_ii (fun x y => x - y) 71,
  zo_ii (fun x y => x <<< (y &&& 31)) 72,
  zo_ii (fun x y => x ||| y) 73,
  zo_istore 4 75,
  zo_none,
  zo_iinc 5 1 78,
  zo_none,
  zo_none,
  zo_goto 13,
  zo_none,
  zo_none,
  zo_iload 4 83,
  zo_none,
  zo_iret false]
set_option maxRecDepth 100000 in
theorem tl_X5_podsBehind : ∀ pc, zz_Tl (tX5_podsBehind.getD pc zo_none) := by
  refine zz_Tl_mem ?_
  unfold tX5_podsBehind
  refine List.forall_mem_cons.mpr ⟨(zo_aload_tl _ _), ?_⟩
  refine List.forall_mem_cons.mpr ⟨(zo_iload_tl _ _), ?_⟩
  refine List.forall_mem_cons.mpr ⟨(zo_pushI_tl _ _), ?_⟩
  refine List.forall_mem_cons.mpr ⟨(zo_callv_tl _ _ _ _), ?_⟩
  refine List.forall_mem_cons.mpr ⟨zo_none_tl, ?_⟩
  refine List.forall_mem_cons.mpr ⟨zo_none_tl, ?_⟩
  refine List.forall_mem_cons.mpr ⟨(zo_istore_tl _ _), ?_⟩
  refine List.forall_mem_cons.mpr ⟨(zo_pushI_tl _ _), ?_⟩
  refine List.forall_mem_cons.mpr ⟨(zo_istore_tl _ _), ?_⟩
  refine List.forall_mem_cons.mpr ⟨zo_none_tl, ?_⟩
  refine List.forall_mem_cons.mpr ⟨(zo_iload_tl _ _), ?_⟩
  refine List.forall_mem_cons.mpr ⟨(zo_istore_tl _ _), ?_⟩
  refine List.forall_mem_cons.mpr ⟨zo_none_tl, ?_⟩
  refine List.forall_mem_cons.mpr ⟨(zo_iload_tl _ _), ?_⟩
  refine List.forall_mem_cons.mpr ⟨zo_none_tl, ?_⟩
  refine List.forall_mem_cons.mpr ⟨(zo_aload_tl _ _), ?_⟩
  refine List.forall_mem_cons.mpr ⟨(zo_getf_tl _ _ _), ?_⟩
  refine List.forall_mem_cons.mpr ⟨zo_none_tl, ?_⟩
  refine List.forall_mem_cons.mpr ⟨zo_none_tl, ?_⟩
  refine List.forall_mem_cons.mpr ⟨(zo_icmp_tl _ _ _), ?_⟩
  refine List.forall_mem_cons.mpr ⟨zo_none_tl, ?_⟩
  refine List.forall_mem_cons.mpr ⟨zo_none_tl, ?_⟩
  refine List.forall_mem_cons.mpr ⟨(zo_iload_tl _ _), ?_⟩
  refine List.forall_mem_cons.mpr ⟨zo_none_tl, ?_⟩
  refine List.forall_mem_cons.mpr ⟨(zo_iload_tl _ _), ?_⟩
  refine List.forall_mem_cons.mpr ⟨(zo_pushI_tl _ _), ?_⟩
  refine List.forall_mem_cons.mpr ⟨zo_none_tl, ?_⟩
  refine List.forall_mem_cons.mpr ⟨(zo_ii_tl _ _), ?_⟩
  refine List.forall_mem_cons.mpr ⟨(zo_icmp_tl _ _ _), ?_⟩
  refine List.forall_mem_cons.mpr ⟨zo_none_tl, ?_⟩
  refine List.forall_mem_cons.mpr ⟨zo_none_tl, ?_⟩
  refine List.forall_mem_cons.mpr ⟨(zo_aload_tl _ _), ?_⟩
  refine List.forall_mem_cons.mpr ⟨(zo_iload_tl _ _), ?_⟩
  refine List.forall_mem_cons.mpr ⟨zo_none_tl, ?_⟩
  refine List.forall_mem_cons.mpr ⟨(zo_pushI_tl _ _), ?_⟩
  refine List.forall_mem_cons.mpr ⟨(zo_callv_tl _ _ _ _), ?_⟩
  refine List.forall_mem_cons.mpr ⟨zo_none_tl, ?_⟩
  refine List.forall_mem_cons.mpr ⟨zo_none_tl, ?_⟩
  refine List.forall_mem_cons.mpr ⟨(zo_if_tl _ _ _), ?_⟩
  refine List.forall_mem_cons.mpr ⟨zo_none_tl, ?_⟩
  refine List.forall_mem_cons.mpr ⟨zo_none_tl, ?_⟩
  refine List.forall_mem_cons.mpr ⟨(zo_aload_tl _ _), ?_⟩
  refine List.forall_mem_cons.mpr ⟨(zo_iload_tl _ _), ?_⟩
  refine List.forall_mem_cons.mpr ⟨zo_none_tl, ?_⟩
  refine List.forall_mem_cons.mpr ⟨(zo_pushI_tl _ _), ?_⟩
  refine List.forall_mem_cons.mpr ⟨zo_none_tl, ?_⟩
  refine List.forall_mem_cons.mpr ⟨(zo_callv_tl _ _ _ _), ?_⟩
  refine List.forall_mem_cons.mpr ⟨zo_none_tl, ?_⟩
  refine List.forall_mem_cons.mpr ⟨zo_none_tl, ?_⟩
  refine List.forall_mem_cons.mpr ⟨(zo_pushI_tl _ _), ?_⟩
  refine List.forall_mem_cons.mpr ⟨(zo_icmp_tl _ _ _), ?_⟩
  refine List.forall_mem_cons.mpr ⟨zo_none_tl, ?_⟩
  refine List.forall_mem_cons.mpr ⟨zo_none_tl, ?_⟩
  refine List.forall_mem_cons.mpr ⟨(zo_aload_tl _ _), ?_⟩
  refine List.forall_mem_cons.mpr ⟨(zo_iload_tl _ _), ?_⟩
  refine List.forall_mem_cons.mpr ⟨zo_none_tl, ?_⟩
  refine List.forall_mem_cons.mpr ⟨(zo_pushI_tl _ _), ?_⟩
  refine List.forall_mem_cons.mpr ⟨(zo_callv_tl _ _ _ _), ?_⟩
  refine List.forall_mem_cons.mpr ⟨zo_none_tl, ?_⟩
  refine List.forall_mem_cons.mpr ⟨zo_none_tl, ?_⟩
  refine List.forall_mem_cons.mpr ⟨(zo_iload_tl _ _), ?_⟩
  refine List.forall_mem_cons.mpr ⟨(zo_icmp_tl _ _ _), ?_⟩
  refine List.forall_mem_cons.mpr ⟨zo_none_tl, ?_⟩
  refine List.forall_mem_cons.mpr ⟨zo_none_tl, ?_⟩
  refine List.forall_mem_cons.mpr ⟨(zo_iload_tl _ _), ?_⟩
  refine List.forall_mem_cons.mpr ⟨zo_none_tl, ?_⟩
  refine List.forall_mem_cons.mpr ⟨(zo_pushI_tl _ _), ?_⟩
  refine List.forall_mem_cons.mpr ⟨(zo_iload_tl _ _), ?_⟩
  refine List.forall_mem_cons.mpr ⟨zo_none_tl, ?_⟩
  refine List.forall_mem_cons.mpr ⟨(zo_iload_tl _ _), ?_⟩
  refine List.forall_mem_cons.mpr ⟨(zo_ii_tl _ _), ?_⟩
  refine List.forall_mem_cons.mpr ⟨(zo_ii_tl _ _), ?_⟩
  refine List.forall_mem_cons.mpr ⟨(zo_ii_tl _ _), ?_⟩
  refine List.forall_mem_cons.mpr ⟨(zo_istore_tl _ _), ?_⟩
  refine List.forall_mem_cons.mpr ⟨zo_none_tl, ?_⟩
  refine List.forall_mem_cons.mpr ⟨(zo_iinc_tl _ _ _), ?_⟩
  refine List.forall_mem_cons.mpr ⟨zo_none_tl, ?_⟩
  refine List.forall_mem_cons.mpr ⟨zo_none_tl, ?_⟩
  refine List.forall_mem_cons.mpr ⟨(zo_goto_tl _), ?_⟩
  refine List.forall_mem_cons.mpr ⟨zo_none_tl, ?_⟩
  refine List.forall_mem_cons.mpr ⟨zo_none_tl, ?_⟩
  refine List.forall_mem_cons.mpr ⟨(zo_iload_tl _ _), ?_⟩
  refine List.forall_mem_cons.mpr ⟨zo_none_tl, ?_⟩
  refine List.forall_mem_cons.mpr ⟨(zo_iret_tl _), ?_⟩
  exact fun _ h => absurd h List.not_mem_nil
noncomputable def fX5_podsBehind : zzFn := zz_fn tX5_podsBehind 6
set_option maxRecDepth 100000 in
set_option maxHeartbeats 4000000 in
theorem mm_X5_podsBehind {l : Launch} {D : va_G} {cA : Nat → ClassId} {ad : Nat → Nat} {Ex : (Nat → Prop) → State → Heap → Prop} (Wd : zzWC l D cA ad Ex) : zz_Cn l D zzCl cA ad zzSC Ex yX5_podsBehind cX5_podsBehind 6 (some .int) 2 44 fX5_podsBehind ∧ zz_Cx l D zzCl cA ad zzSC Ex yX5_podsBehind cX5_podsBehind 6 (some .int) 2 44 fX5_podsBehind := by
  refine zz_meth (plainFor_of_name (by decide)) Wd.1 Wd.2.1 Wd.2.2.1 (fun p e R s m args below meth c rr X => ?_)
  unfold tX5_podsBehind
  refine zz_cons (k' := 1) rfl (zk_aload_n X dX5_podsBehind_0 rfl rfl) ?_
  refine zz_cons (k' := 2) rfl (zk_iload_n X dX5_podsBehind_1 rfl rfl) ?_
  refine zz_cons (k' := 3) rfl (zk_iconst X dX5_podsBehind_2 (by decide) rfl) ?_
  refine zz_cons (k' := 4) rfl (zk_callv X (zz_Cv_of (List.forall_mem_cons.mpr ⟨⟨(RX_4, zzT4, 12), yX10_read, cX10_read, 3, (some .int), 0, 0, rfl, kv_X5_15_4, (mm_X10_read Wd).1, by decide, by decide⟩, (fun _ h => absurd h List.not_mem_nil)⟩)) dX5_podsBehind_3 rfl) ?_
  refine zz_cons (k' := 5) rfl (zz_Ok_none _ _) ?_
  refine zz_cons (k' := 6) rfl (zz_Ok_none _ _) ?_
  refine zz_cons (k' := 7) rfl (zk_istore_n X dX5_podsBehind_6 rfl (by decide) rfl) ?_
  refine zz_cons (k' := 8) rfl (zk_iconst X dX5_podsBehind_7 (by decide) rfl) ?_
  refine zz_cons (k' := 9) rfl (zk_istore X dX5_podsBehind_8 (by decide) rfl) ?_
  refine zz_cons (k' := 10) rfl (zz_Ok_none _ _) ?_
  refine zz_cons (k' := 11) rfl (zk_iload_n X dX5_podsBehind_10 rfl rfl) ?_
  refine zz_cons (k' := 12) rfl (zk_istore X dX5_podsBehind_11 (by decide) rfl) ?_
  refine zz_cons (k' := 13) rfl (zz_Ok_none _ _) ?_
  refine zz_cons (k' := 14) rfl (zk_iload X dX5_podsBehind_13 rfl) ?_
  refine zz_cons (k' := 15) rfl (zz_Ok_none _ _) ?_
  refine zz_cons (k' := 16) rfl (zk_aload_n X dX5_podsBehind_15 rfl rfl) ?_
  refine zz_cons (k' := 17) rfl (zk_getf X ff_X5_9 dX5_podsBehind_16 rfl) ?_
  refine zz_cons (k' := 18) rfl (zz_Ok_none _ _) ?_
  refine zz_cons (k' := 19) rfl (zz_Ok_none _ _) ?_
  refine zz_cons (k' := 20) rfl (zk_icmp_ge X dX5_podsBehind_19 (by decide) rfl) ?_
  refine zz_cons (k' := 21) rfl (zz_Ok_none _ _) ?_
  refine zz_cons (k' := 22) rfl (zz_Ok_none _ _) ?_
  refine zz_cons (k' := 23) rfl (zk_iload X dX5_podsBehind_22 rfl) ?_
  refine zz_cons (k' := 24) rfl (zz_Ok_none _ _) ?_
  refine zz_cons (k' := 25) rfl (zk_iload_n X dX5_podsBehind_24 rfl rfl) ?_
  refine zz_cons (k' := 26) rfl (zk_bipush X dX5_podsBehind_25 (by decide) rfl) ?_
  refine zz_cons (k' := 27) rfl (zz_Ok_none _ _) ?_
  refine zz_cons (k' := 28) rfl (zk_iadd X dX5_podsBehind_27 rfl) ?_
  refine zz_cons (k' := 29) rfl (zk_icmp_ge X dX5_podsBehind_28 (by decide) rfl) ?_
  refine zz_cons (k' := 30) rfl (zz_Ok_none _ _) ?_
  refine zz_cons (k' := 31) rfl (zz_Ok_none _ _) ?_
  refine zz_cons (k' := 32) rfl (zk_aload_n X dX5_podsBehind_31 rfl rfl) ?_
  refine zz_cons (k' := 33) rfl (zk_iload X dX5_podsBehind_32 rfl) ?_
  refine zz_cons (k' := 34) rfl (zz_Ok_none _ _) ?_
  refine zz_cons (k' := 35) rfl (zk_iconst X dX5_podsBehind_34 (by decide) rfl) ?_
  refine zz_cons (k' := 36) rfl (zk_callv X (zz_Cv_of (List.forall_mem_cons.mpr ⟨⟨(RX_4, zzT4, 12), yX10_isStaying, cX10_isStaying, 3, (some .boolean), 1, 22, rfl, kv_X5_27_4, (mm_X10_isStaying Wd).1, by decide, by decide⟩, (fun _ h => absurd h List.not_mem_nil)⟩)) dX5_podsBehind_35 rfl) ?_
  refine zz_cons (k' := 37) rfl (zz_Ok_none _ _) ?_
  refine zz_cons (k' := 38) rfl (zz_Ok_none _ _) ?_
  refine zz_cons (k' := 39) rfl (zk_if_eq X dX5_podsBehind_38 (by decide) rfl) ?_
  refine zz_cons (k' := 40) rfl (zz_Ok_none _ _) ?_
  refine zz_cons (k' := 41) rfl (zz_Ok_none _ _) ?_
  refine zz_cons (k' := 42) rfl (zk_aload_n X dX5_podsBehind_41 rfl rfl) ?_
  refine zz_cons (k' := 43) rfl (zk_iload X dX5_podsBehind_42 rfl) ?_
  refine zz_cons (k' := 44) rfl (zz_Ok_none _ _) ?_
  refine zz_cons (k' := 45) rfl (zk_bipush X dX5_podsBehind_44 (by decide) rfl) ?_
  refine zz_cons (k' := 46) rfl (zz_Ok_none _ _) ?_
  refine zz_cons (k' := 47) rfl (zk_callv X (zz_Cv_of (List.forall_mem_cons.mpr ⟨⟨(RX_4, zzT4, 12), yX10_read, cX10_read, 3, (some .int), 0, 0, rfl, kv_X5_15_4, (mm_X10_read Wd).1, by decide, by decide⟩, (fun _ h => absurd h List.not_mem_nil)⟩)) dX5_podsBehind_46 rfl) ?_
  refine zz_cons (k' := 48) rfl (zz_Ok_none _ _) ?_
  refine zz_cons (k' := 49) rfl (zz_Ok_none _ _) ?_
  refine zz_cons (k' := 50) rfl (zk_iconst X dX5_podsBehind_49 (by decide) rfl) ?_
  refine zz_cons (k' := 51) rfl (zk_icmp_ne X dX5_podsBehind_50 (by decide) rfl) ?_
  refine zz_cons (k' := 52) rfl (zz_Ok_none _ _) ?_
  refine zz_cons (k' := 53) rfl (zz_Ok_none _ _) ?_
  refine zz_cons (k' := 54) rfl (zk_aload_n X dX5_podsBehind_53 rfl rfl) ?_
  refine zz_cons (k' := 55) rfl (zk_iload X dX5_podsBehind_54 rfl) ?_
  refine zz_cons (k' := 56) rfl (zz_Ok_none _ _) ?_
  refine zz_cons (k' := 57) rfl (zk_iconst X dX5_podsBehind_56 (by decide) rfl) ?_
  refine zz_cons (k' := 58) rfl (zk_callv X (zz_Cv_of (List.forall_mem_cons.mpr ⟨⟨(RX_4, zzT4, 12), yX10_read, cX10_read, 3, (some .int), 0, 0, rfl, kv_X5_15_4, (mm_X10_read Wd).1, by decide, by decide⟩, (fun _ h => absurd h List.not_mem_nil)⟩)) dX5_podsBehind_57 rfl) ?_
  refine zz_cons (k' := 59) rfl (zz_Ok_none _ _) ?_
  refine zz_cons (k' := 60) rfl (zz_Ok_none _ _) ?_
  refine zz_cons (k' := 61) rfl (zk_iload_n X dX5_podsBehind_60 rfl rfl) ?_
  refine zz_cons (k' := 62) rfl (zk_icmp_ne X dX5_podsBehind_61 (by decide) rfl) ?_
  refine zz_cons (k' := 63) rfl (zz_Ok_none _ _) ?_
  refine zz_cons (k' := 64) rfl (zz_Ok_none _ _) ?_
  refine zz_cons (k' := 65) rfl (zk_iload X dX5_podsBehind_64 rfl) ?_
  refine zz_cons (k' := 66) rfl (zz_Ok_none _ _) ?_
  refine zz_cons (k' := 67) rfl (zk_iconst X dX5_podsBehind_66 (by decide) rfl) ?_
  refine zz_cons (k' := 68) rfl (zk_iload X dX5_podsBehind_67 rfl) ?_
  refine zz_cons (k' := 69) rfl (zz_Ok_none _ _) ?_
  refine zz_cons (k' := 70) rfl (zk_iload_n X dX5_podsBehind_69 rfl rfl) ?_
  refine zz_cons (k' := 71) rfl (zk_isub X dX5_podsBehind_70 rfl) ?_
  refine zz_cons (k' := 72) rfl (zk_ishl X dX5_podsBehind_71 rfl) ?_
  refine zz_cons (k' := 73) rfl (zk_ior X dX5_podsBehind_72 rfl) ?_
  refine zz_cons (k' := 74) rfl (zk_istore X dX5_podsBehind_73 (by decide) rfl) ?_
  refine zz_cons (k' := 75) rfl (zz_Ok_none _ _) ?_
  refine zz_cons (k' := 76) rfl (zk_iinc X dX5_podsBehind_75 (by decide) (by decide) rfl) ?_
  refine zz_cons (k' := 77) rfl (zz_Ok_none _ _) ?_
  refine zz_cons (k' := 78) rfl (zz_Ok_none _ _) ?_
  refine zz_cons (k' := 79) rfl (zk_goto X dX5_podsBehind_78 (by decide)) ?_
  refine zz_cons (k' := 80) rfl (zz_Ok_none _ _) ?_
  refine zz_cons (k' := 81) rfl (zz_Ok_none _ _) ?_
  refine zz_cons (k' := 82) rfl (zk_iload X dX5_podsBehind_81 rfl) ?_
  refine zz_cons (k' := 83) rfl (zz_Ok_none _ _) ?_
  refine zz_cons (k' := 84) rfl (zk_iret X rfl dX5_podsBehind_83) ?_
  exact trivial
noncomputable def tX5_serve : List zzOp := [
  zo_aload 0 1,
  zo_iload 1 2,
  zo_pushI 5 3,
  zo_callv zzSC (zz_cl [(4, fX10_isStaying)]) 2 6,
  zo_none,
  zo_none,
  zo_if (fun x => decide (¬ x = 0)) 11 9,
  zo_none,
  zo_none,
  zo_pushI 1 10,
  zo_iret false,
  zo_aload 0 12,
  zo_iload 1 13,
  zo_pushI 0 14,
  zo_callv zzSC (zz_cl [(4, fX5_podsBehind)]) 2 17,
  zo_none,
  zo_none,
  zo_istore 2 18,
  zo_aload 0 19,
  zo_iload 1 20,
  zo_pushI 30 22,
  zo_none,
  zo_callv zzSC (zz_cl [(4, fX5_podsBehind)]) 2 25,
  zo_none,
  zo_none,
  zo_istore 3 26,
  zo_iload 2 27,
  zo_aload 0 28,
  zo_iload 1 29,
  zo_pushI 30 31,
  zo_none,
  zo_callv zzSC (zz_cl [(4, fX10_read)]) 2 34,
  zo_none,
  zo_none,
  zo_icmp (fun x y => decide (¬ x = y)) 50 37,
  zo_none,
  zo_none,
  zo_iload 3 38,
  zo_aload 0 39,
  zo_iload 1 40,
  zo_pushI 31 42,
  zo_none,
  zo_callv zzSC (zz_cl [(4, fX10_read)]) 2 45,
  zo_none,
  zo_none,
  zo_icmp (fun x y => decide (¬ x = y)) 50 48,
  zo_none,
  zo_none,
  zo_pushI 1 49,
  zo_iret false,
  zo_aload 0 51,
  zo_iload 1 52,
  zo_callv zzSC (zz_cl [(4, fX2_isUpToDate)]) 1 55,
  zo_none,
  zo_none,
  zo_if (fun x => decide (x = 0)) 79 58,
  zo_none,
  zo_none,
  zo_aload 0 59,
  zo_getf zzSC (zz_kf [4] 4) 62,
  zo_none,
  zo_none,
  zo_iload 1 63,
  zo_pushI 30 65,
  zo_none,
  zo_iload 2 66,
  zo_pushI 31 68,
  zo_none,
  zo_iload 3 69,
  zo_callv zzSC (zz_cl [(8, fX9_changeBoth)]) 5 72,
  zo_none,
  zo_none,
  zo_if (fun x => decide (x = 0)) 79 75,
  zo_none,
  zo_none,
  zo_pushI 1 76,
  zo_goto 80,
  zo_none,
  zo_none,
  zo_pushI 0 80,
  zo_calls fX2_outcomeOf 1 83,
  zo_none,
  zo_none,
  zo_iret false]
set_option maxRecDepth 100000 in
theorem tl_X5_serve : ∀ pc, zz_Tl (tX5_serve.getD pc zo_none) := by
  refine zz_Tl_mem ?_
  unfold tX5_serve
  refine List.forall_mem_cons.mpr ⟨(zo_aload_tl _ _), ?_⟩
  refine List.forall_mem_cons.mpr ⟨(zo_iload_tl _ _), ?_⟩
  refine List.forall_mem_cons.mpr ⟨(zo_pushI_tl _ _), ?_⟩
  refine List.forall_mem_cons.mpr ⟨(zo_callv_tl _ _ _ _), ?_⟩
  refine List.forall_mem_cons.mpr ⟨zo_none_tl, ?_⟩
  refine List.forall_mem_cons.mpr ⟨zo_none_tl, ?_⟩
  refine List.forall_mem_cons.mpr ⟨(zo_if_tl _ _ _), ?_⟩
  refine List.forall_mem_cons.mpr ⟨zo_none_tl, ?_⟩
  refine List.forall_mem_cons.mpr ⟨zo_none_tl, ?_⟩
  refine List.forall_mem_cons.mpr ⟨(zo_pushI_tl _ _), ?_⟩
  refine List.forall_mem_cons.mpr ⟨(zo_iret_tl _), ?_⟩
  refine List.forall_mem_cons.mpr ⟨(zo_aload_tl _ _), ?_⟩
  refine List.forall_mem_cons.mpr ⟨(zo_iload_tl _ _), ?_⟩
  refine List.forall_mem_cons.mpr ⟨(zo_pushI_tl _ _), ?_⟩
  refine List.forall_mem_cons.mpr ⟨(zo_callv_tl _ _ _ _), ?_⟩
  refine List.forall_mem_cons.mpr ⟨zo_none_tl, ?_⟩
  refine List.forall_mem_cons.mpr ⟨zo_none_tl, ?_⟩
  refine List.forall_mem_cons.mpr ⟨(zo_istore_tl _ _), ?_⟩
  refine List.forall_mem_cons.mpr ⟨(zo_aload_tl _ _), ?_⟩
  refine List.forall_mem_cons.mpr ⟨(zo_iload_tl _ _), ?_⟩
  refine List.forall_mem_cons.mpr ⟨(zo_pushI_tl _ _), ?_⟩
  refine List.forall_mem_cons.mpr ⟨zo_none_tl, ?_⟩
  refine List.forall_mem_cons.mpr ⟨(zo_callv_tl _ _ _ _), ?_⟩
  refine List.forall_mem_cons.mpr ⟨zo_none_tl, ?_⟩
  refine List.forall_mem_cons.mpr ⟨zo_none_tl, ?_⟩
  refine List.forall_mem_cons.mpr ⟨(zo_istore_tl _ _), ?_⟩
  refine List.forall_mem_cons.mpr ⟨(zo_iload_tl _ _), ?_⟩
  refine List.forall_mem_cons.mpr ⟨(zo_aload_tl _ _), ?_⟩
  refine List.forall_mem_cons.mpr ⟨(zo_iload_tl _ _), ?_⟩
  refine List.forall_mem_cons.mpr ⟨(zo_pushI_tl _ _), ?_⟩
  refine List.forall_mem_cons.mpr ⟨zo_none_tl, ?_⟩
  refine List.forall_mem_cons.mpr ⟨(zo_callv_tl _ _ _ _), ?_⟩
  refine List.forall_mem_cons.mpr ⟨zo_none_tl, ?_⟩
  refine List.forall_mem_cons.mpr ⟨zo_none_tl, ?_⟩
  refine List.forall_mem_cons.mpr ⟨(zo_icmp_tl _ _ _), ?_⟩
  refine List.forall_mem_cons.mpr ⟨zo_none_tl, ?_⟩
  refine List.forall_mem_cons.mpr ⟨zo_none_tl, ?_⟩
  refine List.forall_mem_cons.mpr ⟨(zo_iload_tl _ _), ?_⟩
  refine List.forall_mem_cons.mpr ⟨(zo_aload_tl _ _), ?_⟩
  refine List.forall_mem_cons.mpr ⟨(zo_iload_tl _ _), ?_⟩
  refine List.forall_mem_cons.mpr ⟨(zo_pushI_tl _ _), ?_⟩
  refine List.forall_mem_cons.mpr ⟨zo_none_tl, ?_⟩
  refine List.forall_mem_cons.mpr ⟨(zo_callv_tl _ _ _ _), ?_⟩
  refine List.forall_mem_cons.mpr ⟨zo_none_tl, ?_⟩
  refine List.forall_mem_cons.mpr ⟨zo_none_tl, ?_⟩
  refine List.forall_mem_cons.mpr ⟨(zo_icmp_tl _ _ _), ?_⟩
  refine List.forall_mem_cons.mpr ⟨zo_none_tl, ?_⟩
  refine List.forall_mem_cons.mpr ⟨zo_none_tl, ?_⟩
  refine List.forall_mem_cons.mpr ⟨(zo_pushI_tl _ _), ?_⟩
  refine List.forall_mem_cons.mpr ⟨(zo_iret_tl _), ?_⟩
  refine List.forall_mem_cons.mpr ⟨(zo_aload_tl _ _), ?_⟩
  refine List.forall_mem_cons.mpr ⟨(zo_iload_tl _ _), ?_⟩
  refine List.forall_mem_cons.mpr ⟨(zo_callv_tl _ _ _ _), ?_⟩
  refine List.forall_mem_cons.mpr ⟨zo_none_tl, ?_⟩
  refine List.forall_mem_cons.mpr ⟨zo_none_tl, ?_⟩
  refine List.forall_mem_cons.mpr ⟨(zo_if_tl _ _ _), ?_⟩
  refine List.forall_mem_cons.mpr ⟨zo_none_tl, ?_⟩
  refine List.forall_mem_cons.mpr ⟨zo_none_tl, ?_⟩
  refine List.forall_mem_cons.mpr ⟨(zo_aload_tl _ _), ?_⟩
  refine List.forall_mem_cons.mpr ⟨(zo_getf_tl _ _ _), ?_⟩
  refine List.forall_mem_cons.mpr ⟨zo_none_tl, ?_⟩
  refine List.forall_mem_cons.mpr ⟨zo_none_tl, ?_⟩
  refine List.forall_mem_cons.mpr ⟨(zo_iload_tl _ _), ?_⟩
  refine List.forall_mem_cons.mpr ⟨(zo_pushI_tl _ _), ?_⟩
  refine List.forall_mem_cons.mpr ⟨zo_none_tl, ?_⟩
  refine List.forall_mem_cons.mpr ⟨(zo_iload_tl _ _), ?_⟩
  refine List.forall_mem_cons.mpr ⟨(zo_pushI_tl _ _), ?_⟩
  refine List.forall_mem_cons.mpr ⟨zo_none_tl, ?_⟩
  refine List.forall_mem_cons.mpr ⟨(zo_iload_tl _ _), ?_⟩
  refine List.forall_mem_cons.mpr ⟨(zo_callv_tl _ _ _ _), ?_⟩
  refine List.forall_mem_cons.mpr ⟨zo_none_tl, ?_⟩
  refine List.forall_mem_cons.mpr ⟨zo_none_tl, ?_⟩
  refine List.forall_mem_cons.mpr ⟨(zo_if_tl _ _ _), ?_⟩
  refine List.forall_mem_cons.mpr ⟨zo_none_tl, ?_⟩
  refine List.forall_mem_cons.mpr ⟨zo_none_tl, ?_⟩
  refine List.forall_mem_cons.mpr ⟨(zo_pushI_tl _ _), ?_⟩
  refine List.forall_mem_cons.mpr ⟨(zo_goto_tl _), ?_⟩
  refine List.forall_mem_cons.mpr ⟨zo_none_tl, ?_⟩
  refine List.forall_mem_cons.mpr ⟨zo_none_tl, ?_⟩
  refine List.forall_mem_cons.mpr ⟨(zo_pushI_tl _ _), ?_⟩
  refine List.forall_mem_cons.mpr ⟨(zo_calls_tl _ _ _), ?_⟩
  refine List.forall_mem_cons.mpr ⟨zo_none_tl, ?_⟩
  refine List.forall_mem_cons.mpr ⟨zo_none_tl, ?_⟩
  refine List.forall_mem_cons.mpr ⟨(zo_iret_tl _), ?_⟩
  exact fun _ h => absurd h List.not_mem_nil
noncomputable def fX5_serve : zzFn := zz_fn tX5_serve 4
set_option maxRecDepth 100000 in
set_option maxHeartbeats 4000000 in
theorem mm_X5_serve {l : Launch} {D : va_G} {cA : Nat → ClassId} {ad : Nat → Nat} {Ex : (Nat → Prop) → State → Heap → Prop} (Wd : zzWC l D cA ad Ex) : zz_Cn l D zzCl cA ad zzSC Ex yX5_serve cX5_serve 4 (some .int) 3 72 fX5_serve ∧ zz_Cx l D zzCl cA ad zzSC Ex yX5_serve cX5_serve 4 (some .int) 3 72 fX5_serve := by
  refine zz_meth (plainFor_of_name (by decide)) Wd.1 Wd.2.1 Wd.2.2.1 (fun p e R s m args below meth c rr X => ?_)
  unfold tX5_serve
  refine zz_cons (k' := 1) rfl (zk_aload_n X dX5_serve_0 rfl rfl) ?_
  refine zz_cons (k' := 2) rfl (zk_iload_n X dX5_serve_1 rfl rfl) ?_
  refine zz_cons (k' := 3) rfl (zk_iconst X dX5_serve_2 (by decide) rfl) ?_
  refine zz_cons (k' := 4) rfl (zk_callv X (zz_Cv_of (List.forall_mem_cons.mpr ⟨⟨(RX_4, zzT4, 12), yX10_isStaying, cX10_isStaying, 3, (some .boolean), 1, 22, rfl, kv_X5_27_4, (mm_X10_isStaying Wd).1, by decide, by decide⟩, (fun _ h => absurd h List.not_mem_nil)⟩)) dX5_serve_3 rfl) ?_
  refine zz_cons (k' := 5) rfl (zz_Ok_none _ _) ?_
  refine zz_cons (k' := 6) rfl (zz_Ok_none _ _) ?_
  refine zz_cons (k' := 7) rfl (zk_if_ne X dX5_serve_6 (by decide) rfl) ?_
  refine zz_cons (k' := 8) rfl (zz_Ok_none _ _) ?_
  refine zz_cons (k' := 9) rfl (zz_Ok_none _ _) ?_
  refine zz_cons (k' := 10) rfl (zk_iconst X dX5_serve_9 (by decide) rfl) ?_
  refine zz_cons (k' := 11) rfl (zk_iret X rfl dX5_serve_10) ?_
  refine zz_cons (k' := 12) rfl (zk_aload_n X dX5_serve_11 rfl rfl) ?_
  refine zz_cons (k' := 13) rfl (zk_iload_n X dX5_serve_12 rfl rfl) ?_
  refine zz_cons (k' := 14) rfl (zk_iconst X dX5_serve_13 (by decide) rfl) ?_
  refine zz_cons (k' := 15) rfl (zk_callv X (zz_Cv_of (List.forall_mem_cons.mpr ⟨⟨(RX_4, zzT4, 12), yX5_podsBehind, cX5_podsBehind, 6, (some .int), 2, 44, rfl, kv_X5_31_4.1, (mm_X5_podsBehind Wd).1, by decide, by decide⟩, (fun _ h => absurd h List.not_mem_nil)⟩)) dX5_serve_14 rfl) ?_
  refine zz_cons (k' := 16) rfl (zz_Ok_none _ _) ?_
  refine zz_cons (k' := 17) rfl (zz_Ok_none _ _) ?_
  refine zz_cons (k' := 18) rfl (zk_istore_n X dX5_serve_17 rfl (by decide) rfl) ?_
  refine zz_cons (k' := 19) rfl (zk_aload_n X dX5_serve_18 rfl rfl) ?_
  refine zz_cons (k' := 20) rfl (zk_iload_n X dX5_serve_19 rfl rfl) ?_
  refine zz_cons (k' := 21) rfl (zk_bipush X dX5_serve_20 (by decide) rfl) ?_
  refine zz_cons (k' := 22) rfl (zz_Ok_none _ _) ?_
  refine zz_cons (k' := 23) rfl (zk_callv X (zz_Cv_of (List.forall_mem_cons.mpr ⟨⟨(RX_4, zzT4, 12), yX5_podsBehind, cX5_podsBehind, 6, (some .int), 2, 44, rfl, kv_X5_31_4.1, (mm_X5_podsBehind Wd).1, by decide, by decide⟩, (fun _ h => absurd h List.not_mem_nil)⟩)) dX5_serve_22 rfl) ?_
  refine zz_cons (k' := 24) rfl (zz_Ok_none _ _) ?_
  refine zz_cons (k' := 25) rfl (zz_Ok_none _ _) ?_
  refine zz_cons (k' := 26) rfl (zk_istore_n X dX5_serve_25 rfl (by decide) rfl) ?_
  refine zz_cons (k' := 27) rfl (zk_iload_n X dX5_serve_26 rfl rfl) ?_
  refine zz_cons (k' := 28) rfl (zk_aload_n X dX5_serve_27 rfl rfl) ?_
  refine zz_cons (k' := 29) rfl (zk_iload_n X dX5_serve_28 rfl rfl) ?_
  refine zz_cons (k' := 30) rfl (zk_bipush X dX5_serve_29 (by decide) rfl) ?_
  refine zz_cons (k' := 31) rfl (zz_Ok_none _ _) ?_
  refine zz_cons (k' := 32) rfl (zk_callv X (zz_Cv_of (List.forall_mem_cons.mpr ⟨⟨(RX_4, zzT4, 12), yX10_read, cX10_read, 3, (some .int), 0, 0, rfl, kv_X5_15_4, (mm_X10_read Wd).1, by decide, by decide⟩, (fun _ h => absurd h List.not_mem_nil)⟩)) dX5_serve_31 rfl) ?_
  refine zz_cons (k' := 33) rfl (zz_Ok_none _ _) ?_
  refine zz_cons (k' := 34) rfl (zz_Ok_none _ _) ?_
  refine zz_cons (k' := 35) rfl (zk_icmp_ne X dX5_serve_34 (by decide) rfl) ?_
  refine zz_cons (k' := 36) rfl (zz_Ok_none _ _) ?_
  refine zz_cons (k' := 37) rfl (zz_Ok_none _ _) ?_
  refine zz_cons (k' := 38) rfl (zk_iload_n X dX5_serve_37 rfl rfl) ?_
  refine zz_cons (k' := 39) rfl (zk_aload_n X dX5_serve_38 rfl rfl) ?_
  refine zz_cons (k' := 40) rfl (zk_iload_n X dX5_serve_39 rfl rfl) ?_
  refine zz_cons (k' := 41) rfl (zk_bipush X dX5_serve_40 (by decide) rfl) ?_
  refine zz_cons (k' := 42) rfl (zz_Ok_none _ _) ?_
  refine zz_cons (k' := 43) rfl (zk_callv X (zz_Cv_of (List.forall_mem_cons.mpr ⟨⟨(RX_4, zzT4, 12), yX10_read, cX10_read, 3, (some .int), 0, 0, rfl, kv_X5_15_4, (mm_X10_read Wd).1, by decide, by decide⟩, (fun _ h => absurd h List.not_mem_nil)⟩)) dX5_serve_42 rfl) ?_
  refine zz_cons (k' := 44) rfl (zz_Ok_none _ _) ?_
  refine zz_cons (k' := 45) rfl (zz_Ok_none _ _) ?_
  refine zz_cons (k' := 46) rfl (zk_icmp_ne X dX5_serve_45 (by decide) rfl) ?_
  refine zz_cons (k' := 47) rfl (zz_Ok_none _ _) ?_
  refine zz_cons (k' := 48) rfl (zz_Ok_none _ _) ?_
  refine zz_cons (k' := 49) rfl (zk_iconst X dX5_serve_48 (by decide) rfl) ?_
  refine zz_cons (k' := 50) rfl (zk_iret X rfl dX5_serve_49) ?_
  refine zz_cons (k' := 51) rfl (zk_aload_n X dX5_serve_50 rfl rfl) ?_
  refine zz_cons (k' := 52) rfl (zk_iload_n X dX5_serve_51 rfl rfl) ?_
  refine zz_cons (k' := 53) rfl (zk_callv X (zz_Cv_of (List.forall_mem_cons.mpr ⟨⟨(RX_4, zzT4, 12), yX2_isUpToDate, cX2_isUpToDate, 2, (some .boolean), 1, 21, rfl, kv_X5_34_4, (mm_X2_isUpToDate Wd).1, by decide, by decide⟩, (fun _ h => absurd h List.not_mem_nil)⟩)) dX5_serve_52 rfl) ?_
  refine zz_cons (k' := 54) rfl (zz_Ok_none _ _) ?_
  refine zz_cons (k' := 55) rfl (zz_Ok_none _ _) ?_
  refine zz_cons (k' := 56) rfl (zk_if_eq X dX5_serve_55 (by decide) rfl) ?_
  refine zz_cons (k' := 57) rfl (zz_Ok_none _ _) ?_
  refine zz_cons (k' := 58) rfl (zz_Ok_none _ _) ?_
  refine zz_cons (k' := 59) rfl (zk_aload_n X dX5_serve_58 rfl rfl) ?_
  refine zz_cons (k' := 60) rfl (zk_getf X ff_X5_37 dX5_serve_59 rfl) ?_
  refine zz_cons (k' := 61) rfl (zz_Ok_none _ _) ?_
  refine zz_cons (k' := 62) rfl (zz_Ok_none _ _) ?_
  refine zz_cons (k' := 63) rfl (zk_iload_n X dX5_serve_62 rfl rfl) ?_
  refine zz_cons (k' := 64) rfl (zk_bipush X dX5_serve_63 (by decide) rfl) ?_
  refine zz_cons (k' := 65) rfl (zz_Ok_none _ _) ?_
  refine zz_cons (k' := 66) rfl (zk_iload_n X dX5_serve_65 rfl rfl) ?_
  refine zz_cons (k' := 67) rfl (zk_bipush X dX5_serve_66 (by decide) rfl) ?_
  refine zz_cons (k' := 68) rfl (zz_Ok_none _ _) ?_
  refine zz_cons (k' := 69) rfl (zk_iload_n X dX5_serve_68 rfl rfl) ?_
  refine zz_cons (k' := 70) rfl (zk_callv X (zz_Cv_of (List.forall_mem_cons.mpr ⟨⟨(RX_8, zzT8, 9), yX9_changeBoth, cX9_changeBoth, 6, (some .boolean), 2, 47, rfl, kv_X5_41_8.1, (mm_X9_changeBoth Wd).1, by decide, by decide⟩, (fun _ h => absurd h List.not_mem_nil)⟩)) dX5_serve_69 rfl) ?_
  refine zz_cons (k' := 71) rfl (zz_Ok_none _ _) ?_
  refine zz_cons (k' := 72) rfl (zz_Ok_none _ _) ?_
  refine zz_cons (k' := 73) rfl (zk_if_eq X dX5_serve_72 (by decide) rfl) ?_
  refine zz_cons (k' := 74) rfl (zz_Ok_none _ _) ?_
  refine zz_cons (k' := 75) rfl (zz_Ok_none _ _) ?_
  refine zz_cons (k' := 76) rfl (zk_iconst X dX5_serve_75 (by decide) rfl) ?_
  refine zz_cons (k' := 77) rfl (zk_goto X dX5_serve_76 (by decide)) ?_
  refine zz_cons (k' := 78) rfl (zz_Ok_none _ _) ?_
  refine zz_cons (k' := 79) rfl (zz_Ok_none _ _) ?_
  refine zz_cons (k' := 80) rfl (zk_iconst X dX5_serve_79 (by decide) rfl) ?_
  refine zz_cons (k' := 81) rfl (zk_calls X ks_X5_47 (mm_X2_outcomeOf Wd).1 (by decide) dX5_serve_80 rfl) ?_
  refine zz_cons (k' := 82) rfl (zz_Ok_none _ _) ?_
  refine zz_cons (k' := 83) rfl (zz_Ok_none _ _) ?_
  refine zz_cons (k' := 84) rfl (zk_iret X rfl dX5_serve_83) ?_
  exact trivial
noncomputable def tX6_clearPlace : List zzOp := [
  zo_aload 0 1,
  zo_iload 1 2,
  zo_pushI 26 4,
  zo_none,
  zo_callv zzSC (zz_cl [(5, fX10_read)]) 2 7,
  zo_none,
  zo_none,
  zo_pushI 1 8,
  zo_icmp (fun x y => decide (¬ x = y)) 21 11,
  zo_none,
  zo_none,
  zo_aload 0 12,
  zo_iload 1 13,
  zo_pushI 25 15,
  zo_none,
  zo_callv zzSC (zz_cl [(5, fX10_read)]) 2 18,
  zo_none,
  zo_none,
  zo_goto 22,
  zo_none,
  zo_none,
  zo_pushI 4 22,
  zo_istore 2 23,
  zo_aload 0 24,
  zo_iload 1 25,
  zo_callv zzSC (zz_cl [(5, fX2_isUpToDate)]) 1 28,
  zo_none,
  zo_none,
  zo_if (fun x => decide (x = 0)) 52 31,
  zo_none,
  zo_none,
  zo_aload 0 32,
  zo_getf zzSC (zz_kf [5] 4) 35,
  zo_none,
  zo_none,
  zo_iload 1 36,
  zo_pushI 28 38,
  zo_none,
  zo_pushI (-1) 39,
  zo_pushI 25 41,
  zo_none,
  zo_iload 2 42,
  zo_callv zzSC (zz_cl [(8, fX9_changeBoth)]) 5 45,
  zo_none,
  zo_none,
  zo_if (fun x => decide (x = 0)) 52 48,
  zo_none,
  zo_none,
  zo_pushI 1 49,
  zo_goto 53,
  zo_none,
  zo_none,
  zo_pushI 0 53,
  zo_iret true]
set_option maxRecDepth 100000 in
theorem tl_X6_clearPlace : ∀ pc, zz_Tl (tX6_clearPlace.getD pc zo_none) := by
  refine zz_Tl_mem ?_
  unfold tX6_clearPlace
  refine List.forall_mem_cons.mpr ⟨(zo_aload_tl _ _), ?_⟩
  refine List.forall_mem_cons.mpr ⟨(zo_iload_tl _ _), ?_⟩
  refine List.forall_mem_cons.mpr ⟨(zo_pushI_tl _ _), ?_⟩
  refine List.forall_mem_cons.mpr ⟨zo_none_tl, ?_⟩
  refine List.forall_mem_cons.mpr ⟨(zo_callv_tl _ _ _ _), ?_⟩
  refine List.forall_mem_cons.mpr ⟨zo_none_tl, ?_⟩
  refine List.forall_mem_cons.mpr ⟨zo_none_tl, ?_⟩
  refine List.forall_mem_cons.mpr ⟨(zo_pushI_tl _ _), ?_⟩
  refine List.forall_mem_cons.mpr ⟨(zo_icmp_tl _ _ _), ?_⟩
  refine List.forall_mem_cons.mpr ⟨zo_none_tl, ?_⟩
  refine List.forall_mem_cons.mpr ⟨zo_none_tl, ?_⟩
  refine List.forall_mem_cons.mpr ⟨(zo_aload_tl _ _), ?_⟩
  refine List.forall_mem_cons.mpr ⟨(zo_iload_tl _ _), ?_⟩
  refine List.forall_mem_cons.mpr ⟨(zo_pushI_tl _ _), ?_⟩
  refine List.forall_mem_cons.mpr ⟨zo_none_tl, ?_⟩
  refine List.forall_mem_cons.mpr ⟨(zo_callv_tl _ _ _ _), ?_⟩
  refine List.forall_mem_cons.mpr ⟨zo_none_tl, ?_⟩
  refine List.forall_mem_cons.mpr ⟨zo_none_tl, ?_⟩
  refine List.forall_mem_cons.mpr ⟨(zo_goto_tl _), ?_⟩
  refine List.forall_mem_cons.mpr ⟨zo_none_tl, ?_⟩
  refine List.forall_mem_cons.mpr ⟨zo_none_tl, ?_⟩
  refine List.forall_mem_cons.mpr ⟨(zo_pushI_tl _ _), ?_⟩
  refine List.forall_mem_cons.mpr ⟨(zo_istore_tl _ _), ?_⟩
  refine List.forall_mem_cons.mpr ⟨(zo_aload_tl _ _), ?_⟩
  refine List.forall_mem_cons.mpr ⟨(zo_iload_tl _ _), ?_⟩
  refine List.forall_mem_cons.mpr ⟨(zo_callv_tl _ _ _ _), ?_⟩
  refine List.forall_mem_cons.mpr ⟨zo_none_tl, ?_⟩
  refine List.forall_mem_cons.mpr ⟨zo_none_tl, ?_⟩
  refine List.forall_mem_cons.mpr ⟨(zo_if_tl _ _ _), ?_⟩
  refine List.forall_mem_cons.mpr ⟨zo_none_tl, ?_⟩
  refine List.forall_mem_cons.mpr ⟨zo_none_tl, ?_⟩
  refine List.forall_mem_cons.mpr ⟨(zo_aload_tl _ _), ?_⟩
  refine List.forall_mem_cons.mpr ⟨(zo_getf_tl _ _ _), ?_⟩
  refine List.forall_mem_cons.mpr ⟨zo_none_tl, ?_⟩
  refine List.forall_mem_cons.mpr ⟨zo_none_tl, ?_⟩
  refine List.forall_mem_cons.mpr ⟨(zo_iload_tl _ _), ?_⟩
  refine List.forall_mem_cons.mpr ⟨(zo_pushI_tl _ _), ?_⟩
  refine List.forall_mem_cons.mpr ⟨zo_none_tl, ?_⟩
  refine List.forall_mem_cons.mpr ⟨(zo_pushI_tl _ _), ?_⟩
  refine List.forall_mem_cons.mpr ⟨(zo_pushI_tl _ _), ?_⟩
  refine List.forall_mem_cons.mpr ⟨zo_none_tl, ?_⟩
  refine List.forall_mem_cons.mpr ⟨(zo_iload_tl _ _), ?_⟩
  refine List.forall_mem_cons.mpr ⟨(zo_callv_tl _ _ _ _), ?_⟩
  refine List.forall_mem_cons.mpr ⟨zo_none_tl, ?_⟩
  refine List.forall_mem_cons.mpr ⟨zo_none_tl, ?_⟩
  refine List.forall_mem_cons.mpr ⟨(zo_if_tl _ _ _), ?_⟩
  refine List.forall_mem_cons.mpr ⟨zo_none_tl, ?_⟩
  refine List.forall_mem_cons.mpr ⟨zo_none_tl, ?_⟩
  refine List.forall_mem_cons.mpr ⟨(zo_pushI_tl _ _), ?_⟩
  refine List.forall_mem_cons.mpr ⟨(zo_goto_tl _), ?_⟩
  refine List.forall_mem_cons.mpr ⟨zo_none_tl, ?_⟩
  refine List.forall_mem_cons.mpr ⟨zo_none_tl, ?_⟩
  refine List.forall_mem_cons.mpr ⟨(zo_pushI_tl _ _), ?_⟩
  refine List.forall_mem_cons.mpr ⟨(zo_iret_tl _), ?_⟩
  exact fun _ h => absurd h List.not_mem_nil
noncomputable def fX6_clearPlace : zzFn := zz_fn tX6_clearPlace 3
set_option maxRecDepth 100000 in
set_option maxHeartbeats 4000000 in
theorem mm_X6_clearPlace {l : Launch} {D : va_G} {cA : Nat → ClassId} {ad : Nat → Nat} {Ex : (Nat → Prop) → State → Heap → Prop} (Wd : zzWC l D cA ad Ex) : zz_Cn l D zzCl cA ad zzSC Ex yX6_clearPlace cX6_clearPlace 3 (some .boolean) 3 72 fX6_clearPlace ∧ zz_Cx l D zzCl cA ad zzSC Ex yX6_clearPlace cX6_clearPlace 3 (some .boolean) 3 72 fX6_clearPlace := by
  refine zz_meth (plainFor_of_name (by decide)) Wd.1 Wd.2.1 Wd.2.2.1 (fun p e R s m args below meth c rr X => ?_)
  unfold tX6_clearPlace
  refine zz_cons (k' := 1) rfl (zk_aload_n X dX6_clearPlace_0 rfl rfl) ?_
  refine zz_cons (k' := 2) rfl (zk_iload_n X dX6_clearPlace_1 rfl rfl) ?_
  refine zz_cons (k' := 3) rfl (zk_bipush X dX6_clearPlace_2 (by decide) rfl) ?_
  refine zz_cons (k' := 4) rfl (zz_Ok_none _ _) ?_
  refine zz_cons (k' := 5) rfl (zk_callv X (zz_Cv_of (List.forall_mem_cons.mpr ⟨⟨(RX_5, zzT5, 12), yX10_read, cX10_read, 3, (some .int), 0, 0, rfl, kv_X6_15_5, (mm_X10_read Wd).1, by decide, by decide⟩, (fun _ h => absurd h List.not_mem_nil)⟩)) dX6_clearPlace_4 rfl) ?_
  refine zz_cons (k' := 6) rfl (zz_Ok_none _ _) ?_
  refine zz_cons (k' := 7) rfl (zz_Ok_none _ _) ?_
  refine zz_cons (k' := 8) rfl (zk_iconst X dX6_clearPlace_7 (by decide) rfl) ?_
  refine zz_cons (k' := 9) rfl (zk_icmp_ne X dX6_clearPlace_8 (by decide) rfl) ?_
  refine zz_cons (k' := 10) rfl (zz_Ok_none _ _) ?_
  refine zz_cons (k' := 11) rfl (zz_Ok_none _ _) ?_
  refine zz_cons (k' := 12) rfl (zk_aload_n X dX6_clearPlace_11 rfl rfl) ?_
  refine zz_cons (k' := 13) rfl (zk_iload_n X dX6_clearPlace_12 rfl rfl) ?_
  refine zz_cons (k' := 14) rfl (zk_bipush X dX6_clearPlace_13 (by decide) rfl) ?_
  refine zz_cons (k' := 15) rfl (zz_Ok_none _ _) ?_
  refine zz_cons (k' := 16) rfl (zk_callv X (zz_Cv_of (List.forall_mem_cons.mpr ⟨⟨(RX_5, zzT5, 12), yX10_read, cX10_read, 3, (some .int), 0, 0, rfl, kv_X6_15_5, (mm_X10_read Wd).1, by decide, by decide⟩, (fun _ h => absurd h List.not_mem_nil)⟩)) dX6_clearPlace_15 rfl) ?_
  refine zz_cons (k' := 17) rfl (zz_Ok_none _ _) ?_
  refine zz_cons (k' := 18) rfl (zz_Ok_none _ _) ?_
  refine zz_cons (k' := 19) rfl (zk_goto X dX6_clearPlace_18 (by decide)) ?_
  refine zz_cons (k' := 20) rfl (zz_Ok_none _ _) ?_
  refine zz_cons (k' := 21) rfl (zz_Ok_none _ _) ?_
  refine zz_cons (k' := 22) rfl (zk_iconst X dX6_clearPlace_21 (by decide) rfl) ?_
  refine zz_cons (k' := 23) rfl (zk_istore_n X dX6_clearPlace_22 rfl (by decide) rfl) ?_
  refine zz_cons (k' := 24) rfl (zk_aload_n X dX6_clearPlace_23 rfl rfl) ?_
  refine zz_cons (k' := 25) rfl (zk_iload_n X dX6_clearPlace_24 rfl rfl) ?_
  refine zz_cons (k' := 26) rfl (zk_callv X (zz_Cv_of (List.forall_mem_cons.mpr ⟨⟨(RX_5, zzT5, 12), yX2_isUpToDate, cX2_isUpToDate, 2, (some .boolean), 1, 21, rfl, kv_X6_45_5, (mm_X2_isUpToDate Wd).1, by decide, by decide⟩, (fun _ h => absurd h List.not_mem_nil)⟩)) dX6_clearPlace_25 rfl) ?_
  refine zz_cons (k' := 27) rfl (zz_Ok_none _ _) ?_
  refine zz_cons (k' := 28) rfl (zz_Ok_none _ _) ?_
  refine zz_cons (k' := 29) rfl (zk_if_eq X dX6_clearPlace_28 (by decide) rfl) ?_
  refine zz_cons (k' := 30) rfl (zz_Ok_none _ _) ?_
  refine zz_cons (k' := 31) rfl (zz_Ok_none _ _) ?_
  refine zz_cons (k' := 32) rfl (zk_aload_n X dX6_clearPlace_31 rfl rfl) ?_
  refine zz_cons (k' := 33) rfl (zk_getf X ff_X6_48 dX6_clearPlace_32 rfl) ?_
  refine zz_cons (k' := 34) rfl (zz_Ok_none _ _) ?_
  refine zz_cons (k' := 35) rfl (zz_Ok_none _ _) ?_
  refine zz_cons (k' := 36) rfl (zk_iload_n X dX6_clearPlace_35 rfl rfl) ?_
  refine zz_cons (k' := 37) rfl (zk_bipush X dX6_clearPlace_36 (by decide) rfl) ?_
  refine zz_cons (k' := 38) rfl (zz_Ok_none _ _) ?_
  refine zz_cons (k' := 39) rfl (zk_iconst X dX6_clearPlace_38 (by decide) rfl) ?_
  refine zz_cons (k' := 40) rfl (zk_bipush X dX6_clearPlace_39 (by decide) rfl) ?_
  refine zz_cons (k' := 41) rfl (zz_Ok_none _ _) ?_
  refine zz_cons (k' := 42) rfl (zk_iload_n X dX6_clearPlace_41 rfl rfl) ?_
  refine zz_cons (k' := 43) rfl (zk_callv X (zz_Cv_of (List.forall_mem_cons.mpr ⟨⟨(RX_8, zzT8, 9), yX9_changeBoth, cX9_changeBoth, 6, (some .boolean), 2, 47, rfl, kv_X6_52_8.1, (mm_X9_changeBoth Wd).1, by decide, by decide⟩, (fun _ h => absurd h List.not_mem_nil)⟩)) dX6_clearPlace_42 rfl) ?_
  refine zz_cons (k' := 44) rfl (zz_Ok_none _ _) ?_
  refine zz_cons (k' := 45) rfl (zz_Ok_none _ _) ?_
  refine zz_cons (k' := 46) rfl (zk_if_eq X dX6_clearPlace_45 (by decide) rfl) ?_
  refine zz_cons (k' := 47) rfl (zz_Ok_none _ _) ?_
  refine zz_cons (k' := 48) rfl (zz_Ok_none _ _) ?_
  refine zz_cons (k' := 49) rfl (zk_iconst X dX6_clearPlace_48 (by decide) rfl) ?_
  refine zz_cons (k' := 50) rfl (zk_goto X dX6_clearPlace_49 (by decide)) ?_
  refine zz_cons (k' := 51) rfl (zz_Ok_none _ _) ?_
  refine zz_cons (k' := 52) rfl (zz_Ok_none _ _) ?_
  refine zz_cons (k' := 53) rfl (zk_iconst X dX6_clearPlace_52 (by decide) rfl) ?_
  refine zz_cons (k' := 54) rfl (zk_iret X rfl dX6_clearPlace_53) ?_
  exact trivial
noncomputable def tX6_runningNeeds : List zzOp := [
  zo_pushI 0 1,
  zo_istore 2 2,
  zo_pushI 0 3,
  zo_istore 3 4,
  zo_iload 3 5,
  zo_aload 0 6,
  zo_getf zzSC (zz_kf [5] 2) 9,
  zo_none,
  zo_none,
  zo_icmp (fun x y => decide (y ≤ x)) 72 12,
  zo_none,
  zo_none,
  zo_aload 0 13,
  zo_iload 3 14,
  zo_pushI 28 16,
  zo_none,
  zo_callv zzSC (zz_cl [(5, fX10_read)]) 2 19,
  zo_none,
  zo_none,
  zo_iload 1 20,
  zo_icmp (fun x y => decide (¬ x = y)) 46 23,
  zo_none,
  zo_none,
  zo_aload 0 24,
  zo_iload 3 25,
  zo_pushI 29 27,
  zo_none,
  zo_callv zzSC (zz_cl [(5, fX10_read)]) 2 30,
  zo_none,
  zo_none,
  zo_pushI 1 31,
  zo_icmp (fun x y => decide (¬ x = y)) 46 34,
  zo_none,
  zo_none,
  zo_aload 0 35,
  zo_iload 3 36,
  zo_callv zzSC (zz_cl [(5, fX10_isGone)]) 1 39,
  zo_none,
  zo_none,
  zo_if (fun x => decide (¬ x = 0)) 46 42,
  zo_none,
  zo_none,
  zo_pushI 1 43,
  zo_goto 47,
  zo_none,
  zo_none,
  zo_pushI 0 47,
  zo_istore 4 49,
  zo_none,
  zo_iload 2 50,
  zo_iload 4 52,
  zo_none,
  zo_if (fun x => decide (x = 0)) 63 55,
  zo_none,
  zo_none,
  zo_aload 0 56,
  zo_iload 3 57,
  zo_callv zzSC (zz_cl [(5, fX10_needOf)]) 1 60,
  zo_none,
  zo_none,
  zo_goto 64,
  zo_none,
  zo_none,
  zo_pushI 0 64,
  zo_ii (fun x y => x + y) 65,
  zo_istore 2 66,
  zo_iinc 3 1 69,
  zo_none,
  zo_none,
  zo_goto 4,
  zo_none,
  zo_none,
  zo_iload 2 73,
  zo_iret false]
set_option maxRecDepth 100000 in
theorem tl_X6_runningNeeds : ∀ pc, zz_Tl (tX6_runningNeeds.getD pc zo_none) := by
  refine zz_Tl_mem ?_
  unfold tX6_runningNeeds
  refine List.forall_mem_cons.mpr ⟨(zo_pushI_tl _ _), ?_⟩
  refine List.forall_mem_cons.mpr ⟨(zo_istore_tl _ _), ?_⟩
  refine List.forall_mem_cons.mpr ⟨(zo_pushI_tl _ _), ?_⟩
  refine List.forall_mem_cons.mpr ⟨(zo_istore_tl _ _), ?_⟩
  refine List.forall_mem_cons.mpr ⟨(zo_iload_tl _ _), ?_⟩
  refine List.forall_mem_cons.mpr ⟨(zo_aload_tl _ _), ?_⟩
  refine List.forall_mem_cons.mpr ⟨(zo_getf_tl _ _ _), ?_⟩
  refine List.forall_mem_cons.mpr ⟨zo_none_tl, ?_⟩
  refine List.forall_mem_cons.mpr ⟨zo_none_tl, ?_⟩
  refine List.forall_mem_cons.mpr ⟨(zo_icmp_tl _ _ _), ?_⟩
  refine List.forall_mem_cons.mpr ⟨zo_none_tl, ?_⟩
  refine List.forall_mem_cons.mpr ⟨zo_none_tl, ?_⟩
  refine List.forall_mem_cons.mpr ⟨(zo_aload_tl _ _), ?_⟩
  refine List.forall_mem_cons.mpr ⟨(zo_iload_tl _ _), ?_⟩
  refine List.forall_mem_cons.mpr ⟨(zo_pushI_tl _ _), ?_⟩
  refine List.forall_mem_cons.mpr ⟨zo_none_tl, ?_⟩
  refine List.forall_mem_cons.mpr ⟨(zo_callv_tl _ _ _ _), ?_⟩
  refine List.forall_mem_cons.mpr ⟨zo_none_tl, ?_⟩
  refine List.forall_mem_cons.mpr ⟨zo_none_tl, ?_⟩
  refine List.forall_mem_cons.mpr ⟨(zo_iload_tl _ _), ?_⟩
  refine List.forall_mem_cons.mpr ⟨(zo_icmp_tl _ _ _), ?_⟩
  refine List.forall_mem_cons.mpr ⟨zo_none_tl, ?_⟩
  refine List.forall_mem_cons.mpr ⟨zo_none_tl, ?_⟩
  refine List.forall_mem_cons.mpr ⟨(zo_aload_tl _ _), ?_⟩
  refine List.forall_mem_cons.mpr ⟨(zo_iload_tl _ _), ?_⟩
  refine List.forall_mem_cons.mpr ⟨(zo_pushI_tl _ _), ?_⟩
  refine List.forall_mem_cons.mpr ⟨zo_none_tl, ?_⟩
  refine List.forall_mem_cons.mpr ⟨(zo_callv_tl _ _ _ _), ?_⟩
  refine List.forall_mem_cons.mpr ⟨zo_none_tl, ?_⟩
  refine List.forall_mem_cons.mpr ⟨zo_none_tl, ?_⟩
  refine List.forall_mem_cons.mpr ⟨(zo_pushI_tl _ _), ?_⟩
  refine List.forall_mem_cons.mpr ⟨(zo_icmp_tl _ _ _), ?_⟩
  refine List.forall_mem_cons.mpr ⟨zo_none_tl, ?_⟩
  refine List.forall_mem_cons.mpr ⟨zo_none_tl, ?_⟩
  refine List.forall_mem_cons.mpr ⟨(zo_aload_tl _ _), ?_⟩
  refine List.forall_mem_cons.mpr ⟨(zo_iload_tl _ _), ?_⟩
  refine List.forall_mem_cons.mpr ⟨(zo_callv_tl _ _ _ _), ?_⟩
  refine List.forall_mem_cons.mpr ⟨zo_none_tl, ?_⟩
  refine List.forall_mem_cons.mpr ⟨zo_none_tl, ?_⟩
  refine List.forall_mem_cons.mpr ⟨(zo_if_tl _ _ _), ?_⟩
  refine List.forall_mem_cons.mpr ⟨zo_none_tl, ?_⟩
  refine List.forall_mem_cons.mpr ⟨zo_none_tl, ?_⟩
  refine List.forall_mem_cons.mpr ⟨(zo_pushI_tl _ _), ?_⟩
  refine List.forall_mem_cons.mpr ⟨(zo_goto_tl _), ?_⟩
  refine List.forall_mem_cons.mpr ⟨zo_none_tl, ?_⟩
  refine List.forall_mem_cons.mpr ⟨zo_none_tl, ?_⟩
  refine List.forall_mem_cons.mpr ⟨(zo_pushI_tl _ _), ?_⟩
  refine List.forall_mem_cons.mpr ⟨(zo_istore_tl _ _), ?_⟩
  refine List.forall_mem_cons.mpr ⟨zo_none_tl, ?_⟩
  refine List.forall_mem_cons.mpr ⟨(zo_iload_tl _ _), ?_⟩
  refine List.forall_mem_cons.mpr ⟨(zo_iload_tl _ _), ?_⟩
  refine List.forall_mem_cons.mpr ⟨zo_none_tl, ?_⟩
  refine List.forall_mem_cons.mpr ⟨(zo_if_tl _ _ _), ?_⟩
  refine List.forall_mem_cons.mpr ⟨zo_none_tl, ?_⟩
  refine List.forall_mem_cons.mpr ⟨zo_none_tl, ?_⟩
  refine List.forall_mem_cons.mpr ⟨(zo_aload_tl _ _), ?_⟩
  refine List.forall_mem_cons.mpr ⟨(zo_iload_tl _ _), ?_⟩
  refine List.forall_mem_cons.mpr ⟨(zo_callv_tl _ _ _ _), ?_⟩
  refine List.forall_mem_cons.mpr ⟨zo_none_tl, ?_⟩
  refine List.forall_mem_cons.mpr ⟨zo_none_tl, ?_⟩
  refine List.forall_mem_cons.mpr ⟨(zo_goto_tl _), ?_⟩
  refine List.forall_mem_cons.mpr ⟨zo_none_tl, ?_⟩
  refine List.forall_mem_cons.mpr ⟨zo_none_tl, ?_⟩
  refine List.forall_mem_cons.mpr ⟨(zo_pushI_tl _ _), ?_⟩
  refine List.forall_mem_cons.mpr ⟨(zo_ii_tl _ _), ?_⟩
  refine List.forall_mem_cons.mpr ⟨(zo_istore_tl _ _), ?_⟩
  refine List.forall_mem_cons.mpr ⟨(zo_iinc_tl _ _ _), ?_⟩
  refine List.forall_mem_cons.mpr ⟨zo_none_tl, ?_⟩
  refine List.forall_mem_cons.mpr ⟨zo_none_tl, ?_⟩
  refine List.forall_mem_cons.mpr ⟨(zo_goto_tl _), ?_⟩
  refine List.forall_mem_cons.mpr ⟨zo_none_tl, ?_⟩
  refine List.forall_mem_cons.mpr ⟨zo_none_tl, ?_⟩
  refine List.forall_mem_cons.mpr ⟨(zo_iload_tl _ _), ?_⟩
  refine List.forall_mem_cons.mpr ⟨(zo_iret_tl _), ?_⟩
  exact fun _ h => absurd h List.not_mem_nil
noncomputable def fX6_runningNeeds : zzFn := zz_fn tX6_runningNeeds 5
set_option maxRecDepth 100000 in
set_option maxHeartbeats 4000000 in
theorem mm_X6_runningNeeds {l : Launch} {D : va_G} {cA : Nat → ClassId} {ad : Nat → Nat} {Ex : (Nat → Prop) → State → Heap → Prop} (Wd : zzWC l D cA ad Ex) : zz_Cn l D zzCl cA ad zzSC Ex yX6_runningNeeds cX6_runningNeeds 5 (some .int) 2 43 fX6_runningNeeds ∧ zz_Cx l D zzCl cA ad zzSC Ex yX6_runningNeeds cX6_runningNeeds 5 (some .int) 2 43 fX6_runningNeeds := by
  refine zz_meth (plainFor_of_name (by decide)) Wd.1 Wd.2.1 Wd.2.2.1 (fun p e R s m args below meth c rr X => ?_)
  unfold tX6_runningNeeds
  refine zz_cons (k' := 1) rfl (zk_iconst X dX6_runningNeeds_0 (by decide) rfl) ?_
  refine zz_cons (k' := 2) rfl (zk_istore_n X dX6_runningNeeds_1 rfl (by decide) rfl) ?_
  refine zz_cons (k' := 3) rfl (zk_iconst X dX6_runningNeeds_2 (by decide) rfl) ?_
  refine zz_cons (k' := 4) rfl (zk_istore_n X dX6_runningNeeds_3 rfl (by decide) rfl) ?_
  refine zz_cons (k' := 5) rfl (zk_iload_n X dX6_runningNeeds_4 rfl rfl) ?_
  refine zz_cons (k' := 6) rfl (zk_aload_n X dX6_runningNeeds_5 rfl rfl) ?_
  refine zz_cons (k' := 7) rfl (zk_getf X ff_X6_9 dX6_runningNeeds_6 rfl) ?_
  refine zz_cons (k' := 8) rfl (zz_Ok_none _ _) ?_
  refine zz_cons (k' := 9) rfl (zz_Ok_none _ _) ?_
  refine zz_cons (k' := 10) rfl (zk_icmp_ge X dX6_runningNeeds_9 (by decide) rfl) ?_
  refine zz_cons (k' := 11) rfl (zz_Ok_none _ _) ?_
  refine zz_cons (k' := 12) rfl (zz_Ok_none _ _) ?_
  refine zz_cons (k' := 13) rfl (zk_aload_n X dX6_runningNeeds_12 rfl rfl) ?_
  refine zz_cons (k' := 14) rfl (zk_iload_n X dX6_runningNeeds_13 rfl rfl) ?_
  refine zz_cons (k' := 15) rfl (zk_bipush X dX6_runningNeeds_14 (by decide) rfl) ?_
  refine zz_cons (k' := 16) rfl (zz_Ok_none _ _) ?_
  refine zz_cons (k' := 17) rfl (zk_callv X (zz_Cv_of (List.forall_mem_cons.mpr ⟨⟨(RX_5, zzT5, 12), yX10_read, cX10_read, 3, (some .int), 0, 0, rfl, kv_X6_15_5, (mm_X10_read Wd).1, by decide, by decide⟩, (fun _ h => absurd h List.not_mem_nil)⟩)) dX6_runningNeeds_16 rfl) ?_
  refine zz_cons (k' := 18) rfl (zz_Ok_none _ _) ?_
  refine zz_cons (k' := 19) rfl (zz_Ok_none _ _) ?_
  refine zz_cons (k' := 20) rfl (zk_iload_n X dX6_runningNeeds_19 rfl rfl) ?_
  refine zz_cons (k' := 21) rfl (zk_icmp_ne X dX6_runningNeeds_20 (by decide) rfl) ?_
  refine zz_cons (k' := 22) rfl (zz_Ok_none _ _) ?_
  refine zz_cons (k' := 23) rfl (zz_Ok_none _ _) ?_
  refine zz_cons (k' := 24) rfl (zk_aload_n X dX6_runningNeeds_23 rfl rfl) ?_
  refine zz_cons (k' := 25) rfl (zk_iload_n X dX6_runningNeeds_24 rfl rfl) ?_
  refine zz_cons (k' := 26) rfl (zk_bipush X dX6_runningNeeds_25 (by decide) rfl) ?_
  refine zz_cons (k' := 27) rfl (zz_Ok_none _ _) ?_
  refine zz_cons (k' := 28) rfl (zk_callv X (zz_Cv_of (List.forall_mem_cons.mpr ⟨⟨(RX_5, zzT5, 12), yX10_read, cX10_read, 3, (some .int), 0, 0, rfl, kv_X6_15_5, (mm_X10_read Wd).1, by decide, by decide⟩, (fun _ h => absurd h List.not_mem_nil)⟩)) dX6_runningNeeds_27 rfl) ?_
  refine zz_cons (k' := 29) rfl (zz_Ok_none _ _) ?_
  refine zz_cons (k' := 30) rfl (zz_Ok_none _ _) ?_
  refine zz_cons (k' := 31) rfl (zk_iconst X dX6_runningNeeds_30 (by decide) rfl) ?_
  refine zz_cons (k' := 32) rfl (zk_icmp_ne X dX6_runningNeeds_31 (by decide) rfl) ?_
  refine zz_cons (k' := 33) rfl (zz_Ok_none _ _) ?_
  refine zz_cons (k' := 34) rfl (zz_Ok_none _ _) ?_
  refine zz_cons (k' := 35) rfl (zk_aload_n X dX6_runningNeeds_34 rfl rfl) ?_
  refine zz_cons (k' := 36) rfl (zk_iload_n X dX6_runningNeeds_35 rfl rfl) ?_
  refine zz_cons (k' := 37) rfl (zk_callv X (zz_Cv_of (List.forall_mem_cons.mpr ⟨⟨(RX_5, zzT5, 12), yX10_isGone, cX10_isGone, 2, (some .boolean), 1, 22, rfl, kv_X6_23_5, (mm_X10_isGone Wd).1, by decide, by decide⟩, (fun _ h => absurd h List.not_mem_nil)⟩)) dX6_runningNeeds_36 rfl) ?_
  refine zz_cons (k' := 38) rfl (zz_Ok_none _ _) ?_
  refine zz_cons (k' := 39) rfl (zz_Ok_none _ _) ?_
  refine zz_cons (k' := 40) rfl (zk_if_ne X dX6_runningNeeds_39 (by decide) rfl) ?_
  refine zz_cons (k' := 41) rfl (zz_Ok_none _ _) ?_
  refine zz_cons (k' := 42) rfl (zz_Ok_none _ _) ?_
  refine zz_cons (k' := 43) rfl (zk_iconst X dX6_runningNeeds_42 (by decide) rfl) ?_
  refine zz_cons (k' := 44) rfl (zk_goto X dX6_runningNeeds_43 (by decide)) ?_
  refine zz_cons (k' := 45) rfl (zz_Ok_none _ _) ?_
  refine zz_cons (k' := 46) rfl (zz_Ok_none _ _) ?_
  refine zz_cons (k' := 47) rfl (zk_iconst X dX6_runningNeeds_46 (by decide) rfl) ?_
  refine zz_cons (k' := 48) rfl (zk_istore X dX6_runningNeeds_47 (by decide) rfl) ?_
  refine zz_cons (k' := 49) rfl (zz_Ok_none _ _) ?_
  refine zz_cons (k' := 50) rfl (zk_iload_n X dX6_runningNeeds_49 rfl rfl) ?_
  refine zz_cons (k' := 51) rfl (zk_iload X dX6_runningNeeds_50 rfl) ?_
  refine zz_cons (k' := 52) rfl (zz_Ok_none _ _) ?_
  refine zz_cons (k' := 53) rfl (zk_if_eq X dX6_runningNeeds_52 (by decide) rfl) ?_
  refine zz_cons (k' := 54) rfl (zz_Ok_none _ _) ?_
  refine zz_cons (k' := 55) rfl (zz_Ok_none _ _) ?_
  refine zz_cons (k' := 56) rfl (zk_aload_n X dX6_runningNeeds_55 rfl rfl) ?_
  refine zz_cons (k' := 57) rfl (zk_iload_n X dX6_runningNeeds_56 rfl rfl) ?_
  refine zz_cons (k' := 58) rfl (zk_callv X (zz_Cv_of (List.forall_mem_cons.mpr ⟨⟨(RX_5, zzT5, 12), yX10_needOf, cX10_needOf, 2, (some .int), 1, 22, rfl, kv_X6_38_5, (mm_X10_needOf Wd).1, by decide, by decide⟩, (fun _ h => absurd h List.not_mem_nil)⟩)) dX6_runningNeeds_57 rfl) ?_
  refine zz_cons (k' := 59) rfl (zz_Ok_none _ _) ?_
  refine zz_cons (k' := 60) rfl (zz_Ok_none _ _) ?_
  refine zz_cons (k' := 61) rfl (zk_goto X dX6_runningNeeds_60 (by decide)) ?_
  refine zz_cons (k' := 62) rfl (zz_Ok_none _ _) ?_
  refine zz_cons (k' := 63) rfl (zz_Ok_none _ _) ?_
  refine zz_cons (k' := 64) rfl (zk_iconst X dX6_runningNeeds_63 (by decide) rfl) ?_
  refine zz_cons (k' := 65) rfl (zk_iadd X dX6_runningNeeds_64 rfl) ?_
  refine zz_cons (k' := 66) rfl (zk_istore_n X dX6_runningNeeds_65 rfl (by decide) rfl) ?_
  refine zz_cons (k' := 67) rfl (zk_iinc X dX6_runningNeeds_66 (by decide) (by decide) rfl) ?_
  refine zz_cons (k' := 68) rfl (zz_Ok_none _ _) ?_
  refine zz_cons (k' := 69) rfl (zz_Ok_none _ _) ?_
  refine zz_cons (k' := 70) rfl (zk_goto X dX6_runningNeeds_69 (by decide)) ?_
  refine zz_cons (k' := 71) rfl (zz_Ok_none _ _) ?_
  refine zz_cons (k' := 72) rfl (zz_Ok_none _ _) ?_
  refine zz_cons (k' := 73) rfl (zk_iload_n X dX6_runningNeeds_72 rfl rfl) ?_
  refine zz_cons (k' := 74) rfl (zk_iret X rfl dX6_runningNeeds_73) ?_
  exact trivial
noncomputable def tX6_serve : List zzOp := [
  zo_aload 0 1,
  zo_iload 1 2,
  zo_pushI 28 4,
  zo_none,
  zo_callv zzSC (zz_cl [(5, fX10_read)]) 2 7,
  zo_none,
  zo_none,
  zo_istore 2 8,
  zo_aload 0 9,
  zo_iload 1 10,
  zo_pushI 29 12,
  zo_none,
  zo_callv zzSC (zz_cl [(5, fX10_read)]) 2 15,
  zo_none,
  zo_none,
  zo_istore 3 16,
  zo_aload 0 17,
  zo_iload 1 18,
  zo_pushI 23 20,
  zo_none,
  zo_callv zzSC (zz_cl [(5, fX10_read)]) 2 23,
  zo_none,
  zo_none,
  zo_pushI 2 24,
  zo_icmp (fun x y => decide (¬ x = y)) 40 27,
  zo_none,
  zo_none,
  zo_aload 0 28,
  zo_iload 1 29,
  zo_callv zzSC (zz_cl [(5, fX10_isGone)]) 1 32,
  zo_none,
  zo_none,
  zo_if (fun x => decide (¬ x = 0)) 40 35,
  zo_none,
  zo_none,
  zo_iload 2 36,
  zo_pushI (-1) 37,
  zo_icmp (fun x y => decide (¬ x = y)) 42 40,
  zo_none,
  zo_none,
  zo_pushI 1 41,
  zo_iret false,
  zo_aload 0 43,
  zo_iload 1 44,
  zo_pushI 25 46,
  zo_none,
  zo_callv zzSC (zz_cl [(5, fX10_read)]) 2 49,
  zo_none,
  zo_none,
  zo_if (fun x => decide (x = 0)) 61 52,
  zo_none,
  zo_none,
  zo_aload 0 53,
  zo_iload 1 54,
  zo_callv zzSC (zz_cl [(5, fX6_clearPlace)]) 1 57,
  zo_none,
  zo_none,
  zo_calls fX2_outcomeOf 1 60,
  zo_none,
  zo_none,
  zo_iret false,
  zo_aload 0 62,
  zo_iload 2 63,
  zo_callv zzSC (zz_cl [(5, fX10_isGone)]) 1 66,
  zo_none,
  zo_none,
  zo_if (fun x => decide (¬ x = 0)) 90 69,
  zo_none,
  zo_none,
  zo_aload 0 70,
  zo_iload 2 71,
  zo_pushI 27 73,
  zo_none,
  zo_callv zzSC (zz_cl [(5, fX10_read)]) 2 76,
  zo_none,
  zo_none,
  zo_if (fun x => decide (x = 0)) 90 79,
  zo_none,
  zo_none,
  zo_aload 0 80,
  zo_iload 2 81,
  zo_pushI 9 83,
  zo_none,
  zo_callv zzSC (zz_cl [(5, fX10_read)]) 2 86,
  zo_none,
  zo_none,
  zo_pushI 1 87,
  zo_icmp (fun x y => decide (¬ x = y)) 94 90,
  zo_none,
  zo_none,
  zo_pushI 1 91,
  zo_goto 95,
  zo_none,
  zo_none,
  zo_pushI 0 95,
  zo_istore 4 97,
  zo_none,
  zo_iload 4 99,
  zo_none,
  zo_if (fun x => decide (x = 0)) 123 102,
  zo_none,
  zo_none,
  zo_iload 3 103,
  zo_if (fun x => decide (x = 0)) 111 106,
  zo_none,
  zo_none,
  zo_iload 3 107,
  zo_pushI 1 108,
  zo_icmp (fun x y => decide (¬ x = y)) 123 111,
  zo_none,
  zo_none,
  zo_aload 0 112,
  zo_iload 1 113,
  zo_pushI 29 115,
  zo_none,
  zo_pushI 3 116,
  zo_callv zzSC (zz_cl [(5, fX2_set)]) 3 119,
  zo_none,
  zo_none,
  zo_calls fX2_outcomeOf 1 122,
  zo_none,
  zo_none,
  zo_iret false,
  zo_iload 3 124,
  zo_if (fun x => decide (x = 0)) 129 127,
  zo_none,
  zo_none,
  zo_pushI 1 128,
  zo_iret false,
  zo_aload 0 130,
  zo_iload 2 131,
  zo_pushI 7 133,
  zo_none,
  zo_callv zzSC (zz_cl [(5, fX10_read)]) 2 136,
  zo_none,
  zo_none,
  zo_aload 0 137,
  zo_iload 1 138,
  zo_callv zzSC (zz_cl [(5, fX10_needOf)]) 1 141,
  zo_none,
  zo_none,
  zo_aload 0 142,
  zo_iload 2 143,
  zo_callv zzSC (zz_cl [(5, fX6_runningNeeds)]) 1 146,
  zo_none,
  zo_none,
  zo_ii (fun x y => x + y) 147,
  zo_icmp (fun x y => decide (x < y)) 154 150,
  zo_none,
  zo_none,
  zo_pushI 1 151,
  zo_goto 155,
  zo_none,
  zo_none,
  zo_pushI 0 155,
  zo_istore 5 157,
  zo_none,
  zo_aload 0 158,
  zo_iload 1 159,
  zo_pushI 29 161,
  zo_none,
  zo_iload 5 163,
  zo_none,
  zo_if (fun x => decide (x = 0)) 170 166,
  zo_none,
  zo_none,
  zo_pushI 1 167,
  zo_goto 171,
  zo_none,
  zo_none,
  zo_pushI 3 171,
  zo_callv zzSC (zz_cl [(5, fX2_set)]) 3 174,
  zo_none,
  zo_none,
  zo_calls fX2_outcomeOf 1 177,
  zo_none,
  zo_none,
  zo_iret false]
set_option maxRecDepth 100000 in
theorem tl_X6_serve : ∀ pc, zz_Tl (tX6_serve.getD pc zo_none) := by
  refine zz_Tl_mem ?_
  unfold tX6_serve
  refine List.forall_mem_cons.mpr ⟨(zo_aload_tl _ _), ?_⟩
  refine List.forall_mem_cons.mpr ⟨(zo_iload_tl _ _), ?_⟩
  refine List.forall_mem_cons.mpr ⟨(zo_pushI_tl _ _), ?_⟩
  refine List.forall_mem_cons.mpr ⟨zo_none_tl, ?_⟩
  refine List.forall_mem_cons.mpr ⟨(zo_callv_tl _ _ _ _), ?_⟩
  refine List.forall_mem_cons.mpr ⟨zo_none_tl, ?_⟩
  refine List.forall_mem_cons.mpr ⟨zo_none_tl, ?_⟩
  refine List.forall_mem_cons.mpr ⟨(zo_istore_tl _ _), ?_⟩
  refine List.forall_mem_cons.mpr ⟨(zo_aload_tl _ _), ?_⟩
  refine List.forall_mem_cons.mpr ⟨(zo_iload_tl _ _), ?_⟩
  refine List.forall_mem_cons.mpr ⟨(zo_pushI_tl _ _), ?_⟩
  refine List.forall_mem_cons.mpr ⟨zo_none_tl, ?_⟩
  refine List.forall_mem_cons.mpr ⟨(zo_callv_tl _ _ _ _), ?_⟩
  refine List.forall_mem_cons.mpr ⟨zo_none_tl, ?_⟩
  refine List.forall_mem_cons.mpr ⟨zo_none_tl, ?_⟩
  refine List.forall_mem_cons.mpr ⟨(zo_istore_tl _ _), ?_⟩
  refine List.forall_mem_cons.mpr ⟨(zo_aload_tl _ _), ?_⟩
  refine List.forall_mem_cons.mpr ⟨(zo_iload_tl _ _), ?_⟩
  refine List.forall_mem_cons.mpr ⟨(zo_pushI_tl _ _), ?_⟩
  refine List.forall_mem_cons.mpr ⟨zo_none_tl, ?_⟩
  refine List.forall_mem_cons.mpr ⟨(zo_callv_tl _ _ _ _), ?_⟩
  refine List.forall_mem_cons.mpr ⟨zo_none_tl, ?_⟩
  refine List.forall_mem_cons.mpr ⟨zo_none_tl, ?_⟩
  refine List.forall_mem_cons.mpr ⟨(zo_pushI_tl _ _), ?_⟩
  refine List.forall_mem_cons.mpr ⟨(zo_icmp_tl _ _ _), ?_⟩
  refine List.forall_mem_cons.mpr ⟨zo_none_tl, ?_⟩
  refine List.forall_mem_cons.mpr ⟨zo_none_tl, ?_⟩
  refine List.forall_mem_cons.mpr ⟨(zo_aload_tl _ _), ?_⟩
  refine List.forall_mem_cons.mpr ⟨(zo_iload_tl _ _), ?_⟩
  refine List.forall_mem_cons.mpr ⟨(zo_callv_tl _ _ _ _), ?_⟩
  refine List.forall_mem_cons.mpr ⟨zo_none_tl, ?_⟩
  refine List.forall_mem_cons.mpr ⟨zo_none_tl, ?_⟩
  refine List.forall_mem_cons.mpr ⟨(zo_if_tl _ _ _), ?_⟩
  refine List.forall_mem_cons.mpr ⟨zo_none_tl, ?_⟩
  refine List.forall_mem_cons.mpr ⟨zo_none_tl, ?_⟩
  refine List.forall_mem_cons.mpr ⟨(zo_iload_tl _ _), ?_⟩
  refine List.forall_mem_cons.mpr ⟨(zo_pushI_tl _ _), ?_⟩
  refine List.forall_mem_cons.mpr ⟨(zo_icmp_tl _ _ _), ?_⟩
  refine List.forall_mem_cons.mpr ⟨zo_none_tl, ?_⟩
  refine List.forall_mem_cons.mpr ⟨zo_none_tl, ?_⟩
  refine List.forall_mem_cons.mpr ⟨(zo_pushI_tl _ _), ?_⟩
  refine List.forall_mem_cons.mpr ⟨(zo_iret_tl _), ?_⟩
  refine List.forall_mem_cons.mpr ⟨(zo_aload_tl _ _), ?_⟩
  refine List.forall_mem_cons.mpr ⟨(zo_iload_tl _ _), ?_⟩
  refine List.forall_mem_cons.mpr ⟨(zo_pushI_tl _ _), ?_⟩
  refine List.forall_mem_cons.mpr ⟨zo_none_tl, ?_⟩
  refine List.forall_mem_cons.mpr ⟨(zo_callv_tl _ _ _ _), ?_⟩
  refine List.forall_mem_cons.mpr ⟨zo_none_tl, ?_⟩
  refine List.forall_mem_cons.mpr ⟨zo_none_tl, ?_⟩
  refine List.forall_mem_cons.mpr ⟨(zo_if_tl _ _ _), ?_⟩
  refine List.forall_mem_cons.mpr ⟨zo_none_tl, ?_⟩
  refine List.forall_mem_cons.mpr ⟨zo_none_tl, ?_⟩
  refine List.forall_mem_cons.mpr ⟨(zo_aload_tl _ _), ?_⟩
  refine List.forall_mem_cons.mpr ⟨(zo_iload_tl _ _), ?_⟩
  refine List.forall_mem_cons.mpr ⟨(zo_callv_tl _ _ _ _), ?_⟩
  refine List.forall_mem_cons.mpr ⟨zo_none_tl, ?_⟩
  refine List.forall_mem_cons.mpr ⟨zo_none_tl, ?_⟩
  refine List.forall_mem_cons.mpr ⟨(zo_calls_tl _ _ _), ?_⟩
  refine List.forall_mem_cons.mpr ⟨zo_none_tl, ?_⟩
  refine List.forall_mem_cons.mpr ⟨zo_none_tl, ?_⟩
  refine List.forall_mem_cons.mpr ⟨(zo_iret_tl _), ?_⟩
  refine List.forall_mem_cons.mpr ⟨(zo_aload_tl _ _), ?_⟩
  refine List.forall_mem_cons.mpr ⟨(zo_iload_tl _ _), ?_⟩
  refine List.forall_mem_cons.mpr ⟨(zo_callv_tl _ _ _ _), ?_⟩
  refine List.forall_mem_cons.mpr ⟨zo_none_tl, ?_⟩
  refine List.forall_mem_cons.mpr ⟨zo_none_tl, ?_⟩
  refine List.forall_mem_cons.mpr ⟨(zo_if_tl _ _ _), ?_⟩
  refine List.forall_mem_cons.mpr ⟨zo_none_tl, ?_⟩
  refine List.forall_mem_cons.mpr ⟨zo_none_tl, ?_⟩
  refine List.forall_mem_cons.mpr ⟨(zo_aload_tl _ _), ?_⟩
  refine List.forall_mem_cons.mpr ⟨(zo_iload_tl _ _), ?_⟩
  refine List.forall_mem_cons.mpr ⟨(zo_pushI_tl _ _), ?_⟩
  refine List.forall_mem_cons.mpr ⟨zo_none_tl, ?_⟩
  refine List.forall_mem_cons.mpr ⟨(zo_callv_tl _ _ _ _), ?_⟩
  refine List.forall_mem_cons.mpr ⟨zo_none_tl, ?_⟩
  refine List.forall_mem_cons.mpr ⟨zo_none_tl, ?_⟩
  refine List.forall_mem_cons.mpr ⟨(zo_if_tl _ _ _), ?_⟩
  refine List.forall_mem_cons.mpr ⟨zo_none_tl, ?_⟩
  refine List.forall_mem_cons.mpr ⟨zo_none_tl, ?_⟩
  refine List.forall_mem_cons.mpr ⟨(zo_aload_tl _ _), ?_⟩
  refine List.forall_mem_cons.mpr ⟨(zo_iload_tl _ _), ?_⟩
  refine List.forall_mem_cons.mpr ⟨(zo_pushI_tl _ _), ?_⟩
  refine List.forall_mem_cons.mpr ⟨zo_none_tl, ?_⟩
  refine List.forall_mem_cons.mpr ⟨(zo_callv_tl _ _ _ _), ?_⟩
  refine List.forall_mem_cons.mpr ⟨zo_none_tl, ?_⟩
  refine List.forall_mem_cons.mpr ⟨zo_none_tl, ?_⟩
  refine List.forall_mem_cons.mpr ⟨(zo_pushI_tl _ _), ?_⟩
  refine List.forall_mem_cons.mpr ⟨(zo_icmp_tl _ _ _), ?_⟩
  refine List.forall_mem_cons.mpr ⟨zo_none_tl, ?_⟩
  refine List.forall_mem_cons.mpr ⟨zo_none_tl, ?_⟩
  refine List.forall_mem_cons.mpr ⟨(zo_pushI_tl _ _), ?_⟩
  refine List.forall_mem_cons.mpr ⟨(zo_goto_tl _), ?_⟩
  refine List.forall_mem_cons.mpr ⟨zo_none_tl, ?_⟩
  refine List.forall_mem_cons.mpr ⟨zo_none_tl, ?_⟩
  refine List.forall_mem_cons.mpr ⟨(zo_pushI_tl _ _), ?_⟩
  refine List.forall_mem_cons.mpr ⟨(zo_istore_tl _ _), ?_⟩
  refine List.forall_mem_cons.mpr ⟨zo_none_tl, ?_⟩
  refine List.forall_mem_cons.mpr ⟨(zo_iload_tl _ _), ?_⟩
  refine List.forall_mem_cons.mpr ⟨zo_none_tl, ?_⟩
  refine List.forall_mem_cons.mpr ⟨(zo_if_tl _ _ _), ?_⟩
  refine List.forall_mem_cons.mpr ⟨zo_none_tl, ?_⟩
  refine List.forall_mem_cons.mpr ⟨zo_none_tl, ?_⟩
  refine List.forall_mem_cons.mpr ⟨(zo_iload_tl _ _), ?_⟩
  refine List.forall_mem_cons.mpr ⟨(zo_if_tl _ _ _), ?_⟩
  refine List.forall_mem_cons.mpr ⟨zo_none_tl, ?_⟩
  refine List.forall_mem_cons.mpr ⟨zo_none_tl, ?_⟩
  refine List.forall_mem_cons.mpr ⟨(zo_iload_tl _ _), ?_⟩
  refine List.forall_mem_cons.mpr ⟨(zo_pushI_tl _ _), ?_⟩
  refine List.forall_mem_cons.mpr ⟨(zo_icmp_tl _ _ _), ?_⟩
  refine List.forall_mem_cons.mpr ⟨zo_none_tl, ?_⟩
  refine List.forall_mem_cons.mpr ⟨zo_none_tl, ?_⟩
  refine List.forall_mem_cons.mpr ⟨(zo_aload_tl _ _), ?_⟩
  refine List.forall_mem_cons.mpr ⟨(zo_iload_tl _ _), ?_⟩
  refine List.forall_mem_cons.mpr ⟨(zo_pushI_tl _ _), ?_⟩
  refine List.forall_mem_cons.mpr ⟨zo_none_tl, ?_⟩
  refine List.forall_mem_cons.mpr ⟨(zo_pushI_tl _ _), ?_⟩
  refine List.forall_mem_cons.mpr ⟨(zo_callv_tl _ _ _ _), ?_⟩
  refine List.forall_mem_cons.mpr ⟨zo_none_tl, ?_⟩
  refine List.forall_mem_cons.mpr ⟨zo_none_tl, ?_⟩
  refine List.forall_mem_cons.mpr ⟨(zo_calls_tl _ _ _), ?_⟩
  refine List.forall_mem_cons.mpr ⟨zo_none_tl, ?_⟩
  refine List.forall_mem_cons.mpr ⟨zo_none_tl, ?_⟩
  refine List.forall_mem_cons.mpr ⟨(zo_iret_tl _), ?_⟩
  refine List.forall_mem_cons.mpr ⟨(zo_iload_tl _ _), ?_⟩
  refine List.forall_mem_cons.mpr ⟨(zo_if_tl _ _ _), ?_⟩
  refine List.forall_mem_cons.mpr ⟨zo_none_tl, ?_⟩
  refine List.forall_mem_cons.mpr ⟨zo_none_tl, ?_⟩
  refine List.forall_mem_cons.mpr ⟨(zo_pushI_tl _ _), ?_⟩
  refine List.forall_mem_cons.mpr ⟨(zo_iret_tl _), ?_⟩
  refine List.forall_mem_cons.mpr ⟨(zo_aload_tl _ _), ?_⟩
  refine List.forall_mem_cons.mpr ⟨(zo_iload_tl _ _), ?_⟩
  refine List.forall_mem_cons.mpr ⟨(zo_pushI_tl _ _), ?_⟩
  refine List.forall_mem_cons.mpr ⟨zo_none_tl, ?_⟩
  refine List.forall_mem_cons.mpr ⟨(zo_callv_tl _ _ _ _), ?_⟩
  refine List.forall_mem_cons.mpr ⟨zo_none_tl, ?_⟩
  refine List.forall_mem_cons.mpr ⟨zo_none_tl, ?_⟩
  refine List.forall_mem_cons.mpr ⟨(zo_aload_tl _ _), ?_⟩
  refine List.forall_mem_cons.mpr ⟨(zo_iload_tl _ _), ?_⟩
  refine List.forall_mem_cons.mpr ⟨(zo_callv_tl _ _ _ _), ?_⟩
  refine List.forall_mem_cons.mpr ⟨zo_none_tl, ?_⟩
  refine List.forall_mem_cons.mpr ⟨zo_none_tl, ?_⟩
  refine List.forall_mem_cons.mpr ⟨(zo_aload_tl _ _), ?_⟩
  refine List.forall_mem_cons.mpr ⟨(zo_iload_tl _ _), ?_⟩
  refine List.forall_mem_cons.mpr ⟨(zo_callv_tl _ _ _ _), ?_⟩
  refine List.forall_mem_cons.mpr ⟨zo_none_tl, ?_⟩
  refine List.forall_mem_cons.mpr ⟨zo_none_tl, ?_⟩
  refine List.forall_mem_cons.mpr ⟨(zo_ii_tl _ _), ?_⟩
  refine List.forall_mem_cons.mpr ⟨(zo_icmp_tl _ _ _), ?_⟩
  refine List.forall_mem_cons.mpr ⟨zo_none_tl, ?_⟩
  refine List.forall_mem_cons.mpr ⟨zo_none_tl, ?_⟩
  refine List.forall_mem_cons.mpr ⟨(zo_pushI_tl _ _), ?_⟩
  refine List.forall_mem_cons.mpr ⟨(zo_goto_tl _), ?_⟩
  refine List.forall_mem_cons.mpr ⟨zo_none_tl, ?_⟩
  refine List.forall_mem_cons.mpr ⟨zo_none_tl, ?_⟩
  refine List.forall_mem_cons.mpr ⟨(zo_pushI_tl _ _), ?_⟩
  refine List.forall_mem_cons.mpr ⟨(zo_istore_tl _ _), ?_⟩
  refine List.forall_mem_cons.mpr ⟨zo_none_tl, ?_⟩
  refine List.forall_mem_cons.mpr ⟨(zo_aload_tl _ _), ?_⟩
  refine List.forall_mem_cons.mpr ⟨(zo_iload_tl _ _), ?_⟩
  refine List.forall_mem_cons.mpr ⟨(zo_pushI_tl _ _), ?_⟩
  refine List.forall_mem_cons.mpr ⟨zo_none_tl, ?_⟩
  refine List.forall_mem_cons.mpr ⟨(zo_iload_tl _ _), ?_⟩
  refine List.forall_mem_cons.mpr ⟨zo_none_tl, ?_⟩
  refine List.forall_mem_cons.mpr ⟨(zo_if_tl _ _ _), ?_⟩
  refine List.forall_mem_cons.mpr ⟨zo_none_tl, ?_⟩
  refine List.forall_mem_cons.mpr ⟨zo_none_tl, ?_⟩
  refine List.forall_mem_cons.mpr ⟨(zo_pushI_tl _ _), ?_⟩
  refine List.forall_mem_cons.mpr ⟨(zo_goto_tl _), ?_⟩
  refine List.forall_mem_cons.mpr ⟨zo_none_tl, ?_⟩
  refine List.forall_mem_cons.mpr ⟨zo_none_tl, ?_⟩
  refine List.forall_mem_cons.mpr ⟨(zo_pushI_tl _ _), ?_⟩
  refine List.forall_mem_cons.mpr ⟨(zo_callv_tl _ _ _ _), ?_⟩
  refine List.forall_mem_cons.mpr ⟨zo_none_tl, ?_⟩
  refine List.forall_mem_cons.mpr ⟨zo_none_tl, ?_⟩
  refine List.forall_mem_cons.mpr ⟨(zo_calls_tl _ _ _), ?_⟩
  refine List.forall_mem_cons.mpr ⟨zo_none_tl, ?_⟩
  refine List.forall_mem_cons.mpr ⟨zo_none_tl, ?_⟩
  refine List.forall_mem_cons.mpr ⟨(zo_iret_tl _), ?_⟩
  exact fun _ h => absurd h List.not_mem_nil
noncomputable def fX6_serve : zzFn := zz_fn tX6_serve 6
set_option maxRecDepth 100000 in
set_option maxHeartbeats 4000000 in
theorem mm_X6_serve {l : Launch} {D : va_G} {cA : Nat → ClassId} {ad : Nat → Nat} {Ex : (Nat → Prop) → State → Heap → Prop} (Wd : zzWC l D cA ad Ex) : zz_Cn l D zzCl cA ad zzSC Ex yX6_serve cX6_serve 6 (some .int) 4 94 fX6_serve ∧ zz_Cx l D zzCl cA ad zzSC Ex yX6_serve cX6_serve 6 (some .int) 4 94 fX6_serve := by
  refine zz_meth (plainFor_of_name (by decide)) Wd.1 Wd.2.1 Wd.2.2.1 (fun p e R s m args below meth c rr X => ?_)
  unfold tX6_serve
  refine zz_cons (k' := 1) rfl (zk_aload_n X dX6_serve_0 rfl rfl) ?_
  refine zz_cons (k' := 2) rfl (zk_iload_n X dX6_serve_1 rfl rfl) ?_
  refine zz_cons (k' := 3) rfl (zk_bipush X dX6_serve_2 (by decide) rfl) ?_
  refine zz_cons (k' := 4) rfl (zz_Ok_none _ _) ?_
  refine zz_cons (k' := 5) rfl (zk_callv X (zz_Cv_of (List.forall_mem_cons.mpr ⟨⟨(RX_5, zzT5, 12), yX10_read, cX10_read, 3, (some .int), 0, 0, rfl, kv_X6_15_5, (mm_X10_read Wd).1, by decide, by decide⟩, (fun _ h => absurd h List.not_mem_nil)⟩)) dX6_serve_4 rfl) ?_
  refine zz_cons (k' := 6) rfl (zz_Ok_none _ _) ?_
  refine zz_cons (k' := 7) rfl (zz_Ok_none _ _) ?_
  refine zz_cons (k' := 8) rfl (zk_istore_n X dX6_serve_7 rfl (by decide) rfl) ?_
  refine zz_cons (k' := 9) rfl (zk_aload_n X dX6_serve_8 rfl rfl) ?_
  refine zz_cons (k' := 10) rfl (zk_iload_n X dX6_serve_9 rfl rfl) ?_
  refine zz_cons (k' := 11) rfl (zk_bipush X dX6_serve_10 (by decide) rfl) ?_
  refine zz_cons (k' := 12) rfl (zz_Ok_none _ _) ?_
  refine zz_cons (k' := 13) rfl (zk_callv X (zz_Cv_of (List.forall_mem_cons.mpr ⟨⟨(RX_5, zzT5, 12), yX10_read, cX10_read, 3, (some .int), 0, 0, rfl, kv_X6_15_5, (mm_X10_read Wd).1, by decide, by decide⟩, (fun _ h => absurd h List.not_mem_nil)⟩)) dX6_serve_12 rfl) ?_
  refine zz_cons (k' := 14) rfl (zz_Ok_none _ _) ?_
  refine zz_cons (k' := 15) rfl (zz_Ok_none _ _) ?_
  refine zz_cons (k' := 16) rfl (zk_istore_n X dX6_serve_15 rfl (by decide) rfl) ?_
  refine zz_cons (k' := 17) rfl (zk_aload_n X dX6_serve_16 rfl rfl) ?_
  refine zz_cons (k' := 18) rfl (zk_iload_n X dX6_serve_17 rfl rfl) ?_
  refine zz_cons (k' := 19) rfl (zk_bipush X dX6_serve_18 (by decide) rfl) ?_
  refine zz_cons (k' := 20) rfl (zz_Ok_none _ _) ?_
  refine zz_cons (k' := 21) rfl (zk_callv X (zz_Cv_of (List.forall_mem_cons.mpr ⟨⟨(RX_5, zzT5, 12), yX10_read, cX10_read, 3, (some .int), 0, 0, rfl, kv_X6_15_5, (mm_X10_read Wd).1, by decide, by decide⟩, (fun _ h => absurd h List.not_mem_nil)⟩)) dX6_serve_20 rfl) ?_
  refine zz_cons (k' := 22) rfl (zz_Ok_none _ _) ?_
  refine zz_cons (k' := 23) rfl (zz_Ok_none _ _) ?_
  refine zz_cons (k' := 24) rfl (zk_iconst X dX6_serve_23 (by decide) rfl) ?_
  refine zz_cons (k' := 25) rfl (zk_icmp_ne X dX6_serve_24 (by decide) rfl) ?_
  refine zz_cons (k' := 26) rfl (zz_Ok_none _ _) ?_
  refine zz_cons (k' := 27) rfl (zz_Ok_none _ _) ?_
  refine zz_cons (k' := 28) rfl (zk_aload_n X dX6_serve_27 rfl rfl) ?_
  refine zz_cons (k' := 29) rfl (zk_iload_n X dX6_serve_28 rfl rfl) ?_
  refine zz_cons (k' := 30) rfl (zk_callv X (zz_Cv_of (List.forall_mem_cons.mpr ⟨⟨(RX_5, zzT5, 12), yX10_isGone, cX10_isGone, 2, (some .boolean), 1, 22, rfl, kv_X6_23_5, (mm_X10_isGone Wd).1, by decide, by decide⟩, (fun _ h => absurd h List.not_mem_nil)⟩)) dX6_serve_29 rfl) ?_
  refine zz_cons (k' := 31) rfl (zz_Ok_none _ _) ?_
  refine zz_cons (k' := 32) rfl (zz_Ok_none _ _) ?_
  refine zz_cons (k' := 33) rfl (zk_if_ne X dX6_serve_32 (by decide) rfl) ?_
  refine zz_cons (k' := 34) rfl (zz_Ok_none _ _) ?_
  refine zz_cons (k' := 35) rfl (zz_Ok_none _ _) ?_
  refine zz_cons (k' := 36) rfl (zk_iload_n X dX6_serve_35 rfl rfl) ?_
  refine zz_cons (k' := 37) rfl (zk_iconst X dX6_serve_36 (by decide) rfl) ?_
  refine zz_cons (k' := 38) rfl (zk_icmp_ne X dX6_serve_37 (by decide) rfl) ?_
  refine zz_cons (k' := 39) rfl (zz_Ok_none _ _) ?_
  refine zz_cons (k' := 40) rfl (zz_Ok_none _ _) ?_
  refine zz_cons (k' := 41) rfl (zk_iconst X dX6_serve_40 (by decide) rfl) ?_
  refine zz_cons (k' := 42) rfl (zk_iret X rfl dX6_serve_41) ?_
  refine zz_cons (k' := 43) rfl (zk_aload_n X dX6_serve_42 rfl rfl) ?_
  refine zz_cons (k' := 44) rfl (zk_iload_n X dX6_serve_43 rfl rfl) ?_
  refine zz_cons (k' := 45) rfl (zk_bipush X dX6_serve_44 (by decide) rfl) ?_
  refine zz_cons (k' := 46) rfl (zz_Ok_none _ _) ?_
  refine zz_cons (k' := 47) rfl (zk_callv X (zz_Cv_of (List.forall_mem_cons.mpr ⟨⟨(RX_5, zzT5, 12), yX10_read, cX10_read, 3, (some .int), 0, 0, rfl, kv_X6_15_5, (mm_X10_read Wd).1, by decide, by decide⟩, (fun _ h => absurd h List.not_mem_nil)⟩)) dX6_serve_46 rfl) ?_
  refine zz_cons (k' := 48) rfl (zz_Ok_none _ _) ?_
  refine zz_cons (k' := 49) rfl (zz_Ok_none _ _) ?_
  refine zz_cons (k' := 50) rfl (zk_if_eq X dX6_serve_49 (by decide) rfl) ?_
  refine zz_cons (k' := 51) rfl (zz_Ok_none _ _) ?_
  refine zz_cons (k' := 52) rfl (zz_Ok_none _ _) ?_
  refine zz_cons (k' := 53) rfl (zk_aload_n X dX6_serve_52 rfl rfl) ?_
  refine zz_cons (k' := 54) rfl (zk_iload_n X dX6_serve_53 rfl rfl) ?_
  refine zz_cons (k' := 55) rfl (zk_callv X (zz_Cv_of (List.forall_mem_cons.mpr ⟨⟨(RX_5, zzT5, 12), yX6_clearPlace, cX6_clearPlace, 3, (some .boolean), 3, 72, rfl, kv_X6_27_5.1, (mm_X6_clearPlace Wd).1, by decide, by decide⟩, (fun _ h => absurd h List.not_mem_nil)⟩)) dX6_serve_54 rfl) ?_
  refine zz_cons (k' := 56) rfl (zz_Ok_none _ _) ?_
  refine zz_cons (k' := 57) rfl (zz_Ok_none _ _) ?_
  refine zz_cons (k' := 58) rfl (zk_calls X ks_X6_30 (mm_X2_outcomeOf Wd).1 (by decide) dX6_serve_57 rfl) ?_
  refine zz_cons (k' := 59) rfl (zz_Ok_none _ _) ?_
  refine zz_cons (k' := 60) rfl (zz_Ok_none _ _) ?_
  refine zz_cons (k' := 61) rfl (zk_iret X rfl dX6_serve_60) ?_
  refine zz_cons (k' := 62) rfl (zk_aload_n X dX6_serve_61 rfl rfl) ?_
  refine zz_cons (k' := 63) rfl (zk_iload_n X dX6_serve_62 rfl rfl) ?_
  refine zz_cons (k' := 64) rfl (zk_callv X (zz_Cv_of (List.forall_mem_cons.mpr ⟨⟨(RX_5, zzT5, 12), yX10_isGone, cX10_isGone, 2, (some .boolean), 1, 22, rfl, kv_X6_23_5, (mm_X10_isGone Wd).1, by decide, by decide⟩, (fun _ h => absurd h List.not_mem_nil)⟩)) dX6_serve_63 rfl) ?_
  refine zz_cons (k' := 65) rfl (zz_Ok_none _ _) ?_
  refine zz_cons (k' := 66) rfl (zz_Ok_none _ _) ?_
  refine zz_cons (k' := 67) rfl (zk_if_ne X dX6_serve_66 (by decide) rfl) ?_
  refine zz_cons (k' := 68) rfl (zz_Ok_none _ _) ?_
  refine zz_cons (k' := 69) rfl (zz_Ok_none _ _) ?_
  refine zz_cons (k' := 70) rfl (zk_aload_n X dX6_serve_69 rfl rfl) ?_
  refine zz_cons (k' := 71) rfl (zk_iload_n X dX6_serve_70 rfl rfl) ?_
  refine zz_cons (k' := 72) rfl (zk_bipush X dX6_serve_71 (by decide) rfl) ?_
  refine zz_cons (k' := 73) rfl (zz_Ok_none _ _) ?_
  refine zz_cons (k' := 74) rfl (zk_callv X (zz_Cv_of (List.forall_mem_cons.mpr ⟨⟨(RX_5, zzT5, 12), yX10_read, cX10_read, 3, (some .int), 0, 0, rfl, kv_X6_15_5, (mm_X10_read Wd).1, by decide, by decide⟩, (fun _ h => absurd h List.not_mem_nil)⟩)) dX6_serve_73 rfl) ?_
  refine zz_cons (k' := 75) rfl (zz_Ok_none _ _) ?_
  refine zz_cons (k' := 76) rfl (zz_Ok_none _ _) ?_
  refine zz_cons (k' := 77) rfl (zk_if_eq X dX6_serve_76 (by decide) rfl) ?_
  refine zz_cons (k' := 78) rfl (zz_Ok_none _ _) ?_
  refine zz_cons (k' := 79) rfl (zz_Ok_none _ _) ?_
  refine zz_cons (k' := 80) rfl (zk_aload_n X dX6_serve_79 rfl rfl) ?_
  refine zz_cons (k' := 81) rfl (zk_iload_n X dX6_serve_80 rfl rfl) ?_
  refine zz_cons (k' := 82) rfl (zk_bipush X dX6_serve_81 (by decide) rfl) ?_
  refine zz_cons (k' := 83) rfl (zz_Ok_none _ _) ?_
  refine zz_cons (k' := 84) rfl (zk_callv X (zz_Cv_of (List.forall_mem_cons.mpr ⟨⟨(RX_5, zzT5, 12), yX10_read, cX10_read, 3, (some .int), 0, 0, rfl, kv_X6_15_5, (mm_X10_read Wd).1, by decide, by decide⟩, (fun _ h => absurd h List.not_mem_nil)⟩)) dX6_serve_83 rfl) ?_
  refine zz_cons (k' := 85) rfl (zz_Ok_none _ _) ?_
  refine zz_cons (k' := 86) rfl (zz_Ok_none _ _) ?_
  refine zz_cons (k' := 87) rfl (zk_iconst X dX6_serve_86 (by decide) rfl) ?_
  refine zz_cons (k' := 88) rfl (zk_icmp_ne X dX6_serve_87 (by decide) rfl) ?_
  refine zz_cons (k' := 89) rfl (zz_Ok_none _ _) ?_
  refine zz_cons (k' := 90) rfl (zz_Ok_none _ _) ?_
  refine zz_cons (k' := 91) rfl (zk_iconst X dX6_serve_90 (by decide) rfl) ?_
  refine zz_cons (k' := 92) rfl (zk_goto X dX6_serve_91 (by decide)) ?_
  refine zz_cons (k' := 93) rfl (zz_Ok_none _ _) ?_
  refine zz_cons (k' := 94) rfl (zz_Ok_none _ _) ?_
  refine zz_cons (k' := 95) rfl (zk_iconst X dX6_serve_94 (by decide) rfl) ?_
  refine zz_cons (k' := 96) rfl (zk_istore X dX6_serve_95 (by decide) rfl) ?_
  refine zz_cons (k' := 97) rfl (zz_Ok_none _ _) ?_
  refine zz_cons (k' := 98) rfl (zk_iload X dX6_serve_97 rfl) ?_
  refine zz_cons (k' := 99) rfl (zz_Ok_none _ _) ?_
  refine zz_cons (k' := 100) rfl (zk_if_eq X dX6_serve_99 (by decide) rfl) ?_
  refine zz_cons (k' := 101) rfl (zz_Ok_none _ _) ?_
  refine zz_cons (k' := 102) rfl (zz_Ok_none _ _) ?_
  refine zz_cons (k' := 103) rfl (zk_iload_n X dX6_serve_102 rfl rfl) ?_
  refine zz_cons (k' := 104) rfl (zk_if_eq X dX6_serve_103 (by decide) rfl) ?_
  refine zz_cons (k' := 105) rfl (zz_Ok_none _ _) ?_
  refine zz_cons (k' := 106) rfl (zz_Ok_none _ _) ?_
  refine zz_cons (k' := 107) rfl (zk_iload_n X dX6_serve_106 rfl rfl) ?_
  refine zz_cons (k' := 108) rfl (zk_iconst X dX6_serve_107 (by decide) rfl) ?_
  refine zz_cons (k' := 109) rfl (zk_icmp_ne X dX6_serve_108 (by decide) rfl) ?_
  refine zz_cons (k' := 110) rfl (zz_Ok_none _ _) ?_
  refine zz_cons (k' := 111) rfl (zz_Ok_none _ _) ?_
  refine zz_cons (k' := 112) rfl (zk_aload_n X dX6_serve_111 rfl rfl) ?_
  refine zz_cons (k' := 113) rfl (zk_iload_n X dX6_serve_112 rfl rfl) ?_
  refine zz_cons (k' := 114) rfl (zk_bipush X dX6_serve_113 (by decide) rfl) ?_
  refine zz_cons (k' := 115) rfl (zz_Ok_none _ _) ?_
  refine zz_cons (k' := 116) rfl (zk_iconst X dX6_serve_115 (by decide) rfl) ?_
  refine zz_cons (k' := 117) rfl (zk_callv X (zz_Cv_of (List.forall_mem_cons.mpr ⟨⟨(RX_5, zzT5, 12), yX2_set, cX2_set, 4, (some .boolean), 3, 70, rfl, kv_X6_34_5, (mm_X2_set Wd).1, by decide, by decide⟩, (fun _ h => absurd h List.not_mem_nil)⟩)) dX6_serve_116 rfl) ?_
  refine zz_cons (k' := 118) rfl (zz_Ok_none _ _) ?_
  refine zz_cons (k' := 119) rfl (zz_Ok_none _ _) ?_
  refine zz_cons (k' := 120) rfl (zk_calls X ks_X6_30 (mm_X2_outcomeOf Wd).1 (by decide) dX6_serve_119 rfl) ?_
  refine zz_cons (k' := 121) rfl (zz_Ok_none _ _) ?_
  refine zz_cons (k' := 122) rfl (zz_Ok_none _ _) ?_
  refine zz_cons (k' := 123) rfl (zk_iret X rfl dX6_serve_122) ?_
  refine zz_cons (k' := 124) rfl (zk_iload_n X dX6_serve_123 rfl rfl) ?_
  refine zz_cons (k' := 125) rfl (zk_if_eq X dX6_serve_124 (by decide) rfl) ?_
  refine zz_cons (k' := 126) rfl (zz_Ok_none _ _) ?_
  refine zz_cons (k' := 127) rfl (zz_Ok_none _ _) ?_
  refine zz_cons (k' := 128) rfl (zk_iconst X dX6_serve_127 (by decide) rfl) ?_
  refine zz_cons (k' := 129) rfl (zk_iret X rfl dX6_serve_128) ?_
  refine zz_cons (k' := 130) rfl (zk_aload_n X dX6_serve_129 rfl rfl) ?_
  refine zz_cons (k' := 131) rfl (zk_iload_n X dX6_serve_130 rfl rfl) ?_
  refine zz_cons (k' := 132) rfl (zk_bipush X dX6_serve_131 (by decide) rfl) ?_
  refine zz_cons (k' := 133) rfl (zz_Ok_none _ _) ?_
  refine zz_cons (k' := 134) rfl (zk_callv X (zz_Cv_of (List.forall_mem_cons.mpr ⟨⟨(RX_5, zzT5, 12), yX10_read, cX10_read, 3, (some .int), 0, 0, rfl, kv_X6_15_5, (mm_X10_read Wd).1, by decide, by decide⟩, (fun _ h => absurd h List.not_mem_nil)⟩)) dX6_serve_133 rfl) ?_
  refine zz_cons (k' := 135) rfl (zz_Ok_none _ _) ?_
  refine zz_cons (k' := 136) rfl (zz_Ok_none _ _) ?_
  refine zz_cons (k' := 137) rfl (zk_aload_n X dX6_serve_136 rfl rfl) ?_
  refine zz_cons (k' := 138) rfl (zk_iload_n X dX6_serve_137 rfl rfl) ?_
  refine zz_cons (k' := 139) rfl (zk_callv X (zz_Cv_of (List.forall_mem_cons.mpr ⟨⟨(RX_5, zzT5, 12), yX10_needOf, cX10_needOf, 2, (some .int), 1, 22, rfl, kv_X6_38_5, (mm_X10_needOf Wd).1, by decide, by decide⟩, (fun _ h => absurd h List.not_mem_nil)⟩)) dX6_serve_138 rfl) ?_
  refine zz_cons (k' := 140) rfl (zz_Ok_none _ _) ?_
  refine zz_cons (k' := 141) rfl (zz_Ok_none _ _) ?_
  refine zz_cons (k' := 142) rfl (zk_aload_n X dX6_serve_141 rfl rfl) ?_
  refine zz_cons (k' := 143) rfl (zk_iload_n X dX6_serve_142 rfl rfl) ?_
  refine zz_cons (k' := 144) rfl (zk_callv X (zz_Cv_of (List.forall_mem_cons.mpr ⟨⟨(RX_5, zzT5, 12), yX6_runningNeeds, cX6_runningNeeds, 5, (some .int), 2, 43, rfl, kv_X6_42_5.1, (mm_X6_runningNeeds Wd).1, by decide, by decide⟩, (fun _ h => absurd h List.not_mem_nil)⟩)) dX6_serve_143 rfl) ?_
  refine zz_cons (k' := 145) rfl (zz_Ok_none _ _) ?_
  refine zz_cons (k' := 146) rfl (zz_Ok_none _ _) ?_
  refine zz_cons (k' := 147) rfl (zk_iadd X dX6_serve_146 rfl) ?_
  refine zz_cons (k' := 148) rfl (zk_icmp_lt X dX6_serve_147 (by decide) rfl) ?_
  refine zz_cons (k' := 149) rfl (zz_Ok_none _ _) ?_
  refine zz_cons (k' := 150) rfl (zz_Ok_none _ _) ?_
  refine zz_cons (k' := 151) rfl (zk_iconst X dX6_serve_150 (by decide) rfl) ?_
  refine zz_cons (k' := 152) rfl (zk_goto X dX6_serve_151 (by decide)) ?_
  refine zz_cons (k' := 153) rfl (zz_Ok_none _ _) ?_
  refine zz_cons (k' := 154) rfl (zz_Ok_none _ _) ?_
  refine zz_cons (k' := 155) rfl (zk_iconst X dX6_serve_154 (by decide) rfl) ?_
  refine zz_cons (k' := 156) rfl (zk_istore X dX6_serve_155 (by decide) rfl) ?_
  refine zz_cons (k' := 157) rfl (zz_Ok_none _ _) ?_
  refine zz_cons (k' := 158) rfl (zk_aload_n X dX6_serve_157 rfl rfl) ?_
  refine zz_cons (k' := 159) rfl (zk_iload_n X dX6_serve_158 rfl rfl) ?_
  refine zz_cons (k' := 160) rfl (zk_bipush X dX6_serve_159 (by decide) rfl) ?_
  refine zz_cons (k' := 161) rfl (zz_Ok_none _ _) ?_
  refine zz_cons (k' := 162) rfl (zk_iload X dX6_serve_161 rfl) ?_
  refine zz_cons (k' := 163) rfl (zz_Ok_none _ _) ?_
  refine zz_cons (k' := 164) rfl (zk_if_eq X dX6_serve_163 (by decide) rfl) ?_
  refine zz_cons (k' := 165) rfl (zz_Ok_none _ _) ?_
  refine zz_cons (k' := 166) rfl (zz_Ok_none _ _) ?_
  refine zz_cons (k' := 167) rfl (zk_iconst X dX6_serve_166 (by decide) rfl) ?_
  refine zz_cons (k' := 168) rfl (zk_goto X dX6_serve_167 (by decide)) ?_
  refine zz_cons (k' := 169) rfl (zz_Ok_none _ _) ?_
  refine zz_cons (k' := 170) rfl (zz_Ok_none _ _) ?_
  refine zz_cons (k' := 171) rfl (zk_iconst X dX6_serve_170 (by decide) rfl) ?_
  refine zz_cons (k' := 172) rfl (zk_callv X (zz_Cv_of (List.forall_mem_cons.mpr ⟨⟨(RX_5, zzT5, 12), yX2_set, cX2_set, 4, (some .boolean), 3, 70, rfl, kv_X6_34_5, (mm_X2_set Wd).1, by decide, by decide⟩, (fun _ h => absurd h List.not_mem_nil)⟩)) dX6_serve_171 rfl) ?_
  refine zz_cons (k' := 173) rfl (zz_Ok_none _ _) ?_
  refine zz_cons (k' := 174) rfl (zz_Ok_none _ _) ?_
  refine zz_cons (k' := 175) rfl (zk_calls X ks_X6_30 (mm_X2_outcomeOf Wd).1 (by decide) dX6_serve_174 rfl) ?_
  refine zz_cons (k' := 176) rfl (zz_Ok_none _ _) ?_
  refine zz_cons (k' := 177) rfl (zz_Ok_none _ _) ?_
  refine zz_cons (k' := 178) rfl (zk_iret X rfl dX6_serve_177) ?_
  exact trivial
noncomputable def tX7_serve : List zzOp := [
  zo_aload 0 1,
  zo_iload 1 2,
  zo_pushI 5 3,
  zo_callv zzSC (zz_cl [(6, fX10_read)]) 2 6,
  zo_none,
  zo_none,
  zo_istore 2 7,
  zo_iload 1 8,
  zo_if (fun x => decide (x < 0)) 30 11,
  zo_none,
  zo_none,
  zo_iload 1 12,
  zo_pushI 60 14,
  zo_none,
  zo_icmp (fun x y => decide (y ≤ x)) 30 17,
  zo_none,
  zo_none,
  zo_aload 0 18,
  zo_iload 1 19,
  zo_pushI 0 20,
  zo_callv zzSC (zz_cl [(6, fX10_isStaying)]) 2 23,
  zo_none,
  zo_none,
  zo_if (fun x => decide (x = 0)) 30 26,
  zo_none,
  zo_none,
  zo_iload 2 27,
  zo_if (fun x => decide (0 < x)) 32 30,
  zo_none,
  zo_none,
  zo_pushI 1 31,
  zo_iret false,
  zo_iload 2 33,
  zo_pushI 1 34,
  zo_aload 0 35,
  zo_iload 1 36,
  zo_pushI 6 38,
  zo_none,
  zo_callv zzSC (zz_cl [(6, fX10_read)]) 2 41,
  zo_none,
  zo_none,
  zo_pushI 9 43,
  zo_none,
  zo_ii (fun x y => x + y) 44,
  zo_pushI 10 46,
  zo_none,
  zo_iid (fun x y => x / y) 47,
  zo_mm (fun x y => if x < y then y else x) 50,
  zo_none,
  zo_none,
  zo_mm (fun x y => if y < x then y else x) 53,
  zo_none,
  zo_none,
  zo_istore 3 54,
  zo_aload 0 55,
  zo_getf zzSC (zz_kf [6] 12) 58,
  zo_none,
  zo_none,
  zo_iload 1 59,
  zo_iald zzSC zzSTC 60,
  zo_pushI (-1) 61,
  zo_icmp (fun x y => decide (x = y)) 87 64,
  zo_none,
  zo_none,
  zo_aload 0 65,
  zo_getf zzSC (zz_kf [6] 4) 68,
  zo_none,
  zo_none,
  zo_getf zzSC (zz_kf [8] 7) 71,
  zo_none,
  zo_none,
  zo_aload 0 72,
  zo_getf zzSC (zz_kf [6] 12) 75,
  zo_none,
  zo_none,
  zo_iload 1 76,
  zo_iald zzSC zzSTC 77,
  zo_ii (fun x y => x - y) 78,
  zo_pushI 10 80,
  zo_none,
  zo_icmp (fun x y => decide (y ≤ x)) 87 83,
  zo_none,
  zo_none,
  zo_pushI 1 84,
  zo_goto 88,
  zo_none,
  zo_none,
  zo_pushI 0 88,
  zo_istore 4 90,
  zo_none,
  zo_aload 0 91,
  zo_iload 1 92,
  zo_pushI 0 93,
  zo_callv zzSC (zz_cl [(6, fX10_read)]) 2 96,
  zo_none,
  zo_none,
  zo_iload 3 97,
  zo_icmp (fun x y => decide (x ≤ y)) 122 100,
  zo_none,
  zo_none,
  zo_iload 4 102,
  zo_none,
  zo_if (fun x => decide (x = 0)) 122 105,
  zo_none,
  zo_none,
  zo_aload 0 106,
  zo_getf zzSC (zz_kf [6] 9) 109,
  zo_none,
  zo_none,
  zo_iload 1 110,
  zo_aload 0 111,
  zo_getf zzSC (zz_kf [6] 12) 114,
  zo_none,
  zo_none,
  zo_iload 1 115,
  zo_iald zzSC zzSTC 116,
  zo_pushI 10 118,
  zo_none,
  zo_ii (fun x y => x + y) 119,
  zo_iast zzSC 120,
  zo_pushI 2 121,
  zo_iret false,
  zo_aload 0 123,
  zo_getf zzSC (zz_kf [6] 4) 126,
  zo_none,
  zo_none,
  zo_getf zzSC (zz_kf [8] 3) 129,
  zo_none,
  zo_none,
  zo_istore 5 131,
  zo_none,
  zo_aload 0 132,
  zo_iload 1 133,
  zo_iload 3 134,
  zo_callv zzSC (zz_cl [(6, fX2_want)]) 2 137,
  zo_none,
  zo_none,
  zo_istore 6 139,
  zo_none,
  zo_aload 0 140,
  zo_getf zzSC (zz_kf [6] 4) 143,
  zo_none,
  zo_none,
  zo_getf zzSC (zz_kf [8] 3) 146,
  zo_none,
  zo_none,
  zo_iload 5 148,
  zo_none,
  zo_icmp (fun x y => decide (x ≤ y)) 164 151,
  zo_none,
  zo_none,
  zo_aload 0 152,
  zo_getf zzSC (zz_kf [6] 12) 155,
  zo_none,
  zo_none,
  zo_iload 1 156,
  zo_aload 0 157,
  zo_getf zzSC (zz_kf [6] 4) 160,
  zo_none,
  zo_none,
  zo_getf zzSC (zz_kf [8] 7) 163,
  zo_none,
  zo_none,
  zo_iast zzSC 164,
  zo_iload 6 166,
  zo_none,
  zo_calls fX2_outcomeOf 1 169,
  zo_none,
  zo_none,
  zo_iret false]
set_option maxRecDepth 100000 in
theorem tl_X7_serve : ∀ pc, zz_Tl (tX7_serve.getD pc zo_none) := by
  refine zz_Tl_mem ?_
  unfold tX7_serve
  refine List.forall_mem_cons.mpr ⟨(zo_aload_tl _ _), ?_⟩
  refine List.forall_mem_cons.mpr ⟨(zo_iload_tl _ _), ?_⟩
  refine List.forall_mem_cons.mpr ⟨(zo_pushI_tl _ _), ?_⟩
  refine List.forall_mem_cons.mpr ⟨(zo_callv_tl _ _ _ _), ?_⟩
  refine List.forall_mem_cons.mpr ⟨zo_none_tl, ?_⟩
  refine List.forall_mem_cons.mpr ⟨zo_none_tl, ?_⟩
  refine List.forall_mem_cons.mpr ⟨(zo_istore_tl _ _), ?_⟩
  refine List.forall_mem_cons.mpr ⟨(zo_iload_tl _ _), ?_⟩
  refine List.forall_mem_cons.mpr ⟨(zo_if_tl _ _ _), ?_⟩
  refine List.forall_mem_cons.mpr ⟨zo_none_tl, ?_⟩
  refine List.forall_mem_cons.mpr ⟨zo_none_tl, ?_⟩
  refine List.forall_mem_cons.mpr ⟨(zo_iload_tl _ _), ?_⟩
  refine List.forall_mem_cons.mpr ⟨(zo_pushI_tl _ _), ?_⟩
  refine List.forall_mem_cons.mpr ⟨zo_none_tl, ?_⟩
  refine List.forall_mem_cons.mpr ⟨(zo_icmp_tl _ _ _), ?_⟩
  refine List.forall_mem_cons.mpr ⟨zo_none_tl, ?_⟩
  refine List.forall_mem_cons.mpr ⟨zo_none_tl, ?_⟩
  refine List.forall_mem_cons.mpr ⟨(zo_aload_tl _ _), ?_⟩
  refine List.forall_mem_cons.mpr ⟨(zo_iload_tl _ _), ?_⟩
  refine List.forall_mem_cons.mpr ⟨(zo_pushI_tl _ _), ?_⟩
  refine List.forall_mem_cons.mpr ⟨(zo_callv_tl _ _ _ _), ?_⟩
  refine List.forall_mem_cons.mpr ⟨zo_none_tl, ?_⟩
  refine List.forall_mem_cons.mpr ⟨zo_none_tl, ?_⟩
  refine List.forall_mem_cons.mpr ⟨(zo_if_tl _ _ _), ?_⟩
  refine List.forall_mem_cons.mpr ⟨zo_none_tl, ?_⟩
  refine List.forall_mem_cons.mpr ⟨zo_none_tl, ?_⟩
  refine List.forall_mem_cons.mpr ⟨(zo_iload_tl _ _), ?_⟩
  refine List.forall_mem_cons.mpr ⟨(zo_if_tl _ _ _), ?_⟩
  refine List.forall_mem_cons.mpr ⟨zo_none_tl, ?_⟩
  refine List.forall_mem_cons.mpr ⟨zo_none_tl, ?_⟩
  refine List.forall_mem_cons.mpr ⟨(zo_pushI_tl _ _), ?_⟩
  refine List.forall_mem_cons.mpr ⟨(zo_iret_tl _), ?_⟩
  refine List.forall_mem_cons.mpr ⟨(zo_iload_tl _ _), ?_⟩
  refine List.forall_mem_cons.mpr ⟨(zo_pushI_tl _ _), ?_⟩
  refine List.forall_mem_cons.mpr ⟨(zo_aload_tl _ _), ?_⟩
  refine List.forall_mem_cons.mpr ⟨(zo_iload_tl _ _), ?_⟩
  refine List.forall_mem_cons.mpr ⟨(zo_pushI_tl _ _), ?_⟩
  refine List.forall_mem_cons.mpr ⟨zo_none_tl, ?_⟩
  refine List.forall_mem_cons.mpr ⟨(zo_callv_tl _ _ _ _), ?_⟩
  refine List.forall_mem_cons.mpr ⟨zo_none_tl, ?_⟩
  refine List.forall_mem_cons.mpr ⟨zo_none_tl, ?_⟩
  refine List.forall_mem_cons.mpr ⟨(zo_pushI_tl _ _), ?_⟩
  refine List.forall_mem_cons.mpr ⟨zo_none_tl, ?_⟩
  refine List.forall_mem_cons.mpr ⟨(zo_ii_tl _ _), ?_⟩
  refine List.forall_mem_cons.mpr ⟨(zo_pushI_tl _ _), ?_⟩
  refine List.forall_mem_cons.mpr ⟨zo_none_tl, ?_⟩
  refine List.forall_mem_cons.mpr ⟨(zo_iid_tl _ _), ?_⟩
  refine List.forall_mem_cons.mpr ⟨(zo_mm_tl _ _), ?_⟩
  refine List.forall_mem_cons.mpr ⟨zo_none_tl, ?_⟩
  refine List.forall_mem_cons.mpr ⟨zo_none_tl, ?_⟩
  refine List.forall_mem_cons.mpr ⟨(zo_mm_tl _ _), ?_⟩
  refine List.forall_mem_cons.mpr ⟨zo_none_tl, ?_⟩
  refine List.forall_mem_cons.mpr ⟨zo_none_tl, ?_⟩
  refine List.forall_mem_cons.mpr ⟨(zo_istore_tl _ _), ?_⟩
  refine List.forall_mem_cons.mpr ⟨(zo_aload_tl _ _), ?_⟩
  refine List.forall_mem_cons.mpr ⟨(zo_getf_tl _ _ _), ?_⟩
  refine List.forall_mem_cons.mpr ⟨zo_none_tl, ?_⟩
  refine List.forall_mem_cons.mpr ⟨zo_none_tl, ?_⟩
  refine List.forall_mem_cons.mpr ⟨(zo_iload_tl _ _), ?_⟩
  refine List.forall_mem_cons.mpr ⟨(zo_iald_tl _ _ _), ?_⟩
  refine List.forall_mem_cons.mpr ⟨(zo_pushI_tl _ _), ?_⟩
  refine List.forall_mem_cons.mpr ⟨(zo_icmp_tl _ _ _), ?_⟩
  refine List.forall_mem_cons.mpr ⟨zo_none_tl, ?_⟩
  refine List.forall_mem_cons.mpr ⟨zo_none_tl, ?_⟩
  refine List.forall_mem_cons.mpr ⟨(zo_aload_tl _ _), ?_⟩
  refine List.forall_mem_cons.mpr ⟨(zo_getf_tl _ _ _), ?_⟩
  refine List.forall_mem_cons.mpr ⟨zo_none_tl, ?_⟩
  refine List.forall_mem_cons.mpr ⟨zo_none_tl, ?_⟩
  refine List.forall_mem_cons.mpr ⟨(zo_getf_tl _ _ _), ?_⟩
  refine List.forall_mem_cons.mpr ⟨zo_none_tl, ?_⟩
  refine List.forall_mem_cons.mpr ⟨zo_none_tl, ?_⟩
  refine List.forall_mem_cons.mpr ⟨(zo_aload_tl _ _), ?_⟩
  refine List.forall_mem_cons.mpr ⟨(zo_getf_tl _ _ _), ?_⟩
  refine List.forall_mem_cons.mpr ⟨zo_none_tl, ?_⟩
  refine List.forall_mem_cons.mpr ⟨zo_none_tl, ?_⟩
  refine List.forall_mem_cons.mpr ⟨(zo_iload_tl _ _), ?_⟩
  refine List.forall_mem_cons.mpr ⟨(zo_iald_tl _ _ _), ?_⟩
  refine List.forall_mem_cons.mpr ⟨(zo_ii_tl _ _), ?_⟩
  refine List.forall_mem_cons.mpr ⟨(zo_pushI_tl _ _), ?_⟩
  refine List.forall_mem_cons.mpr ⟨zo_none_tl, ?_⟩
  refine List.forall_mem_cons.mpr ⟨(zo_icmp_tl _ _ _), ?_⟩
  refine List.forall_mem_cons.mpr ⟨zo_none_tl, ?_⟩
  refine List.forall_mem_cons.mpr ⟨zo_none_tl, ?_⟩
  refine List.forall_mem_cons.mpr ⟨(zo_pushI_tl _ _), ?_⟩
  refine List.forall_mem_cons.mpr ⟨(zo_goto_tl _), ?_⟩
  refine List.forall_mem_cons.mpr ⟨zo_none_tl, ?_⟩
  refine List.forall_mem_cons.mpr ⟨zo_none_tl, ?_⟩
  refine List.forall_mem_cons.mpr ⟨(zo_pushI_tl _ _), ?_⟩
  refine List.forall_mem_cons.mpr ⟨(zo_istore_tl _ _), ?_⟩
  refine List.forall_mem_cons.mpr ⟨zo_none_tl, ?_⟩
  refine List.forall_mem_cons.mpr ⟨(zo_aload_tl _ _), ?_⟩
  refine List.forall_mem_cons.mpr ⟨(zo_iload_tl _ _), ?_⟩
  refine List.forall_mem_cons.mpr ⟨(zo_pushI_tl _ _), ?_⟩
  refine List.forall_mem_cons.mpr ⟨(zo_callv_tl _ _ _ _), ?_⟩
  refine List.forall_mem_cons.mpr ⟨zo_none_tl, ?_⟩
  refine List.forall_mem_cons.mpr ⟨zo_none_tl, ?_⟩
  refine List.forall_mem_cons.mpr ⟨(zo_iload_tl _ _), ?_⟩
  refine List.forall_mem_cons.mpr ⟨(zo_icmp_tl _ _ _), ?_⟩
  refine List.forall_mem_cons.mpr ⟨zo_none_tl, ?_⟩
  refine List.forall_mem_cons.mpr ⟨zo_none_tl, ?_⟩
  refine List.forall_mem_cons.mpr ⟨(zo_iload_tl _ _), ?_⟩
  refine List.forall_mem_cons.mpr ⟨zo_none_tl, ?_⟩
  refine List.forall_mem_cons.mpr ⟨(zo_if_tl _ _ _), ?_⟩
  refine List.forall_mem_cons.mpr ⟨zo_none_tl, ?_⟩
  refine List.forall_mem_cons.mpr ⟨zo_none_tl, ?_⟩
  refine List.forall_mem_cons.mpr ⟨(zo_aload_tl _ _), ?_⟩
  refine List.forall_mem_cons.mpr ⟨(zo_getf_tl _ _ _), ?_⟩
  refine List.forall_mem_cons.mpr ⟨zo_none_tl, ?_⟩
  refine List.forall_mem_cons.mpr ⟨zo_none_tl, ?_⟩
  refine List.forall_mem_cons.mpr ⟨(zo_iload_tl _ _), ?_⟩
  refine List.forall_mem_cons.mpr ⟨(zo_aload_tl _ _), ?_⟩
  refine List.forall_mem_cons.mpr ⟨(zo_getf_tl _ _ _), ?_⟩
  refine List.forall_mem_cons.mpr ⟨zo_none_tl, ?_⟩
  refine List.forall_mem_cons.mpr ⟨zo_none_tl, ?_⟩
  refine List.forall_mem_cons.mpr ⟨(zo_iload_tl _ _), ?_⟩
  refine List.forall_mem_cons.mpr ⟨(zo_iald_tl _ _ _), ?_⟩
  refine List.forall_mem_cons.mpr ⟨(zo_pushI_tl _ _), ?_⟩
  refine List.forall_mem_cons.mpr ⟨zo_none_tl, ?_⟩
  refine List.forall_mem_cons.mpr ⟨(zo_ii_tl _ _), ?_⟩
  refine List.forall_mem_cons.mpr ⟨(zo_iast_tl _ _), ?_⟩
  refine List.forall_mem_cons.mpr ⟨(zo_pushI_tl _ _), ?_⟩
  refine List.forall_mem_cons.mpr ⟨(zo_iret_tl _), ?_⟩
  refine List.forall_mem_cons.mpr ⟨(zo_aload_tl _ _), ?_⟩
  refine List.forall_mem_cons.mpr ⟨(zo_getf_tl _ _ _), ?_⟩
  refine List.forall_mem_cons.mpr ⟨zo_none_tl, ?_⟩
  refine List.forall_mem_cons.mpr ⟨zo_none_tl, ?_⟩
  refine List.forall_mem_cons.mpr ⟨(zo_getf_tl _ _ _), ?_⟩
  refine List.forall_mem_cons.mpr ⟨zo_none_tl, ?_⟩
  refine List.forall_mem_cons.mpr ⟨zo_none_tl, ?_⟩
  refine List.forall_mem_cons.mpr ⟨(zo_istore_tl _ _), ?_⟩
  refine List.forall_mem_cons.mpr ⟨zo_none_tl, ?_⟩
  refine List.forall_mem_cons.mpr ⟨(zo_aload_tl _ _), ?_⟩
  refine List.forall_mem_cons.mpr ⟨(zo_iload_tl _ _), ?_⟩
  refine List.forall_mem_cons.mpr ⟨(zo_iload_tl _ _), ?_⟩
  refine List.forall_mem_cons.mpr ⟨(zo_callv_tl _ _ _ _), ?_⟩
  refine List.forall_mem_cons.mpr ⟨zo_none_tl, ?_⟩
  refine List.forall_mem_cons.mpr ⟨zo_none_tl, ?_⟩
  refine List.forall_mem_cons.mpr ⟨(zo_istore_tl _ _), ?_⟩
  refine List.forall_mem_cons.mpr ⟨zo_none_tl, ?_⟩
  refine List.forall_mem_cons.mpr ⟨(zo_aload_tl _ _), ?_⟩
  refine List.forall_mem_cons.mpr ⟨(zo_getf_tl _ _ _), ?_⟩
  refine List.forall_mem_cons.mpr ⟨zo_none_tl, ?_⟩
  refine List.forall_mem_cons.mpr ⟨zo_none_tl, ?_⟩
  refine List.forall_mem_cons.mpr ⟨(zo_getf_tl _ _ _), ?_⟩
  refine List.forall_mem_cons.mpr ⟨zo_none_tl, ?_⟩
  refine List.forall_mem_cons.mpr ⟨zo_none_tl, ?_⟩
  refine List.forall_mem_cons.mpr ⟨(zo_iload_tl _ _), ?_⟩
  refine List.forall_mem_cons.mpr ⟨zo_none_tl, ?_⟩
  refine List.forall_mem_cons.mpr ⟨(zo_icmp_tl _ _ _), ?_⟩
  refine List.forall_mem_cons.mpr ⟨zo_none_tl, ?_⟩
  refine List.forall_mem_cons.mpr ⟨zo_none_tl, ?_⟩
  refine List.forall_mem_cons.mpr ⟨(zo_aload_tl _ _), ?_⟩
  refine List.forall_mem_cons.mpr ⟨(zo_getf_tl _ _ _), ?_⟩
  refine List.forall_mem_cons.mpr ⟨zo_none_tl, ?_⟩
  refine List.forall_mem_cons.mpr ⟨zo_none_tl, ?_⟩
  refine List.forall_mem_cons.mpr ⟨(zo_iload_tl _ _), ?_⟩
  refine List.forall_mem_cons.mpr ⟨(zo_aload_tl _ _), ?_⟩
  refine List.forall_mem_cons.mpr ⟨(zo_getf_tl _ _ _), ?_⟩
  refine List.forall_mem_cons.mpr ⟨zo_none_tl, ?_⟩
  refine List.forall_mem_cons.mpr ⟨zo_none_tl, ?_⟩
  refine List.forall_mem_cons.mpr ⟨(zo_getf_tl _ _ _), ?_⟩
  refine List.forall_mem_cons.mpr ⟨zo_none_tl, ?_⟩
  refine List.forall_mem_cons.mpr ⟨zo_none_tl, ?_⟩
  refine List.forall_mem_cons.mpr ⟨(zo_iast_tl _ _), ?_⟩
  refine List.forall_mem_cons.mpr ⟨(zo_iload_tl _ _), ?_⟩
  refine List.forall_mem_cons.mpr ⟨zo_none_tl, ?_⟩
  refine List.forall_mem_cons.mpr ⟨(zo_calls_tl _ _ _), ?_⟩
  refine List.forall_mem_cons.mpr ⟨zo_none_tl, ?_⟩
  refine List.forall_mem_cons.mpr ⟨zo_none_tl, ?_⟩
  refine List.forall_mem_cons.mpr ⟨(zo_iret_tl _), ?_⟩
  exact fun _ h => absurd h List.not_mem_nil
noncomputable def fX7_serve : zzFn := zz_fn tX7_serve 7
set_option maxRecDepth 100000 in
set_option maxHeartbeats 4000000 in
theorem mm_X7_serve {l : Launch} {D : va_G} {cA : Nat → ClassId} {ad : Nat → Nat} {Ex : (Nat → Prop) → State → Heap → Prop} (Wd : zzWC l D cA ad Ex) : zz_Cn l D zzCl cA ad zzSC Ex yX7_serve cX7_serve 7 (some .int) 4 96 fX7_serve ∧ zz_Cx l D zzCl cA ad zzSC Ex yX7_serve cX7_serve 7 (some .int) 4 96 fX7_serve := by
  refine zz_meth (plainFor_of_name (by decide)) Wd.1 Wd.2.1 Wd.2.2.1 (fun p e R s m args below meth c rr X => ?_)
  unfold tX7_serve
  refine zz_cons (k' := 1) rfl (zk_aload_n X dX7_serve_0 rfl rfl) ?_
  refine zz_cons (k' := 2) rfl (zk_iload_n X dX7_serve_1 rfl rfl) ?_
  refine zz_cons (k' := 3) rfl (zk_iconst X dX7_serve_2 (by decide) rfl) ?_
  refine zz_cons (k' := 4) rfl (zk_callv X (zz_Cv_of (List.forall_mem_cons.mpr ⟨⟨(RX_6, zzT6, 13), yX10_read, cX10_read, 3, (some .int), 0, 0, rfl, kv_X7_15_6, (mm_X10_read Wd).1, by decide, by decide⟩, (fun _ h => absurd h List.not_mem_nil)⟩)) dX7_serve_3 rfl) ?_
  refine zz_cons (k' := 5) rfl (zz_Ok_none _ _) ?_
  refine zz_cons (k' := 6) rfl (zz_Ok_none _ _) ?_
  refine zz_cons (k' := 7) rfl (zk_istore_n X dX7_serve_6 rfl (by decide) rfl) ?_
  refine zz_cons (k' := 8) rfl (zk_iload_n X dX7_serve_7 rfl rfl) ?_
  refine zz_cons (k' := 9) rfl (zk_if_lt X dX7_serve_8 (by decide) rfl) ?_
  refine zz_cons (k' := 10) rfl (zz_Ok_none _ _) ?_
  refine zz_cons (k' := 11) rfl (zz_Ok_none _ _) ?_
  refine zz_cons (k' := 12) rfl (zk_iload_n X dX7_serve_11 rfl rfl) ?_
  refine zz_cons (k' := 13) rfl (zk_bipush X dX7_serve_12 (by decide) rfl) ?_
  refine zz_cons (k' := 14) rfl (zz_Ok_none _ _) ?_
  refine zz_cons (k' := 15) rfl (zk_icmp_ge X dX7_serve_14 (by decide) rfl) ?_
  refine zz_cons (k' := 16) rfl (zz_Ok_none _ _) ?_
  refine zz_cons (k' := 17) rfl (zz_Ok_none _ _) ?_
  refine zz_cons (k' := 18) rfl (zk_aload_n X dX7_serve_17 rfl rfl) ?_
  refine zz_cons (k' := 19) rfl (zk_iload_n X dX7_serve_18 rfl rfl) ?_
  refine zz_cons (k' := 20) rfl (zk_iconst X dX7_serve_19 (by decide) rfl) ?_
  refine zz_cons (k' := 21) rfl (zk_callv X (zz_Cv_of (List.forall_mem_cons.mpr ⟨⟨(RX_6, zzT6, 13), yX10_isStaying, cX10_isStaying, 3, (some .boolean), 1, 22, rfl, kv_X7_19_6, (mm_X10_isStaying Wd).1, by decide, by decide⟩, (fun _ h => absurd h List.not_mem_nil)⟩)) dX7_serve_20 rfl) ?_
  refine zz_cons (k' := 22) rfl (zz_Ok_none _ _) ?_
  refine zz_cons (k' := 23) rfl (zz_Ok_none _ _) ?_
  refine zz_cons (k' := 24) rfl (zk_if_eq X dX7_serve_23 (by decide) rfl) ?_
  refine zz_cons (k' := 25) rfl (zz_Ok_none _ _) ?_
  refine zz_cons (k' := 26) rfl (zz_Ok_none _ _) ?_
  refine zz_cons (k' := 27) rfl (zk_iload_n X dX7_serve_26 rfl rfl) ?_
  refine zz_cons (k' := 28) rfl (zk_if_gt X dX7_serve_27 (by decide) rfl) ?_
  refine zz_cons (k' := 29) rfl (zz_Ok_none _ _) ?_
  refine zz_cons (k' := 30) rfl (zz_Ok_none _ _) ?_
  refine zz_cons (k' := 31) rfl (zk_iconst X dX7_serve_30 (by decide) rfl) ?_
  refine zz_cons (k' := 32) rfl (zk_iret X rfl dX7_serve_31) ?_
  refine zz_cons (k' := 33) rfl (zk_iload_n X dX7_serve_32 rfl rfl) ?_
  refine zz_cons (k' := 34) rfl (zk_iconst X dX7_serve_33 (by decide) rfl) ?_
  refine zz_cons (k' := 35) rfl (zk_aload_n X dX7_serve_34 rfl rfl) ?_
  refine zz_cons (k' := 36) rfl (zk_iload_n X dX7_serve_35 rfl rfl) ?_
  refine zz_cons (k' := 37) rfl (zk_bipush X dX7_serve_36 (by decide) rfl) ?_
  refine zz_cons (k' := 38) rfl (zz_Ok_none _ _) ?_
  refine zz_cons (k' := 39) rfl (zk_callv X (zz_Cv_of (List.forall_mem_cons.mpr ⟨⟨(RX_6, zzT6, 13), yX10_read, cX10_read, 3, (some .int), 0, 0, rfl, kv_X7_15_6, (mm_X10_read Wd).1, by decide, by decide⟩, (fun _ h => absurd h List.not_mem_nil)⟩)) dX7_serve_38 rfl) ?_
  refine zz_cons (k' := 40) rfl (zz_Ok_none _ _) ?_
  refine zz_cons (k' := 41) rfl (zz_Ok_none _ _) ?_
  refine zz_cons (k' := 42) rfl (zk_bipush X dX7_serve_41 (by decide) rfl) ?_
  refine zz_cons (k' := 43) rfl (zz_Ok_none _ _) ?_
  refine zz_cons (k' := 44) rfl (zk_iadd X dX7_serve_43 rfl) ?_
  refine zz_cons (k' := 45) rfl (zk_bipush X dX7_serve_44 (by decide) rfl) ?_
  refine zz_cons (k' := 46) rfl (zz_Ok_none _ _) ?_
  refine zz_cons (k' := 47) rfl (zk_idiv X dX7_serve_46 rfl) ?_
  refine zz_cons (k' := 48) rfl (zk_max X (zz_in (by decide +kernel)) (zz_in (by decide +kernel)) (zz_in (by decide +kernel)) (zz_in (by decide +kernel)) (by decide) dX7_serve_47 rfl) ?_
  refine zz_cons (k' := 49) rfl (zz_Ok_none _ _) ?_
  refine zz_cons (k' := 50) rfl (zz_Ok_none _ _) ?_
  refine zz_cons (k' := 51) rfl (zk_min X (zz_in (by decide +kernel)) (zz_in (by decide +kernel)) (zz_in (by decide +kernel)) (zz_in (by decide +kernel)) (by decide) dX7_serve_50 rfl) ?_
  refine zz_cons (k' := 52) rfl (zz_Ok_none _ _) ?_
  refine zz_cons (k' := 53) rfl (zz_Ok_none _ _) ?_
  refine zz_cons (k' := 54) rfl (zk_istore_n X dX7_serve_53 rfl (by decide) rfl) ?_
  refine zz_cons (k' := 55) rfl (zk_aload_n X dX7_serve_54 rfl rfl) ?_
  refine zz_cons (k' := 56) rfl (zk_getf X ff_X7_9 dX7_serve_55 rfl) ?_
  refine zz_cons (k' := 57) rfl (zz_Ok_none _ _) ?_
  refine zz_cons (k' := 58) rfl (zz_Ok_none _ _) ?_
  refine zz_cons (k' := 59) rfl (zk_iload_n X dX7_serve_58 rfl rfl) ?_
  refine zz_cons (k' := 60) rfl (zk_iald X (zzWC_st Wd) dX7_serve_59 rfl) ?_
  refine zz_cons (k' := 61) rfl (zk_iconst X dX7_serve_60 (by decide) rfl) ?_
  refine zz_cons (k' := 62) rfl (zk_icmp_eq X dX7_serve_61 (by decide) rfl) ?_
  refine zz_cons (k' := 63) rfl (zz_Ok_none _ _) ?_
  refine zz_cons (k' := 64) rfl (zz_Ok_none _ _) ?_
  refine zz_cons (k' := 65) rfl (zk_aload_n X dX7_serve_64 rfl rfl) ?_
  refine zz_cons (k' := 66) rfl (zk_getf X ff_X7_31 dX7_serve_65 rfl) ?_
  refine zz_cons (k' := 67) rfl (zz_Ok_none _ _) ?_
  refine zz_cons (k' := 68) rfl (zz_Ok_none _ _) ?_
  refine zz_cons (k' := 69) rfl (zk_getf X ff_X7_35 dX7_serve_68 rfl) ?_
  refine zz_cons (k' := 70) rfl (zz_Ok_none _ _) ?_
  refine zz_cons (k' := 71) rfl (zz_Ok_none _ _) ?_
  refine zz_cons (k' := 72) rfl (zk_aload_n X dX7_serve_71 rfl rfl) ?_
  refine zz_cons (k' := 73) rfl (zk_getf X ff_X7_9 dX7_serve_72 rfl) ?_
  refine zz_cons (k' := 74) rfl (zz_Ok_none _ _) ?_
  refine zz_cons (k' := 75) rfl (zz_Ok_none _ _) ?_
  refine zz_cons (k' := 76) rfl (zk_iload_n X dX7_serve_75 rfl rfl) ?_
  refine zz_cons (k' := 77) rfl (zk_iald X (zzWC_st Wd) dX7_serve_76 rfl) ?_
  refine zz_cons (k' := 78) rfl (zk_isub X dX7_serve_77 rfl) ?_
  refine zz_cons (k' := 79) rfl (zk_bipush X dX7_serve_78 (by decide) rfl) ?_
  refine zz_cons (k' := 80) rfl (zz_Ok_none _ _) ?_
  refine zz_cons (k' := 81) rfl (zk_icmp_ge X dX7_serve_80 (by decide) rfl) ?_
  refine zz_cons (k' := 82) rfl (zz_Ok_none _ _) ?_
  refine zz_cons (k' := 83) rfl (zz_Ok_none _ _) ?_
  refine zz_cons (k' := 84) rfl (zk_iconst X dX7_serve_83 (by decide) rfl) ?_
  refine zz_cons (k' := 85) rfl (zk_goto X dX7_serve_84 (by decide)) ?_
  refine zz_cons (k' := 86) rfl (zz_Ok_none _ _) ?_
  refine zz_cons (k' := 87) rfl (zz_Ok_none _ _) ?_
  refine zz_cons (k' := 88) rfl (zk_iconst X dX7_serve_87 (by decide) rfl) ?_
  refine zz_cons (k' := 89) rfl (zk_istore X dX7_serve_88 (by decide) rfl) ?_
  refine zz_cons (k' := 90) rfl (zz_Ok_none _ _) ?_
  refine zz_cons (k' := 91) rfl (zk_aload_n X dX7_serve_90 rfl rfl) ?_
  refine zz_cons (k' := 92) rfl (zk_iload_n X dX7_serve_91 rfl rfl) ?_
  refine zz_cons (k' := 93) rfl (zk_iconst X dX7_serve_92 (by decide) rfl) ?_
  refine zz_cons (k' := 94) rfl (zk_callv X (zz_Cv_of (List.forall_mem_cons.mpr ⟨⟨(RX_6, zzT6, 13), yX10_read, cX10_read, 3, (some .int), 0, 0, rfl, kv_X7_15_6, (mm_X10_read Wd).1, by decide, by decide⟩, (fun _ h => absurd h List.not_mem_nil)⟩)) dX7_serve_93 rfl) ?_
  refine zz_cons (k' := 95) rfl (zz_Ok_none _ _) ?_
  refine zz_cons (k' := 96) rfl (zz_Ok_none _ _) ?_
  refine zz_cons (k' := 97) rfl (zk_iload_n X dX7_serve_96 rfl rfl) ?_
  refine zz_cons (k' := 98) rfl (zk_icmp_le X dX7_serve_97 (by decide) rfl) ?_
  refine zz_cons (k' := 99) rfl (zz_Ok_none _ _) ?_
  refine zz_cons (k' := 100) rfl (zz_Ok_none _ _) ?_
  refine zz_cons (k' := 101) rfl (zk_iload X dX7_serve_100 rfl) ?_
  refine zz_cons (k' := 102) rfl (zz_Ok_none _ _) ?_
  refine zz_cons (k' := 103) rfl (zk_if_eq X dX7_serve_102 (by decide) rfl) ?_
  refine zz_cons (k' := 104) rfl (zz_Ok_none _ _) ?_
  refine zz_cons (k' := 105) rfl (zz_Ok_none _ _) ?_
  refine zz_cons (k' := 106) rfl (zk_aload_n X dX7_serve_105 rfl rfl) ?_
  refine zz_cons (k' := 107) rfl (zk_getf X ff_X7_41 dX7_serve_106 rfl) ?_
  refine zz_cons (k' := 108) rfl (zz_Ok_none _ _) ?_
  refine zz_cons (k' := 109) rfl (zz_Ok_none _ _) ?_
  refine zz_cons (k' := 110) rfl (zk_iload_n X dX7_serve_109 rfl rfl) ?_
  refine zz_cons (k' := 111) rfl (zk_aload_n X dX7_serve_110 rfl rfl) ?_
  refine zz_cons (k' := 112) rfl (zk_getf X ff_X7_9 dX7_serve_111 rfl) ?_
  refine zz_cons (k' := 113) rfl (zz_Ok_none _ _) ?_
  refine zz_cons (k' := 114) rfl (zz_Ok_none _ _) ?_
  refine zz_cons (k' := 115) rfl (zk_iload_n X dX7_serve_114 rfl rfl) ?_
  refine zz_cons (k' := 116) rfl (zk_iald X (zzWC_st Wd) dX7_serve_115 rfl) ?_
  refine zz_cons (k' := 117) rfl (zk_bipush X dX7_serve_116 (by decide) rfl) ?_
  refine zz_cons (k' := 118) rfl (zz_Ok_none _ _) ?_
  refine zz_cons (k' := 119) rfl (zk_iadd X dX7_serve_118 rfl) ?_
  refine zz_cons (k' := 120) rfl (zk_iast X dX7_serve_119 rfl) ?_
  refine zz_cons (k' := 121) rfl (zk_iconst X dX7_serve_120 (by decide) rfl) ?_
  refine zz_cons (k' := 122) rfl (zk_iret X rfl dX7_serve_121) ?_
  refine zz_cons (k' := 123) rfl (zk_aload_n X dX7_serve_122 rfl rfl) ?_
  refine zz_cons (k' := 124) rfl (zk_getf X ff_X7_31 dX7_serve_123 rfl) ?_
  refine zz_cons (k' := 125) rfl (zz_Ok_none _ _) ?_
  refine zz_cons (k' := 126) rfl (zz_Ok_none _ _) ?_
  refine zz_cons (k' := 127) rfl (zk_getf X ff_X7_44 dX7_serve_126 rfl) ?_
  refine zz_cons (k' := 128) rfl (zz_Ok_none _ _) ?_
  refine zz_cons (k' := 129) rfl (zz_Ok_none _ _) ?_
  refine zz_cons (k' := 130) rfl (zk_istore X dX7_serve_129 (by decide) rfl) ?_
  refine zz_cons (k' := 131) rfl (zz_Ok_none _ _) ?_
  refine zz_cons (k' := 132) rfl (zk_aload_n X dX7_serve_131 rfl rfl) ?_
  refine zz_cons (k' := 133) rfl (zk_iload_n X dX7_serve_132 rfl rfl) ?_
  refine zz_cons (k' := 134) rfl (zk_iload_n X dX7_serve_133 rfl rfl) ?_
  refine zz_cons (k' := 135) rfl (zk_callv X (zz_Cv_of (List.forall_mem_cons.mpr ⟨⟨(RX_6, zzT6, 13), yX2_want, cX2_want, 3, (some .boolean), 3, 74, rfl, kv_X7_47_6, (mm_X2_want Wd).1, by decide, by decide⟩, (fun _ h => absurd h List.not_mem_nil)⟩)) dX7_serve_134 rfl) ?_
  refine zz_cons (k' := 136) rfl (zz_Ok_none _ _) ?_
  refine zz_cons (k' := 137) rfl (zz_Ok_none _ _) ?_
  refine zz_cons (k' := 138) rfl (zk_istore X dX7_serve_137 (by decide) rfl) ?_
  refine zz_cons (k' := 139) rfl (zz_Ok_none _ _) ?_
  refine zz_cons (k' := 140) rfl (zk_aload_n X dX7_serve_139 rfl rfl) ?_
  refine zz_cons (k' := 141) rfl (zk_getf X ff_X7_31 dX7_serve_140 rfl) ?_
  refine zz_cons (k' := 142) rfl (zz_Ok_none _ _) ?_
  refine zz_cons (k' := 143) rfl (zz_Ok_none _ _) ?_
  refine zz_cons (k' := 144) rfl (zk_getf X ff_X7_44 dX7_serve_143 rfl) ?_
  refine zz_cons (k' := 145) rfl (zz_Ok_none _ _) ?_
  refine zz_cons (k' := 146) rfl (zz_Ok_none _ _) ?_
  refine zz_cons (k' := 147) rfl (zk_iload X dX7_serve_146 rfl) ?_
  refine zz_cons (k' := 148) rfl (zz_Ok_none _ _) ?_
  refine zz_cons (k' := 149) rfl (zk_icmp_le X dX7_serve_148 (by decide) rfl) ?_
  refine zz_cons (k' := 150) rfl (zz_Ok_none _ _) ?_
  refine zz_cons (k' := 151) rfl (zz_Ok_none _ _) ?_
  refine zz_cons (k' := 152) rfl (zk_aload_n X dX7_serve_151 rfl rfl) ?_
  refine zz_cons (k' := 153) rfl (zk_getf X ff_X7_9 dX7_serve_152 rfl) ?_
  refine zz_cons (k' := 154) rfl (zz_Ok_none _ _) ?_
  refine zz_cons (k' := 155) rfl (zz_Ok_none _ _) ?_
  refine zz_cons (k' := 156) rfl (zk_iload_n X dX7_serve_155 rfl rfl) ?_
  refine zz_cons (k' := 157) rfl (zk_aload_n X dX7_serve_156 rfl rfl) ?_
  refine zz_cons (k' := 158) rfl (zk_getf X ff_X7_31 dX7_serve_157 rfl) ?_
  refine zz_cons (k' := 159) rfl (zz_Ok_none _ _) ?_
  refine zz_cons (k' := 160) rfl (zz_Ok_none _ _) ?_
  refine zz_cons (k' := 161) rfl (zk_getf X ff_X7_35 dX7_serve_160 rfl) ?_
  refine zz_cons (k' := 162) rfl (zz_Ok_none _ _) ?_
  refine zz_cons (k' := 163) rfl (zz_Ok_none _ _) ?_
  refine zz_cons (k' := 164) rfl (zk_iast X dX7_serve_163 rfl) ?_
  refine zz_cons (k' := 165) rfl (zk_iload X dX7_serve_164 rfl) ?_
  refine zz_cons (k' := 166) rfl (zz_Ok_none _ _) ?_
  refine zz_cons (k' := 167) rfl (zk_calls X ks_X7_50 (mm_X2_outcomeOf Wd).1 (by decide) dX7_serve_166 rfl) ?_
  refine zz_cons (k' := 168) rfl (zz_Ok_none _ _) ?_
  refine zz_cons (k' := 169) rfl (zz_Ok_none _ _) ?_
  refine zz_cons (k' := 170) rfl (zk_iret X rfl dX7_serve_169) ?_
  exact trivial
noncomputable def tX8_countUsed : List zzOp := [
  zo_pushI 0 1,
  zo_istore 1 2,
  zo_iload 1 3,
  zo_pushI 60 5,
  zo_none,
  zo_icmp (fun x y => decide (y ≤ x)) 21 8,
  zo_none,
  zo_none,
  zo_aload 0 9,
  zo_getf zzSC (zz_kf [7] 12) 12,
  zo_none,
  zo_none,
  zo_iload 1 13,
  zo_pushI 0 14,
  zo_iast zzSC 15,
  zo_iinc 1 1 18,
  zo_none,
  zo_none,
  zo_goto 2,
  zo_none,
  zo_none,
  zo_pushI 0 22,
  zo_istore 1 23,
  zo_iload 1 24,
  zo_aload 0 25,
  zo_getf zzSC (zz_kf [7] 2) 28,
  zo_none,
  zo_none,
  zo_icmp (fun x y => decide (y ≤ x)) 95 31,
  zo_none,
  zo_none,
  zo_aload 0 32,
  zo_iload 1 33,
  zo_pushI 28 35,
  zo_none,
  zo_callv zzSC (zz_cl [(7, fX10_read)]) 2 38,
  zo_none,
  zo_none,
  zo_istore 2 39,
  zo_aload 0 40,
  zo_iload 1 41,
  zo_pushI 29 43,
  zo_none,
  zo_callv zzSC (zz_cl [(7, fX10_read)]) 2 46,
  zo_none,
  zo_none,
  zo_istore 3 47,
  zo_iload 2 48,
  zo_if (fun x => decide (x < 0)) 89 51,
  zo_none,
  zo_none,
  zo_iload 2 52,
  zo_pushI 60 54,
  zo_none,
  zo_icmp (fun x y => decide (y ≤ x)) 89 57,
  zo_none,
  zo_none,
  zo_aload 0 58,
  zo_iload 1 59,
  zo_callv zzSC (zz_cl [(7, fX10_isGone)]) 1 62,
  zo_none,
  zo_none,
  zo_if (fun x => decide (¬ x = 0)) 89 65,
  zo_none,
  zo_none,
  zo_iload 3 66,
  zo_pushI 2 67,
  zo_icmp (fun x y => decide (x = y)) 89 70,
  zo_none,
  zo_none,
  zo_iload 3 71,
  zo_pushI 3 72,
  zo_icmp (fun x y => decide (x = y)) 89 75,
  zo_none,
  zo_none,
  zo_aload 0 76,
  zo_getf zzSC (zz_kf [7] 12) 79,
  zo_none,
  zo_none,
  zo_iload 2 80,
  zo_dup2 81,
  zo_iald zzSC zzSTC 82,
  zo_aload 0 83,
  zo_iload 1 84,
  zo_callv zzSC (zz_cl [(7, fX10_needOf)]) 1 87,
  zo_none,
  zo_none,
  zo_ii (fun x y => x + y) 88,
  zo_iast zzSC 89,
  zo_iinc 1 1 92,
  zo_none,
  zo_none,
  zo_goto 23,
  zo_none,
  zo_none,
  zo_ret]
set_option maxRecDepth 100000 in
theorem tl_X8_countUsed : ∀ pc, zz_Tl (tX8_countUsed.getD pc zo_none) := by
  refine zz_Tl_mem ?_
  unfold tX8_countUsed
  refine List.forall_mem_cons.mpr ⟨(zo_pushI_tl _ _), ?_⟩
  refine List.forall_mem_cons.mpr ⟨(zo_istore_tl _ _), ?_⟩
  refine List.forall_mem_cons.mpr ⟨(zo_iload_tl _ _), ?_⟩
  refine List.forall_mem_cons.mpr ⟨(zo_pushI_tl _ _), ?_⟩
  refine List.forall_mem_cons.mpr ⟨zo_none_tl, ?_⟩
  refine List.forall_mem_cons.mpr ⟨(zo_icmp_tl _ _ _), ?_⟩
  refine List.forall_mem_cons.mpr ⟨zo_none_tl, ?_⟩
  refine List.forall_mem_cons.mpr ⟨zo_none_tl, ?_⟩
  refine List.forall_mem_cons.mpr ⟨(zo_aload_tl _ _), ?_⟩
  refine List.forall_mem_cons.mpr ⟨(zo_getf_tl _ _ _), ?_⟩
  refine List.forall_mem_cons.mpr ⟨zo_none_tl, ?_⟩
  refine List.forall_mem_cons.mpr ⟨zo_none_tl, ?_⟩
  refine List.forall_mem_cons.mpr ⟨(zo_iload_tl _ _), ?_⟩
  refine List.forall_mem_cons.mpr ⟨(zo_pushI_tl _ _), ?_⟩
  refine List.forall_mem_cons.mpr ⟨(zo_iast_tl _ _), ?_⟩
  refine List.forall_mem_cons.mpr ⟨(zo_iinc_tl _ _ _), ?_⟩
  refine List.forall_mem_cons.mpr ⟨zo_none_tl, ?_⟩
  refine List.forall_mem_cons.mpr ⟨zo_none_tl, ?_⟩
  refine List.forall_mem_cons.mpr ⟨(zo_goto_tl _), ?_⟩
  refine List.forall_mem_cons.mpr ⟨zo_none_tl, ?_⟩
  refine List.forall_mem_cons.mpr ⟨zo_none_tl, ?_⟩
  refine List.forall_mem_cons.mpr ⟨(zo_pushI_tl _ _), ?_⟩
  refine List.forall_mem_cons.mpr ⟨(zo_istore_tl _ _), ?_⟩
  refine List.forall_mem_cons.mpr ⟨(zo_iload_tl _ _), ?_⟩
  refine List.forall_mem_cons.mpr ⟨(zo_aload_tl _ _), ?_⟩
  refine List.forall_mem_cons.mpr ⟨(zo_getf_tl _ _ _), ?_⟩
  refine List.forall_mem_cons.mpr ⟨zo_none_tl, ?_⟩
  refine List.forall_mem_cons.mpr ⟨zo_none_tl, ?_⟩
  refine List.forall_mem_cons.mpr ⟨(zo_icmp_tl _ _ _), ?_⟩
  refine List.forall_mem_cons.mpr ⟨zo_none_tl, ?_⟩
  refine List.forall_mem_cons.mpr ⟨zo_none_tl, ?_⟩
  refine List.forall_mem_cons.mpr ⟨(zo_aload_tl _ _), ?_⟩
  refine List.forall_mem_cons.mpr ⟨(zo_iload_tl _ _), ?_⟩
  refine List.forall_mem_cons.mpr ⟨(zo_pushI_tl _ _), ?_⟩
  refine List.forall_mem_cons.mpr ⟨zo_none_tl, ?_⟩
  refine List.forall_mem_cons.mpr ⟨(zo_callv_tl _ _ _ _), ?_⟩
  refine List.forall_mem_cons.mpr ⟨zo_none_tl, ?_⟩
  refine List.forall_mem_cons.mpr ⟨zo_none_tl, ?_⟩
  refine List.forall_mem_cons.mpr ⟨(zo_istore_tl _ _), ?_⟩
  refine List.forall_mem_cons.mpr ⟨(zo_aload_tl _ _), ?_⟩
  refine List.forall_mem_cons.mpr ⟨(zo_iload_tl _ _), ?_⟩
  refine List.forall_mem_cons.mpr ⟨(zo_pushI_tl _ _), ?_⟩
  refine List.forall_mem_cons.mpr ⟨zo_none_tl, ?_⟩
  refine List.forall_mem_cons.mpr ⟨(zo_callv_tl _ _ _ _), ?_⟩
  refine List.forall_mem_cons.mpr ⟨zo_none_tl, ?_⟩
  refine List.forall_mem_cons.mpr ⟨zo_none_tl, ?_⟩
  refine List.forall_mem_cons.mpr ⟨(zo_istore_tl _ _), ?_⟩
  refine List.forall_mem_cons.mpr ⟨(zo_iload_tl _ _), ?_⟩
  refine List.forall_mem_cons.mpr ⟨(zo_if_tl _ _ _), ?_⟩
  refine List.forall_mem_cons.mpr ⟨zo_none_tl, ?_⟩
  refine List.forall_mem_cons.mpr ⟨zo_none_tl, ?_⟩
  refine List.forall_mem_cons.mpr ⟨(zo_iload_tl _ _), ?_⟩
  refine List.forall_mem_cons.mpr ⟨(zo_pushI_tl _ _), ?_⟩
  refine List.forall_mem_cons.mpr ⟨zo_none_tl, ?_⟩
  refine List.forall_mem_cons.mpr ⟨(zo_icmp_tl _ _ _), ?_⟩
  refine List.forall_mem_cons.mpr ⟨zo_none_tl, ?_⟩
  refine List.forall_mem_cons.mpr ⟨zo_none_tl, ?_⟩
  refine List.forall_mem_cons.mpr ⟨(zo_aload_tl _ _), ?_⟩
  refine List.forall_mem_cons.mpr ⟨(zo_iload_tl _ _), ?_⟩
  refine List.forall_mem_cons.mpr ⟨(zo_callv_tl _ _ _ _), ?_⟩
  refine List.forall_mem_cons.mpr ⟨zo_none_tl, ?_⟩
  refine List.forall_mem_cons.mpr ⟨zo_none_tl, ?_⟩
  refine List.forall_mem_cons.mpr ⟨(zo_if_tl _ _ _), ?_⟩
  refine List.forall_mem_cons.mpr ⟨zo_none_tl, ?_⟩
  refine List.forall_mem_cons.mpr ⟨zo_none_tl, ?_⟩
  refine List.forall_mem_cons.mpr ⟨(zo_iload_tl _ _), ?_⟩
  refine List.forall_mem_cons.mpr ⟨(zo_pushI_tl _ _), ?_⟩
  refine List.forall_mem_cons.mpr ⟨(zo_icmp_tl _ _ _), ?_⟩
  refine List.forall_mem_cons.mpr ⟨zo_none_tl, ?_⟩
  refine List.forall_mem_cons.mpr ⟨zo_none_tl, ?_⟩
  refine List.forall_mem_cons.mpr ⟨(zo_iload_tl _ _), ?_⟩
  refine List.forall_mem_cons.mpr ⟨(zo_pushI_tl _ _), ?_⟩
  refine List.forall_mem_cons.mpr ⟨(zo_icmp_tl _ _ _), ?_⟩
  refine List.forall_mem_cons.mpr ⟨zo_none_tl, ?_⟩
  refine List.forall_mem_cons.mpr ⟨zo_none_tl, ?_⟩
  refine List.forall_mem_cons.mpr ⟨(zo_aload_tl _ _), ?_⟩
  refine List.forall_mem_cons.mpr ⟨(zo_getf_tl _ _ _), ?_⟩
  refine List.forall_mem_cons.mpr ⟨zo_none_tl, ?_⟩
  refine List.forall_mem_cons.mpr ⟨zo_none_tl, ?_⟩
  refine List.forall_mem_cons.mpr ⟨(zo_iload_tl _ _), ?_⟩
  refine List.forall_mem_cons.mpr ⟨(zo_dup2_tl _), ?_⟩
  refine List.forall_mem_cons.mpr ⟨(zo_iald_tl _ _ _), ?_⟩
  refine List.forall_mem_cons.mpr ⟨(zo_aload_tl _ _), ?_⟩
  refine List.forall_mem_cons.mpr ⟨(zo_iload_tl _ _), ?_⟩
  refine List.forall_mem_cons.mpr ⟨(zo_callv_tl _ _ _ _), ?_⟩
  refine List.forall_mem_cons.mpr ⟨zo_none_tl, ?_⟩
  refine List.forall_mem_cons.mpr ⟨zo_none_tl, ?_⟩
  refine List.forall_mem_cons.mpr ⟨(zo_ii_tl _ _), ?_⟩
  refine List.forall_mem_cons.mpr ⟨(zo_iast_tl _ _), ?_⟩
  refine List.forall_mem_cons.mpr ⟨(zo_iinc_tl _ _ _), ?_⟩
  refine List.forall_mem_cons.mpr ⟨zo_none_tl, ?_⟩
  refine List.forall_mem_cons.mpr ⟨zo_none_tl, ?_⟩
  refine List.forall_mem_cons.mpr ⟨(zo_goto_tl _), ?_⟩
  refine List.forall_mem_cons.mpr ⟨zo_none_tl, ?_⟩
  refine List.forall_mem_cons.mpr ⟨zo_none_tl, ?_⟩
  refine List.forall_mem_cons.mpr ⟨(zo_ret_tl), ?_⟩
  exact fun _ h => absurd h List.not_mem_nil
noncomputable def fX8_countUsed : zzFn := zz_fn tX8_countUsed 4
set_option maxRecDepth 100000 in
set_option maxHeartbeats 4000000 in
theorem mm_X8_countUsed {l : Launch} {D : va_G} {cA : Nat → ClassId} {ad : Nat → Nat} {Ex : (Nat → Prop) → State → Heap → Prop} (Wd : zzWC l D cA ad Ex) : zz_Cn l D zzCl cA ad zzSC Ex yX8_countUsed cX8_countUsed 4 none 2 43 fX8_countUsed ∧ zz_Cx l D zzCl cA ad zzSC Ex yX8_countUsed cX8_countUsed 4 none 2 43 fX8_countUsed := by
  refine zz_meth (plainFor_of_name (by decide)) Wd.1 Wd.2.1 Wd.2.2.1 (fun p e R s m args below meth c rr X => ?_)
  unfold tX8_countUsed
  refine zz_cons (k' := 1) rfl (zk_iconst X dX8_countUsed_0 (by decide) rfl) ?_
  refine zz_cons (k' := 2) rfl (zk_istore_n X dX8_countUsed_1 rfl (by decide) rfl) ?_
  refine zz_cons (k' := 3) rfl (zk_iload_n X dX8_countUsed_2 rfl rfl) ?_
  refine zz_cons (k' := 4) rfl (zk_bipush X dX8_countUsed_3 (by decide) rfl) ?_
  refine zz_cons (k' := 5) rfl (zz_Ok_none _ _) ?_
  refine zz_cons (k' := 6) rfl (zk_icmp_ge X dX8_countUsed_5 (by decide) rfl) ?_
  refine zz_cons (k' := 7) rfl (zz_Ok_none _ _) ?_
  refine zz_cons (k' := 8) rfl (zz_Ok_none _ _) ?_
  refine zz_cons (k' := 9) rfl (zk_aload_n X dX8_countUsed_8 rfl rfl) ?_
  refine zz_cons (k' := 10) rfl (zk_getf X ff_X8_9 dX8_countUsed_9 rfl) ?_
  refine zz_cons (k' := 11) rfl (zz_Ok_none _ _) ?_
  refine zz_cons (k' := 12) rfl (zz_Ok_none _ _) ?_
  refine zz_cons (k' := 13) rfl (zk_iload_n X dX8_countUsed_12 rfl rfl) ?_
  refine zz_cons (k' := 14) rfl (zk_iconst X dX8_countUsed_13 (by decide) rfl) ?_
  refine zz_cons (k' := 15) rfl (zk_iast X dX8_countUsed_14 rfl) ?_
  refine zz_cons (k' := 16) rfl (zk_iinc X dX8_countUsed_15 (by decide) (by decide) rfl) ?_
  refine zz_cons (k' := 17) rfl (zz_Ok_none _ _) ?_
  refine zz_cons (k' := 18) rfl (zz_Ok_none _ _) ?_
  refine zz_cons (k' := 19) rfl (zk_goto X dX8_countUsed_18 (by decide)) ?_
  refine zz_cons (k' := 20) rfl (zz_Ok_none _ _) ?_
  refine zz_cons (k' := 21) rfl (zz_Ok_none _ _) ?_
  refine zz_cons (k' := 22) rfl (zk_iconst X dX8_countUsed_21 (by decide) rfl) ?_
  refine zz_cons (k' := 23) rfl (zk_istore_n X dX8_countUsed_22 rfl (by decide) rfl) ?_
  refine zz_cons (k' := 24) rfl (zk_iload_n X dX8_countUsed_23 rfl rfl) ?_
  refine zz_cons (k' := 25) rfl (zk_aload_n X dX8_countUsed_24 rfl rfl) ?_
  refine zz_cons (k' := 26) rfl (zk_getf X ff_X8_21 dX8_countUsed_25 rfl) ?_
  refine zz_cons (k' := 27) rfl (zz_Ok_none _ _) ?_
  refine zz_cons (k' := 28) rfl (zz_Ok_none _ _) ?_
  refine zz_cons (k' := 29) rfl (zk_icmp_ge X dX8_countUsed_28 (by decide) rfl) ?_
  refine zz_cons (k' := 30) rfl (zz_Ok_none _ _) ?_
  refine zz_cons (k' := 31) rfl (zz_Ok_none _ _) ?_
  refine zz_cons (k' := 32) rfl (zk_aload_n X dX8_countUsed_31 rfl rfl) ?_
  refine zz_cons (k' := 33) rfl (zk_iload_n X dX8_countUsed_32 rfl rfl) ?_
  refine zz_cons (k' := 34) rfl (zk_bipush X dX8_countUsed_33 (by decide) rfl) ?_
  refine zz_cons (k' := 35) rfl (zz_Ok_none _ _) ?_
  refine zz_cons (k' := 36) rfl (zk_callv X (zz_Cv_of (List.forall_mem_cons.mpr ⟨⟨(RX_7, zzT7, 15), yX10_read, cX10_read, 3, (some .int), 0, 0, rfl, kv_X8_25_7, (mm_X10_read Wd).1, by decide, by decide⟩, (fun _ h => absurd h List.not_mem_nil)⟩)) dX8_countUsed_35 rfl) ?_
  refine zz_cons (k' := 37) rfl (zz_Ok_none _ _) ?_
  refine zz_cons (k' := 38) rfl (zz_Ok_none _ _) ?_
  refine zz_cons (k' := 39) rfl (zk_istore_n X dX8_countUsed_38 rfl (by decide) rfl) ?_
  refine zz_cons (k' := 40) rfl (zk_aload_n X dX8_countUsed_39 rfl rfl) ?_
  refine zz_cons (k' := 41) rfl (zk_iload_n X dX8_countUsed_40 rfl rfl) ?_
  refine zz_cons (k' := 42) rfl (zk_bipush X dX8_countUsed_41 (by decide) rfl) ?_
  refine zz_cons (k' := 43) rfl (zz_Ok_none _ _) ?_
  refine zz_cons (k' := 44) rfl (zk_callv X (zz_Cv_of (List.forall_mem_cons.mpr ⟨⟨(RX_7, zzT7, 15), yX10_read, cX10_read, 3, (some .int), 0, 0, rfl, kv_X8_25_7, (mm_X10_read Wd).1, by decide, by decide⟩, (fun _ h => absurd h List.not_mem_nil)⟩)) dX8_countUsed_43 rfl) ?_
  refine zz_cons (k' := 45) rfl (zz_Ok_none _ _) ?_
  refine zz_cons (k' := 46) rfl (zz_Ok_none _ _) ?_
  refine zz_cons (k' := 47) rfl (zk_istore_n X dX8_countUsed_46 rfl (by decide) rfl) ?_
  refine zz_cons (k' := 48) rfl (zk_iload_n X dX8_countUsed_47 rfl rfl) ?_
  refine zz_cons (k' := 49) rfl (zk_if_lt X dX8_countUsed_48 (by decide) rfl) ?_
  refine zz_cons (k' := 50) rfl (zz_Ok_none _ _) ?_
  refine zz_cons (k' := 51) rfl (zz_Ok_none _ _) ?_
  refine zz_cons (k' := 52) rfl (zk_iload_n X dX8_countUsed_51 rfl rfl) ?_
  refine zz_cons (k' := 53) rfl (zk_bipush X dX8_countUsed_52 (by decide) rfl) ?_
  refine zz_cons (k' := 54) rfl (zz_Ok_none _ _) ?_
  refine zz_cons (k' := 55) rfl (zk_icmp_ge X dX8_countUsed_54 (by decide) rfl) ?_
  refine zz_cons (k' := 56) rfl (zz_Ok_none _ _) ?_
  refine zz_cons (k' := 57) rfl (zz_Ok_none _ _) ?_
  refine zz_cons (k' := 58) rfl (zk_aload_n X dX8_countUsed_57 rfl rfl) ?_
  refine zz_cons (k' := 59) rfl (zk_iload_n X dX8_countUsed_58 rfl rfl) ?_
  refine zz_cons (k' := 60) rfl (zk_callv X (zz_Cv_of (List.forall_mem_cons.mpr ⟨⟨(RX_7, zzT7, 15), yX10_isGone, cX10_isGone, 2, (some .boolean), 1, 22, rfl, kv_X8_69_7, (mm_X10_isGone Wd).1, by decide, by decide⟩, (fun _ h => absurd h List.not_mem_nil)⟩)) dX8_countUsed_59 rfl) ?_
  refine zz_cons (k' := 61) rfl (zz_Ok_none _ _) ?_
  refine zz_cons (k' := 62) rfl (zz_Ok_none _ _) ?_
  refine zz_cons (k' := 63) rfl (zk_if_ne X dX8_countUsed_62 (by decide) rfl) ?_
  refine zz_cons (k' := 64) rfl (zz_Ok_none _ _) ?_
  refine zz_cons (k' := 65) rfl (zz_Ok_none _ _) ?_
  refine zz_cons (k' := 66) rfl (zk_iload_n X dX8_countUsed_65 rfl rfl) ?_
  refine zz_cons (k' := 67) rfl (zk_iconst X dX8_countUsed_66 (by decide) rfl) ?_
  refine zz_cons (k' := 68) rfl (zk_icmp_eq X dX8_countUsed_67 (by decide) rfl) ?_
  refine zz_cons (k' := 69) rfl (zz_Ok_none _ _) ?_
  refine zz_cons (k' := 70) rfl (zz_Ok_none _ _) ?_
  refine zz_cons (k' := 71) rfl (zk_iload_n X dX8_countUsed_70 rfl rfl) ?_
  refine zz_cons (k' := 72) rfl (zk_iconst X dX8_countUsed_71 (by decide) rfl) ?_
  refine zz_cons (k' := 73) rfl (zk_icmp_eq X dX8_countUsed_72 (by decide) rfl) ?_
  refine zz_cons (k' := 74) rfl (zz_Ok_none _ _) ?_
  refine zz_cons (k' := 75) rfl (zz_Ok_none _ _) ?_
  refine zz_cons (k' := 76) rfl (zk_aload_n X dX8_countUsed_75 rfl rfl) ?_
  refine zz_cons (k' := 77) rfl (zk_getf X ff_X8_9 dX8_countUsed_76 rfl) ?_
  refine zz_cons (k' := 78) rfl (zz_Ok_none _ _) ?_
  refine zz_cons (k' := 79) rfl (zz_Ok_none _ _) ?_
  refine zz_cons (k' := 80) rfl (zk_iload_n X dX8_countUsed_79 rfl rfl) ?_
  refine zz_cons (k' := 81) rfl (zk_dup2 X dX8_countUsed_80 rfl) ?_
  refine zz_cons (k' := 82) rfl (zk_iald X (zzWC_st Wd) dX8_countUsed_81 rfl) ?_
  refine zz_cons (k' := 83) rfl (zk_aload_n X dX8_countUsed_82 rfl rfl) ?_
  refine zz_cons (k' := 84) rfl (zk_iload_n X dX8_countUsed_83 rfl rfl) ?_
  refine zz_cons (k' := 85) rfl (zk_callv X (zz_Cv_of (List.forall_mem_cons.mpr ⟨⟨(RX_7, zzT7, 15), yX10_needOf, cX10_needOf, 2, (some .int), 1, 22, rfl, kv_X8_48_7, (mm_X10_needOf Wd).1, by decide, by decide⟩, (fun _ h => absurd h List.not_mem_nil)⟩)) dX8_countUsed_84 rfl) ?_
  refine zz_cons (k' := 86) rfl (zz_Ok_none _ _) ?_
  refine zz_cons (k' := 87) rfl (zz_Ok_none _ _) ?_
  refine zz_cons (k' := 88) rfl (zk_iadd X dX8_countUsed_87 rfl) ?_
  refine zz_cons (k' := 89) rfl (zk_iast X dX8_countUsed_88 rfl) ?_
  refine zz_cons (k' := 90) rfl (zk_iinc X dX8_countUsed_89 (by decide) (by decide) rfl) ?_
  refine zz_cons (k' := 91) rfl (zz_Ok_none _ _) ?_
  refine zz_cons (k' := 92) rfl (zz_Ok_none _ _) ?_
  refine zz_cons (k' := 93) rfl (zk_goto X dX8_countUsed_92 (by decide)) ?_
  refine zz_cons (k' := 94) rfl (zz_Ok_none _ _) ?_
  refine zz_cons (k' := 95) rfl (zz_Ok_none _ _) ?_
  refine zz_cons (k' := 96) rfl (zk_ret X rfl dX8_countUsed_95) ?_
  exact trivial
noncomputable def tX8_zoneOf : List zzOp := [
  zo_aload 0 1,
  zo_iload 1 2,
  zo_pushI 8 4,
  zo_none,
  zo_callv zzSC (zz_cl [(7, fX10_read)]) 2 7,
  zo_none,
  zo_none,
  zo_istore 2 8,
  zo_iload 2 9,
  zo_if (fun x => decide (x < 0)) 17 12,
  zo_none,
  zo_none,
  zo_iload 2 13,
  zo_pushI 3 14,
  zo_icmp (fun x y => decide (x < y)) 21 17,
  zo_none,
  zo_none,
  zo_pushI 0 18,
  zo_goto 22,
  zo_none,
  zo_none,
  zo_iload 2 22,
  zo_iret false]
set_option maxRecDepth 100000 in
theorem tl_X8_zoneOf : ∀ pc, zz_Tl (tX8_zoneOf.getD pc zo_none) := by
  refine zz_Tl_mem ?_
  unfold tX8_zoneOf
  refine List.forall_mem_cons.mpr ⟨(zo_aload_tl _ _), ?_⟩
  refine List.forall_mem_cons.mpr ⟨(zo_iload_tl _ _), ?_⟩
  refine List.forall_mem_cons.mpr ⟨(zo_pushI_tl _ _), ?_⟩
  refine List.forall_mem_cons.mpr ⟨zo_none_tl, ?_⟩
  refine List.forall_mem_cons.mpr ⟨(zo_callv_tl _ _ _ _), ?_⟩
  refine List.forall_mem_cons.mpr ⟨zo_none_tl, ?_⟩
  refine List.forall_mem_cons.mpr ⟨zo_none_tl, ?_⟩
  refine List.forall_mem_cons.mpr ⟨(zo_istore_tl _ _), ?_⟩
  refine List.forall_mem_cons.mpr ⟨(zo_iload_tl _ _), ?_⟩
  refine List.forall_mem_cons.mpr ⟨(zo_if_tl _ _ _), ?_⟩
  refine List.forall_mem_cons.mpr ⟨zo_none_tl, ?_⟩
  refine List.forall_mem_cons.mpr ⟨zo_none_tl, ?_⟩
  refine List.forall_mem_cons.mpr ⟨(zo_iload_tl _ _), ?_⟩
  refine List.forall_mem_cons.mpr ⟨(zo_pushI_tl _ _), ?_⟩
  refine List.forall_mem_cons.mpr ⟨(zo_icmp_tl _ _ _), ?_⟩
  refine List.forall_mem_cons.mpr ⟨zo_none_tl, ?_⟩
  refine List.forall_mem_cons.mpr ⟨zo_none_tl, ?_⟩
  refine List.forall_mem_cons.mpr ⟨(zo_pushI_tl _ _), ?_⟩
  refine List.forall_mem_cons.mpr ⟨(zo_goto_tl _), ?_⟩
  refine List.forall_mem_cons.mpr ⟨zo_none_tl, ?_⟩
  refine List.forall_mem_cons.mpr ⟨zo_none_tl, ?_⟩
  refine List.forall_mem_cons.mpr ⟨(zo_iload_tl _ _), ?_⟩
  refine List.forall_mem_cons.mpr ⟨(zo_iret_tl _), ?_⟩
  exact fun _ h => absurd h List.not_mem_nil
noncomputable def fX8_zoneOf : zzFn := zz_fn tX8_zoneOf 3
set_option maxRecDepth 100000 in
set_option maxHeartbeats 4000000 in
theorem mm_X8_zoneOf {l : Launch} {D : va_G} {cA : Nat → ClassId} {ad : Nat → Nat} {Ex : (Nat → Prop) → State → Heap → Prop} (Wd : zzWC l D cA ad Ex) : zz_Cn l D zzCl cA ad zzSC Ex yX8_zoneOf cX8_zoneOf 3 (some .int) 1 22 fX8_zoneOf ∧ zz_Cx l D zzCl cA ad zzSC Ex yX8_zoneOf cX8_zoneOf 3 (some .int) 1 22 fX8_zoneOf := by
  refine zz_meth (plainFor_of_name (by decide)) Wd.1 Wd.2.1 Wd.2.2.1 (fun p e R s m args below meth c rr X => ?_)
  unfold tX8_zoneOf
  refine zz_cons (k' := 1) rfl (zk_aload_n X dX8_zoneOf_0 rfl rfl) ?_
  refine zz_cons (k' := 2) rfl (zk_iload_n X dX8_zoneOf_1 rfl rfl) ?_
  refine zz_cons (k' := 3) rfl (zk_bipush X dX8_zoneOf_2 (by decide) rfl) ?_
  refine zz_cons (k' := 4) rfl (zz_Ok_none _ _) ?_
  refine zz_cons (k' := 5) rfl (zk_callv X (zz_Cv_of (List.forall_mem_cons.mpr ⟨⟨(RX_7, zzT7, 15), yX10_read, cX10_read, 3, (some .int), 0, 0, rfl, kv_X8_25_7, (mm_X10_read Wd).1, by decide, by decide⟩, (fun _ h => absurd h List.not_mem_nil)⟩)) dX8_zoneOf_4 rfl) ?_
  refine zz_cons (k' := 6) rfl (zz_Ok_none _ _) ?_
  refine zz_cons (k' := 7) rfl (zz_Ok_none _ _) ?_
  refine zz_cons (k' := 8) rfl (zk_istore_n X dX8_zoneOf_7 rfl (by decide) rfl) ?_
  refine zz_cons (k' := 9) rfl (zk_iload_n X dX8_zoneOf_8 rfl rfl) ?_
  refine zz_cons (k' := 10) rfl (zk_if_lt X dX8_zoneOf_9 (by decide) rfl) ?_
  refine zz_cons (k' := 11) rfl (zz_Ok_none _ _) ?_
  refine zz_cons (k' := 12) rfl (zz_Ok_none _ _) ?_
  refine zz_cons (k' := 13) rfl (zk_iload_n X dX8_zoneOf_12 rfl rfl) ?_
  refine zz_cons (k' := 14) rfl (zk_iconst X dX8_zoneOf_13 (by decide) rfl) ?_
  refine zz_cons (k' := 15) rfl (zk_icmp_lt X dX8_zoneOf_14 (by decide) rfl) ?_
  refine zz_cons (k' := 16) rfl (zz_Ok_none _ _) ?_
  refine zz_cons (k' := 17) rfl (zz_Ok_none _ _) ?_
  refine zz_cons (k' := 18) rfl (zk_iconst X dX8_zoneOf_17 (by decide) rfl) ?_
  refine zz_cons (k' := 19) rfl (zk_goto X dX8_zoneOf_18 (by decide)) ?_
  refine zz_cons (k' := 20) rfl (zz_Ok_none _ _) ?_
  refine zz_cons (k' := 21) rfl (zz_Ok_none _ _) ?_
  refine zz_cons (k' := 22) rfl (zk_iload_n X dX8_zoneOf_21 rfl rfl) ?_
  refine zz_cons (k' := 23) rfl (zk_iret X rfl dX8_zoneOf_22) ?_
  exact trivial
noncomputable def tX8_countMates : List zzOp := [
  zo_pushI 0 1,
  zo_istore 2 2,
  zo_iload 2 3,
  zo_pushI 3 4,
  zo_icmp (fun x y => decide (y ≤ x)) 20 7,
  zo_none,
  zo_none,
  zo_aload 0 8,
  zo_getf zzSC (zz_kf [7] 13) 11,
  zo_none,
  zo_none,
  zo_iload 2 12,
  zo_pushI 0 13,
  zo_iast zzSC 14,
  zo_iinc 2 1 17,
  zo_none,
  zo_none,
  zo_goto 2,
  zo_none,
  zo_none,
  zo_pushI 0 21,
  zo_istore 2 22,
  zo_iload 2 23,
  zo_aload 0 24,
  zo_getf zzSC (zz_kf [7] 2) 27,
  zo_none,
  zo_none,
  zo_icmp (fun x y => decide (y ≤ x)) 90 30,
  zo_none,
  zo_none,
  zo_aload 0 31,
  zo_iload 2 32,
  zo_pushI 28 34,
  zo_none,
  zo_callv zzSC (zz_cl [(7, fX10_read)]) 2 37,
  zo_none,
  zo_none,
  zo_istore 3 38,
  zo_iload 3 39,
  zo_pushI (-1) 40,
  zo_icmp (fun x y => decide (x = y)) 84 43,
  zo_none,
  zo_none,
  zo_aload 0 44,
  zo_iload 2 45,
  zo_pushI 24 47,
  zo_none,
  zo_callv zzSC (zz_cl [(7, fX10_read)]) 2 50,
  zo_none,
  zo_none,
  zo_iload 1 51,
  zo_icmp (fun x y => decide (¬ x = y)) 84 54,
  zo_none,
  zo_none,
  zo_aload 0 55,
  zo_iload 2 56,
  zo_callv zzSC (zz_cl [(7, fX10_isGone)]) 1 59,
  zo_none,
  zo_none,
  zo_if (fun x => decide (¬ x = 0)) 84 62,
  zo_none,
  zo_none,
  zo_aload 0 63,
  zo_iload 3 64,
  zo_callv zzSC (zz_cl [(7, fX10_isGone)]) 1 67,
  zo_none,
  zo_none,
  zo_if (fun x => decide (¬ x = 0)) 84 70,
  zo_none,
  zo_none,
  zo_aload 0 71,
  zo_getf zzSC (zz_kf [7] 13) 74,
  zo_none,
  zo_none,
  zo_aload 0 75,
  zo_iload 3 76,
  zo_callv zzSC (zz_cl [(7, fX8_zoneOf)]) 1 79,
  zo_none,
  zo_none,
  zo_dup2 80,
  zo_iald zzSC zzSTC 81,
  zo_pushI 1 82,
  zo_ii (fun x y => x + y) 83,
  zo_iast zzSC 84,
  zo_iinc 2 1 87,
  zo_none,
  zo_none,
  zo_goto 22,
  zo_none,
  zo_none,
  zo_ret]
set_option maxRecDepth 100000 in
theorem tl_X8_countMates : ∀ pc, zz_Tl (tX8_countMates.getD pc zo_none) := by
  refine zz_Tl_mem ?_
  unfold tX8_countMates
  refine List.forall_mem_cons.mpr ⟨(zo_pushI_tl _ _), ?_⟩
  refine List.forall_mem_cons.mpr ⟨(zo_istore_tl _ _), ?_⟩
  refine List.forall_mem_cons.mpr ⟨(zo_iload_tl _ _), ?_⟩
  refine List.forall_mem_cons.mpr ⟨(zo_pushI_tl _ _), ?_⟩
  refine List.forall_mem_cons.mpr ⟨(zo_icmp_tl _ _ _), ?_⟩
  refine List.forall_mem_cons.mpr ⟨zo_none_tl, ?_⟩
  refine List.forall_mem_cons.mpr ⟨zo_none_tl, ?_⟩
  refine List.forall_mem_cons.mpr ⟨(zo_aload_tl _ _), ?_⟩
  refine List.forall_mem_cons.mpr ⟨(zo_getf_tl _ _ _), ?_⟩
  refine List.forall_mem_cons.mpr ⟨zo_none_tl, ?_⟩
  refine List.forall_mem_cons.mpr ⟨zo_none_tl, ?_⟩
  refine List.forall_mem_cons.mpr ⟨(zo_iload_tl _ _), ?_⟩
  refine List.forall_mem_cons.mpr ⟨(zo_pushI_tl _ _), ?_⟩
  refine List.forall_mem_cons.mpr ⟨(zo_iast_tl _ _), ?_⟩
  refine List.forall_mem_cons.mpr ⟨(zo_iinc_tl _ _ _), ?_⟩
  refine List.forall_mem_cons.mpr ⟨zo_none_tl, ?_⟩
  refine List.forall_mem_cons.mpr ⟨zo_none_tl, ?_⟩
  refine List.forall_mem_cons.mpr ⟨(zo_goto_tl _), ?_⟩
  refine List.forall_mem_cons.mpr ⟨zo_none_tl, ?_⟩
  refine List.forall_mem_cons.mpr ⟨zo_none_tl, ?_⟩
  refine List.forall_mem_cons.mpr ⟨(zo_pushI_tl _ _), ?_⟩
  refine List.forall_mem_cons.mpr ⟨(zo_istore_tl _ _), ?_⟩
  refine List.forall_mem_cons.mpr ⟨(zo_iload_tl _ _), ?_⟩
  refine List.forall_mem_cons.mpr ⟨(zo_aload_tl _ _), ?_⟩
  refine List.forall_mem_cons.mpr ⟨(zo_getf_tl _ _ _), ?_⟩
  refine List.forall_mem_cons.mpr ⟨zo_none_tl, ?_⟩
  refine List.forall_mem_cons.mpr ⟨zo_none_tl, ?_⟩
  refine List.forall_mem_cons.mpr ⟨(zo_icmp_tl _ _ _), ?_⟩
  refine List.forall_mem_cons.mpr ⟨zo_none_tl, ?_⟩
  refine List.forall_mem_cons.mpr ⟨zo_none_tl, ?_⟩
  refine List.forall_mem_cons.mpr ⟨(zo_aload_tl _ _), ?_⟩
  refine List.forall_mem_cons.mpr ⟨(zo_iload_tl _ _), ?_⟩
  refine List.forall_mem_cons.mpr ⟨(zo_pushI_tl _ _), ?_⟩
  refine List.forall_mem_cons.mpr ⟨zo_none_tl, ?_⟩
  refine List.forall_mem_cons.mpr ⟨(zo_callv_tl _ _ _ _), ?_⟩
  refine List.forall_mem_cons.mpr ⟨zo_none_tl, ?_⟩
  refine List.forall_mem_cons.mpr ⟨zo_none_tl, ?_⟩
  refine List.forall_mem_cons.mpr ⟨(zo_istore_tl _ _), ?_⟩
  refine List.forall_mem_cons.mpr ⟨(zo_iload_tl _ _), ?_⟩
  refine List.forall_mem_cons.mpr ⟨(zo_pushI_tl _ _), ?_⟩
  refine List.forall_mem_cons.mpr ⟨(zo_icmp_tl _ _ _), ?_⟩
  refine List.forall_mem_cons.mpr ⟨zo_none_tl, ?_⟩
  refine List.forall_mem_cons.mpr ⟨zo_none_tl, ?_⟩
  refine List.forall_mem_cons.mpr ⟨(zo_aload_tl _ _), ?_⟩
  refine List.forall_mem_cons.mpr ⟨(zo_iload_tl _ _), ?_⟩
  refine List.forall_mem_cons.mpr ⟨(zo_pushI_tl _ _), ?_⟩
  refine List.forall_mem_cons.mpr ⟨zo_none_tl, ?_⟩
  refine List.forall_mem_cons.mpr ⟨(zo_callv_tl _ _ _ _), ?_⟩
  refine List.forall_mem_cons.mpr ⟨zo_none_tl, ?_⟩
  refine List.forall_mem_cons.mpr ⟨zo_none_tl, ?_⟩
  refine List.forall_mem_cons.mpr ⟨(zo_iload_tl _ _), ?_⟩
  refine List.forall_mem_cons.mpr ⟨(zo_icmp_tl _ _ _), ?_⟩
  refine List.forall_mem_cons.mpr ⟨zo_none_tl, ?_⟩
  refine List.forall_mem_cons.mpr ⟨zo_none_tl, ?_⟩
  refine List.forall_mem_cons.mpr ⟨(zo_aload_tl _ _), ?_⟩
  refine List.forall_mem_cons.mpr ⟨(zo_iload_tl _ _), ?_⟩
  refine List.forall_mem_cons.mpr ⟨(zo_callv_tl _ _ _ _), ?_⟩
  refine List.forall_mem_cons.mpr ⟨zo_none_tl, ?_⟩
  refine List.forall_mem_cons.mpr ⟨zo_none_tl, ?_⟩
  refine List.forall_mem_cons.mpr ⟨(zo_if_tl _ _ _), ?_⟩
  refine List.forall_mem_cons.mpr ⟨zo_none_tl, ?_⟩
  refine List.forall_mem_cons.mpr ⟨zo_none_tl, ?_⟩
  refine List.forall_mem_cons.mpr ⟨(zo_aload_tl _ _), ?_⟩
  refine List.forall_mem_cons.mpr ⟨(zo_iload_tl _ _), ?_⟩
  refine List.forall_mem_cons.mpr ⟨(zo_callv_tl _ _ _ _), ?_⟩
  refine List.forall_mem_cons.mpr ⟨zo_none_tl, ?_⟩
  refine List.forall_mem_cons.mpr ⟨zo_none_tl, ?_⟩
  refine List.forall_mem_cons.mpr ⟨(zo_if_tl _ _ _), ?_⟩
  refine List.forall_mem_cons.mpr ⟨zo_none_tl, ?_⟩
  refine List.forall_mem_cons.mpr ⟨zo_none_tl, ?_⟩
  refine List.forall_mem_cons.mpr ⟨(zo_aload_tl _ _), ?_⟩
  refine List.forall_mem_cons.mpr ⟨(zo_getf_tl _ _ _), ?_⟩
  refine List.forall_mem_cons.mpr ⟨zo_none_tl, ?_⟩
  refine List.forall_mem_cons.mpr ⟨zo_none_tl, ?_⟩
  refine List.forall_mem_cons.mpr ⟨(zo_aload_tl _ _), ?_⟩
  refine List.forall_mem_cons.mpr ⟨(zo_iload_tl _ _), ?_⟩
  refine List.forall_mem_cons.mpr ⟨(zo_callv_tl _ _ _ _), ?_⟩
  refine List.forall_mem_cons.mpr ⟨zo_none_tl, ?_⟩
  refine List.forall_mem_cons.mpr ⟨zo_none_tl, ?_⟩
  refine List.forall_mem_cons.mpr ⟨(zo_dup2_tl _), ?_⟩
  refine List.forall_mem_cons.mpr ⟨(zo_iald_tl _ _ _), ?_⟩
  refine List.forall_mem_cons.mpr ⟨(zo_pushI_tl _ _), ?_⟩
  refine List.forall_mem_cons.mpr ⟨(zo_ii_tl _ _), ?_⟩
  refine List.forall_mem_cons.mpr ⟨(zo_iast_tl _ _), ?_⟩
  refine List.forall_mem_cons.mpr ⟨(zo_iinc_tl _ _ _), ?_⟩
  refine List.forall_mem_cons.mpr ⟨zo_none_tl, ?_⟩
  refine List.forall_mem_cons.mpr ⟨zo_none_tl, ?_⟩
  refine List.forall_mem_cons.mpr ⟨(zo_goto_tl _), ?_⟩
  refine List.forall_mem_cons.mpr ⟨zo_none_tl, ?_⟩
  refine List.forall_mem_cons.mpr ⟨zo_none_tl, ?_⟩
  refine List.forall_mem_cons.mpr ⟨(zo_ret_tl), ?_⟩
  exact fun _ h => absurd h List.not_mem_nil
noncomputable def fX8_countMates : zzFn := zz_fn tX8_countMates 4
set_option maxRecDepth 100000 in
set_option maxHeartbeats 4000000 in
theorem mm_X8_countMates {l : Launch} {D : va_G} {cA : Nat → ClassId} {ad : Nat → Nat} {Ex : (Nat → Prop) → State → Heap → Prop} (Wd : zzWC l D cA ad Ex) : zz_Cn l D zzCl cA ad zzSC Ex yX8_countMates cX8_countMates 4 none 2 44 fX8_countMates ∧ zz_Cx l D zzCl cA ad zzSC Ex yX8_countMates cX8_countMates 4 none 2 44 fX8_countMates := by
  refine zz_meth (plainFor_of_name (by decide)) Wd.1 Wd.2.1 Wd.2.2.1 (fun p e R s m args below meth c rr X => ?_)
  unfold tX8_countMates
  refine zz_cons (k' := 1) rfl (zk_iconst X dX8_countMates_0 (by decide) rfl) ?_
  refine zz_cons (k' := 2) rfl (zk_istore_n X dX8_countMates_1 rfl (by decide) rfl) ?_
  refine zz_cons (k' := 3) rfl (zk_iload_n X dX8_countMates_2 rfl rfl) ?_
  refine zz_cons (k' := 4) rfl (zk_iconst X dX8_countMates_3 (by decide) rfl) ?_
  refine zz_cons (k' := 5) rfl (zk_icmp_ge X dX8_countMates_4 (by decide) rfl) ?_
  refine zz_cons (k' := 6) rfl (zz_Ok_none _ _) ?_
  refine zz_cons (k' := 7) rfl (zz_Ok_none _ _) ?_
  refine zz_cons (k' := 8) rfl (zk_aload_n X dX8_countMates_7 rfl rfl) ?_
  refine zz_cons (k' := 9) rfl (zk_getf X ff_X8_15 dX8_countMates_8 rfl) ?_
  refine zz_cons (k' := 10) rfl (zz_Ok_none _ _) ?_
  refine zz_cons (k' := 11) rfl (zz_Ok_none _ _) ?_
  refine zz_cons (k' := 12) rfl (zk_iload_n X dX8_countMates_11 rfl rfl) ?_
  refine zz_cons (k' := 13) rfl (zk_iconst X dX8_countMates_12 (by decide) rfl) ?_
  refine zz_cons (k' := 14) rfl (zk_iast X dX8_countMates_13 rfl) ?_
  refine zz_cons (k' := 15) rfl (zk_iinc X dX8_countMates_14 (by decide) (by decide) rfl) ?_
  refine zz_cons (k' := 16) rfl (zz_Ok_none _ _) ?_
  refine zz_cons (k' := 17) rfl (zz_Ok_none _ _) ?_
  refine zz_cons (k' := 18) rfl (zk_goto X dX8_countMates_17 (by decide)) ?_
  refine zz_cons (k' := 19) rfl (zz_Ok_none _ _) ?_
  refine zz_cons (k' := 20) rfl (zz_Ok_none _ _) ?_
  refine zz_cons (k' := 21) rfl (zk_iconst X dX8_countMates_20 (by decide) rfl) ?_
  refine zz_cons (k' := 22) rfl (zk_istore_n X dX8_countMates_21 rfl (by decide) rfl) ?_
  refine zz_cons (k' := 23) rfl (zk_iload_n X dX8_countMates_22 rfl rfl) ?_
  refine zz_cons (k' := 24) rfl (zk_aload_n X dX8_countMates_23 rfl rfl) ?_
  refine zz_cons (k' := 25) rfl (zk_getf X ff_X8_21 dX8_countMates_24 rfl) ?_
  refine zz_cons (k' := 26) rfl (zz_Ok_none _ _) ?_
  refine zz_cons (k' := 27) rfl (zz_Ok_none _ _) ?_
  refine zz_cons (k' := 28) rfl (zk_icmp_ge X dX8_countMates_27 (by decide) rfl) ?_
  refine zz_cons (k' := 29) rfl (zz_Ok_none _ _) ?_
  refine zz_cons (k' := 30) rfl (zz_Ok_none _ _) ?_
  refine zz_cons (k' := 31) rfl (zk_aload_n X dX8_countMates_30 rfl rfl) ?_
  refine zz_cons (k' := 32) rfl (zk_iload_n X dX8_countMates_31 rfl rfl) ?_
  refine zz_cons (k' := 33) rfl (zk_bipush X dX8_countMates_32 (by decide) rfl) ?_
  refine zz_cons (k' := 34) rfl (zz_Ok_none _ _) ?_
  refine zz_cons (k' := 35) rfl (zk_callv X (zz_Cv_of (List.forall_mem_cons.mpr ⟨⟨(RX_7, zzT7, 15), yX10_read, cX10_read, 3, (some .int), 0, 0, rfl, kv_X8_25_7, (mm_X10_read Wd).1, by decide, by decide⟩, (fun _ h => absurd h List.not_mem_nil)⟩)) dX8_countMates_34 rfl) ?_
  refine zz_cons (k' := 36) rfl (zz_Ok_none _ _) ?_
  refine zz_cons (k' := 37) rfl (zz_Ok_none _ _) ?_
  refine zz_cons (k' := 38) rfl (zk_istore_n X dX8_countMates_37 rfl (by decide) rfl) ?_
  refine zz_cons (k' := 39) rfl (zk_iload_n X dX8_countMates_38 rfl rfl) ?_
  refine zz_cons (k' := 40) rfl (zk_iconst X dX8_countMates_39 (by decide) rfl) ?_
  refine zz_cons (k' := 41) rfl (zk_icmp_eq X dX8_countMates_40 (by decide) rfl) ?_
  refine zz_cons (k' := 42) rfl (zz_Ok_none _ _) ?_
  refine zz_cons (k' := 43) rfl (zz_Ok_none _ _) ?_
  refine zz_cons (k' := 44) rfl (zk_aload_n X dX8_countMates_43 rfl rfl) ?_
  refine zz_cons (k' := 45) rfl (zk_iload_n X dX8_countMates_44 rfl rfl) ?_
  refine zz_cons (k' := 46) rfl (zk_bipush X dX8_countMates_45 (by decide) rfl) ?_
  refine zz_cons (k' := 47) rfl (zz_Ok_none _ _) ?_
  refine zz_cons (k' := 48) rfl (zk_callv X (zz_Cv_of (List.forall_mem_cons.mpr ⟨⟨(RX_7, zzT7, 15), yX10_read, cX10_read, 3, (some .int), 0, 0, rfl, kv_X8_25_7, (mm_X10_read Wd).1, by decide, by decide⟩, (fun _ h => absurd h List.not_mem_nil)⟩)) dX8_countMates_47 rfl) ?_
  refine zz_cons (k' := 49) rfl (zz_Ok_none _ _) ?_
  refine zz_cons (k' := 50) rfl (zz_Ok_none _ _) ?_
  refine zz_cons (k' := 51) rfl (zk_iload_n X dX8_countMates_50 rfl rfl) ?_
  refine zz_cons (k' := 52) rfl (zk_icmp_ne X dX8_countMates_51 (by decide) rfl) ?_
  refine zz_cons (k' := 53) rfl (zz_Ok_none _ _) ?_
  refine zz_cons (k' := 54) rfl (zz_Ok_none _ _) ?_
  refine zz_cons (k' := 55) rfl (zk_aload_n X dX8_countMates_54 rfl rfl) ?_
  refine zz_cons (k' := 56) rfl (zk_iload_n X dX8_countMates_55 rfl rfl) ?_
  refine zz_cons (k' := 57) rfl (zk_callv X (zz_Cv_of (List.forall_mem_cons.mpr ⟨⟨(RX_7, zzT7, 15), yX10_isGone, cX10_isGone, 2, (some .boolean), 1, 22, rfl, kv_X8_69_7, (mm_X10_isGone Wd).1, by decide, by decide⟩, (fun _ h => absurd h List.not_mem_nil)⟩)) dX8_countMates_56 rfl) ?_
  refine zz_cons (k' := 58) rfl (zz_Ok_none _ _) ?_
  refine zz_cons (k' := 59) rfl (zz_Ok_none _ _) ?_
  refine zz_cons (k' := 60) rfl (zk_if_ne X dX8_countMates_59 (by decide) rfl) ?_
  refine zz_cons (k' := 61) rfl (zz_Ok_none _ _) ?_
  refine zz_cons (k' := 62) rfl (zz_Ok_none _ _) ?_
  refine zz_cons (k' := 63) rfl (zk_aload_n X dX8_countMates_62 rfl rfl) ?_
  refine zz_cons (k' := 64) rfl (zk_iload_n X dX8_countMates_63 rfl rfl) ?_
  refine zz_cons (k' := 65) rfl (zk_callv X (zz_Cv_of (List.forall_mem_cons.mpr ⟨⟨(RX_7, zzT7, 15), yX10_isGone, cX10_isGone, 2, (some .boolean), 1, 22, rfl, kv_X8_69_7, (mm_X10_isGone Wd).1, by decide, by decide⟩, (fun _ h => absurd h List.not_mem_nil)⟩)) dX8_countMates_64 rfl) ?_
  refine zz_cons (k' := 66) rfl (zz_Ok_none _ _) ?_
  refine zz_cons (k' := 67) rfl (zz_Ok_none _ _) ?_
  refine zz_cons (k' := 68) rfl (zk_if_ne X dX8_countMates_67 (by decide) rfl) ?_
  refine zz_cons (k' := 69) rfl (zz_Ok_none _ _) ?_
  refine zz_cons (k' := 70) rfl (zz_Ok_none _ _) ?_
  refine zz_cons (k' := 71) rfl (zk_aload_n X dX8_countMates_70 rfl rfl) ?_
  refine zz_cons (k' := 72) rfl (zk_getf X ff_X8_15 dX8_countMates_71 rfl) ?_
  refine zz_cons (k' := 73) rfl (zz_Ok_none _ _) ?_
  refine zz_cons (k' := 74) rfl (zz_Ok_none _ _) ?_
  refine zz_cons (k' := 75) rfl (zk_aload_n X dX8_countMates_74 rfl rfl) ?_
  refine zz_cons (k' := 76) rfl (zk_iload_n X dX8_countMates_75 rfl rfl) ?_
  refine zz_cons (k' := 77) rfl (zk_callv X (zz_Cv_of (List.forall_mem_cons.mpr ⟨⟨(RX_7, zzT7, 15), yX8_zoneOf, cX8_zoneOf, 3, (some .int), 1, 22, rfl, kv_X8_72_7.1, (mm_X8_zoneOf Wd).1, by decide, by decide⟩, (fun _ h => absurd h List.not_mem_nil)⟩)) dX8_countMates_76 rfl) ?_
  refine zz_cons (k' := 78) rfl (zz_Ok_none _ _) ?_
  refine zz_cons (k' := 79) rfl (zz_Ok_none _ _) ?_
  refine zz_cons (k' := 80) rfl (zk_dup2 X dX8_countMates_79 rfl) ?_
  refine zz_cons (k' := 81) rfl (zk_iald X (zzWC_st Wd) dX8_countMates_80 rfl) ?_
  refine zz_cons (k' := 82) rfl (zk_iconst X dX8_countMates_81 (by decide) rfl) ?_
  refine zz_cons (k' := 83) rfl (zk_iadd X dX8_countMates_82 rfl) ?_
  refine zz_cons (k' := 84) rfl (zk_iast X dX8_countMates_83 rfl) ?_
  refine zz_cons (k' := 85) rfl (zk_iinc X dX8_countMates_84 (by decide) (by decide) rfl) ?_
  refine zz_cons (k' := 86) rfl (zz_Ok_none _ _) ?_
  refine zz_cons (k' := 87) rfl (zz_Ok_none _ _) ?_
  refine zz_cons (k' := 88) rfl (zk_goto X dX8_countMates_87 (by decide)) ?_
  refine zz_cons (k' := 89) rfl (zz_Ok_none _ _) ?_
  refine zz_cons (k' := 90) rfl (zz_Ok_none _ _) ?_
  refine zz_cons (k' := 91) rfl (zk_ret X rfl dX8_countMates_90) ?_
  exact trivial
noncomputable def tX8_isOpen : List zzOp := [
  zo_aload 0 1,
  zo_iload 1 2,
  zo_pushI 4 3,
  zo_callv zzSC (zz_cl [(7, fX10_isStaying)]) 2 6,
  zo_none,
  zo_none,
  zo_if (fun x => decide (x = 0)) 34 9,
  zo_none,
  zo_none,
  zo_aload 0 10,
  zo_iload 1 11,
  zo_pushI 27 13,
  zo_none,
  zo_callv zzSC (zz_cl [(7, fX10_read)]) 2 16,
  zo_none,
  zo_none,
  zo_pushI 1 17,
  zo_icmp (fun x y => decide (¬ x = y)) 34 20,
  zo_none,
  zo_none,
  zo_aload 0 21,
  zo_iload 1 22,
  zo_pushI 9 24,
  zo_none,
  zo_callv zzSC (zz_cl [(7, fX10_read)]) 2 27,
  zo_none,
  zo_none,
  zo_if (fun x => decide (¬ x = 0)) 34 30,
  zo_none,
  zo_none,
  zo_pushI 1 31,
  zo_goto 35,
  zo_none,
  zo_none,
  zo_pushI 0 35,
  zo_iret true]
set_option maxRecDepth 100000 in
theorem tl_X8_isOpen : ∀ pc, zz_Tl (tX8_isOpen.getD pc zo_none) := by
  refine zz_Tl_mem ?_
  unfold tX8_isOpen
  refine List.forall_mem_cons.mpr ⟨(zo_aload_tl _ _), ?_⟩
  refine List.forall_mem_cons.mpr ⟨(zo_iload_tl _ _), ?_⟩
  refine List.forall_mem_cons.mpr ⟨(zo_pushI_tl _ _), ?_⟩
  refine List.forall_mem_cons.mpr ⟨(zo_callv_tl _ _ _ _), ?_⟩
  refine List.forall_mem_cons.mpr ⟨zo_none_tl, ?_⟩
  refine List.forall_mem_cons.mpr ⟨zo_none_tl, ?_⟩
  refine List.forall_mem_cons.mpr ⟨(zo_if_tl _ _ _), ?_⟩
  refine List.forall_mem_cons.mpr ⟨zo_none_tl, ?_⟩
  refine List.forall_mem_cons.mpr ⟨zo_none_tl, ?_⟩
  refine List.forall_mem_cons.mpr ⟨(zo_aload_tl _ _), ?_⟩
  refine List.forall_mem_cons.mpr ⟨(zo_iload_tl _ _), ?_⟩
  refine List.forall_mem_cons.mpr ⟨(zo_pushI_tl _ _), ?_⟩
  refine List.forall_mem_cons.mpr ⟨zo_none_tl, ?_⟩
  refine List.forall_mem_cons.mpr ⟨(zo_callv_tl _ _ _ _), ?_⟩
  refine List.forall_mem_cons.mpr ⟨zo_none_tl, ?_⟩
  refine List.forall_mem_cons.mpr ⟨zo_none_tl, ?_⟩
  refine List.forall_mem_cons.mpr ⟨(zo_pushI_tl _ _), ?_⟩
  refine List.forall_mem_cons.mpr ⟨(zo_icmp_tl _ _ _), ?_⟩
  refine List.forall_mem_cons.mpr ⟨zo_none_tl, ?_⟩
  refine List.forall_mem_cons.mpr ⟨zo_none_tl, ?_⟩
  refine List.forall_mem_cons.mpr ⟨(zo_aload_tl _ _), ?_⟩
  refine List.forall_mem_cons.mpr ⟨(zo_iload_tl _ _), ?_⟩
  refine List.forall_mem_cons.mpr ⟨(zo_pushI_tl _ _), ?_⟩
  refine List.forall_mem_cons.mpr ⟨zo_none_tl, ?_⟩
  refine List.forall_mem_cons.mpr ⟨(zo_callv_tl _ _ _ _), ?_⟩
  refine List.forall_mem_cons.mpr ⟨zo_none_tl, ?_⟩
  refine List.forall_mem_cons.mpr ⟨zo_none_tl, ?_⟩
  refine List.forall_mem_cons.mpr ⟨(zo_if_tl _ _ _), ?_⟩
  refine List.forall_mem_cons.mpr ⟨zo_none_tl, ?_⟩
  refine List.forall_mem_cons.mpr ⟨zo_none_tl, ?_⟩
  refine List.forall_mem_cons.mpr ⟨(zo_pushI_tl _ _), ?_⟩
  refine List.forall_mem_cons.mpr ⟨(zo_goto_tl _), ?_⟩
  refine List.forall_mem_cons.mpr ⟨zo_none_tl, ?_⟩
  refine List.forall_mem_cons.mpr ⟨zo_none_tl, ?_⟩
  refine List.forall_mem_cons.mpr ⟨(zo_pushI_tl _ _), ?_⟩
  refine List.forall_mem_cons.mpr ⟨(zo_iret_tl _), ?_⟩
  exact fun _ h => absurd h List.not_mem_nil
noncomputable def fX8_isOpen : zzFn := zz_fn tX8_isOpen 2
set_option maxRecDepth 100000 in
set_option maxHeartbeats 4000000 in
theorem mm_X8_isOpen {l : Launch} {D : va_G} {cA : Nat → ClassId} {ad : Nat → Nat} {Ex : (Nat → Prop) → State → Heap → Prop} (Wd : zzWC l D cA ad Ex) : zz_Cn l D zzCl cA ad zzSC Ex yX8_isOpen cX8_isOpen 2 (some .boolean) 2 44 fX8_isOpen ∧ zz_Cx l D zzCl cA ad zzSC Ex yX8_isOpen cX8_isOpen 2 (some .boolean) 2 44 fX8_isOpen := by
  refine zz_meth (plainFor_of_name (by decide)) Wd.1 Wd.2.1 Wd.2.2.1 (fun p e R s m args below meth c rr X => ?_)
  unfold tX8_isOpen
  refine zz_cons (k' := 1) rfl (zk_aload_n X dX8_isOpen_0 rfl rfl) ?_
  refine zz_cons (k' := 2) rfl (zk_iload_n X dX8_isOpen_1 rfl rfl) ?_
  refine zz_cons (k' := 3) rfl (zk_iconst X dX8_isOpen_2 (by decide) rfl) ?_
  refine zz_cons (k' := 4) rfl (zk_callv X (zz_Cv_of (List.forall_mem_cons.mpr ⟨⟨(RX_7, zzT7, 15), yX10_isStaying, cX10_isStaying, 3, (some .boolean), 1, 22, rfl, kv_X8_37_7, (mm_X10_isStaying Wd).1, by decide, by decide⟩, (fun _ h => absurd h List.not_mem_nil)⟩)) dX8_isOpen_3 rfl) ?_
  refine zz_cons (k' := 5) rfl (zz_Ok_none _ _) ?_
  refine zz_cons (k' := 6) rfl (zz_Ok_none _ _) ?_
  refine zz_cons (k' := 7) rfl (zk_if_eq X dX8_isOpen_6 (by decide) rfl) ?_
  refine zz_cons (k' := 8) rfl (zz_Ok_none _ _) ?_
  refine zz_cons (k' := 9) rfl (zz_Ok_none _ _) ?_
  refine zz_cons (k' := 10) rfl (zk_aload_n X dX8_isOpen_9 rfl rfl) ?_
  refine zz_cons (k' := 11) rfl (zk_iload_n X dX8_isOpen_10 rfl rfl) ?_
  refine zz_cons (k' := 12) rfl (zk_bipush X dX8_isOpen_11 (by decide) rfl) ?_
  refine zz_cons (k' := 13) rfl (zz_Ok_none _ _) ?_
  refine zz_cons (k' := 14) rfl (zk_callv X (zz_Cv_of (List.forall_mem_cons.mpr ⟨⟨(RX_7, zzT7, 15), yX10_read, cX10_read, 3, (some .int), 0, 0, rfl, kv_X8_25_7, (mm_X10_read Wd).1, by decide, by decide⟩, (fun _ h => absurd h List.not_mem_nil)⟩)) dX8_isOpen_13 rfl) ?_
  refine zz_cons (k' := 15) rfl (zz_Ok_none _ _) ?_
  refine zz_cons (k' := 16) rfl (zz_Ok_none _ _) ?_
  refine zz_cons (k' := 17) rfl (zk_iconst X dX8_isOpen_16 (by decide) rfl) ?_
  refine zz_cons (k' := 18) rfl (zk_icmp_ne X dX8_isOpen_17 (by decide) rfl) ?_
  refine zz_cons (k' := 19) rfl (zz_Ok_none _ _) ?_
  refine zz_cons (k' := 20) rfl (zz_Ok_none _ _) ?_
  refine zz_cons (k' := 21) rfl (zk_aload_n X dX8_isOpen_20 rfl rfl) ?_
  refine zz_cons (k' := 22) rfl (zk_iload_n X dX8_isOpen_21 rfl rfl) ?_
  refine zz_cons (k' := 23) rfl (zk_bipush X dX8_isOpen_22 (by decide) rfl) ?_
  refine zz_cons (k' := 24) rfl (zz_Ok_none _ _) ?_
  refine zz_cons (k' := 25) rfl (zk_callv X (zz_Cv_of (List.forall_mem_cons.mpr ⟨⟨(RX_7, zzT7, 15), yX10_read, cX10_read, 3, (some .int), 0, 0, rfl, kv_X8_25_7, (mm_X10_read Wd).1, by decide, by decide⟩, (fun _ h => absurd h List.not_mem_nil)⟩)) dX8_isOpen_24 rfl) ?_
  refine zz_cons (k' := 26) rfl (zz_Ok_none _ _) ?_
  refine zz_cons (k' := 27) rfl (zz_Ok_none _ _) ?_
  refine zz_cons (k' := 28) rfl (zk_if_ne X dX8_isOpen_27 (by decide) rfl) ?_
  refine zz_cons (k' := 29) rfl (zz_Ok_none _ _) ?_
  refine zz_cons (k' := 30) rfl (zz_Ok_none _ _) ?_
  refine zz_cons (k' := 31) rfl (zk_iconst X dX8_isOpen_30 (by decide) rfl) ?_
  refine zz_cons (k' := 32) rfl (zk_goto X dX8_isOpen_31 (by decide)) ?_
  refine zz_cons (k' := 33) rfl (zz_Ok_none _ _) ?_
  refine zz_cons (k' := 34) rfl (zz_Ok_none _ _) ?_
  refine zz_cons (k' := 35) rfl (zk_iconst X dX8_isOpen_34 (by decide) rfl) ?_
  refine zz_cons (k' := 36) rfl (zk_iret X rfl dX8_isOpen_35) ?_
  exact trivial
noncomputable def tX8_roomLeft : List zzOp := [
  zo_aload 0 1,
  zo_iload 1 2,
  zo_pushI 7 4,
  zo_none,
  zo_callv zzSC (zz_cl [(7, fX10_read)]) 2 7,
  zo_none,
  zo_none,
  zo_aload 0 8,
  zo_getf zzSC (zz_kf [7] 12) 11,
  zo_none,
  zo_none,
  zo_iload 1 12,
  zo_iald zzSC zzSTC 13,
  zo_ii (fun x y => x - y) 14,
  zo_iret false]
set_option maxRecDepth 100000 in
theorem tl_X8_roomLeft : ∀ pc, zz_Tl (tX8_roomLeft.getD pc zo_none) := by
  refine zz_Tl_mem ?_
  unfold tX8_roomLeft
  refine List.forall_mem_cons.mpr ⟨(zo_aload_tl _ _), ?_⟩
  refine List.forall_mem_cons.mpr ⟨(zo_iload_tl _ _), ?_⟩
  refine List.forall_mem_cons.mpr ⟨(zo_pushI_tl _ _), ?_⟩
  refine List.forall_mem_cons.mpr ⟨zo_none_tl, ?_⟩
  refine List.forall_mem_cons.mpr ⟨(zo_callv_tl _ _ _ _), ?_⟩
  refine List.forall_mem_cons.mpr ⟨zo_none_tl, ?_⟩
  refine List.forall_mem_cons.mpr ⟨zo_none_tl, ?_⟩
  refine List.forall_mem_cons.mpr ⟨(zo_aload_tl _ _), ?_⟩
  refine List.forall_mem_cons.mpr ⟨(zo_getf_tl _ _ _), ?_⟩
  refine List.forall_mem_cons.mpr ⟨zo_none_tl, ?_⟩
  refine List.forall_mem_cons.mpr ⟨zo_none_tl, ?_⟩
  refine List.forall_mem_cons.mpr ⟨(zo_iload_tl _ _), ?_⟩
  refine List.forall_mem_cons.mpr ⟨(zo_iald_tl _ _ _), ?_⟩
  refine List.forall_mem_cons.mpr ⟨(zo_ii_tl _ _), ?_⟩
  refine List.forall_mem_cons.mpr ⟨(zo_iret_tl _), ?_⟩
  exact fun _ h => absurd h List.not_mem_nil
noncomputable def fX8_roomLeft : zzFn := zz_fn tX8_roomLeft 2
set_option maxRecDepth 100000 in
set_option maxHeartbeats 4000000 in
theorem mm_X8_roomLeft {l : Launch} {D : va_G} {cA : Nat → ClassId} {ad : Nat → Nat} {Ex : (Nat → Prop) → State → Heap → Prop} (Wd : zzWC l D cA ad Ex) : zz_Cn l D zzCl cA ad zzSC Ex yX8_roomLeft cX8_roomLeft 2 (some .int) 1 22 fX8_roomLeft ∧ zz_Cx l D zzCl cA ad zzSC Ex yX8_roomLeft cX8_roomLeft 2 (some .int) 1 22 fX8_roomLeft := by
  refine zz_meth (plainFor_of_name (by decide)) Wd.1 Wd.2.1 Wd.2.2.1 (fun p e R s m args below meth c rr X => ?_)
  unfold tX8_roomLeft
  refine zz_cons (k' := 1) rfl (zk_aload_n X dX8_roomLeft_0 rfl rfl) ?_
  refine zz_cons (k' := 2) rfl (zk_iload_n X dX8_roomLeft_1 rfl rfl) ?_
  refine zz_cons (k' := 3) rfl (zk_bipush X dX8_roomLeft_2 (by decide) rfl) ?_
  refine zz_cons (k' := 4) rfl (zz_Ok_none _ _) ?_
  refine zz_cons (k' := 5) rfl (zk_callv X (zz_Cv_of (List.forall_mem_cons.mpr ⟨⟨(RX_7, zzT7, 15), yX10_read, cX10_read, 3, (some .int), 0, 0, rfl, kv_X8_25_7, (mm_X10_read Wd).1, by decide, by decide⟩, (fun _ h => absurd h List.not_mem_nil)⟩)) dX8_roomLeft_4 rfl) ?_
  refine zz_cons (k' := 6) rfl (zz_Ok_none _ _) ?_
  refine zz_cons (k' := 7) rfl (zz_Ok_none _ _) ?_
  refine zz_cons (k' := 8) rfl (zk_aload_n X dX8_roomLeft_7 rfl rfl) ?_
  refine zz_cons (k' := 9) rfl (zk_getf X ff_X8_9 dX8_roomLeft_8 rfl) ?_
  refine zz_cons (k' := 10) rfl (zz_Ok_none _ _) ?_
  refine zz_cons (k' := 11) rfl (zz_Ok_none _ _) ?_
  refine zz_cons (k' := 12) rfl (zk_iload_n X dX8_roomLeft_11 rfl rfl) ?_
  refine zz_cons (k' := 13) rfl (zk_iald X (zzWC_st Wd) dX8_roomLeft_12 rfl) ?_
  refine zz_cons (k' := 14) rfl (zk_isub X dX8_roomLeft_13 rfl) ?_
  refine zz_cons (k' := 15) rfl (zk_iret X rfl dX8_roomLeft_14) ?_
  exact trivial
noncomputable def tX8_isBetter : List zzOp := [
  zo_aload 0 1,
  zo_getf zzSC (zz_kf [7] 13) 4,
  zo_none,
  zo_none,
  zo_aload 0 5,
  zo_iload 2 6,
  zo_callv zzSC (zz_cl [(7, fX8_zoneOf)]) 1 9,
  zo_none,
  zo_none,
  zo_iald zzSC zzSTC 10,
  zo_aload 0 11,
  zo_getf zzSC (zz_kf [7] 13) 14,
  zo_none,
  zo_none,
  zo_aload 0 15,
  zo_iload 1 16,
  zo_callv zzSC (zz_cl [(7, fX8_zoneOf)]) 1 19,
  zo_none,
  zo_none,
  zo_iald zzSC zzSTC 20,
  zo_ii (fun x y => x - y) 21,
  zo_istore 3 22,
  zo_iload 3 23,
  zo_if (fun x => decide (0 < x)) 43 26,
  zo_none,
  zo_none,
  zo_iload 3 27,
  zo_if (fun x => decide (¬ x = 0)) 47 30,
  zo_none,
  zo_none,
  zo_aload 0 31,
  zo_iload 1 32,
  zo_callv zzSC (zz_cl [(7, fX8_roomLeft)]) 1 35,
  zo_none,
  zo_none,
  zo_aload 0 36,
  zo_iload 2 37,
  zo_callv zzSC (zz_cl [(7, fX8_roomLeft)]) 1 40,
  zo_none,
  zo_none,
  zo_icmp (fun x y => decide (x ≤ y)) 47 43,
  zo_none,
  zo_none,
  zo_pushI 1 44,
  zo_goto 48,
  zo_none,
  zo_none,
  zo_pushI 0 48,
  zo_iret true]
set_option maxRecDepth 100000 in
theorem tl_X8_isBetter : ∀ pc, zz_Tl (tX8_isBetter.getD pc zo_none) := by
  refine zz_Tl_mem ?_
  unfold tX8_isBetter
  refine List.forall_mem_cons.mpr ⟨(zo_aload_tl _ _), ?_⟩
  refine List.forall_mem_cons.mpr ⟨(zo_getf_tl _ _ _), ?_⟩
  refine List.forall_mem_cons.mpr ⟨zo_none_tl, ?_⟩
  refine List.forall_mem_cons.mpr ⟨zo_none_tl, ?_⟩
  refine List.forall_mem_cons.mpr ⟨(zo_aload_tl _ _), ?_⟩
  refine List.forall_mem_cons.mpr ⟨(zo_iload_tl _ _), ?_⟩
  refine List.forall_mem_cons.mpr ⟨(zo_callv_tl _ _ _ _), ?_⟩
  refine List.forall_mem_cons.mpr ⟨zo_none_tl, ?_⟩
  refine List.forall_mem_cons.mpr ⟨zo_none_tl, ?_⟩
  refine List.forall_mem_cons.mpr ⟨(zo_iald_tl _ _ _), ?_⟩
  refine List.forall_mem_cons.mpr ⟨(zo_aload_tl _ _), ?_⟩
  refine List.forall_mem_cons.mpr ⟨(zo_getf_tl _ _ _), ?_⟩
  refine List.forall_mem_cons.mpr ⟨zo_none_tl, ?_⟩
  refine List.forall_mem_cons.mpr ⟨zo_none_tl, ?_⟩
  refine List.forall_mem_cons.mpr ⟨(zo_aload_tl _ _), ?_⟩
  refine List.forall_mem_cons.mpr ⟨(zo_iload_tl _ _), ?_⟩
  refine List.forall_mem_cons.mpr ⟨(zo_callv_tl _ _ _ _), ?_⟩
  refine List.forall_mem_cons.mpr ⟨zo_none_tl, ?_⟩
  refine List.forall_mem_cons.mpr ⟨zo_none_tl, ?_⟩
  refine List.forall_mem_cons.mpr ⟨(zo_iald_tl _ _ _), ?_⟩
  refine List.forall_mem_cons.mpr ⟨(zo_ii_tl _ _), ?_⟩
  refine List.forall_mem_cons.mpr ⟨(zo_istore_tl _ _), ?_⟩
  refine List.forall_mem_cons.mpr ⟨(zo_iload_tl _ _), ?_⟩
  refine List.forall_mem_cons.mpr ⟨(zo_if_tl _ _ _), ?_⟩
  refine List.forall_mem_cons.mpr ⟨zo_none_tl, ?_⟩
  refine List.forall_mem_cons.mpr ⟨zo_none_tl, ?_⟩
  refine List.forall_mem_cons.mpr ⟨(zo_iload_tl _ _), ?_⟩
  refine List.forall_mem_cons.mpr ⟨(zo_if_tl _ _ _), ?_⟩
  refine List.forall_mem_cons.mpr ⟨zo_none_tl, ?_⟩
  refine List.forall_mem_cons.mpr ⟨zo_none_tl, ?_⟩
  refine List.forall_mem_cons.mpr ⟨(zo_aload_tl _ _), ?_⟩
  refine List.forall_mem_cons.mpr ⟨(zo_iload_tl _ _), ?_⟩
  refine List.forall_mem_cons.mpr ⟨(zo_callv_tl _ _ _ _), ?_⟩
  refine List.forall_mem_cons.mpr ⟨zo_none_tl, ?_⟩
  refine List.forall_mem_cons.mpr ⟨zo_none_tl, ?_⟩
  refine List.forall_mem_cons.mpr ⟨(zo_aload_tl _ _), ?_⟩
  refine List.forall_mem_cons.mpr ⟨(zo_iload_tl _ _), ?_⟩
  refine List.forall_mem_cons.mpr ⟨(zo_callv_tl _ _ _ _), ?_⟩
  refine List.forall_mem_cons.mpr ⟨zo_none_tl, ?_⟩
  refine List.forall_mem_cons.mpr ⟨zo_none_tl, ?_⟩
  refine List.forall_mem_cons.mpr ⟨(zo_icmp_tl _ _ _), ?_⟩
  refine List.forall_mem_cons.mpr ⟨zo_none_tl, ?_⟩
  refine List.forall_mem_cons.mpr ⟨zo_none_tl, ?_⟩
  refine List.forall_mem_cons.mpr ⟨(zo_pushI_tl _ _), ?_⟩
  refine List.forall_mem_cons.mpr ⟨(zo_goto_tl _), ?_⟩
  refine List.forall_mem_cons.mpr ⟨zo_none_tl, ?_⟩
  refine List.forall_mem_cons.mpr ⟨zo_none_tl, ?_⟩
  refine List.forall_mem_cons.mpr ⟨(zo_pushI_tl _ _), ?_⟩
  refine List.forall_mem_cons.mpr ⟨(zo_iret_tl _), ?_⟩
  exact fun _ h => absurd h List.not_mem_nil
noncomputable def fX8_isBetter : zzFn := zz_fn tX8_isBetter 4
set_option maxRecDepth 100000 in
set_option maxHeartbeats 4000000 in
theorem mm_X8_isBetter {l : Launch} {D : va_G} {cA : Nat → ClassId} {ad : Nat → Nat} {Ex : (Nat → Prop) → State → Heap → Prop} (Wd : zzWC l D cA ad Ex) : zz_Cn l D zzCl cA ad zzSC Ex yX8_isBetter cX8_isBetter 4 (some .boolean) 2 44 fX8_isBetter ∧ zz_Cx l D zzCl cA ad zzSC Ex yX8_isBetter cX8_isBetter 4 (some .boolean) 2 44 fX8_isBetter := by
  refine zz_meth (plainFor_of_name (by decide)) Wd.1 Wd.2.1 Wd.2.2.1 (fun p e R s m args below meth c rr X => ?_)
  unfold tX8_isBetter
  refine zz_cons (k' := 1) rfl (zk_aload_n X dX8_isBetter_0 rfl rfl) ?_
  refine zz_cons (k' := 2) rfl (zk_getf X ff_X8_15 dX8_isBetter_1 rfl) ?_
  refine zz_cons (k' := 3) rfl (zz_Ok_none _ _) ?_
  refine zz_cons (k' := 4) rfl (zz_Ok_none _ _) ?_
  refine zz_cons (k' := 5) rfl (zk_aload_n X dX8_isBetter_4 rfl rfl) ?_
  refine zz_cons (k' := 6) rfl (zk_iload_n X dX8_isBetter_5 rfl rfl) ?_
  refine zz_cons (k' := 7) rfl (zk_callv X (zz_Cv_of (List.forall_mem_cons.mpr ⟨⟨(RX_7, zzT7, 15), yX8_zoneOf, cX8_zoneOf, 3, (some .int), 1, 22, rfl, kv_X8_72_7.1, (mm_X8_zoneOf Wd).1, by decide, by decide⟩, (fun _ h => absurd h List.not_mem_nil)⟩)) dX8_isBetter_6 rfl) ?_
  refine zz_cons (k' := 8) rfl (zz_Ok_none _ _) ?_
  refine zz_cons (k' := 9) rfl (zz_Ok_none _ _) ?_
  refine zz_cons (k' := 10) rfl (zk_iald X (zzWC_st Wd) dX8_isBetter_9 rfl) ?_
  refine zz_cons (k' := 11) rfl (zk_aload_n X dX8_isBetter_10 rfl rfl) ?_
  refine zz_cons (k' := 12) rfl (zk_getf X ff_X8_15 dX8_isBetter_11 rfl) ?_
  refine zz_cons (k' := 13) rfl (zz_Ok_none _ _) ?_
  refine zz_cons (k' := 14) rfl (zz_Ok_none _ _) ?_
  refine zz_cons (k' := 15) rfl (zk_aload_n X dX8_isBetter_14 rfl rfl) ?_
  refine zz_cons (k' := 16) rfl (zk_iload_n X dX8_isBetter_15 rfl rfl) ?_
  refine zz_cons (k' := 17) rfl (zk_callv X (zz_Cv_of (List.forall_mem_cons.mpr ⟨⟨(RX_7, zzT7, 15), yX8_zoneOf, cX8_zoneOf, 3, (some .int), 1, 22, rfl, kv_X8_72_7.1, (mm_X8_zoneOf Wd).1, by decide, by decide⟩, (fun _ h => absurd h List.not_mem_nil)⟩)) dX8_isBetter_16 rfl) ?_
  refine zz_cons (k' := 18) rfl (zz_Ok_none _ _) ?_
  refine zz_cons (k' := 19) rfl (zz_Ok_none _ _) ?_
  refine zz_cons (k' := 20) rfl (zk_iald X (zzWC_st Wd) dX8_isBetter_19 rfl) ?_
  refine zz_cons (k' := 21) rfl (zk_isub X dX8_isBetter_20 rfl) ?_
  refine zz_cons (k' := 22) rfl (zk_istore_n X dX8_isBetter_21 rfl (by decide) rfl) ?_
  refine zz_cons (k' := 23) rfl (zk_iload_n X dX8_isBetter_22 rfl rfl) ?_
  refine zz_cons (k' := 24) rfl (zk_if_gt X dX8_isBetter_23 (by decide) rfl) ?_
  refine zz_cons (k' := 25) rfl (zz_Ok_none _ _) ?_
  refine zz_cons (k' := 26) rfl (zz_Ok_none _ _) ?_
  refine zz_cons (k' := 27) rfl (zk_iload_n X dX8_isBetter_26 rfl rfl) ?_
  refine zz_cons (k' := 28) rfl (zk_if_ne X dX8_isBetter_27 (by decide) rfl) ?_
  refine zz_cons (k' := 29) rfl (zz_Ok_none _ _) ?_
  refine zz_cons (k' := 30) rfl (zz_Ok_none _ _) ?_
  refine zz_cons (k' := 31) rfl (zk_aload_n X dX8_isBetter_30 rfl rfl) ?_
  refine zz_cons (k' := 32) rfl (zk_iload_n X dX8_isBetter_31 rfl rfl) ?_
  refine zz_cons (k' := 33) rfl (zk_callv X (zz_Cv_of (List.forall_mem_cons.mpr ⟨⟨(RX_7, zzT7, 15), yX8_roomLeft, cX8_roomLeft, 2, (some .int), 1, 22, rfl, kv_X8_78_7.1, (mm_X8_roomLeft Wd).1, by decide, by decide⟩, (fun _ h => absurd h List.not_mem_nil)⟩)) dX8_isBetter_32 rfl) ?_
  refine zz_cons (k' := 34) rfl (zz_Ok_none _ _) ?_
  refine zz_cons (k' := 35) rfl (zz_Ok_none _ _) ?_
  refine zz_cons (k' := 36) rfl (zk_aload_n X dX8_isBetter_35 rfl rfl) ?_
  refine zz_cons (k' := 37) rfl (zk_iload_n X dX8_isBetter_36 rfl rfl) ?_
  refine zz_cons (k' := 38) rfl (zk_callv X (zz_Cv_of (List.forall_mem_cons.mpr ⟨⟨(RX_7, zzT7, 15), yX8_roomLeft, cX8_roomLeft, 2, (some .int), 1, 22, rfl, kv_X8_78_7.1, (mm_X8_roomLeft Wd).1, by decide, by decide⟩, (fun _ h => absurd h List.not_mem_nil)⟩)) dX8_isBetter_37 rfl) ?_
  refine zz_cons (k' := 39) rfl (zz_Ok_none _ _) ?_
  refine zz_cons (k' := 40) rfl (zz_Ok_none _ _) ?_
  refine zz_cons (k' := 41) rfl (zk_icmp_le X dX8_isBetter_40 (by decide) rfl) ?_
  refine zz_cons (k' := 42) rfl (zz_Ok_none _ _) ?_
  refine zz_cons (k' := 43) rfl (zz_Ok_none _ _) ?_
  refine zz_cons (k' := 44) rfl (zk_iconst X dX8_isBetter_43 (by decide) rfl) ?_
  refine zz_cons (k' := 45) rfl (zk_goto X dX8_isBetter_44 (by decide)) ?_
  refine zz_cons (k' := 46) rfl (zz_Ok_none _ _) ?_
  refine zz_cons (k' := 47) rfl (zz_Ok_none _ _) ?_
  refine zz_cons (k' := 48) rfl (zk_iconst X dX8_isBetter_47 (by decide) rfl) ?_
  refine zz_cons (k' := 49) rfl (zk_iret X rfl dX8_isBetter_48) ?_
  exact trivial
noncomputable def tX8_bestNode : List zzOp := [
  zo_pushI (-1) 1,
  zo_istore 2 2,
  zo_pushI 0 3,
  zo_istore 3 4,
  zo_iload 3 5,
  zo_aload 0 6,
  zo_getf zzSC (zz_kf [7] 2) 9,
  zo_none,
  zo_none,
  zo_icmp (fun x y => decide (y ≤ x)) 51 12,
  zo_none,
  zo_none,
  zo_aload 0 13,
  zo_iload 3 14,
  zo_callv zzSC (zz_cl [(7, fX8_isOpen)]) 1 17,
  zo_none,
  zo_none,
  zo_if (fun x => decide (x = 0)) 45 20,
  zo_none,
  zo_none,
  zo_aload 0 21,
  zo_iload 3 22,
  zo_callv zzSC (zz_cl [(7, fX8_roomLeft)]) 1 25,
  zo_none,
  zo_none,
  zo_iload 1 26,
  zo_icmp (fun x y => decide (x < y)) 45 29,
  zo_none,
  zo_none,
  zo_iload 2 30,
  zo_pushI (-1) 31,
  zo_icmp (fun x y => decide (x = y)) 43 34,
  zo_none,
  zo_none,
  zo_aload 0 35,
  zo_iload 3 36,
  zo_iload 2 37,
  zo_callv zzSC (zz_cl [(7, fX8_isBetter)]) 2 40,
  zo_none,
  zo_none,
  zo_if (fun x => decide (x = 0)) 45 43,
  zo_none,
  zo_none,
  zo_iload 3 44,
  zo_istore 2 45,
  zo_iinc 3 1 48,
  zo_none,
  zo_none,
  zo_goto 4,
  zo_none,
  zo_none,
  zo_iload 2 52,
  zo_iret false]
set_option maxRecDepth 100000 in
theorem tl_X8_bestNode : ∀ pc, zz_Tl (tX8_bestNode.getD pc zo_none) := by
  refine zz_Tl_mem ?_
  unfold tX8_bestNode
  refine List.forall_mem_cons.mpr ⟨(zo_pushI_tl _ _), ?_⟩
  refine List.forall_mem_cons.mpr ⟨(zo_istore_tl _ _), ?_⟩
  refine List.forall_mem_cons.mpr ⟨(zo_pushI_tl _ _), ?_⟩
  refine List.forall_mem_cons.mpr ⟨(zo_istore_tl _ _), ?_⟩
  refine List.forall_mem_cons.mpr ⟨(zo_iload_tl _ _), ?_⟩
  refine List.forall_mem_cons.mpr ⟨(zo_aload_tl _ _), ?_⟩
  refine List.forall_mem_cons.mpr ⟨(zo_getf_tl _ _ _), ?_⟩
  refine List.forall_mem_cons.mpr ⟨zo_none_tl, ?_⟩
  refine List.forall_mem_cons.mpr ⟨zo_none_tl, ?_⟩
  refine List.forall_mem_cons.mpr ⟨(zo_icmp_tl _ _ _), ?_⟩
  refine List.forall_mem_cons.mpr ⟨zo_none_tl, ?_⟩
  refine List.forall_mem_cons.mpr ⟨zo_none_tl, ?_⟩
  refine List.forall_mem_cons.mpr ⟨(zo_aload_tl _ _), ?_⟩
  refine List.forall_mem_cons.mpr ⟨(zo_iload_tl _ _), ?_⟩
  refine List.forall_mem_cons.mpr ⟨(zo_callv_tl _ _ _ _), ?_⟩
  refine List.forall_mem_cons.mpr ⟨zo_none_tl, ?_⟩
  refine List.forall_mem_cons.mpr ⟨zo_none_tl, ?_⟩
  refine List.forall_mem_cons.mpr ⟨(zo_if_tl _ _ _), ?_⟩
  refine List.forall_mem_cons.mpr ⟨zo_none_tl, ?_⟩
  refine List.forall_mem_cons.mpr ⟨zo_none_tl, ?_⟩
  refine List.forall_mem_cons.mpr ⟨(zo_aload_tl _ _), ?_⟩
  refine List.forall_mem_cons.mpr ⟨(zo_iload_tl _ _), ?_⟩
  refine List.forall_mem_cons.mpr ⟨(zo_callv_tl _ _ _ _), ?_⟩
  refine List.forall_mem_cons.mpr ⟨zo_none_tl, ?_⟩
  refine List.forall_mem_cons.mpr ⟨zo_none_tl, ?_⟩
  refine List.forall_mem_cons.mpr ⟨(zo_iload_tl _ _), ?_⟩
  refine List.forall_mem_cons.mpr ⟨(zo_icmp_tl _ _ _), ?_⟩
  refine List.forall_mem_cons.mpr ⟨zo_none_tl, ?_⟩
  refine List.forall_mem_cons.mpr ⟨zo_none_tl, ?_⟩
  refine List.forall_mem_cons.mpr ⟨(zo_iload_tl _ _), ?_⟩
  refine List.forall_mem_cons.mpr ⟨(zo_pushI_tl _ _), ?_⟩
  refine List.forall_mem_cons.mpr ⟨(zo_icmp_tl _ _ _), ?_⟩
  refine List.forall_mem_cons.mpr ⟨zo_none_tl, ?_⟩
  refine List.forall_mem_cons.mpr ⟨zo_none_tl, ?_⟩
  refine List.forall_mem_cons.mpr ⟨(zo_aload_tl _ _), ?_⟩
  refine List.forall_mem_cons.mpr ⟨(zo_iload_tl _ _), ?_⟩
  refine List.forall_mem_cons.mpr ⟨(zo_iload_tl _ _), ?_⟩
  refine List.forall_mem_cons.mpr ⟨(zo_callv_tl _ _ _ _), ?_⟩
  refine List.forall_mem_cons.mpr ⟨zo_none_tl, ?_⟩
  refine List.forall_mem_cons.mpr ⟨zo_none_tl, ?_⟩
  refine List.forall_mem_cons.mpr ⟨(zo_if_tl _ _ _), ?_⟩
  refine List.forall_mem_cons.mpr ⟨zo_none_tl, ?_⟩
  refine List.forall_mem_cons.mpr ⟨zo_none_tl, ?_⟩
  refine List.forall_mem_cons.mpr ⟨(zo_iload_tl _ _), ?_⟩
  refine List.forall_mem_cons.mpr ⟨(zo_istore_tl _ _), ?_⟩
  refine List.forall_mem_cons.mpr ⟨(zo_iinc_tl _ _ _), ?_⟩
  refine List.forall_mem_cons.mpr ⟨zo_none_tl, ?_⟩
  refine List.forall_mem_cons.mpr ⟨zo_none_tl, ?_⟩
  refine List.forall_mem_cons.mpr ⟨(zo_goto_tl _), ?_⟩
  refine List.forall_mem_cons.mpr ⟨zo_none_tl, ?_⟩
  refine List.forall_mem_cons.mpr ⟨zo_none_tl, ?_⟩
  refine List.forall_mem_cons.mpr ⟨(zo_iload_tl _ _), ?_⟩
  refine List.forall_mem_cons.mpr ⟨(zo_iret_tl _), ?_⟩
  exact fun _ h => absurd h List.not_mem_nil
noncomputable def fX8_bestNode : zzFn := zz_fn tX8_bestNode 4
set_option maxRecDepth 100000 in
set_option maxHeartbeats 4000000 in
theorem mm_X8_bestNode {l : Launch} {D : va_G} {cA : Nat → ClassId} {ad : Nat → Nat} {Ex : (Nat → Prop) → State → Heap → Prop} (Wd : zzWC l D cA ad Ex) : zz_Cn l D zzCl cA ad zzSC Ex yX8_bestNode cX8_bestNode 4 (some .int) 3 67 fX8_bestNode ∧ zz_Cx l D zzCl cA ad zzSC Ex yX8_bestNode cX8_bestNode 4 (some .int) 3 67 fX8_bestNode := by
  refine zz_meth (plainFor_of_name (by decide)) Wd.1 Wd.2.1 Wd.2.2.1 (fun p e R s m args below meth c rr X => ?_)
  unfold tX8_bestNode
  refine zz_cons (k' := 1) rfl (zk_iconst X dX8_bestNode_0 (by decide) rfl) ?_
  refine zz_cons (k' := 2) rfl (zk_istore_n X dX8_bestNode_1 rfl (by decide) rfl) ?_
  refine zz_cons (k' := 3) rfl (zk_iconst X dX8_bestNode_2 (by decide) rfl) ?_
  refine zz_cons (k' := 4) rfl (zk_istore_n X dX8_bestNode_3 rfl (by decide) rfl) ?_
  refine zz_cons (k' := 5) rfl (zk_iload_n X dX8_bestNode_4 rfl rfl) ?_
  refine zz_cons (k' := 6) rfl (zk_aload_n X dX8_bestNode_5 rfl rfl) ?_
  refine zz_cons (k' := 7) rfl (zk_getf X ff_X8_21 dX8_bestNode_6 rfl) ?_
  refine zz_cons (k' := 8) rfl (zz_Ok_none _ _) ?_
  refine zz_cons (k' := 9) rfl (zz_Ok_none _ _) ?_
  refine zz_cons (k' := 10) rfl (zk_icmp_ge X dX8_bestNode_9 (by decide) rfl) ?_
  refine zz_cons (k' := 11) rfl (zz_Ok_none _ _) ?_
  refine zz_cons (k' := 12) rfl (zz_Ok_none _ _) ?_
  refine zz_cons (k' := 13) rfl (zk_aload_n X dX8_bestNode_12 rfl rfl) ?_
  refine zz_cons (k' := 14) rfl (zk_iload_n X dX8_bestNode_13 rfl rfl) ?_
  refine zz_cons (k' := 15) rfl (zk_callv X (zz_Cv_of (List.forall_mem_cons.mpr ⟨⟨(RX_7, zzT7, 15), yX8_isOpen, cX8_isOpen, 2, (some .boolean), 2, 44, rfl, kv_X8_75_7.1, (mm_X8_isOpen Wd).1, by decide, by decide⟩, (fun _ h => absurd h List.not_mem_nil)⟩)) dX8_bestNode_14 rfl) ?_
  refine zz_cons (k' := 16) rfl (zz_Ok_none _ _) ?_
  refine zz_cons (k' := 17) rfl (zz_Ok_none _ _) ?_
  refine zz_cons (k' := 18) rfl (zk_if_eq X dX8_bestNode_17 (by decide) rfl) ?_
  refine zz_cons (k' := 19) rfl (zz_Ok_none _ _) ?_
  refine zz_cons (k' := 20) rfl (zz_Ok_none _ _) ?_
  refine zz_cons (k' := 21) rfl (zk_aload_n X dX8_bestNode_20 rfl rfl) ?_
  refine zz_cons (k' := 22) rfl (zk_iload_n X dX8_bestNode_21 rfl rfl) ?_
  refine zz_cons (k' := 23) rfl (zk_callv X (zz_Cv_of (List.forall_mem_cons.mpr ⟨⟨(RX_7, zzT7, 15), yX8_roomLeft, cX8_roomLeft, 2, (some .int), 1, 22, rfl, kv_X8_78_7.1, (mm_X8_roomLeft Wd).1, by decide, by decide⟩, (fun _ h => absurd h List.not_mem_nil)⟩)) dX8_bestNode_22 rfl) ?_
  refine zz_cons (k' := 24) rfl (zz_Ok_none _ _) ?_
  refine zz_cons (k' := 25) rfl (zz_Ok_none _ _) ?_
  refine zz_cons (k' := 26) rfl (zk_iload_n X dX8_bestNode_25 rfl rfl) ?_
  refine zz_cons (k' := 27) rfl (zk_icmp_lt X dX8_bestNode_26 (by decide) rfl) ?_
  refine zz_cons (k' := 28) rfl (zz_Ok_none _ _) ?_
  refine zz_cons (k' := 29) rfl (zz_Ok_none _ _) ?_
  refine zz_cons (k' := 30) rfl (zk_iload_n X dX8_bestNode_29 rfl rfl) ?_
  refine zz_cons (k' := 31) rfl (zk_iconst X dX8_bestNode_30 (by decide) rfl) ?_
  refine zz_cons (k' := 32) rfl (zk_icmp_eq X dX8_bestNode_31 (by decide) rfl) ?_
  refine zz_cons (k' := 33) rfl (zz_Ok_none _ _) ?_
  refine zz_cons (k' := 34) rfl (zz_Ok_none _ _) ?_
  refine zz_cons (k' := 35) rfl (zk_aload_n X dX8_bestNode_34 rfl rfl) ?_
  refine zz_cons (k' := 36) rfl (zk_iload_n X dX8_bestNode_35 rfl rfl) ?_
  refine zz_cons (k' := 37) rfl (zk_iload_n X dX8_bestNode_36 rfl rfl) ?_
  refine zz_cons (k' := 38) rfl (zk_callv X (zz_Cv_of (List.forall_mem_cons.mpr ⟨⟨(RX_7, zzT7, 15), yX8_isBetter, cX8_isBetter, 4, (some .boolean), 2, 44, rfl, kv_X8_81_7.1, (mm_X8_isBetter Wd).1, by decide, by decide⟩, (fun _ h => absurd h List.not_mem_nil)⟩)) dX8_bestNode_37 rfl) ?_
  refine zz_cons (k' := 39) rfl (zz_Ok_none _ _) ?_
  refine zz_cons (k' := 40) rfl (zz_Ok_none _ _) ?_
  refine zz_cons (k' := 41) rfl (zk_if_eq X dX8_bestNode_40 (by decide) rfl) ?_
  refine zz_cons (k' := 42) rfl (zz_Ok_none _ _) ?_
  refine zz_cons (k' := 43) rfl (zz_Ok_none _ _) ?_
  refine zz_cons (k' := 44) rfl (zk_iload_n X dX8_bestNode_43 rfl rfl) ?_
  refine zz_cons (k' := 45) rfl (zk_istore_n X dX8_bestNode_44 rfl (by decide) rfl) ?_
  refine zz_cons (k' := 46) rfl (zk_iinc X dX8_bestNode_45 (by decide) (by decide) rfl) ?_
  refine zz_cons (k' := 47) rfl (zz_Ok_none _ _) ?_
  refine zz_cons (k' := 48) rfl (zz_Ok_none _ _) ?_
  refine zz_cons (k' := 49) rfl (zk_goto X dX8_bestNode_48 (by decide)) ?_
  refine zz_cons (k' := 50) rfl (zz_Ok_none _ _) ?_
  refine zz_cons (k' := 51) rfl (zz_Ok_none _ _) ?_
  refine zz_cons (k' := 52) rfl (zk_iload_n X dX8_bestNode_51 rfl rfl) ?_
  refine zz_cons (k' := 53) rfl (zk_iret X rfl dX8_bestNode_52) ?_
  exact trivial
noncomputable def tX8_rankOf : List zzOp := [
  zo_aload 0 1,
  zo_iload 1 2,
  zo_pushI 1 3,
  zo_callv zzSC (zz_cl [(7, fX10_read)]) 2 6,
  zo_none,
  zo_none,
  zo_pushI 4 7,
  zo_iid (fun x y => x / y) 8,
  zo_iret false]
set_option maxRecDepth 100000 in
theorem tl_X8_rankOf : ∀ pc, zz_Tl (tX8_rankOf.getD pc zo_none) := by
  refine zz_Tl_mem ?_
  unfold tX8_rankOf
  refine List.forall_mem_cons.mpr ⟨(zo_aload_tl _ _), ?_⟩
  refine List.forall_mem_cons.mpr ⟨(zo_iload_tl _ _), ?_⟩
  refine List.forall_mem_cons.mpr ⟨(zo_pushI_tl _ _), ?_⟩
  refine List.forall_mem_cons.mpr ⟨(zo_callv_tl _ _ _ _), ?_⟩
  refine List.forall_mem_cons.mpr ⟨zo_none_tl, ?_⟩
  refine List.forall_mem_cons.mpr ⟨zo_none_tl, ?_⟩
  refine List.forall_mem_cons.mpr ⟨(zo_pushI_tl _ _), ?_⟩
  refine List.forall_mem_cons.mpr ⟨(zo_iid_tl _ _), ?_⟩
  refine List.forall_mem_cons.mpr ⟨(zo_iret_tl _), ?_⟩
  exact fun _ h => absurd h List.not_mem_nil
noncomputable def fX8_rankOf : zzFn := zz_fn tX8_rankOf 2
set_option maxRecDepth 100000 in
set_option maxHeartbeats 4000000 in
theorem mm_X8_rankOf {l : Launch} {D : va_G} {cA : Nat → ClassId} {ad : Nat → Nat} {Ex : (Nat → Prop) → State → Heap → Prop} (Wd : zzWC l D cA ad Ex) : zz_Cn l D zzCl cA ad zzSC Ex yX8_rankOf cX8_rankOf 2 (some .int) 1 22 fX8_rankOf ∧ zz_Cx l D zzCl cA ad zzSC Ex yX8_rankOf cX8_rankOf 2 (some .int) 1 22 fX8_rankOf := by
  refine zz_meth (plainFor_of_name (by decide)) Wd.1 Wd.2.1 Wd.2.2.1 (fun p e R s m args below meth c rr X => ?_)
  unfold tX8_rankOf
  refine zz_cons (k' := 1) rfl (zk_aload_n X dX8_rankOf_0 rfl rfl) ?_
  refine zz_cons (k' := 2) rfl (zk_iload_n X dX8_rankOf_1 rfl rfl) ?_
  refine zz_cons (k' := 3) rfl (zk_iconst X dX8_rankOf_2 (by decide) rfl) ?_
  refine zz_cons (k' := 4) rfl (zk_callv X (zz_Cv_of (List.forall_mem_cons.mpr ⟨⟨(RX_7, zzT7, 15), yX10_read, cX10_read, 3, (some .int), 0, 0, rfl, kv_X8_25_7, (mm_X10_read Wd).1, by decide, by decide⟩, (fun _ h => absurd h List.not_mem_nil)⟩)) dX8_rankOf_3 rfl) ?_
  refine zz_cons (k' := 5) rfl (zz_Ok_none _ _) ?_
  refine zz_cons (k' := 6) rfl (zz_Ok_none _ _) ?_
  refine zz_cons (k' := 7) rfl (zk_iconst X dX8_rankOf_6 (by decide) rfl) ?_
  refine zz_cons (k' := 8) rfl (zk_idiv X dX8_rankOf_7 rfl) ?_
  refine zz_cons (k' := 9) rfl (zk_iret X rfl dX8_rankOf_8) ?_
  exact trivial
noncomputable def tX8_isVictim : List zzOp := [
  zo_aload 0 1,
  zo_iload 1 2,
  zo_pushI 29 4,
  zo_none,
  zo_callv zzSC (zz_cl [(7, fX10_read)]) 2 7,
  zo_none,
  zo_none,
  zo_istore 3 8,
  zo_aload 0 9,
  zo_iload 1 10,
  zo_pushI 28 12,
  zo_none,
  zo_callv zzSC (zz_cl [(7, fX10_read)]) 2 15,
  zo_none,
  zo_none,
  zo_iload 2 16,
  zo_icmp (fun x y => decide (¬ x = y)) 41 19,
  zo_none,
  zo_none,
  zo_aload 0 20,
  zo_iload 1 21,
  zo_pushI 2 22,
  zo_callv zzSC (zz_cl [(7, fX10_isStaying)]) 2 25,
  zo_none,
  zo_none,
  zo_if (fun x => decide (x = 0)) 41 28,
  zo_none,
  zo_none,
  zo_iload 3 29,
  zo_if (fun x => decide (x = 0)) 37 32,
  zo_none,
  zo_none,
  zo_iload 3 33,
  zo_pushI 1 34,
  zo_icmp (fun x y => decide (¬ x = y)) 41 37,
  zo_none,
  zo_none,
  zo_pushI 1 38,
  zo_goto 42,
  zo_none,
  zo_none,
  zo_pushI 0 42,
  zo_iret true]
set_option maxRecDepth 100000 in
theorem tl_X8_isVictim : ∀ pc, zz_Tl (tX8_isVictim.getD pc zo_none) := by
  refine zz_Tl_mem ?_
  unfold tX8_isVictim
  refine List.forall_mem_cons.mpr ⟨(zo_aload_tl _ _), ?_⟩
  refine List.forall_mem_cons.mpr ⟨(zo_iload_tl _ _), ?_⟩
  refine List.forall_mem_cons.mpr ⟨(zo_pushI_tl _ _), ?_⟩
  refine List.forall_mem_cons.mpr ⟨zo_none_tl, ?_⟩
  refine List.forall_mem_cons.mpr ⟨(zo_callv_tl _ _ _ _), ?_⟩
  refine List.forall_mem_cons.mpr ⟨zo_none_tl, ?_⟩
  refine List.forall_mem_cons.mpr ⟨zo_none_tl, ?_⟩
  refine List.forall_mem_cons.mpr ⟨(zo_istore_tl _ _), ?_⟩
  refine List.forall_mem_cons.mpr ⟨(zo_aload_tl _ _), ?_⟩
  refine List.forall_mem_cons.mpr ⟨(zo_iload_tl _ _), ?_⟩
  refine List.forall_mem_cons.mpr ⟨(zo_pushI_tl _ _), ?_⟩
  refine List.forall_mem_cons.mpr ⟨zo_none_tl, ?_⟩
  refine List.forall_mem_cons.mpr ⟨(zo_callv_tl _ _ _ _), ?_⟩
  refine List.forall_mem_cons.mpr ⟨zo_none_tl, ?_⟩
  refine List.forall_mem_cons.mpr ⟨zo_none_tl, ?_⟩
  refine List.forall_mem_cons.mpr ⟨(zo_iload_tl _ _), ?_⟩
  refine List.forall_mem_cons.mpr ⟨(zo_icmp_tl _ _ _), ?_⟩
  refine List.forall_mem_cons.mpr ⟨zo_none_tl, ?_⟩
  refine List.forall_mem_cons.mpr ⟨zo_none_tl, ?_⟩
  refine List.forall_mem_cons.mpr ⟨(zo_aload_tl _ _), ?_⟩
  refine List.forall_mem_cons.mpr ⟨(zo_iload_tl _ _), ?_⟩
  refine List.forall_mem_cons.mpr ⟨(zo_pushI_tl _ _), ?_⟩
  refine List.forall_mem_cons.mpr ⟨(zo_callv_tl _ _ _ _), ?_⟩
  refine List.forall_mem_cons.mpr ⟨zo_none_tl, ?_⟩
  refine List.forall_mem_cons.mpr ⟨zo_none_tl, ?_⟩
  refine List.forall_mem_cons.mpr ⟨(zo_if_tl _ _ _), ?_⟩
  refine List.forall_mem_cons.mpr ⟨zo_none_tl, ?_⟩
  refine List.forall_mem_cons.mpr ⟨zo_none_tl, ?_⟩
  refine List.forall_mem_cons.mpr ⟨(zo_iload_tl _ _), ?_⟩
  refine List.forall_mem_cons.mpr ⟨(zo_if_tl _ _ _), ?_⟩
  refine List.forall_mem_cons.mpr ⟨zo_none_tl, ?_⟩
  refine List.forall_mem_cons.mpr ⟨zo_none_tl, ?_⟩
  refine List.forall_mem_cons.mpr ⟨(zo_iload_tl _ _), ?_⟩
  refine List.forall_mem_cons.mpr ⟨(zo_pushI_tl _ _), ?_⟩
  refine List.forall_mem_cons.mpr ⟨(zo_icmp_tl _ _ _), ?_⟩
  refine List.forall_mem_cons.mpr ⟨zo_none_tl, ?_⟩
  refine List.forall_mem_cons.mpr ⟨zo_none_tl, ?_⟩
  refine List.forall_mem_cons.mpr ⟨(zo_pushI_tl _ _), ?_⟩
  refine List.forall_mem_cons.mpr ⟨(zo_goto_tl _), ?_⟩
  refine List.forall_mem_cons.mpr ⟨zo_none_tl, ?_⟩
  refine List.forall_mem_cons.mpr ⟨zo_none_tl, ?_⟩
  refine List.forall_mem_cons.mpr ⟨(zo_pushI_tl _ _), ?_⟩
  refine List.forall_mem_cons.mpr ⟨(zo_iret_tl _), ?_⟩
  exact fun _ h => absurd h List.not_mem_nil
noncomputable def fX8_isVictim : zzFn := zz_fn tX8_isVictim 4
set_option maxRecDepth 100000 in
set_option maxHeartbeats 4000000 in
theorem mm_X8_isVictim {l : Launch} {D : va_G} {cA : Nat → ClassId} {ad : Nat → Nat} {Ex : (Nat → Prop) → State → Heap → Prop} (Wd : zzWC l D cA ad Ex) : zz_Cn l D zzCl cA ad zzSC Ex yX8_isVictim cX8_isVictim 4 (some .boolean) 2 44 fX8_isVictim ∧ zz_Cx l D zzCl cA ad zzSC Ex yX8_isVictim cX8_isVictim 4 (some .boolean) 2 44 fX8_isVictim := by
  refine zz_meth (plainFor_of_name (by decide)) Wd.1 Wd.2.1 Wd.2.2.1 (fun p e R s m args below meth c rr X => ?_)
  unfold tX8_isVictim
  refine zz_cons (k' := 1) rfl (zk_aload_n X dX8_isVictim_0 rfl rfl) ?_
  refine zz_cons (k' := 2) rfl (zk_iload_n X dX8_isVictim_1 rfl rfl) ?_
  refine zz_cons (k' := 3) rfl (zk_bipush X dX8_isVictim_2 (by decide) rfl) ?_
  refine zz_cons (k' := 4) rfl (zz_Ok_none _ _) ?_
  refine zz_cons (k' := 5) rfl (zk_callv X (zz_Cv_of (List.forall_mem_cons.mpr ⟨⟨(RX_7, zzT7, 15), yX10_read, cX10_read, 3, (some .int), 0, 0, rfl, kv_X8_25_7, (mm_X10_read Wd).1, by decide, by decide⟩, (fun _ h => absurd h List.not_mem_nil)⟩)) dX8_isVictim_4 rfl) ?_
  refine zz_cons (k' := 6) rfl (zz_Ok_none _ _) ?_
  refine zz_cons (k' := 7) rfl (zz_Ok_none _ _) ?_
  refine zz_cons (k' := 8) rfl (zk_istore_n X dX8_isVictim_7 rfl (by decide) rfl) ?_
  refine zz_cons (k' := 9) rfl (zk_aload_n X dX8_isVictim_8 rfl rfl) ?_
  refine zz_cons (k' := 10) rfl (zk_iload_n X dX8_isVictim_9 rfl rfl) ?_
  refine zz_cons (k' := 11) rfl (zk_bipush X dX8_isVictim_10 (by decide) rfl) ?_
  refine zz_cons (k' := 12) rfl (zz_Ok_none _ _) ?_
  refine zz_cons (k' := 13) rfl (zk_callv X (zz_Cv_of (List.forall_mem_cons.mpr ⟨⟨(RX_7, zzT7, 15), yX10_read, cX10_read, 3, (some .int), 0, 0, rfl, kv_X8_25_7, (mm_X10_read Wd).1, by decide, by decide⟩, (fun _ h => absurd h List.not_mem_nil)⟩)) dX8_isVictim_12 rfl) ?_
  refine zz_cons (k' := 14) rfl (zz_Ok_none _ _) ?_
  refine zz_cons (k' := 15) rfl (zz_Ok_none _ _) ?_
  refine zz_cons (k' := 16) rfl (zk_iload_n X dX8_isVictim_15 rfl rfl) ?_
  refine zz_cons (k' := 17) rfl (zk_icmp_ne X dX8_isVictim_16 (by decide) rfl) ?_
  refine zz_cons (k' := 18) rfl (zz_Ok_none _ _) ?_
  refine zz_cons (k' := 19) rfl (zz_Ok_none _ _) ?_
  refine zz_cons (k' := 20) rfl (zk_aload_n X dX8_isVictim_19 rfl rfl) ?_
  refine zz_cons (k' := 21) rfl (zk_iload_n X dX8_isVictim_20 rfl rfl) ?_
  refine zz_cons (k' := 22) rfl (zk_iconst X dX8_isVictim_21 (by decide) rfl) ?_
  refine zz_cons (k' := 23) rfl (zk_callv X (zz_Cv_of (List.forall_mem_cons.mpr ⟨⟨(RX_7, zzT7, 15), yX10_isStaying, cX10_isStaying, 3, (some .boolean), 1, 22, rfl, kv_X8_37_7, (mm_X10_isStaying Wd).1, by decide, by decide⟩, (fun _ h => absurd h List.not_mem_nil)⟩)) dX8_isVictim_22 rfl) ?_
  refine zz_cons (k' := 24) rfl (zz_Ok_none _ _) ?_
  refine zz_cons (k' := 25) rfl (zz_Ok_none _ _) ?_
  refine zz_cons (k' := 26) rfl (zk_if_eq X dX8_isVictim_25 (by decide) rfl) ?_
  refine zz_cons (k' := 27) rfl (zz_Ok_none _ _) ?_
  refine zz_cons (k' := 28) rfl (zz_Ok_none _ _) ?_
  refine zz_cons (k' := 29) rfl (zk_iload_n X dX8_isVictim_28 rfl rfl) ?_
  refine zz_cons (k' := 30) rfl (zk_if_eq X dX8_isVictim_29 (by decide) rfl) ?_
  refine zz_cons (k' := 31) rfl (zz_Ok_none _ _) ?_
  refine zz_cons (k' := 32) rfl (zz_Ok_none _ _) ?_
  refine zz_cons (k' := 33) rfl (zk_iload_n X dX8_isVictim_32 rfl rfl) ?_
  refine zz_cons (k' := 34) rfl (zk_iconst X dX8_isVictim_33 (by decide) rfl) ?_
  refine zz_cons (k' := 35) rfl (zk_icmp_ne X dX8_isVictim_34 (by decide) rfl) ?_
  refine zz_cons (k' := 36) rfl (zz_Ok_none _ _) ?_
  refine zz_cons (k' := 37) rfl (zz_Ok_none _ _) ?_
  refine zz_cons (k' := 38) rfl (zk_iconst X dX8_isVictim_37 (by decide) rfl) ?_
  refine zz_cons (k' := 39) rfl (zk_goto X dX8_isVictim_38 (by decide)) ?_
  refine zz_cons (k' := 40) rfl (zz_Ok_none _ _) ?_
  refine zz_cons (k' := 41) rfl (zz_Ok_none _ _) ?_
  refine zz_cons (k' := 42) rfl (zk_iconst X dX8_isVictim_41 (by decide) rfl) ?_
  refine zz_cons (k' := 43) rfl (zk_iret X rfl dX8_isVictim_42) ?_
  exact trivial
noncomputable def tX8_chooseVictims : List zzOp := [
  zo_aload 0 1,
  zo_iload 1 2,
  zo_callv zzSC (zz_cl [(7, fX10_needOf)]) 1 5,
  zo_none,
  zo_none,
  zo_aload 0 6,
  zo_iload 2 7,
  zo_callv zzSC (zz_cl [(7, fX8_roomLeft)]) 1 10,
  zo_none,
  zo_none,
  zo_ii (fun x y => x - y) 11,
  zo_istore 3 12,
  zo_pushI 0 13,
  zo_istore 4 15,
  zo_none,
  zo_pushI 0 16,
  zo_istore 5 18,
  zo_none,
  zo_iload 5 20,
  zo_none,
  zo_aload 0 21,
  zo_iload 1 22,
  zo_callv zzSC (zz_cl [(7, fX8_rankOf)]) 1 25,
  zo_none,
  zo_none,
  zo_icmp (fun x y => decide (y ≤ x)) 99 28,
  zo_none,
  zo_none,
  zo_aload 0 29,
  zo_getf zzSC (zz_kf [7] 2) 32,
  zo_none,
  zo_none,
  zo_pushI 1 33,
  zo_ii (fun x y => x - y) 34,
  zo_istore 6 36,
  zo_none,
  zo_iload 6 38,
  zo_none,
  zo_if (fun x => decide (x < 0)) 93 41,
  zo_none,
  zo_none,
  zo_iload 3 42,
  zo_if (fun x => decide (x ≤ 0)) 93 45,
  zo_none,
  zo_none,
  zo_aload 0 46,
  zo_iload 6 48,
  zo_none,
  zo_iload 2 49,
  zo_callv zzSC (zz_cl [(7, fX8_isVictim)]) 2 52,
  zo_none,
  zo_none,
  zo_if (fun x => decide (x = 0)) 87 55,
  zo_none,
  zo_none,
  zo_aload 0 56,
  zo_iload 6 58,
  zo_none,
  zo_callv zzSC (zz_cl [(7, fX8_rankOf)]) 1 61,
  zo_none,
  zo_none,
  zo_iload 5 63,
  zo_none,
  zo_icmp (fun x y => decide (¬ x = y)) 87 66,
  zo_none,
  zo_none,
  zo_aload 0 67,
  zo_getf zzSC (zz_kf [7] 14) 70,
  zo_none,
  zo_none,
  zo_iload 4 72,
  zo_none,
  zo_iload 6 74,
  zo_none,
  zo_iast zzSC 75,
  zo_iinc 4 1 78,
  zo_none,
  zo_none,
  zo_iload 3 79,
  zo_aload 0 80,
  zo_iload 6 82,
  zo_none,
  zo_callv zzSC (zz_cl [(7, fX10_needOf)]) 1 85,
  zo_none,
  zo_none,
  zo_ii (fun x y => x - y) 86,
  zo_istore 3 87,
  zo_iinc 6 (-1) 90,
  zo_none,
  zo_none,
  zo_goto 36,
  zo_none,
  zo_none,
  zo_iinc 5 1 96,
  zo_none,
  zo_none,
  zo_goto 18,
  zo_none,
  zo_none,
  zo_iload 3 100,
  zo_if (fun x => decide (x ≤ 0)) 107 103,
  zo_none,
  zo_none,
  zo_pushI (-1) 104,
  zo_goto 109,
  zo_none,
  zo_none,
  zo_iload 4 109,
  zo_none,
  zo_iret false]
set_option maxRecDepth 100000 in
theorem tl_X8_chooseVictims : ∀ pc, zz_Tl (tX8_chooseVictims.getD pc zo_none) := by
  refine zz_Tl_mem ?_
  unfold tX8_chooseVictims
  refine List.forall_mem_cons.mpr ⟨(zo_aload_tl _ _), ?_⟩
  refine List.forall_mem_cons.mpr ⟨(zo_iload_tl _ _), ?_⟩
  refine List.forall_mem_cons.mpr ⟨(zo_callv_tl _ _ _ _), ?_⟩
  refine List.forall_mem_cons.mpr ⟨zo_none_tl, ?_⟩
  refine List.forall_mem_cons.mpr ⟨zo_none_tl, ?_⟩
  refine List.forall_mem_cons.mpr ⟨(zo_aload_tl _ _), ?_⟩
  refine List.forall_mem_cons.mpr ⟨(zo_iload_tl _ _), ?_⟩
  refine List.forall_mem_cons.mpr ⟨(zo_callv_tl _ _ _ _), ?_⟩
  refine List.forall_mem_cons.mpr ⟨zo_none_tl, ?_⟩
  refine List.forall_mem_cons.mpr ⟨zo_none_tl, ?_⟩
  refine List.forall_mem_cons.mpr ⟨(zo_ii_tl _ _), ?_⟩
  refine List.forall_mem_cons.mpr ⟨(zo_istore_tl _ _), ?_⟩
  refine List.forall_mem_cons.mpr ⟨(zo_pushI_tl _ _), ?_⟩
  refine List.forall_mem_cons.mpr ⟨(zo_istore_tl _ _), ?_⟩
  refine List.forall_mem_cons.mpr ⟨zo_none_tl, ?_⟩
  refine List.forall_mem_cons.mpr ⟨(zo_pushI_tl _ _), ?_⟩
  refine List.forall_mem_cons.mpr ⟨(zo_istore_tl _ _), ?_⟩
  refine List.forall_mem_cons.mpr ⟨zo_none_tl, ?_⟩
  refine List.forall_mem_cons.mpr ⟨(zo_iload_tl _ _), ?_⟩
  refine List.forall_mem_cons.mpr ⟨zo_none_tl, ?_⟩
  refine List.forall_mem_cons.mpr ⟨(zo_aload_tl _ _), ?_⟩
  refine List.forall_mem_cons.mpr ⟨(zo_iload_tl _ _), ?_⟩
  refine List.forall_mem_cons.mpr ⟨(zo_callv_tl _ _ _ _), ?_⟩
  refine List.forall_mem_cons.mpr ⟨zo_none_tl, ?_⟩
  refine List.forall_mem_cons.mpr ⟨zo_none_tl, ?_⟩
  refine List.forall_mem_cons.mpr ⟨(zo_icmp_tl _ _ _), ?_⟩
  refine List.forall_mem_cons.mpr ⟨zo_none_tl, ?_⟩
  refine List.forall_mem_cons.mpr ⟨zo_none_tl, ?_⟩
  refine List.forall_mem_cons.mpr ⟨(zo_aload_tl _ _), ?_⟩
  refine List.forall_mem_cons.mpr ⟨(zo_getf_tl _ _ _), ?_⟩
  refine List.forall_mem_cons.mpr ⟨zo_none_tl, ?_⟩
  refine List.forall_mem_cons.mpr ⟨zo_none_tl, ?_⟩
  refine List.forall_mem_cons.mpr ⟨(zo_pushI_tl _ _), ?_⟩
  refine List.forall_mem_cons.mpr ⟨(zo_ii_tl _ _), ?_⟩
  refine List.forall_mem_cons.mpr ⟨(zo_istore_tl _ _), ?_⟩
  refine List.forall_mem_cons.mpr ⟨zo_none_tl, ?_⟩
  refine List.forall_mem_cons.mpr ⟨(zo_iload_tl _ _), ?_⟩
  refine List.forall_mem_cons.mpr ⟨zo_none_tl, ?_⟩
  refine List.forall_mem_cons.mpr ⟨(zo_if_tl _ _ _), ?_⟩
  refine List.forall_mem_cons.mpr ⟨zo_none_tl, ?_⟩
  refine List.forall_mem_cons.mpr ⟨zo_none_tl, ?_⟩
  refine List.forall_mem_cons.mpr ⟨(zo_iload_tl _ _), ?_⟩
  refine List.forall_mem_cons.mpr ⟨(zo_if_tl _ _ _), ?_⟩
  refine List.forall_mem_cons.mpr ⟨zo_none_tl, ?_⟩
  refine List.forall_mem_cons.mpr ⟨zo_none_tl, ?_⟩
  refine List.forall_mem_cons.mpr ⟨(zo_aload_tl _ _), ?_⟩
  refine List.forall_mem_cons.mpr ⟨(zo_iload_tl _ _), ?_⟩
  refine List.forall_mem_cons.mpr ⟨zo_none_tl, ?_⟩
  refine List.forall_mem_cons.mpr ⟨(zo_iload_tl _ _), ?_⟩
  refine List.forall_mem_cons.mpr ⟨(zo_callv_tl _ _ _ _), ?_⟩
  refine List.forall_mem_cons.mpr ⟨zo_none_tl, ?_⟩
  refine List.forall_mem_cons.mpr ⟨zo_none_tl, ?_⟩
  refine List.forall_mem_cons.mpr ⟨(zo_if_tl _ _ _), ?_⟩
  refine List.forall_mem_cons.mpr ⟨zo_none_tl, ?_⟩
  refine List.forall_mem_cons.mpr ⟨zo_none_tl, ?_⟩
  refine List.forall_mem_cons.mpr ⟨(zo_aload_tl _ _), ?_⟩
  refine List.forall_mem_cons.mpr ⟨(zo_iload_tl _ _), ?_⟩
  refine List.forall_mem_cons.mpr ⟨zo_none_tl, ?_⟩
  refine List.forall_mem_cons.mpr ⟨(zo_callv_tl _ _ _ _), ?_⟩
  refine List.forall_mem_cons.mpr ⟨zo_none_tl, ?_⟩
  refine List.forall_mem_cons.mpr ⟨zo_none_tl, ?_⟩
  refine List.forall_mem_cons.mpr ⟨(zo_iload_tl _ _), ?_⟩
  refine List.forall_mem_cons.mpr ⟨zo_none_tl, ?_⟩
  refine List.forall_mem_cons.mpr ⟨(zo_icmp_tl _ _ _), ?_⟩
  refine List.forall_mem_cons.mpr ⟨zo_none_tl, ?_⟩
  refine List.forall_mem_cons.mpr ⟨zo_none_tl, ?_⟩
  refine List.forall_mem_cons.mpr ⟨(zo_aload_tl _ _), ?_⟩
  refine List.forall_mem_cons.mpr ⟨(zo_getf_tl _ _ _), ?_⟩
  refine List.forall_mem_cons.mpr ⟨zo_none_tl, ?_⟩
  refine List.forall_mem_cons.mpr ⟨zo_none_tl, ?_⟩
  refine List.forall_mem_cons.mpr ⟨(zo_iload_tl _ _), ?_⟩
  refine List.forall_mem_cons.mpr ⟨zo_none_tl, ?_⟩
  refine List.forall_mem_cons.mpr ⟨(zo_iload_tl _ _), ?_⟩
  refine List.forall_mem_cons.mpr ⟨zo_none_tl, ?_⟩
  refine List.forall_mem_cons.mpr ⟨(zo_iast_tl _ _), ?_⟩
  refine List.forall_mem_cons.mpr ⟨(zo_iinc_tl _ _ _), ?_⟩
  refine List.forall_mem_cons.mpr ⟨zo_none_tl, ?_⟩
  refine List.forall_mem_cons.mpr ⟨zo_none_tl, ?_⟩
  refine List.forall_mem_cons.mpr ⟨(zo_iload_tl _ _), ?_⟩
  refine List.forall_mem_cons.mpr ⟨(zo_aload_tl _ _), ?_⟩
  refine List.forall_mem_cons.mpr ⟨(zo_iload_tl _ _), ?_⟩
  refine List.forall_mem_cons.mpr ⟨zo_none_tl, ?_⟩
  refine List.forall_mem_cons.mpr ⟨(zo_callv_tl _ _ _ _), ?_⟩
  refine List.forall_mem_cons.mpr ⟨zo_none_tl, ?_⟩
  refine List.forall_mem_cons.mpr ⟨zo_none_tl, ?_⟩
  refine List.forall_mem_cons.mpr ⟨(zo_ii_tl _ _), ?_⟩
  refine List.forall_mem_cons.mpr ⟨(zo_istore_tl _ _), ?_⟩
  refine List.forall_mem_cons.mpr ⟨(zo_iinc_tl _ _ _), ?_⟩
  refine List.forall_mem_cons.mpr ⟨zo_none_tl, ?_⟩
  refine List.forall_mem_cons.mpr ⟨zo_none_tl, ?_⟩
  refine List.forall_mem_cons.mpr ⟨(zo_goto_tl _), ?_⟩
  refine List.forall_mem_cons.mpr ⟨zo_none_tl, ?_⟩
  refine List.forall_mem_cons.mpr ⟨zo_none_tl, ?_⟩
  refine List.forall_mem_cons.mpr ⟨(zo_iinc_tl _ _ _), ?_⟩
  refine List.forall_mem_cons.mpr ⟨zo_none_tl, ?_⟩
  refine List.forall_mem_cons.mpr ⟨zo_none_tl, ?_⟩
  refine List.forall_mem_cons.mpr ⟨(zo_goto_tl _), ?_⟩
  refine List.forall_mem_cons.mpr ⟨zo_none_tl, ?_⟩
  refine List.forall_mem_cons.mpr ⟨zo_none_tl, ?_⟩
  refine List.forall_mem_cons.mpr ⟨(zo_iload_tl _ _), ?_⟩
  refine List.forall_mem_cons.mpr ⟨(zo_if_tl _ _ _), ?_⟩
  refine List.forall_mem_cons.mpr ⟨zo_none_tl, ?_⟩
  refine List.forall_mem_cons.mpr ⟨zo_none_tl, ?_⟩
  refine List.forall_mem_cons.mpr ⟨(zo_pushI_tl _ _), ?_⟩
  refine List.forall_mem_cons.mpr ⟨(zo_goto_tl _), ?_⟩
  refine List.forall_mem_cons.mpr ⟨zo_none_tl, ?_⟩
  refine List.forall_mem_cons.mpr ⟨zo_none_tl, ?_⟩
  refine List.forall_mem_cons.mpr ⟨(zo_iload_tl _ _), ?_⟩
  refine List.forall_mem_cons.mpr ⟨zo_none_tl, ?_⟩
  refine List.forall_mem_cons.mpr ⟨(zo_iret_tl _), ?_⟩
  exact fun _ h => absurd h List.not_mem_nil
noncomputable def fX8_chooseVictims : zzFn := zz_fn tX8_chooseVictims 7
set_option maxRecDepth 100000 in
set_option maxHeartbeats 4000000 in
theorem mm_X8_chooseVictims {l : Launch} {D : va_G} {cA : Nat → ClassId} {ad : Nat → Nat} {Ex : (Nat → Prop) → State → Heap → Prop} (Wd : zzWC l D cA ad Ex) : zz_Cn l D zzCl cA ad zzSC Ex yX8_chooseVictims cX8_chooseVictims 7 (some .int) 3 67 fX8_chooseVictims ∧ zz_Cx l D zzCl cA ad zzSC Ex yX8_chooseVictims cX8_chooseVictims 7 (some .int) 3 67 fX8_chooseVictims := by
  refine zz_meth (plainFor_of_name (by decide)) Wd.1 Wd.2.1 Wd.2.2.1 (fun p e R s m args below meth c rr X => ?_)
  unfold tX8_chooseVictims
  refine zz_cons (k' := 1) rfl (zk_aload_n X dX8_chooseVictims_0 rfl rfl) ?_
  refine zz_cons (k' := 2) rfl (zk_iload_n X dX8_chooseVictims_1 rfl rfl) ?_
  refine zz_cons (k' := 3) rfl (zk_callv X (zz_Cv_of (List.forall_mem_cons.mpr ⟨⟨(RX_7, zzT7, 15), yX10_needOf, cX10_needOf, 2, (some .int), 1, 22, rfl, kv_X8_48_7, (mm_X10_needOf Wd).1, by decide, by decide⟩, (fun _ h => absurd h List.not_mem_nil)⟩)) dX8_chooseVictims_2 rfl) ?_
  refine zz_cons (k' := 4) rfl (zz_Ok_none _ _) ?_
  refine zz_cons (k' := 5) rfl (zz_Ok_none _ _) ?_
  refine zz_cons (k' := 6) rfl (zk_aload_n X dX8_chooseVictims_5 rfl rfl) ?_
  refine zz_cons (k' := 7) rfl (zk_iload_n X dX8_chooseVictims_6 rfl rfl) ?_
  refine zz_cons (k' := 8) rfl (zk_callv X (zz_Cv_of (List.forall_mem_cons.mpr ⟨⟨(RX_7, zzT7, 15), yX8_roomLeft, cX8_roomLeft, 2, (some .int), 1, 22, rfl, kv_X8_78_7.1, (mm_X8_roomLeft Wd).1, by decide, by decide⟩, (fun _ h => absurd h List.not_mem_nil)⟩)) dX8_chooseVictims_7 rfl) ?_
  refine zz_cons (k' := 9) rfl (zz_Ok_none _ _) ?_
  refine zz_cons (k' := 10) rfl (zz_Ok_none _ _) ?_
  refine zz_cons (k' := 11) rfl (zk_isub X dX8_chooseVictims_10 rfl) ?_
  refine zz_cons (k' := 12) rfl (zk_istore_n X dX8_chooseVictims_11 rfl (by decide) rfl) ?_
  refine zz_cons (k' := 13) rfl (zk_iconst X dX8_chooseVictims_12 (by decide) rfl) ?_
  refine zz_cons (k' := 14) rfl (zk_istore X dX8_chooseVictims_13 (by decide) rfl) ?_
  refine zz_cons (k' := 15) rfl (zz_Ok_none _ _) ?_
  refine zz_cons (k' := 16) rfl (zk_iconst X dX8_chooseVictims_15 (by decide) rfl) ?_
  refine zz_cons (k' := 17) rfl (zk_istore X dX8_chooseVictims_16 (by decide) rfl) ?_
  refine zz_cons (k' := 18) rfl (zz_Ok_none _ _) ?_
  refine zz_cons (k' := 19) rfl (zk_iload X dX8_chooseVictims_18 rfl) ?_
  refine zz_cons (k' := 20) rfl (zz_Ok_none _ _) ?_
  refine zz_cons (k' := 21) rfl (zk_aload_n X dX8_chooseVictims_20 rfl rfl) ?_
  refine zz_cons (k' := 22) rfl (zk_iload_n X dX8_chooseVictims_21 rfl rfl) ?_
  refine zz_cons (k' := 23) rfl (zk_callv X (zz_Cv_of (List.forall_mem_cons.mpr ⟨⟨(RX_7, zzT7, 15), yX8_rankOf, cX8_rankOf, 2, (some .int), 1, 22, rfl, kv_X8_87_7.1, (mm_X8_rankOf Wd).1, by decide, by decide⟩, (fun _ h => absurd h List.not_mem_nil)⟩)) dX8_chooseVictims_22 rfl) ?_
  refine zz_cons (k' := 24) rfl (zz_Ok_none _ _) ?_
  refine zz_cons (k' := 25) rfl (zz_Ok_none _ _) ?_
  refine zz_cons (k' := 26) rfl (zk_icmp_ge X dX8_chooseVictims_25 (by decide) rfl) ?_
  refine zz_cons (k' := 27) rfl (zz_Ok_none _ _) ?_
  refine zz_cons (k' := 28) rfl (zz_Ok_none _ _) ?_
  refine zz_cons (k' := 29) rfl (zk_aload_n X dX8_chooseVictims_28 rfl rfl) ?_
  refine zz_cons (k' := 30) rfl (zk_getf X ff_X8_21 dX8_chooseVictims_29 rfl) ?_
  refine zz_cons (k' := 31) rfl (zz_Ok_none _ _) ?_
  refine zz_cons (k' := 32) rfl (zz_Ok_none _ _) ?_
  refine zz_cons (k' := 33) rfl (zk_iconst X dX8_chooseVictims_32 (by decide) rfl) ?_
  refine zz_cons (k' := 34) rfl (zk_isub X dX8_chooseVictims_33 rfl) ?_
  refine zz_cons (k' := 35) rfl (zk_istore X dX8_chooseVictims_34 (by decide) rfl) ?_
  refine zz_cons (k' := 36) rfl (zz_Ok_none _ _) ?_
  refine zz_cons (k' := 37) rfl (zk_iload X dX8_chooseVictims_36 rfl) ?_
  refine zz_cons (k' := 38) rfl (zz_Ok_none _ _) ?_
  refine zz_cons (k' := 39) rfl (zk_if_lt X dX8_chooseVictims_38 (by decide) rfl) ?_
  refine zz_cons (k' := 40) rfl (zz_Ok_none _ _) ?_
  refine zz_cons (k' := 41) rfl (zz_Ok_none _ _) ?_
  refine zz_cons (k' := 42) rfl (zk_iload_n X dX8_chooseVictims_41 rfl rfl) ?_
  refine zz_cons (k' := 43) rfl (zk_if_le X dX8_chooseVictims_42 (by decide) rfl) ?_
  refine zz_cons (k' := 44) rfl (zz_Ok_none _ _) ?_
  refine zz_cons (k' := 45) rfl (zz_Ok_none _ _) ?_
  refine zz_cons (k' := 46) rfl (zk_aload_n X dX8_chooseVictims_45 rfl rfl) ?_
  refine zz_cons (k' := 47) rfl (zk_iload X dX8_chooseVictims_46 rfl) ?_
  refine zz_cons (k' := 48) rfl (zz_Ok_none _ _) ?_
  refine zz_cons (k' := 49) rfl (zk_iload_n X dX8_chooseVictims_48 rfl rfl) ?_
  refine zz_cons (k' := 50) rfl (zk_callv X (zz_Cv_of (List.forall_mem_cons.mpr ⟨⟨(RX_7, zzT7, 15), yX8_isVictim, cX8_isVictim, 4, (some .boolean), 2, 44, rfl, kv_X8_90_7.1, (mm_X8_isVictim Wd).1, by decide, by decide⟩, (fun _ h => absurd h List.not_mem_nil)⟩)) dX8_chooseVictims_49 rfl) ?_
  refine zz_cons (k' := 51) rfl (zz_Ok_none _ _) ?_
  refine zz_cons (k' := 52) rfl (zz_Ok_none _ _) ?_
  refine zz_cons (k' := 53) rfl (zk_if_eq X dX8_chooseVictims_52 (by decide) rfl) ?_
  refine zz_cons (k' := 54) rfl (zz_Ok_none _ _) ?_
  refine zz_cons (k' := 55) rfl (zz_Ok_none _ _) ?_
  refine zz_cons (k' := 56) rfl (zk_aload_n X dX8_chooseVictims_55 rfl rfl) ?_
  refine zz_cons (k' := 57) rfl (zk_iload X dX8_chooseVictims_56 rfl) ?_
  refine zz_cons (k' := 58) rfl (zz_Ok_none _ _) ?_
  refine zz_cons (k' := 59) rfl (zk_callv X (zz_Cv_of (List.forall_mem_cons.mpr ⟨⟨(RX_7, zzT7, 15), yX8_rankOf, cX8_rankOf, 2, (some .int), 1, 22, rfl, kv_X8_87_7.1, (mm_X8_rankOf Wd).1, by decide, by decide⟩, (fun _ h => absurd h List.not_mem_nil)⟩)) dX8_chooseVictims_58 rfl) ?_
  refine zz_cons (k' := 60) rfl (zz_Ok_none _ _) ?_
  refine zz_cons (k' := 61) rfl (zz_Ok_none _ _) ?_
  refine zz_cons (k' := 62) rfl (zk_iload X dX8_chooseVictims_61 rfl) ?_
  refine zz_cons (k' := 63) rfl (zz_Ok_none _ _) ?_
  refine zz_cons (k' := 64) rfl (zk_icmp_ne X dX8_chooseVictims_63 (by decide) rfl) ?_
  refine zz_cons (k' := 65) rfl (zz_Ok_none _ _) ?_
  refine zz_cons (k' := 66) rfl (zz_Ok_none _ _) ?_
  refine zz_cons (k' := 67) rfl (zk_aload_n X dX8_chooseVictims_66 rfl rfl) ?_
  refine zz_cons (k' := 68) rfl (zk_getf X ff_X8_18 dX8_chooseVictims_67 rfl) ?_
  refine zz_cons (k' := 69) rfl (zz_Ok_none _ _) ?_
  refine zz_cons (k' := 70) rfl (zz_Ok_none _ _) ?_
  refine zz_cons (k' := 71) rfl (zk_iload X dX8_chooseVictims_70 rfl) ?_
  refine zz_cons (k' := 72) rfl (zz_Ok_none _ _) ?_
  refine zz_cons (k' := 73) rfl (zk_iload X dX8_chooseVictims_72 rfl) ?_
  refine zz_cons (k' := 74) rfl (zz_Ok_none _ _) ?_
  refine zz_cons (k' := 75) rfl (zk_iast X dX8_chooseVictims_74 rfl) ?_
  refine zz_cons (k' := 76) rfl (zk_iinc X dX8_chooseVictims_75 (by decide) (by decide) rfl) ?_
  refine zz_cons (k' := 77) rfl (zz_Ok_none _ _) ?_
  refine zz_cons (k' := 78) rfl (zz_Ok_none _ _) ?_
  refine zz_cons (k' := 79) rfl (zk_iload_n X dX8_chooseVictims_78 rfl rfl) ?_
  refine zz_cons (k' := 80) rfl (zk_aload_n X dX8_chooseVictims_79 rfl rfl) ?_
  refine zz_cons (k' := 81) rfl (zk_iload X dX8_chooseVictims_80 rfl) ?_
  refine zz_cons (k' := 82) rfl (zz_Ok_none _ _) ?_
  refine zz_cons (k' := 83) rfl (zk_callv X (zz_Cv_of (List.forall_mem_cons.mpr ⟨⟨(RX_7, zzT7, 15), yX10_needOf, cX10_needOf, 2, (some .int), 1, 22, rfl, kv_X8_48_7, (mm_X10_needOf Wd).1, by decide, by decide⟩, (fun _ h => absurd h List.not_mem_nil)⟩)) dX8_chooseVictims_82 rfl) ?_
  refine zz_cons (k' := 84) rfl (zz_Ok_none _ _) ?_
  refine zz_cons (k' := 85) rfl (zz_Ok_none _ _) ?_
  refine zz_cons (k' := 86) rfl (zk_isub X dX8_chooseVictims_85 rfl) ?_
  refine zz_cons (k' := 87) rfl (zk_istore_n X dX8_chooseVictims_86 rfl (by decide) rfl) ?_
  refine zz_cons (k' := 88) rfl (zk_iinc X dX8_chooseVictims_87 (by decide) (by decide) rfl) ?_
  refine zz_cons (k' := 89) rfl (zz_Ok_none _ _) ?_
  refine zz_cons (k' := 90) rfl (zz_Ok_none _ _) ?_
  refine zz_cons (k' := 91) rfl (zk_goto X dX8_chooseVictims_90 (by decide)) ?_
  refine zz_cons (k' := 92) rfl (zz_Ok_none _ _) ?_
  refine zz_cons (k' := 93) rfl (zz_Ok_none _ _) ?_
  refine zz_cons (k' := 94) rfl (zk_iinc X dX8_chooseVictims_93 (by decide) (by decide) rfl) ?_
  refine zz_cons (k' := 95) rfl (zz_Ok_none _ _) ?_
  refine zz_cons (k' := 96) rfl (zz_Ok_none _ _) ?_
  refine zz_cons (k' := 97) rfl (zk_goto X dX8_chooseVictims_96 (by decide)) ?_
  refine zz_cons (k' := 98) rfl (zz_Ok_none _ _) ?_
  refine zz_cons (k' := 99) rfl (zz_Ok_none _ _) ?_
  refine zz_cons (k' := 100) rfl (zk_iload_n X dX8_chooseVictims_99 rfl rfl) ?_
  refine zz_cons (k' := 101) rfl (zk_if_le X dX8_chooseVictims_100 (by decide) rfl) ?_
  refine zz_cons (k' := 102) rfl (zz_Ok_none _ _) ?_
  refine zz_cons (k' := 103) rfl (zz_Ok_none _ _) ?_
  refine zz_cons (k' := 104) rfl (zk_iconst X dX8_chooseVictims_103 (by decide) rfl) ?_
  refine zz_cons (k' := 105) rfl (zk_goto X dX8_chooseVictims_104 (by decide)) ?_
  refine zz_cons (k' := 106) rfl (zz_Ok_none _ _) ?_
  refine zz_cons (k' := 107) rfl (zz_Ok_none _ _) ?_
  refine zz_cons (k' := 108) rfl (zk_iload X dX8_chooseVictims_107 rfl) ?_
  refine zz_cons (k' := 109) rfl (zz_Ok_none _ _) ?_
  refine zz_cons (k' := 110) rfl (zk_iret X rfl dX8_chooseVictims_109) ?_
  exact trivial
noncomputable def tX8_preempt : List zzOp := [
  zo_pushI (-1) 1,
  zo_istore 2 2,
  zo_pushI 61 4,
  zo_none,
  zo_istore 3 5,
  zo_pushI 0 6,
  zo_istore 4 8,
  zo_none,
  zo_iload 4 10,
  zo_none,
  zo_aload 0 11,
  zo_getf zzSC (zz_kf [7] 2) 14,
  zo_none,
  zo_none,
  zo_icmp (fun x y => decide (y ≤ x)) 63 17,
  zo_none,
  zo_none,
  zo_aload 0 18,
  zo_iload 4 20,
  zo_none,
  zo_callv zzSC (zz_cl [(7, fX8_isOpen)]) 1 23,
  zo_none,
  zo_none,
  zo_if (fun x => decide (x = 0)) 36 26,
  zo_none,
  zo_none,
  zo_aload 0 27,
  zo_iload 1 28,
  zo_iload 4 30,
  zo_none,
  zo_callv zzSC (zz_cl [(7, fX8_chooseVictims)]) 2 33,
  zo_none,
  zo_none,
  zo_goto 37,
  zo_none,
  zo_none,
  zo_pushI (-1) 37,
  zo_istore 5 39,
  zo_none,
  zo_iload 5 41,
  zo_none,
  zo_pushI (-1) 42,
  zo_icmp (fun x y => decide (x = y)) 57 45,
  zo_none,
  zo_none,
  zo_iload 5 47,
  zo_none,
  zo_iload 3 48,
  zo_icmp (fun x y => decide (y ≤ x)) 57 51,
  zo_none,
  zo_none,
  zo_iload 4 53,
  zo_none,
  zo_istore 2 54,
  zo_iload 5 56,
  zo_none,
  zo_istore 3 57,
  zo_iinc 4 1 60,
  zo_none,
  zo_none,
  zo_goto 8,
  zo_none,
  zo_none,
  zo_iload 2 64,
  zo_pushI (-1) 65,
  zo_icmp (fun x y => decide (¬ x = y)) 72 68,
  zo_none,
  zo_none,
  zo_pushI 0 69,
  zo_goto 78,
  zo_none,
  zo_none,
  zo_aload 0 73,
  zo_iload 1 74,
  zo_iload 2 75,
  zo_callv zzSC (zz_cl [(7, fX8_chooseVictims)]) 2 78,
  zo_none,
  zo_none,
  zo_iret false]
set_option maxRecDepth 100000 in
theorem tl_X8_preempt : ∀ pc, zz_Tl (tX8_preempt.getD pc zo_none) := by
  refine zz_Tl_mem ?_
  unfold tX8_preempt
  refine List.forall_mem_cons.mpr ⟨(zo_pushI_tl _ _), ?_⟩
  refine List.forall_mem_cons.mpr ⟨(zo_istore_tl _ _), ?_⟩
  refine List.forall_mem_cons.mpr ⟨(zo_pushI_tl _ _), ?_⟩
  refine List.forall_mem_cons.mpr ⟨zo_none_tl, ?_⟩
  refine List.forall_mem_cons.mpr ⟨(zo_istore_tl _ _), ?_⟩
  refine List.forall_mem_cons.mpr ⟨(zo_pushI_tl _ _), ?_⟩
  refine List.forall_mem_cons.mpr ⟨(zo_istore_tl _ _), ?_⟩
  refine List.forall_mem_cons.mpr ⟨zo_none_tl, ?_⟩
  refine List.forall_mem_cons.mpr ⟨(zo_iload_tl _ _), ?_⟩
  refine List.forall_mem_cons.mpr ⟨zo_none_tl, ?_⟩
  refine List.forall_mem_cons.mpr ⟨(zo_aload_tl _ _), ?_⟩
  refine List.forall_mem_cons.mpr ⟨(zo_getf_tl _ _ _), ?_⟩
  refine List.forall_mem_cons.mpr ⟨zo_none_tl, ?_⟩
  refine List.forall_mem_cons.mpr ⟨zo_none_tl, ?_⟩
  refine List.forall_mem_cons.mpr ⟨(zo_icmp_tl _ _ _), ?_⟩
  refine List.forall_mem_cons.mpr ⟨zo_none_tl, ?_⟩
  refine List.forall_mem_cons.mpr ⟨zo_none_tl, ?_⟩
  refine List.forall_mem_cons.mpr ⟨(zo_aload_tl _ _), ?_⟩
  refine List.forall_mem_cons.mpr ⟨(zo_iload_tl _ _), ?_⟩
  refine List.forall_mem_cons.mpr ⟨zo_none_tl, ?_⟩
  refine List.forall_mem_cons.mpr ⟨(zo_callv_tl _ _ _ _), ?_⟩
  refine List.forall_mem_cons.mpr ⟨zo_none_tl, ?_⟩
  refine List.forall_mem_cons.mpr ⟨zo_none_tl, ?_⟩
  refine List.forall_mem_cons.mpr ⟨(zo_if_tl _ _ _), ?_⟩
  refine List.forall_mem_cons.mpr ⟨zo_none_tl, ?_⟩
  refine List.forall_mem_cons.mpr ⟨zo_none_tl, ?_⟩
  refine List.forall_mem_cons.mpr ⟨(zo_aload_tl _ _), ?_⟩
  refine List.forall_mem_cons.mpr ⟨(zo_iload_tl _ _), ?_⟩
  refine List.forall_mem_cons.mpr ⟨(zo_iload_tl _ _), ?_⟩
  refine List.forall_mem_cons.mpr ⟨zo_none_tl, ?_⟩
  refine List.forall_mem_cons.mpr ⟨(zo_callv_tl _ _ _ _), ?_⟩
  refine List.forall_mem_cons.mpr ⟨zo_none_tl, ?_⟩
  refine List.forall_mem_cons.mpr ⟨zo_none_tl, ?_⟩
  refine List.forall_mem_cons.mpr ⟨(zo_goto_tl _), ?_⟩
  refine List.forall_mem_cons.mpr ⟨zo_none_tl, ?_⟩
  refine List.forall_mem_cons.mpr ⟨zo_none_tl, ?_⟩
  refine List.forall_mem_cons.mpr ⟨(zo_pushI_tl _ _), ?_⟩
  refine List.forall_mem_cons.mpr ⟨(zo_istore_tl _ _), ?_⟩
  refine List.forall_mem_cons.mpr ⟨zo_none_tl, ?_⟩
  refine List.forall_mem_cons.mpr ⟨(zo_iload_tl _ _), ?_⟩
  refine List.forall_mem_cons.mpr ⟨zo_none_tl, ?_⟩
  refine List.forall_mem_cons.mpr ⟨(zo_pushI_tl _ _), ?_⟩
  refine List.forall_mem_cons.mpr ⟨(zo_icmp_tl _ _ _), ?_⟩
  refine List.forall_mem_cons.mpr ⟨zo_none_tl, ?_⟩
  refine List.forall_mem_cons.mpr ⟨zo_none_tl, ?_⟩
  refine List.forall_mem_cons.mpr ⟨(zo_iload_tl _ _), ?_⟩
  refine List.forall_mem_cons.mpr ⟨zo_none_tl, ?_⟩
  refine List.forall_mem_cons.mpr ⟨(zo_iload_tl _ _), ?_⟩
  refine List.forall_mem_cons.mpr ⟨(zo_icmp_tl _ _ _), ?_⟩
  refine List.forall_mem_cons.mpr ⟨zo_none_tl, ?_⟩
  refine List.forall_mem_cons.mpr ⟨zo_none_tl, ?_⟩
  refine List.forall_mem_cons.mpr ⟨(zo_iload_tl _ _), ?_⟩
  refine List.forall_mem_cons.mpr ⟨zo_none_tl, ?_⟩
  refine List.forall_mem_cons.mpr ⟨(zo_istore_tl _ _), ?_⟩
  refine List.forall_mem_cons.mpr ⟨(zo_iload_tl _ _), ?_⟩
  refine List.forall_mem_cons.mpr ⟨zo_none_tl, ?_⟩
  refine List.forall_mem_cons.mpr ⟨(zo_istore_tl _ _), ?_⟩
  refine List.forall_mem_cons.mpr ⟨(zo_iinc_tl _ _ _), ?_⟩
  refine List.forall_mem_cons.mpr ⟨zo_none_tl, ?_⟩
  refine List.forall_mem_cons.mpr ⟨zo_none_tl, ?_⟩
  refine List.forall_mem_cons.mpr ⟨(zo_goto_tl _), ?_⟩
  refine List.forall_mem_cons.mpr ⟨zo_none_tl, ?_⟩
  refine List.forall_mem_cons.mpr ⟨zo_none_tl, ?_⟩
  refine List.forall_mem_cons.mpr ⟨(zo_iload_tl _ _), ?_⟩
  refine List.forall_mem_cons.mpr ⟨(zo_pushI_tl _ _), ?_⟩
  refine List.forall_mem_cons.mpr ⟨(zo_icmp_tl _ _ _), ?_⟩
  refine List.forall_mem_cons.mpr ⟨zo_none_tl, ?_⟩
  refine List.forall_mem_cons.mpr ⟨zo_none_tl, ?_⟩
  refine List.forall_mem_cons.mpr ⟨(zo_pushI_tl _ _), ?_⟩
  refine List.forall_mem_cons.mpr ⟨(zo_goto_tl _), ?_⟩
  refine List.forall_mem_cons.mpr ⟨zo_none_tl, ?_⟩
  refine List.forall_mem_cons.mpr ⟨zo_none_tl, ?_⟩
  refine List.forall_mem_cons.mpr ⟨(zo_aload_tl _ _), ?_⟩
  refine List.forall_mem_cons.mpr ⟨(zo_iload_tl _ _), ?_⟩
  refine List.forall_mem_cons.mpr ⟨(zo_iload_tl _ _), ?_⟩
  refine List.forall_mem_cons.mpr ⟨(zo_callv_tl _ _ _ _), ?_⟩
  refine List.forall_mem_cons.mpr ⟨zo_none_tl, ?_⟩
  refine List.forall_mem_cons.mpr ⟨zo_none_tl, ?_⟩
  refine List.forall_mem_cons.mpr ⟨(zo_iret_tl _), ?_⟩
  exact fun _ h => absurd h List.not_mem_nil
noncomputable def fX8_preempt : zzFn := zz_fn tX8_preempt 6
set_option maxRecDepth 100000 in
set_option maxHeartbeats 4000000 in
theorem mm_X8_preempt {l : Launch} {D : va_G} {cA : Nat → ClassId} {ad : Nat → Nat} {Ex : (Nat → Prop) → State → Heap → Prop} (Wd : zzWC l D cA ad Ex) : zz_Cn l D zzCl cA ad zzSC Ex yX8_preempt cX8_preempt 6 (some .int) 4 93 fX8_preempt ∧ zz_Cx l D zzCl cA ad zzSC Ex yX8_preempt cX8_preempt 6 (some .int) 4 93 fX8_preempt := by
  refine zz_meth (plainFor_of_name (by decide)) Wd.1 Wd.2.1 Wd.2.2.1 (fun p e R s m args below meth c rr X => ?_)
  unfold tX8_preempt
  refine zz_cons (k' := 1) rfl (zk_iconst X dX8_preempt_0 (by decide) rfl) ?_
  refine zz_cons (k' := 2) rfl (zk_istore_n X dX8_preempt_1 rfl (by decide) rfl) ?_
  refine zz_cons (k' := 3) rfl (zk_bipush X dX8_preempt_2 (by decide) rfl) ?_
  refine zz_cons (k' := 4) rfl (zz_Ok_none _ _) ?_
  refine zz_cons (k' := 5) rfl (zk_istore_n X dX8_preempt_4 rfl (by decide) rfl) ?_
  refine zz_cons (k' := 6) rfl (zk_iconst X dX8_preempt_5 (by decide) rfl) ?_
  refine zz_cons (k' := 7) rfl (zk_istore X dX8_preempt_6 (by decide) rfl) ?_
  refine zz_cons (k' := 8) rfl (zz_Ok_none _ _) ?_
  refine zz_cons (k' := 9) rfl (zk_iload X dX8_preempt_8 rfl) ?_
  refine zz_cons (k' := 10) rfl (zz_Ok_none _ _) ?_
  refine zz_cons (k' := 11) rfl (zk_aload_n X dX8_preempt_10 rfl rfl) ?_
  refine zz_cons (k' := 12) rfl (zk_getf X ff_X8_21 dX8_preempt_11 rfl) ?_
  refine zz_cons (k' := 13) rfl (zz_Ok_none _ _) ?_
  refine zz_cons (k' := 14) rfl (zz_Ok_none _ _) ?_
  refine zz_cons (k' := 15) rfl (zk_icmp_ge X dX8_preempt_14 (by decide) rfl) ?_
  refine zz_cons (k' := 16) rfl (zz_Ok_none _ _) ?_
  refine zz_cons (k' := 17) rfl (zz_Ok_none _ _) ?_
  refine zz_cons (k' := 18) rfl (zk_aload_n X dX8_preempt_17 rfl rfl) ?_
  refine zz_cons (k' := 19) rfl (zk_iload X dX8_preempt_18 rfl) ?_
  refine zz_cons (k' := 20) rfl (zz_Ok_none _ _) ?_
  refine zz_cons (k' := 21) rfl (zk_callv X (zz_Cv_of (List.forall_mem_cons.mpr ⟨⟨(RX_7, zzT7, 15), yX8_isOpen, cX8_isOpen, 2, (some .boolean), 2, 44, rfl, kv_X8_75_7.1, (mm_X8_isOpen Wd).1, by decide, by decide⟩, (fun _ h => absurd h List.not_mem_nil)⟩)) dX8_preempt_20 rfl) ?_
  refine zz_cons (k' := 22) rfl (zz_Ok_none _ _) ?_
  refine zz_cons (k' := 23) rfl (zz_Ok_none _ _) ?_
  refine zz_cons (k' := 24) rfl (zk_if_eq X dX8_preempt_23 (by decide) rfl) ?_
  refine zz_cons (k' := 25) rfl (zz_Ok_none _ _) ?_
  refine zz_cons (k' := 26) rfl (zz_Ok_none _ _) ?_
  refine zz_cons (k' := 27) rfl (zk_aload_n X dX8_preempt_26 rfl rfl) ?_
  refine zz_cons (k' := 28) rfl (zk_iload_n X dX8_preempt_27 rfl rfl) ?_
  refine zz_cons (k' := 29) rfl (zk_iload X dX8_preempt_28 rfl) ?_
  refine zz_cons (k' := 30) rfl (zz_Ok_none _ _) ?_
  refine zz_cons (k' := 31) rfl (zk_callv X (zz_Cv_of (List.forall_mem_cons.mpr ⟨⟨(RX_7, zzT7, 15), yX8_chooseVictims, cX8_chooseVictims, 7, (some .int), 3, 67, rfl, kv_X8_84_7.1, (mm_X8_chooseVictims Wd).1, by decide, by decide⟩, (fun _ h => absurd h List.not_mem_nil)⟩)) dX8_preempt_30 rfl) ?_
  refine zz_cons (k' := 32) rfl (zz_Ok_none _ _) ?_
  refine zz_cons (k' := 33) rfl (zz_Ok_none _ _) ?_
  refine zz_cons (k' := 34) rfl (zk_goto X dX8_preempt_33 (by decide)) ?_
  refine zz_cons (k' := 35) rfl (zz_Ok_none _ _) ?_
  refine zz_cons (k' := 36) rfl (zz_Ok_none _ _) ?_
  refine zz_cons (k' := 37) rfl (zk_iconst X dX8_preempt_36 (by decide) rfl) ?_
  refine zz_cons (k' := 38) rfl (zk_istore X dX8_preempt_37 (by decide) rfl) ?_
  refine zz_cons (k' := 39) rfl (zz_Ok_none _ _) ?_
  refine zz_cons (k' := 40) rfl (zk_iload X dX8_preempt_39 rfl) ?_
  refine zz_cons (k' := 41) rfl (zz_Ok_none _ _) ?_
  refine zz_cons (k' := 42) rfl (zk_iconst X dX8_preempt_41 (by decide) rfl) ?_
  refine zz_cons (k' := 43) rfl (zk_icmp_eq X dX8_preempt_42 (by decide) rfl) ?_
  refine zz_cons (k' := 44) rfl (zz_Ok_none _ _) ?_
  refine zz_cons (k' := 45) rfl (zz_Ok_none _ _) ?_
  refine zz_cons (k' := 46) rfl (zk_iload X dX8_preempt_45 rfl) ?_
  refine zz_cons (k' := 47) rfl (zz_Ok_none _ _) ?_
  refine zz_cons (k' := 48) rfl (zk_iload_n X dX8_preempt_47 rfl rfl) ?_
  refine zz_cons (k' := 49) rfl (zk_icmp_ge X dX8_preempt_48 (by decide) rfl) ?_
  refine zz_cons (k' := 50) rfl (zz_Ok_none _ _) ?_
  refine zz_cons (k' := 51) rfl (zz_Ok_none _ _) ?_
  refine zz_cons (k' := 52) rfl (zk_iload X dX8_preempt_51 rfl) ?_
  refine zz_cons (k' := 53) rfl (zz_Ok_none _ _) ?_
  refine zz_cons (k' := 54) rfl (zk_istore_n X dX8_preempt_53 rfl (by decide) rfl) ?_
  refine zz_cons (k' := 55) rfl (zk_iload X dX8_preempt_54 rfl) ?_
  refine zz_cons (k' := 56) rfl (zz_Ok_none _ _) ?_
  refine zz_cons (k' := 57) rfl (zk_istore_n X dX8_preempt_56 rfl (by decide) rfl) ?_
  refine zz_cons (k' := 58) rfl (zk_iinc X dX8_preempt_57 (by decide) (by decide) rfl) ?_
  refine zz_cons (k' := 59) rfl (zz_Ok_none _ _) ?_
  refine zz_cons (k' := 60) rfl (zz_Ok_none _ _) ?_
  refine zz_cons (k' := 61) rfl (zk_goto X dX8_preempt_60 (by decide)) ?_
  refine zz_cons (k' := 62) rfl (zz_Ok_none _ _) ?_
  refine zz_cons (k' := 63) rfl (zz_Ok_none _ _) ?_
  refine zz_cons (k' := 64) rfl (zk_iload_n X dX8_preempt_63 rfl rfl) ?_
  refine zz_cons (k' := 65) rfl (zk_iconst X dX8_preempt_64 (by decide) rfl) ?_
  refine zz_cons (k' := 66) rfl (zk_icmp_ne X dX8_preempt_65 (by decide) rfl) ?_
  refine zz_cons (k' := 67) rfl (zz_Ok_none _ _) ?_
  refine zz_cons (k' := 68) rfl (zz_Ok_none _ _) ?_
  refine zz_cons (k' := 69) rfl (zk_iconst X dX8_preempt_68 (by decide) rfl) ?_
  refine zz_cons (k' := 70) rfl (zk_goto X dX8_preempt_69 (by decide)) ?_
  refine zz_cons (k' := 71) rfl (zz_Ok_none _ _) ?_
  refine zz_cons (k' := 72) rfl (zz_Ok_none _ _) ?_
  refine zz_cons (k' := 73) rfl (zk_aload_n X dX8_preempt_72 rfl rfl) ?_
  refine zz_cons (k' := 74) rfl (zk_iload_n X dX8_preempt_73 rfl rfl) ?_
  refine zz_cons (k' := 75) rfl (zk_iload_n X dX8_preempt_74 rfl rfl) ?_
  refine zz_cons (k' := 76) rfl (zk_callv X (zz_Cv_of (List.forall_mem_cons.mpr ⟨⟨(RX_7, zzT7, 15), yX8_chooseVictims, cX8_chooseVictims, 7, (some .int), 3, 67, rfl, kv_X8_84_7.1, (mm_X8_chooseVictims Wd).1, by decide, by decide⟩, (fun _ h => absurd h List.not_mem_nil)⟩)) dX8_preempt_75 rfl) ?_
  refine zz_cons (k' := 77) rfl (zz_Ok_none _ _) ?_
  refine zz_cons (k' := 78) rfl (zz_Ok_none _ _) ?_
  refine zz_cons (k' := 79) rfl (zk_iret X rfl dX8_preempt_78) ?_
  exact trivial
noncomputable def tX8_serve : List zzOp := [
  zo_aload 0 1,
  zo_iload 1 2,
  zo_callv zzSC (zz_cl [(7, fX8_isWithoutPlace)]) 1 5,
  zo_none,
  zo_none,
  zo_if (fun x => decide (¬ x = 0)) 10 8,
  zo_none,
  zo_none,
  zo_pushI 1 9,
  zo_iret false,
  zo_aload 0 11,
  zo_callv zzSC (zz_cl [(7, fX8_countUsed)]) 0 14,
  zo_none,
  zo_none,
  zo_aload 0 15,
  zo_aload 0 16,
  zo_iload 1 17,
  zo_pushI 24 19,
  zo_none,
  zo_callv zzSC (zz_cl [(7, fX10_read)]) 2 22,
  zo_none,
  zo_none,
  zo_callv zzSC (zz_cl [(7, fX8_countMates)]) 1 25,
  zo_none,
  zo_none,
  zo_aload 0 26,
  zo_aload 0 27,
  zo_iload 1 28,
  zo_callv zzSC (zz_cl [(7, fX10_needOf)]) 1 31,
  zo_none,
  zo_none,
  zo_callv zzSC (zz_cl [(7, fX8_bestNode)]) 1 34,
  zo_none,
  zo_none,
  zo_istore 2 35,
  zo_iload 2 36,
  zo_pushI (-1) 37,
  zo_icmp (fun x y => decide (x = y)) 52 40,
  zo_none,
  zo_none,
  zo_aload 0 41,
  zo_iload 1 42,
  zo_pushI 28 44,
  zo_none,
  zo_iload 2 45,
  zo_callv zzSC (zz_cl [(7, fX2_set)]) 3 48,
  zo_none,
  zo_none,
  zo_calls fX2_outcomeOf 1 51,
  zo_none,
  zo_none,
  zo_iret false,
  zo_aload 0 53,
  zo_iload 1 54,
  zo_callv zzSC (zz_cl [(7, fX8_preempt)]) 1 57,
  zo_none,
  zo_none,
  zo_istore 3 58,
  zo_pushI 1 59,
  zo_istore 4 61,
  zo_none,
  zo_pushI 0 62,
  zo_istore 5 64,
  zo_none,
  zo_iload 5 66,
  zo_none,
  zo_iload 3 67,
  zo_icmp (fun x y => decide (y ≤ x)) 94 70,
  zo_none,
  zo_none,
  zo_iload 4 72,
  zo_none,
  zo_if (fun x => decide (x = 0)) 94 75,
  zo_none,
  zo_none,
  zo_aload 0 76,
  zo_aload 0 77,
  zo_getf zzSC (zz_kf [7] 14) 80,
  zo_none,
  zo_none,
  zo_iload 5 82,
  zo_none,
  zo_iald zzSC zzSTC 83,
  zo_callv zzSC (zz_cl [(7, fX2_remove)]) 1 86,
  zo_none,
  zo_none,
  zo_istore 4 88,
  zo_none,
  zo_iinc 5 1 91,
  zo_none,
  zo_none,
  zo_goto 64,
  zo_none,
  zo_none,
  zo_pushI 3 95,
  zo_iret false]
set_option maxRecDepth 100000 in
theorem tl_X8_serve : ∀ pc, zz_Tl (tX8_serve.getD pc zo_none) := by
  refine zz_Tl_mem ?_
  unfold tX8_serve
  refine List.forall_mem_cons.mpr ⟨(zo_aload_tl _ _), ?_⟩
  refine List.forall_mem_cons.mpr ⟨(zo_iload_tl _ _), ?_⟩
  refine List.forall_mem_cons.mpr ⟨(zo_callv_tl _ _ _ _), ?_⟩
  refine List.forall_mem_cons.mpr ⟨zo_none_tl, ?_⟩
  refine List.forall_mem_cons.mpr ⟨zo_none_tl, ?_⟩
  refine List.forall_mem_cons.mpr ⟨(zo_if_tl _ _ _), ?_⟩
  refine List.forall_mem_cons.mpr ⟨zo_none_tl, ?_⟩
  refine List.forall_mem_cons.mpr ⟨zo_none_tl, ?_⟩
  refine List.forall_mem_cons.mpr ⟨(zo_pushI_tl _ _), ?_⟩
  refine List.forall_mem_cons.mpr ⟨(zo_iret_tl _), ?_⟩
  refine List.forall_mem_cons.mpr ⟨(zo_aload_tl _ _), ?_⟩
  refine List.forall_mem_cons.mpr ⟨(zo_callv_tl _ _ _ _), ?_⟩
  refine List.forall_mem_cons.mpr ⟨zo_none_tl, ?_⟩
  refine List.forall_mem_cons.mpr ⟨zo_none_tl, ?_⟩
  refine List.forall_mem_cons.mpr ⟨(zo_aload_tl _ _), ?_⟩
  refine List.forall_mem_cons.mpr ⟨(zo_aload_tl _ _), ?_⟩
  refine List.forall_mem_cons.mpr ⟨(zo_iload_tl _ _), ?_⟩
  refine List.forall_mem_cons.mpr ⟨(zo_pushI_tl _ _), ?_⟩
  refine List.forall_mem_cons.mpr ⟨zo_none_tl, ?_⟩
  refine List.forall_mem_cons.mpr ⟨(zo_callv_tl _ _ _ _), ?_⟩
  refine List.forall_mem_cons.mpr ⟨zo_none_tl, ?_⟩
  refine List.forall_mem_cons.mpr ⟨zo_none_tl, ?_⟩
  refine List.forall_mem_cons.mpr ⟨(zo_callv_tl _ _ _ _), ?_⟩
  refine List.forall_mem_cons.mpr ⟨zo_none_tl, ?_⟩
  refine List.forall_mem_cons.mpr ⟨zo_none_tl, ?_⟩
  refine List.forall_mem_cons.mpr ⟨(zo_aload_tl _ _), ?_⟩
  refine List.forall_mem_cons.mpr ⟨(zo_aload_tl _ _), ?_⟩
  refine List.forall_mem_cons.mpr ⟨(zo_iload_tl _ _), ?_⟩
  refine List.forall_mem_cons.mpr ⟨(zo_callv_tl _ _ _ _), ?_⟩
  refine List.forall_mem_cons.mpr ⟨zo_none_tl, ?_⟩
  refine List.forall_mem_cons.mpr ⟨zo_none_tl, ?_⟩
  refine List.forall_mem_cons.mpr ⟨(zo_callv_tl _ _ _ _), ?_⟩
  refine List.forall_mem_cons.mpr ⟨zo_none_tl, ?_⟩
  refine List.forall_mem_cons.mpr ⟨zo_none_tl, ?_⟩
  refine List.forall_mem_cons.mpr ⟨(zo_istore_tl _ _), ?_⟩
  refine List.forall_mem_cons.mpr ⟨(zo_iload_tl _ _), ?_⟩
  refine List.forall_mem_cons.mpr ⟨(zo_pushI_tl _ _), ?_⟩
  refine List.forall_mem_cons.mpr ⟨(zo_icmp_tl _ _ _), ?_⟩
  refine List.forall_mem_cons.mpr ⟨zo_none_tl, ?_⟩
  refine List.forall_mem_cons.mpr ⟨zo_none_tl, ?_⟩
  refine List.forall_mem_cons.mpr ⟨(zo_aload_tl _ _), ?_⟩
  refine List.forall_mem_cons.mpr ⟨(zo_iload_tl _ _), ?_⟩
  refine List.forall_mem_cons.mpr ⟨(zo_pushI_tl _ _), ?_⟩
  refine List.forall_mem_cons.mpr ⟨zo_none_tl, ?_⟩
  refine List.forall_mem_cons.mpr ⟨(zo_iload_tl _ _), ?_⟩
  refine List.forall_mem_cons.mpr ⟨(zo_callv_tl _ _ _ _), ?_⟩
  refine List.forall_mem_cons.mpr ⟨zo_none_tl, ?_⟩
  refine List.forall_mem_cons.mpr ⟨zo_none_tl, ?_⟩
  refine List.forall_mem_cons.mpr ⟨(zo_calls_tl _ _ _), ?_⟩
  refine List.forall_mem_cons.mpr ⟨zo_none_tl, ?_⟩
  refine List.forall_mem_cons.mpr ⟨zo_none_tl, ?_⟩
  refine List.forall_mem_cons.mpr ⟨(zo_iret_tl _), ?_⟩
  refine List.forall_mem_cons.mpr ⟨(zo_aload_tl _ _), ?_⟩
  refine List.forall_mem_cons.mpr ⟨(zo_iload_tl _ _), ?_⟩
  refine List.forall_mem_cons.mpr ⟨(zo_callv_tl _ _ _ _), ?_⟩
  refine List.forall_mem_cons.mpr ⟨zo_none_tl, ?_⟩
  refine List.forall_mem_cons.mpr ⟨zo_none_tl, ?_⟩
  refine List.forall_mem_cons.mpr ⟨(zo_istore_tl _ _), ?_⟩
  refine List.forall_mem_cons.mpr ⟨(zo_pushI_tl _ _), ?_⟩
  refine List.forall_mem_cons.mpr ⟨(zo_istore_tl _ _), ?_⟩
  refine List.forall_mem_cons.mpr ⟨zo_none_tl, ?_⟩
  refine List.forall_mem_cons.mpr ⟨(zo_pushI_tl _ _), ?_⟩
  refine List.forall_mem_cons.mpr ⟨(zo_istore_tl _ _), ?_⟩
  refine List.forall_mem_cons.mpr ⟨zo_none_tl, ?_⟩
  refine List.forall_mem_cons.mpr ⟨(zo_iload_tl _ _), ?_⟩
  refine List.forall_mem_cons.mpr ⟨zo_none_tl, ?_⟩
  refine List.forall_mem_cons.mpr ⟨(zo_iload_tl _ _), ?_⟩
  refine List.forall_mem_cons.mpr ⟨(zo_icmp_tl _ _ _), ?_⟩
  refine List.forall_mem_cons.mpr ⟨zo_none_tl, ?_⟩
  refine List.forall_mem_cons.mpr ⟨zo_none_tl, ?_⟩
  refine List.forall_mem_cons.mpr ⟨(zo_iload_tl _ _), ?_⟩
  refine List.forall_mem_cons.mpr ⟨zo_none_tl, ?_⟩
  refine List.forall_mem_cons.mpr ⟨(zo_if_tl _ _ _), ?_⟩
  refine List.forall_mem_cons.mpr ⟨zo_none_tl, ?_⟩
  refine List.forall_mem_cons.mpr ⟨zo_none_tl, ?_⟩
  refine List.forall_mem_cons.mpr ⟨(zo_aload_tl _ _), ?_⟩
  refine List.forall_mem_cons.mpr ⟨(zo_aload_tl _ _), ?_⟩
  refine List.forall_mem_cons.mpr ⟨(zo_getf_tl _ _ _), ?_⟩
  refine List.forall_mem_cons.mpr ⟨zo_none_tl, ?_⟩
  refine List.forall_mem_cons.mpr ⟨zo_none_tl, ?_⟩
  refine List.forall_mem_cons.mpr ⟨(zo_iload_tl _ _), ?_⟩
  refine List.forall_mem_cons.mpr ⟨zo_none_tl, ?_⟩
  refine List.forall_mem_cons.mpr ⟨(zo_iald_tl _ _ _), ?_⟩
  refine List.forall_mem_cons.mpr ⟨(zo_callv_tl _ _ _ _), ?_⟩
  refine List.forall_mem_cons.mpr ⟨zo_none_tl, ?_⟩
  refine List.forall_mem_cons.mpr ⟨zo_none_tl, ?_⟩
  refine List.forall_mem_cons.mpr ⟨(zo_istore_tl _ _), ?_⟩
  refine List.forall_mem_cons.mpr ⟨zo_none_tl, ?_⟩
  refine List.forall_mem_cons.mpr ⟨(zo_iinc_tl _ _ _), ?_⟩
  refine List.forall_mem_cons.mpr ⟨zo_none_tl, ?_⟩
  refine List.forall_mem_cons.mpr ⟨zo_none_tl, ?_⟩
  refine List.forall_mem_cons.mpr ⟨(zo_goto_tl _), ?_⟩
  refine List.forall_mem_cons.mpr ⟨zo_none_tl, ?_⟩
  refine List.forall_mem_cons.mpr ⟨zo_none_tl, ?_⟩
  refine List.forall_mem_cons.mpr ⟨(zo_pushI_tl _ _), ?_⟩
  refine List.forall_mem_cons.mpr ⟨(zo_iret_tl _), ?_⟩
  exact fun _ h => absurd h List.not_mem_nil
noncomputable def fX8_serve : zzFn := zz_fn tX8_serve 6
set_option maxRecDepth 100000 in
set_option maxHeartbeats 4000000 in
theorem mm_X8_serve {l : Launch} {D : va_G} {cA : Nat → ClassId} {ad : Nat → Nat} {Ex : (Nat → Prop) → State → Heap → Prop} (Wd : zzWC l D cA ad Ex) : zz_Cn l D zzCl cA ad zzSC Ex yX8_serve cX8_serve 6 (some .int) 5 118 fX8_serve ∧ zz_Cx l D zzCl cA ad zzSC Ex yX8_serve cX8_serve 6 (some .int) 5 118 fX8_serve := by
  refine zz_meth (plainFor_of_name (by decide)) Wd.1 Wd.2.1 Wd.2.2.1 (fun p e R s m args below meth c rr X => ?_)
  unfold tX8_serve
  refine zz_cons (k' := 1) rfl (zk_aload_n X dX8_serve_0 rfl rfl) ?_
  refine zz_cons (k' := 2) rfl (zk_iload_n X dX8_serve_1 rfl rfl) ?_
  refine zz_cons (k' := 3) rfl (zk_callv X (zz_Cv_of (List.forall_mem_cons.mpr ⟨⟨(RX_7, zzT7, 15), yX8_isWithoutPlace, cX8_isWithoutPlace, 2, (some .boolean), 2, 44, rfl, kv_X8_29_7.1, (mm_X8_isWithoutPlace Wd).1, by decide, by decide⟩, (fun _ h => absurd h List.not_mem_nil)⟩)) dX8_serve_2 rfl) ?_
  refine zz_cons (k' := 4) rfl (zz_Ok_none _ _) ?_
  refine zz_cons (k' := 5) rfl (zz_Ok_none _ _) ?_
  refine zz_cons (k' := 6) rfl (zk_if_ne X dX8_serve_5 (by decide) rfl) ?_
  refine zz_cons (k' := 7) rfl (zz_Ok_none _ _) ?_
  refine zz_cons (k' := 8) rfl (zz_Ok_none _ _) ?_
  refine zz_cons (k' := 9) rfl (zk_iconst X dX8_serve_8 (by decide) rfl) ?_
  refine zz_cons (k' := 10) rfl (zk_iret X rfl dX8_serve_9) ?_
  refine zz_cons (k' := 11) rfl (zk_aload_n X dX8_serve_10 rfl rfl) ?_
  refine zz_cons (k' := 12) rfl (zk_callv X (zz_Cv_of (List.forall_mem_cons.mpr ⟨⟨(RX_7, zzT7, 15), yX8_countUsed, cX8_countUsed, 4, none, 2, 43, rfl, kv_X8_41_7.1, (mm_X8_countUsed Wd).1, by decide, by decide⟩, (fun _ h => absurd h List.not_mem_nil)⟩)) dX8_serve_11 rfl) ?_
  refine zz_cons (k' := 13) rfl (zz_Ok_none _ _) ?_
  refine zz_cons (k' := 14) rfl (zz_Ok_none _ _) ?_
  refine zz_cons (k' := 15) rfl (zk_aload_n X dX8_serve_14 rfl rfl) ?_
  refine zz_cons (k' := 16) rfl (zk_aload_n X dX8_serve_15 rfl rfl) ?_
  refine zz_cons (k' := 17) rfl (zk_iload_n X dX8_serve_16 rfl rfl) ?_
  refine zz_cons (k' := 18) rfl (zk_bipush X dX8_serve_17 (by decide) rfl) ?_
  refine zz_cons (k' := 19) rfl (zz_Ok_none _ _) ?_
  refine zz_cons (k' := 20) rfl (zk_callv X (zz_Cv_of (List.forall_mem_cons.mpr ⟨⟨(RX_7, zzT7, 15), yX10_read, cX10_read, 3, (some .int), 0, 0, rfl, kv_X8_25_7, (mm_X10_read Wd).1, by decide, by decide⟩, (fun _ h => absurd h List.not_mem_nil)⟩)) dX8_serve_19 rfl) ?_
  refine zz_cons (k' := 21) rfl (zz_Ok_none _ _) ?_
  refine zz_cons (k' := 22) rfl (zz_Ok_none _ _) ?_
  refine zz_cons (k' := 23) rfl (zk_callv X (zz_Cv_of (List.forall_mem_cons.mpr ⟨⟨(RX_7, zzT7, 15), yX8_countMates, cX8_countMates, 4, none, 2, 44, rfl, kv_X8_45_7.1, (mm_X8_countMates Wd).1, by decide, by decide⟩, (fun _ h => absurd h List.not_mem_nil)⟩)) dX8_serve_22 rfl) ?_
  refine zz_cons (k' := 24) rfl (zz_Ok_none _ _) ?_
  refine zz_cons (k' := 25) rfl (zz_Ok_none _ _) ?_
  refine zz_cons (k' := 26) rfl (zk_aload_n X dX8_serve_25 rfl rfl) ?_
  refine zz_cons (k' := 27) rfl (zk_aload_n X dX8_serve_26 rfl rfl) ?_
  refine zz_cons (k' := 28) rfl (zk_iload_n X dX8_serve_27 rfl rfl) ?_
  refine zz_cons (k' := 29) rfl (zk_callv X (zz_Cv_of (List.forall_mem_cons.mpr ⟨⟨(RX_7, zzT7, 15), yX10_needOf, cX10_needOf, 2, (some .int), 1, 22, rfl, kv_X8_48_7, (mm_X10_needOf Wd).1, by decide, by decide⟩, (fun _ h => absurd h List.not_mem_nil)⟩)) dX8_serve_28 rfl) ?_
  refine zz_cons (k' := 30) rfl (zz_Ok_none _ _) ?_
  refine zz_cons (k' := 31) rfl (zz_Ok_none _ _) ?_
  refine zz_cons (k' := 32) rfl (zk_callv X (zz_Cv_of (List.forall_mem_cons.mpr ⟨⟨(RX_7, zzT7, 15), yX8_bestNode, cX8_bestNode, 4, (some .int), 3, 67, rfl, kv_X8_52_7.1, (mm_X8_bestNode Wd).1, by decide, by decide⟩, (fun _ h => absurd h List.not_mem_nil)⟩)) dX8_serve_31 rfl) ?_
  refine zz_cons (k' := 33) rfl (zz_Ok_none _ _) ?_
  refine zz_cons (k' := 34) rfl (zz_Ok_none _ _) ?_
  refine zz_cons (k' := 35) rfl (zk_istore_n X dX8_serve_34 rfl (by decide) rfl) ?_
  refine zz_cons (k' := 36) rfl (zk_iload_n X dX8_serve_35 rfl rfl) ?_
  refine zz_cons (k' := 37) rfl (zk_iconst X dX8_serve_36 (by decide) rfl) ?_
  refine zz_cons (k' := 38) rfl (zk_icmp_eq X dX8_serve_37 (by decide) rfl) ?_
  refine zz_cons (k' := 39) rfl (zz_Ok_none _ _) ?_
  refine zz_cons (k' := 40) rfl (zz_Ok_none _ _) ?_
  refine zz_cons (k' := 41) rfl (zk_aload_n X dX8_serve_40 rfl rfl) ?_
  refine zz_cons (k' := 42) rfl (zk_iload_n X dX8_serve_41 rfl rfl) ?_
  refine zz_cons (k' := 43) rfl (zk_bipush X dX8_serve_42 (by decide) rfl) ?_
  refine zz_cons (k' := 44) rfl (zz_Ok_none _ _) ?_
  refine zz_cons (k' := 45) rfl (zk_iload_n X dX8_serve_44 rfl rfl) ?_
  refine zz_cons (k' := 46) rfl (zk_callv X (zz_Cv_of (List.forall_mem_cons.mpr ⟨⟨(RX_7, zzT7, 15), yX2_set, cX2_set, 4, (some .boolean), 3, 70, rfl, kv_X8_55_7, (mm_X2_set Wd).1, by decide, by decide⟩, (fun _ h => absurd h List.not_mem_nil)⟩)) dX8_serve_45 rfl) ?_
  refine zz_cons (k' := 47) rfl (zz_Ok_none _ _) ?_
  refine zz_cons (k' := 48) rfl (zz_Ok_none _ _) ?_
  refine zz_cons (k' := 49) rfl (zk_calls X ks_X8_59 (mm_X2_outcomeOf Wd).1 (by decide) dX8_serve_48 rfl) ?_
  refine zz_cons (k' := 50) rfl (zz_Ok_none _ _) ?_
  refine zz_cons (k' := 51) rfl (zz_Ok_none _ _) ?_
  refine zz_cons (k' := 52) rfl (zk_iret X rfl dX8_serve_51) ?_
  refine zz_cons (k' := 53) rfl (zk_aload_n X dX8_serve_52 rfl rfl) ?_
  refine zz_cons (k' := 54) rfl (zk_iload_n X dX8_serve_53 rfl rfl) ?_
  refine zz_cons (k' := 55) rfl (zk_callv X (zz_Cv_of (List.forall_mem_cons.mpr ⟨⟨(RX_7, zzT7, 15), yX8_preempt, cX8_preempt, 6, (some .int), 4, 93, rfl, kv_X8_63_7.1, (mm_X8_preempt Wd).1, by decide, by decide⟩, (fun _ h => absurd h List.not_mem_nil)⟩)) dX8_serve_54 rfl) ?_
  refine zz_cons (k' := 56) rfl (zz_Ok_none _ _) ?_
  refine zz_cons (k' := 57) rfl (zz_Ok_none _ _) ?_
  refine zz_cons (k' := 58) rfl (zk_istore_n X dX8_serve_57 rfl (by decide) rfl) ?_
  refine zz_cons (k' := 59) rfl (zk_iconst X dX8_serve_58 (by decide) rfl) ?_
  refine zz_cons (k' := 60) rfl (zk_istore X dX8_serve_59 (by decide) rfl) ?_
  refine zz_cons (k' := 61) rfl (zz_Ok_none _ _) ?_
  refine zz_cons (k' := 62) rfl (zk_iconst X dX8_serve_61 (by decide) rfl) ?_
  refine zz_cons (k' := 63) rfl (zk_istore X dX8_serve_62 (by decide) rfl) ?_
  refine zz_cons (k' := 64) rfl (zz_Ok_none _ _) ?_
  refine zz_cons (k' := 65) rfl (zk_iload X dX8_serve_64 rfl) ?_
  refine zz_cons (k' := 66) rfl (zz_Ok_none _ _) ?_
  refine zz_cons (k' := 67) rfl (zk_iload_n X dX8_serve_66 rfl rfl) ?_
  refine zz_cons (k' := 68) rfl (zk_icmp_ge X dX8_serve_67 (by decide) rfl) ?_
  refine zz_cons (k' := 69) rfl (zz_Ok_none _ _) ?_
  refine zz_cons (k' := 70) rfl (zz_Ok_none _ _) ?_
  refine zz_cons (k' := 71) rfl (zk_iload X dX8_serve_70 rfl) ?_
  refine zz_cons (k' := 72) rfl (zz_Ok_none _ _) ?_
  refine zz_cons (k' := 73) rfl (zk_if_eq X dX8_serve_72 (by decide) rfl) ?_
  refine zz_cons (k' := 74) rfl (zz_Ok_none _ _) ?_
  refine zz_cons (k' := 75) rfl (zz_Ok_none _ _) ?_
  refine zz_cons (k' := 76) rfl (zk_aload_n X dX8_serve_75 rfl rfl) ?_
  refine zz_cons (k' := 77) rfl (zk_aload_n X dX8_serve_76 rfl rfl) ?_
  refine zz_cons (k' := 78) rfl (zk_getf X ff_X8_18 dX8_serve_77 rfl) ?_
  refine zz_cons (k' := 79) rfl (zz_Ok_none _ _) ?_
  refine zz_cons (k' := 80) rfl (zz_Ok_none _ _) ?_
  refine zz_cons (k' := 81) rfl (zk_iload X dX8_serve_80 rfl) ?_
  refine zz_cons (k' := 82) rfl (zz_Ok_none _ _) ?_
  refine zz_cons (k' := 83) rfl (zk_iald X (zzWC_st Wd) dX8_serve_82 rfl) ?_
  refine zz_cons (k' := 84) rfl (zk_callv X (zz_Cv_of (List.forall_mem_cons.mpr ⟨⟨(RX_7, zzT7, 15), yX2_remove, cX2_remove, 2, (some .boolean), 3, 69, rfl, kv_X8_66_7, (mm_X2_remove Wd).1, by decide, by decide⟩, (fun _ h => absurd h List.not_mem_nil)⟩)) dX8_serve_83 rfl) ?_
  refine zz_cons (k' := 85) rfl (zz_Ok_none _ _) ?_
  refine zz_cons (k' := 86) rfl (zz_Ok_none _ _) ?_
  refine zz_cons (k' := 87) rfl (zk_istore X dX8_serve_86 (by decide) rfl) ?_
  refine zz_cons (k' := 88) rfl (zz_Ok_none _ _) ?_
  refine zz_cons (k' := 89) rfl (zk_iinc X dX8_serve_88 (by decide) (by decide) rfl) ?_
  refine zz_cons (k' := 90) rfl (zz_Ok_none _ _) ?_
  refine zz_cons (k' := 91) rfl (zz_Ok_none _ _) ?_
  refine zz_cons (k' := 92) rfl (zk_goto X dX8_serve_91 (by decide)) ?_
  refine zz_cons (k' := 93) rfl (zz_Ok_none _ _) ?_
  refine zz_cons (k' := 94) rfl (zz_Ok_none _ _) ?_
  refine zz_cons (k' := 95) rfl (zk_iconst X dX8_serve_94 (by decide) rfl) ?_
  refine zz_cons (k' := 96) rfl (zk_iret X rfl dX8_serve_95) ?_
  exact trivial
noncomputable def tX2_noteFailure : List zzOp := [
  zo_pushI 1 1,
  zo_istore 2 2,
  zo_pushI 0 3,
  zo_istore 3 4,
  zo_iload 3 5,
  zo_aload 0 6,
  zo_getf zzSC (zz_kf [1, 2, 3, 4, 5, 6, 7] 8) 9,
  zo_none,
  zo_none,
  zo_iload 1 10,
  zo_iald zzSC zzSTC 11,
  zo_icmp (fun x y => decide (y ≤ x)) 30 14,
  zo_none,
  zo_none,
  zo_iload 2 15,
  zo_pushI 16 17,
  zo_none,
  zo_icmp (fun x y => decide (y ≤ x)) 30 20,
  zo_none,
  zo_none,
  zo_iload 2 21,
  zo_pushI 2 22,
  zo_ii (fun x y => x * y) 23,
  zo_istore 2 24,
  zo_iinc 3 1 27,
  zo_none,
  zo_none,
  zo_goto 4,
  zo_none,
  zo_none,
  zo_aload 0 31,
  zo_getf zzSC (zz_kf [1, 2, 3, 4, 5, 6, 7] 8) 34,
  zo_none,
  zo_none,
  zo_iload 1 35,
  zo_dup2 36,
  zo_iald zzSC zzSTC 37,
  zo_pushI 1 38,
  zo_ii (fun x y => x + y) 39,
  zo_iast zzSC 40,
  zo_aload 0 41,
  zo_getf zzSC (zz_kf [1, 2, 3, 4, 5, 6, 7] 9) 44,
  zo_none,
  zo_none,
  zo_iload 1 45,
  zo_aload 0 46,
  zo_getf zzSC (zz_kf [1, 2, 3, 4, 5, 6, 7] 4) 49,
  zo_none,
  zo_none,
  zo_getf zzSC (zz_kf [8] 7) 52,
  zo_none,
  zo_none,
  zo_iload 2 53,
  zo_ii (fun x y => x + y) 54,
  zo_iast zzSC 55,
  zo_ret]
set_option maxRecDepth 100000 in
theorem tl_X2_noteFailure : ∀ pc, zz_Tl (tX2_noteFailure.getD pc zo_none) := by
  refine zz_Tl_mem ?_
  unfold tX2_noteFailure
  refine List.forall_mem_cons.mpr ⟨(zo_pushI_tl _ _), ?_⟩
  refine List.forall_mem_cons.mpr ⟨(zo_istore_tl _ _), ?_⟩
  refine List.forall_mem_cons.mpr ⟨(zo_pushI_tl _ _), ?_⟩
  refine List.forall_mem_cons.mpr ⟨(zo_istore_tl _ _), ?_⟩
  refine List.forall_mem_cons.mpr ⟨(zo_iload_tl _ _), ?_⟩
  refine List.forall_mem_cons.mpr ⟨(zo_aload_tl _ _), ?_⟩
  refine List.forall_mem_cons.mpr ⟨(zo_getf_tl _ _ _), ?_⟩
  refine List.forall_mem_cons.mpr ⟨zo_none_tl, ?_⟩
  refine List.forall_mem_cons.mpr ⟨zo_none_tl, ?_⟩
  refine List.forall_mem_cons.mpr ⟨(zo_iload_tl _ _), ?_⟩
  refine List.forall_mem_cons.mpr ⟨(zo_iald_tl _ _ _), ?_⟩
  refine List.forall_mem_cons.mpr ⟨(zo_icmp_tl _ _ _), ?_⟩
  refine List.forall_mem_cons.mpr ⟨zo_none_tl, ?_⟩
  refine List.forall_mem_cons.mpr ⟨zo_none_tl, ?_⟩
  refine List.forall_mem_cons.mpr ⟨(zo_iload_tl _ _), ?_⟩
  refine List.forall_mem_cons.mpr ⟨(zo_pushI_tl _ _), ?_⟩
  refine List.forall_mem_cons.mpr ⟨zo_none_tl, ?_⟩
  refine List.forall_mem_cons.mpr ⟨(zo_icmp_tl _ _ _), ?_⟩
  refine List.forall_mem_cons.mpr ⟨zo_none_tl, ?_⟩
  refine List.forall_mem_cons.mpr ⟨zo_none_tl, ?_⟩
  refine List.forall_mem_cons.mpr ⟨(zo_iload_tl _ _), ?_⟩
  refine List.forall_mem_cons.mpr ⟨(zo_pushI_tl _ _), ?_⟩
  refine List.forall_mem_cons.mpr ⟨(zo_ii_tl _ _), ?_⟩
  refine List.forall_mem_cons.mpr ⟨(zo_istore_tl _ _), ?_⟩
  refine List.forall_mem_cons.mpr ⟨(zo_iinc_tl _ _ _), ?_⟩
  refine List.forall_mem_cons.mpr ⟨zo_none_tl, ?_⟩
  refine List.forall_mem_cons.mpr ⟨zo_none_tl, ?_⟩
  refine List.forall_mem_cons.mpr ⟨(zo_goto_tl _), ?_⟩
  refine List.forall_mem_cons.mpr ⟨zo_none_tl, ?_⟩
  refine List.forall_mem_cons.mpr ⟨zo_none_tl, ?_⟩
  refine List.forall_mem_cons.mpr ⟨(zo_aload_tl _ _), ?_⟩
  refine List.forall_mem_cons.mpr ⟨(zo_getf_tl _ _ _), ?_⟩
  refine List.forall_mem_cons.mpr ⟨zo_none_tl, ?_⟩
  refine List.forall_mem_cons.mpr ⟨zo_none_tl, ?_⟩
  refine List.forall_mem_cons.mpr ⟨(zo_iload_tl _ _), ?_⟩
  refine List.forall_mem_cons.mpr ⟨(zo_dup2_tl _), ?_⟩
  refine List.forall_mem_cons.mpr ⟨(zo_iald_tl _ _ _), ?_⟩
  refine List.forall_mem_cons.mpr ⟨(zo_pushI_tl _ _), ?_⟩
  refine List.forall_mem_cons.mpr ⟨(zo_ii_tl _ _), ?_⟩
  refine List.forall_mem_cons.mpr ⟨(zo_iast_tl _ _), ?_⟩
  refine List.forall_mem_cons.mpr ⟨(zo_aload_tl _ _), ?_⟩
  refine List.forall_mem_cons.mpr ⟨(zo_getf_tl _ _ _), ?_⟩
  refine List.forall_mem_cons.mpr ⟨zo_none_tl, ?_⟩
  refine List.forall_mem_cons.mpr ⟨zo_none_tl, ?_⟩
  refine List.forall_mem_cons.mpr ⟨(zo_iload_tl _ _), ?_⟩
  refine List.forall_mem_cons.mpr ⟨(zo_aload_tl _ _), ?_⟩
  refine List.forall_mem_cons.mpr ⟨(zo_getf_tl _ _ _), ?_⟩
  refine List.forall_mem_cons.mpr ⟨zo_none_tl, ?_⟩
  refine List.forall_mem_cons.mpr ⟨zo_none_tl, ?_⟩
  refine List.forall_mem_cons.mpr ⟨(zo_getf_tl _ _ _), ?_⟩
  refine List.forall_mem_cons.mpr ⟨zo_none_tl, ?_⟩
  refine List.forall_mem_cons.mpr ⟨zo_none_tl, ?_⟩
  refine List.forall_mem_cons.mpr ⟨(zo_iload_tl _ _), ?_⟩
  refine List.forall_mem_cons.mpr ⟨(zo_ii_tl _ _), ?_⟩
  refine List.forall_mem_cons.mpr ⟨(zo_iast_tl _ _), ?_⟩
  refine List.forall_mem_cons.mpr ⟨(zo_ret_tl), ?_⟩
  exact fun _ h => absurd h List.not_mem_nil
noncomputable def fX2_noteFailure : zzFn := zz_fn tX2_noteFailure 4
set_option maxRecDepth 100000 in
set_option maxHeartbeats 4000000 in
theorem mm_X2_noteFailure {l : Launch} {D : va_G} {cA : Nat → ClassId} {ad : Nat → Nat} {Ex : (Nat → Prop) → State → Heap → Prop} (Wd : zzWC l D cA ad Ex) : zz_Cn l D zzCl cA ad zzSC Ex yX2_noteFailure cX2_noteFailure 4 none 0 0 fX2_noteFailure ∧ zz_Cx l D zzCl cA ad zzSC Ex yX2_noteFailure cX2_noteFailure 4 none 0 0 fX2_noteFailure := by
  refine zz_meth (plainFor_of_name (by decide)) Wd.1 Wd.2.1 Wd.2.2.1 (fun p e R s m args below meth c rr X => ?_)
  unfold tX2_noteFailure
  refine zz_cons (k' := 1) rfl (zk_iconst X dX2_noteFailure_0 (by decide) rfl) ?_
  refine zz_cons (k' := 2) rfl (zk_istore_n X dX2_noteFailure_1 rfl (by decide) rfl) ?_
  refine zz_cons (k' := 3) rfl (zk_iconst X dX2_noteFailure_2 (by decide) rfl) ?_
  refine zz_cons (k' := 4) rfl (zk_istore_n X dX2_noteFailure_3 rfl (by decide) rfl) ?_
  refine zz_cons (k' := 5) rfl (zk_iload_n X dX2_noteFailure_4 rfl rfl) ?_
  refine zz_cons (k' := 6) rfl (zk_aload_n X dX2_noteFailure_5 rfl rfl) ?_
  refine zz_cons (k' := 7) rfl (zk_getf X ff_X2_32 dX2_noteFailure_6 rfl) ?_
  refine zz_cons (k' := 8) rfl (zz_Ok_none _ _) ?_
  refine zz_cons (k' := 9) rfl (zz_Ok_none _ _) ?_
  refine zz_cons (k' := 10) rfl (zk_iload_n X dX2_noteFailure_9 rfl rfl) ?_
  refine zz_cons (k' := 11) rfl (zk_iald X (zzWC_st Wd) dX2_noteFailure_10 rfl) ?_
  refine zz_cons (k' := 12) rfl (zk_icmp_ge X dX2_noteFailure_11 (by decide) rfl) ?_
  refine zz_cons (k' := 13) rfl (zz_Ok_none _ _) ?_
  refine zz_cons (k' := 14) rfl (zz_Ok_none _ _) ?_
  refine zz_cons (k' := 15) rfl (zk_iload_n X dX2_noteFailure_14 rfl rfl) ?_
  refine zz_cons (k' := 16) rfl (zk_bipush X dX2_noteFailure_15 (by decide) rfl) ?_
  refine zz_cons (k' := 17) rfl (zz_Ok_none _ _) ?_
  refine zz_cons (k' := 18) rfl (zk_icmp_ge X dX2_noteFailure_17 (by decide) rfl) ?_
  refine zz_cons (k' := 19) rfl (zz_Ok_none _ _) ?_
  refine zz_cons (k' := 20) rfl (zz_Ok_none _ _) ?_
  refine zz_cons (k' := 21) rfl (zk_iload_n X dX2_noteFailure_20 rfl rfl) ?_
  refine zz_cons (k' := 22) rfl (zk_iconst X dX2_noteFailure_21 (by decide) rfl) ?_
  refine zz_cons (k' := 23) rfl (zk_imul X dX2_noteFailure_22 rfl) ?_
  refine zz_cons (k' := 24) rfl (zk_istore_n X dX2_noteFailure_23 rfl (by decide) rfl) ?_
  refine zz_cons (k' := 25) rfl (zk_iinc X dX2_noteFailure_24 (by decide) (by decide) rfl) ?_
  refine zz_cons (k' := 26) rfl (zz_Ok_none _ _) ?_
  refine zz_cons (k' := 27) rfl (zz_Ok_none _ _) ?_
  refine zz_cons (k' := 28) rfl (zk_goto X dX2_noteFailure_27 (by decide)) ?_
  refine zz_cons (k' := 29) rfl (zz_Ok_none _ _) ?_
  refine zz_cons (k' := 30) rfl (zz_Ok_none _ _) ?_
  refine zz_cons (k' := 31) rfl (zk_aload_n X dX2_noteFailure_30 rfl rfl) ?_
  refine zz_cons (k' := 32) rfl (zk_getf X ff_X2_32 dX2_noteFailure_31 rfl) ?_
  refine zz_cons (k' := 33) rfl (zz_Ok_none _ _) ?_
  refine zz_cons (k' := 34) rfl (zz_Ok_none _ _) ?_
  refine zz_cons (k' := 35) rfl (zk_iload_n X dX2_noteFailure_34 rfl rfl) ?_
  refine zz_cons (k' := 36) rfl (zk_dup2 X dX2_noteFailure_35 rfl) ?_
  refine zz_cons (k' := 37) rfl (zk_iald X (zzWC_st Wd) dX2_noteFailure_36 rfl) ?_
  refine zz_cons (k' := 38) rfl (zk_iconst X dX2_noteFailure_37 (by decide) rfl) ?_
  refine zz_cons (k' := 39) rfl (zk_iadd X dX2_noteFailure_38 rfl) ?_
  refine zz_cons (k' := 40) rfl (zk_iast X dX2_noteFailure_39 rfl) ?_
  refine zz_cons (k' := 41) rfl (zk_aload_n X dX2_noteFailure_40 rfl rfl) ?_
  refine zz_cons (k' := 42) rfl (zk_getf X ff_X2_35 dX2_noteFailure_41 rfl) ?_
  refine zz_cons (k' := 43) rfl (zz_Ok_none _ _) ?_
  refine zz_cons (k' := 44) rfl (zz_Ok_none _ _) ?_
  refine zz_cons (k' := 45) rfl (zk_iload_n X dX2_noteFailure_44 rfl rfl) ?_
  refine zz_cons (k' := 46) rfl (zk_aload_n X dX2_noteFailure_45 rfl rfl) ?_
  refine zz_cons (k' := 47) rfl (zk_getf X ff_X2_15 dX2_noteFailure_46 rfl) ?_
  refine zz_cons (k' := 48) rfl (zz_Ok_none _ _) ?_
  refine zz_cons (k' := 49) rfl (zz_Ok_none _ _) ?_
  refine zz_cons (k' := 50) rfl (zk_getf X ff_X2_94 dX2_noteFailure_49 rfl) ?_
  refine zz_cons (k' := 51) rfl (zz_Ok_none _ _) ?_
  refine zz_cons (k' := 52) rfl (zz_Ok_none _ _) ?_
  refine zz_cons (k' := 53) rfl (zk_iload_n X dX2_noteFailure_52 rfl rfl) ?_
  refine zz_cons (k' := 54) rfl (zk_iadd X dX2_noteFailure_53 rfl) ?_
  refine zz_cons (k' := 55) rfl (zk_iast X dX2_noteFailure_54 rfl) ?_
  refine zz_cons (k' := 56) rfl (zk_ret X rfl dX2_noteFailure_55) ?_
  exact trivial
noncomputable def tX2_workOnce : List zzOp := [
  zo_aload 0 1,
  zo_callv zzSC (zz_cl [(1, fX2_takeKey), (2, fX2_takeKey), (3, fX2_takeKey), (4, fX2_takeKey), (5, fX2_takeKey), (6, fX2_takeKey), (7, fX2_takeKey)]) 0 4,
  zo_none,
  zo_none,
  zo_istore 1 5,
  zo_iload 1 6,
  zo_pushI (-1) 7,
  zo_icmp (fun x y => decide (¬ x = y)) 12 10,
  zo_none,
  zo_none,
  zo_pushI 0 11,
  zo_iret false,
  zo_aload 0 13,
  zo_getf zzSC (zz_kf [1, 2, 3, 4, 5, 6, 7] 4) 16,
  zo_none,
  zo_none,
  zo_getf zzSC (zz_kf [8] 3) 19,
  zo_none,
  zo_none,
  zo_istore 2 20,
  zo_aload 0 21,
  zo_getf zzSC (zz_kf [1, 2, 3, 4, 5, 6, 7] 10) 24,
  zo_none,
  zo_none,
  zo_iload 1 25,
  zo_iald zzSC zzSTC 26,
  zo_aload 0 27,
  zo_getf zzSC (zz_kf [1, 2, 3, 4, 5, 6, 7] 3) 30,
  zo_none,
  zo_none,
  zo_icmp (fun x y => decide (x ≤ y)) 37 33,
  zo_none,
  zo_none,
  zo_pushI 2 34,
  zo_goto 42,
  zo_none,
  zo_none,
  zo_aload 0 38,
  zo_iload 1 39,
  zo_callv zzSC (zz_cl [(1, fX1_serve), (2, fX3_serve), (3, fX4_serve), (4, fX5_serve), (5, fX6_serve), (6, fX7_serve), (7, fX8_serve)]) 1 42,
  zo_none,
  zo_none,
  zo_istore 3 43,
  zo_aload 0 44,
  zo_getf zzSC (zz_kf [1, 2, 3, 4, 5, 6, 7] 4) 47,
  zo_none,
  zo_none,
  zo_getf zzSC (zz_kf [8] 3) 50,
  zo_none,
  zo_none,
  zo_iload 2 51,
  zo_icmp (fun x y => decide (x ≤ y)) 67 54,
  zo_none,
  zo_none,
  zo_aload 0 55,
  zo_getf zzSC (zz_kf [1, 2, 3, 4, 5, 6, 7] 10) 58,
  zo_none,
  zo_none,
  zo_iload 1 59,
  zo_aload 0 60,
  zo_getf zzSC (zz_kf [1, 2, 3, 4, 5, 6, 7] 4) 63,
  zo_none,
  zo_none,
  zo_getf zzSC (zz_kf [8] 3) 66,
  zo_none,
  zo_none,
  zo_iast zzSC 67,
  zo_iload 3 68,
  zo_pushI 1 69,
  zo_icmp (fun x y => decide (¬ x = y)) 81 72,
  zo_none,
  zo_none,
  zo_aload 0 73,
  zo_getf zzSC (zz_kf [1, 2, 3, 4, 5, 6, 7] 8) 76,
  zo_none,
  zo_none,
  zo_iload 1 77,
  zo_pushI 0 78,
  zo_iast zzSC 79,
  zo_pushI 1 80,
  zo_iret false,
  zo_iload 3 82,
  zo_pushI 3 83,
  zo_icmp (fun x y => decide (¬ x = y)) 91 86,
  zo_none,
  zo_none,
  zo_aload 0 87,
  zo_iload 1 88,
  zo_callv zzSC (zz_cl [(1, fX2_noteFailure), (2, fX2_noteFailure), (3, fX2_noteFailure), (4, fX2_noteFailure), (5, fX2_noteFailure), (6, fX2_noteFailure), (7, fX2_noteFailure)]) 1 91,
  zo_none,
  zo_none,
  zo_aload 0 92,
  zo_iload 1 93,
  zo_callv zzSC (zz_cl [(1, fX2_enqueue), (2, fX2_enqueue), (3, fX2_enqueue), (4, fX2_enqueue), (5, fX2_enqueue), (6, fX2_enqueue), (7, fX2_enqueue)]) 1 96,
  zo_none,
  zo_none,
  zo_iload 3 97,
  zo_iret false]
set_option maxRecDepth 100000 in
theorem tl_X2_workOnce : ∀ pc, zz_Tl (tX2_workOnce.getD pc zo_none) := by
  refine zz_Tl_mem ?_
  unfold tX2_workOnce
  refine List.forall_mem_cons.mpr ⟨(zo_aload_tl _ _), ?_⟩
  refine List.forall_mem_cons.mpr ⟨(zo_callv_tl _ _ _ _), ?_⟩
  refine List.forall_mem_cons.mpr ⟨zo_none_tl, ?_⟩
  refine List.forall_mem_cons.mpr ⟨zo_none_tl, ?_⟩
  refine List.forall_mem_cons.mpr ⟨(zo_istore_tl _ _), ?_⟩
  refine List.forall_mem_cons.mpr ⟨(zo_iload_tl _ _), ?_⟩
  refine List.forall_mem_cons.mpr ⟨(zo_pushI_tl _ _), ?_⟩
  refine List.forall_mem_cons.mpr ⟨(zo_icmp_tl _ _ _), ?_⟩
  refine List.forall_mem_cons.mpr ⟨zo_none_tl, ?_⟩
  refine List.forall_mem_cons.mpr ⟨zo_none_tl, ?_⟩
  refine List.forall_mem_cons.mpr ⟨(zo_pushI_tl _ _), ?_⟩
  refine List.forall_mem_cons.mpr ⟨(zo_iret_tl _), ?_⟩
  refine List.forall_mem_cons.mpr ⟨(zo_aload_tl _ _), ?_⟩
  refine List.forall_mem_cons.mpr ⟨(zo_getf_tl _ _ _), ?_⟩
  refine List.forall_mem_cons.mpr ⟨zo_none_tl, ?_⟩
  refine List.forall_mem_cons.mpr ⟨zo_none_tl, ?_⟩
  refine List.forall_mem_cons.mpr ⟨(zo_getf_tl _ _ _), ?_⟩
  refine List.forall_mem_cons.mpr ⟨zo_none_tl, ?_⟩
  refine List.forall_mem_cons.mpr ⟨zo_none_tl, ?_⟩
  refine List.forall_mem_cons.mpr ⟨(zo_istore_tl _ _), ?_⟩
  refine List.forall_mem_cons.mpr ⟨(zo_aload_tl _ _), ?_⟩
  refine List.forall_mem_cons.mpr ⟨(zo_getf_tl _ _ _), ?_⟩
  refine List.forall_mem_cons.mpr ⟨zo_none_tl, ?_⟩
  refine List.forall_mem_cons.mpr ⟨zo_none_tl, ?_⟩
  refine List.forall_mem_cons.mpr ⟨(zo_iload_tl _ _), ?_⟩
  refine List.forall_mem_cons.mpr ⟨(zo_iald_tl _ _ _), ?_⟩
  refine List.forall_mem_cons.mpr ⟨(zo_aload_tl _ _), ?_⟩
  refine List.forall_mem_cons.mpr ⟨(zo_getf_tl _ _ _), ?_⟩
  refine List.forall_mem_cons.mpr ⟨zo_none_tl, ?_⟩
  refine List.forall_mem_cons.mpr ⟨zo_none_tl, ?_⟩
  refine List.forall_mem_cons.mpr ⟨(zo_icmp_tl _ _ _), ?_⟩
  refine List.forall_mem_cons.mpr ⟨zo_none_tl, ?_⟩
  refine List.forall_mem_cons.mpr ⟨zo_none_tl, ?_⟩
  refine List.forall_mem_cons.mpr ⟨(zo_pushI_tl _ _), ?_⟩
  refine List.forall_mem_cons.mpr ⟨(zo_goto_tl _), ?_⟩
  refine List.forall_mem_cons.mpr ⟨zo_none_tl, ?_⟩
  refine List.forall_mem_cons.mpr ⟨zo_none_tl, ?_⟩
  refine List.forall_mem_cons.mpr ⟨(zo_aload_tl _ _), ?_⟩
  refine List.forall_mem_cons.mpr ⟨(zo_iload_tl _ _), ?_⟩
  refine List.forall_mem_cons.mpr ⟨(zo_callv_tl _ _ _ _), ?_⟩
  refine List.forall_mem_cons.mpr ⟨zo_none_tl, ?_⟩
  refine List.forall_mem_cons.mpr ⟨zo_none_tl, ?_⟩
  refine List.forall_mem_cons.mpr ⟨(zo_istore_tl _ _), ?_⟩
  refine List.forall_mem_cons.mpr ⟨(zo_aload_tl _ _), ?_⟩
  refine List.forall_mem_cons.mpr ⟨(zo_getf_tl _ _ _), ?_⟩
  refine List.forall_mem_cons.mpr ⟨zo_none_tl, ?_⟩
  refine List.forall_mem_cons.mpr ⟨zo_none_tl, ?_⟩
  refine List.forall_mem_cons.mpr ⟨(zo_getf_tl _ _ _), ?_⟩
  refine List.forall_mem_cons.mpr ⟨zo_none_tl, ?_⟩
  refine List.forall_mem_cons.mpr ⟨zo_none_tl, ?_⟩
  refine List.forall_mem_cons.mpr ⟨(zo_iload_tl _ _), ?_⟩
  refine List.forall_mem_cons.mpr ⟨(zo_icmp_tl _ _ _), ?_⟩
  refine List.forall_mem_cons.mpr ⟨zo_none_tl, ?_⟩
  refine List.forall_mem_cons.mpr ⟨zo_none_tl, ?_⟩
  refine List.forall_mem_cons.mpr ⟨(zo_aload_tl _ _), ?_⟩
  refine List.forall_mem_cons.mpr ⟨(zo_getf_tl _ _ _), ?_⟩
  refine List.forall_mem_cons.mpr ⟨zo_none_tl, ?_⟩
  refine List.forall_mem_cons.mpr ⟨zo_none_tl, ?_⟩
  refine List.forall_mem_cons.mpr ⟨(zo_iload_tl _ _), ?_⟩
  refine List.forall_mem_cons.mpr ⟨(zo_aload_tl _ _), ?_⟩
  refine List.forall_mem_cons.mpr ⟨(zo_getf_tl _ _ _), ?_⟩
  refine List.forall_mem_cons.mpr ⟨zo_none_tl, ?_⟩
  refine List.forall_mem_cons.mpr ⟨zo_none_tl, ?_⟩
  refine List.forall_mem_cons.mpr ⟨(zo_getf_tl _ _ _), ?_⟩
  refine List.forall_mem_cons.mpr ⟨zo_none_tl, ?_⟩
  refine List.forall_mem_cons.mpr ⟨zo_none_tl, ?_⟩
  refine List.forall_mem_cons.mpr ⟨(zo_iast_tl _ _), ?_⟩
  refine List.forall_mem_cons.mpr ⟨(zo_iload_tl _ _), ?_⟩
  refine List.forall_mem_cons.mpr ⟨(zo_pushI_tl _ _), ?_⟩
  refine List.forall_mem_cons.mpr ⟨(zo_icmp_tl _ _ _), ?_⟩
  refine List.forall_mem_cons.mpr ⟨zo_none_tl, ?_⟩
  refine List.forall_mem_cons.mpr ⟨zo_none_tl, ?_⟩
  refine List.forall_mem_cons.mpr ⟨(zo_aload_tl _ _), ?_⟩
  refine List.forall_mem_cons.mpr ⟨(zo_getf_tl _ _ _), ?_⟩
  refine List.forall_mem_cons.mpr ⟨zo_none_tl, ?_⟩
  refine List.forall_mem_cons.mpr ⟨zo_none_tl, ?_⟩
  refine List.forall_mem_cons.mpr ⟨(zo_iload_tl _ _), ?_⟩
  refine List.forall_mem_cons.mpr ⟨(zo_pushI_tl _ _), ?_⟩
  refine List.forall_mem_cons.mpr ⟨(zo_iast_tl _ _), ?_⟩
  refine List.forall_mem_cons.mpr ⟨(zo_pushI_tl _ _), ?_⟩
  refine List.forall_mem_cons.mpr ⟨(zo_iret_tl _), ?_⟩
  refine List.forall_mem_cons.mpr ⟨(zo_iload_tl _ _), ?_⟩
  refine List.forall_mem_cons.mpr ⟨(zo_pushI_tl _ _), ?_⟩
  refine List.forall_mem_cons.mpr ⟨(zo_icmp_tl _ _ _), ?_⟩
  refine List.forall_mem_cons.mpr ⟨zo_none_tl, ?_⟩
  refine List.forall_mem_cons.mpr ⟨zo_none_tl, ?_⟩
  refine List.forall_mem_cons.mpr ⟨(zo_aload_tl _ _), ?_⟩
  refine List.forall_mem_cons.mpr ⟨(zo_iload_tl _ _), ?_⟩
  refine List.forall_mem_cons.mpr ⟨(zo_callv_tl _ _ _ _), ?_⟩
  refine List.forall_mem_cons.mpr ⟨zo_none_tl, ?_⟩
  refine List.forall_mem_cons.mpr ⟨zo_none_tl, ?_⟩
  refine List.forall_mem_cons.mpr ⟨(zo_aload_tl _ _), ?_⟩
  refine List.forall_mem_cons.mpr ⟨(zo_iload_tl _ _), ?_⟩
  refine List.forall_mem_cons.mpr ⟨(zo_callv_tl _ _ _ _), ?_⟩
  refine List.forall_mem_cons.mpr ⟨zo_none_tl, ?_⟩
  refine List.forall_mem_cons.mpr ⟨zo_none_tl, ?_⟩
  refine List.forall_mem_cons.mpr ⟨(zo_iload_tl _ _), ?_⟩
  refine List.forall_mem_cons.mpr ⟨(zo_iret_tl _), ?_⟩
  exact fun _ h => absurd h List.not_mem_nil
noncomputable def fX2_workOnce : zzFn := zz_fn tX2_workOnce 4
set_option maxRecDepth 100000 in
set_option maxHeartbeats 4000000 in
theorem mm_X2_workOnce {l : Launch} {D : va_G} {cA : Nat → ClassId} {ad : Nat → Nat} {Ex : (Nat → Prop) → State → Heap → Prop} (Wd : zzWC l D cA ad Ex) : zz_Cn l D zzCl cA ad zzSC Ex yX2_workOnce cX2_workOnce 4 (some .int) 6 143 fX2_workOnce ∧ zz_Cx l D zzCl cA ad zzSC Ex yX2_workOnce cX2_workOnce 4 (some .int) 6 143 fX2_workOnce := by
  refine zz_meth (plainFor_of_name (by decide)) Wd.1 Wd.2.1 Wd.2.2.1 (fun p e R s m args below meth c rr X => ?_)
  unfold tX2_workOnce
  refine zz_cons (k' := 1) rfl (zk_aload_n X dX2_workOnce_0 rfl rfl) ?_
  refine zz_cons (k' := 2) rfl (zk_callv X (zz_Cv_of (List.forall_mem_cons.mpr ⟨⟨(RX_1, zzT1, 12), yX2_takeKey, cX2_takeKey, 3, (some .int), 1, 26, rfl, kv_X2_103_1, (mm_X2_takeKey Wd).1, by decide, by decide⟩, (List.forall_mem_cons.mpr ⟨⟨(RX_2, zzT2, 12), yX2_takeKey, cX2_takeKey, 3, (some .int), 1, 26, rfl, kv_X2_103_2, (mm_X2_takeKey Wd).1, by decide, by decide⟩, (List.forall_mem_cons.mpr ⟨⟨(RX_3, zzT3, 12), yX2_takeKey, cX2_takeKey, 3, (some .int), 1, 26, rfl, kv_X2_103_3, (mm_X2_takeKey Wd).1, by decide, by decide⟩, (List.forall_mem_cons.mpr ⟨⟨(RX_4, zzT4, 12), yX2_takeKey, cX2_takeKey, 3, (some .int), 1, 26, rfl, kv_X2_103_4, (mm_X2_takeKey Wd).1, by decide, by decide⟩, (List.forall_mem_cons.mpr ⟨⟨(RX_5, zzT5, 12), yX2_takeKey, cX2_takeKey, 3, (some .int), 1, 26, rfl, kv_X2_103_5, (mm_X2_takeKey Wd).1, by decide, by decide⟩, (List.forall_mem_cons.mpr ⟨⟨(RX_6, zzT6, 13), yX2_takeKey, cX2_takeKey, 3, (some .int), 1, 26, rfl, kv_X2_103_6, (mm_X2_takeKey Wd).1, by decide, by decide⟩, (List.forall_mem_cons.mpr ⟨⟨(RX_7, zzT7, 15), yX2_takeKey, cX2_takeKey, 3, (some .int), 1, 26, rfl, kv_X2_103_7, (mm_X2_takeKey Wd).1, by decide, by decide⟩, (fun _ h => absurd h List.not_mem_nil)⟩)⟩)⟩)⟩)⟩)⟩)⟩)) dX2_workOnce_1 rfl) ?_
  refine zz_cons (k' := 3) rfl (zz_Ok_none _ _) ?_
  refine zz_cons (k' := 4) rfl (zz_Ok_none _ _) ?_
  refine zz_cons (k' := 5) rfl (zk_istore_n X dX2_workOnce_4 rfl (by decide) rfl) ?_
  refine zz_cons (k' := 6) rfl (zk_iload_n X dX2_workOnce_5 rfl rfl) ?_
  refine zz_cons (k' := 7) rfl (zk_iconst X dX2_workOnce_6 (by decide) rfl) ?_
  refine zz_cons (k' := 8) rfl (zk_icmp_ne X dX2_workOnce_7 (by decide) rfl) ?_
  refine zz_cons (k' := 9) rfl (zz_Ok_none _ _) ?_
  refine zz_cons (k' := 10) rfl (zz_Ok_none _ _) ?_
  refine zz_cons (k' := 11) rfl (zk_iconst X dX2_workOnce_10 (by decide) rfl) ?_
  refine zz_cons (k' := 12) rfl (zk_iret X rfl dX2_workOnce_11) ?_
  refine zz_cons (k' := 13) rfl (zk_aload_n X dX2_workOnce_12 rfl rfl) ?_
  refine zz_cons (k' := 14) rfl (zk_getf X ff_X2_15 dX2_workOnce_13 rfl) ?_
  refine zz_cons (k' := 15) rfl (zz_Ok_none _ _) ?_
  refine zz_cons (k' := 16) rfl (zz_Ok_none _ _) ?_
  refine zz_cons (k' := 17) rfl (zk_getf X ff_X2_54 dX2_workOnce_16 rfl) ?_
  refine zz_cons (k' := 18) rfl (zz_Ok_none _ _) ?_
  refine zz_cons (k' := 19) rfl (zz_Ok_none _ _) ?_
  refine zz_cons (k' := 20) rfl (zk_istore_n X dX2_workOnce_19 rfl (by decide) rfl) ?_
  refine zz_cons (k' := 21) rfl (zk_aload_n X dX2_workOnce_20 rfl rfl) ?_
  refine zz_cons (k' := 22) rfl (zk_getf X ff_X2_38 dX2_workOnce_21 rfl) ?_
  refine zz_cons (k' := 23) rfl (zz_Ok_none _ _) ?_
  refine zz_cons (k' := 24) rfl (zz_Ok_none _ _) ?_
  refine zz_cons (k' := 25) rfl (zk_iload_n X dX2_workOnce_24 rfl rfl) ?_
  refine zz_cons (k' := 26) rfl (zk_iald X (zzWC_st Wd) dX2_workOnce_25 rfl) ?_
  refine zz_cons (k' := 27) rfl (zk_aload_n X dX2_workOnce_26 rfl rfl) ?_
  refine zz_cons (k' := 28) rfl (zk_getf X ff_X2_44 dX2_workOnce_27 rfl) ?_
  refine zz_cons (k' := 29) rfl (zz_Ok_none _ _) ?_
  refine zz_cons (k' := 30) rfl (zz_Ok_none _ _) ?_
  refine zz_cons (k' := 31) rfl (zk_icmp_le X dX2_workOnce_30 (by decide) rfl) ?_
  refine zz_cons (k' := 32) rfl (zz_Ok_none _ _) ?_
  refine zz_cons (k' := 33) rfl (zz_Ok_none _ _) ?_
  refine zz_cons (k' := 34) rfl (zk_iconst X dX2_workOnce_33 (by decide) rfl) ?_
  refine zz_cons (k' := 35) rfl (zk_goto X dX2_workOnce_34 (by decide)) ?_
  refine zz_cons (k' := 36) rfl (zz_Ok_none _ _) ?_
  refine zz_cons (k' := 37) rfl (zz_Ok_none _ _) ?_
  refine zz_cons (k' := 38) rfl (zk_aload_n X dX2_workOnce_37 rfl rfl) ?_
  refine zz_cons (k' := 39) rfl (zk_iload_n X dX2_workOnce_38 rfl rfl) ?_
  refine zz_cons (k' := 40) rfl (zk_callv X (zz_Cv_of (List.forall_mem_cons.mpr ⟨⟨(RX_1, zzT1, 12), yX1_serve, cX1_serve, 4, (some .int), 5, 116, rfl, kv_X2_107_1, (mm_X1_serve Wd).1, by decide, by decide⟩, (List.forall_mem_cons.mpr ⟨⟨(RX_2, zzT2, 12), yX3_serve, cX3_serve, 7, (some .int), 5, 116, rfl, kv_X2_107_2, (mm_X3_serve Wd).1, by decide, by decide⟩, (List.forall_mem_cons.mpr ⟨⟨(RX_3, zzT3, 12), yX4_serve, cX4_serve, 2, (some .int), 5, 122, rfl, kv_X2_107_3, (mm_X4_serve Wd).1, by decide, by decide⟩, (List.forall_mem_cons.mpr ⟨⟨(RX_4, zzT4, 12), yX5_serve, cX5_serve, 4, (some .int), 3, 72, rfl, kv_X2_107_4, (mm_X5_serve Wd).1, by decide, by decide⟩, (List.forall_mem_cons.mpr ⟨⟨(RX_5, zzT5, 12), yX6_serve, cX6_serve, 6, (some .int), 4, 94, rfl, kv_X2_107_5, (mm_X6_serve Wd).1, by decide, by decide⟩, (List.forall_mem_cons.mpr ⟨⟨(RX_6, zzT6, 13), yX7_serve, cX7_serve, 7, (some .int), 4, 96, rfl, kv_X2_107_6, (mm_X7_serve Wd).1, by decide, by decide⟩, (List.forall_mem_cons.mpr ⟨⟨(RX_7, zzT7, 15), yX8_serve, cX8_serve, 6, (some .int), 5, 118, rfl, kv_X2_107_7, (mm_X8_serve Wd).1, by decide, by decide⟩, (fun _ h => absurd h List.not_mem_nil)⟩)⟩)⟩)⟩)⟩)⟩)⟩)) dX2_workOnce_39 rfl) ?_
  refine zz_cons (k' := 41) rfl (zz_Ok_none _ _) ?_
  refine zz_cons (k' := 42) rfl (zz_Ok_none _ _) ?_
  refine zz_cons (k' := 43) rfl (zk_istore_n X dX2_workOnce_42 rfl (by decide) rfl) ?_
  refine zz_cons (k' := 44) rfl (zk_aload_n X dX2_workOnce_43 rfl rfl) ?_
  refine zz_cons (k' := 45) rfl (zk_getf X ff_X2_15 dX2_workOnce_44 rfl) ?_
  refine zz_cons (k' := 46) rfl (zz_Ok_none _ _) ?_
  refine zz_cons (k' := 47) rfl (zz_Ok_none _ _) ?_
  refine zz_cons (k' := 48) rfl (zk_getf X ff_X2_54 dX2_workOnce_47 rfl) ?_
  refine zz_cons (k' := 49) rfl (zz_Ok_none _ _) ?_
  refine zz_cons (k' := 50) rfl (zz_Ok_none _ _) ?_
  refine zz_cons (k' := 51) rfl (zk_iload_n X dX2_workOnce_50 rfl rfl) ?_
  refine zz_cons (k' := 52) rfl (zk_icmp_le X dX2_workOnce_51 (by decide) rfl) ?_
  refine zz_cons (k' := 53) rfl (zz_Ok_none _ _) ?_
  refine zz_cons (k' := 54) rfl (zz_Ok_none _ _) ?_
  refine zz_cons (k' := 55) rfl (zk_aload_n X dX2_workOnce_54 rfl rfl) ?_
  refine zz_cons (k' := 56) rfl (zk_getf X ff_X2_38 dX2_workOnce_55 rfl) ?_
  refine zz_cons (k' := 57) rfl (zz_Ok_none _ _) ?_
  refine zz_cons (k' := 58) rfl (zz_Ok_none _ _) ?_
  refine zz_cons (k' := 59) rfl (zk_iload_n X dX2_workOnce_58 rfl rfl) ?_
  refine zz_cons (k' := 60) rfl (zk_aload_n X dX2_workOnce_59 rfl rfl) ?_
  refine zz_cons (k' := 61) rfl (zk_getf X ff_X2_15 dX2_workOnce_60 rfl) ?_
  refine zz_cons (k' := 62) rfl (zz_Ok_none _ _) ?_
  refine zz_cons (k' := 63) rfl (zz_Ok_none _ _) ?_
  refine zz_cons (k' := 64) rfl (zk_getf X ff_X2_54 dX2_workOnce_63 rfl) ?_
  refine zz_cons (k' := 65) rfl (zz_Ok_none _ _) ?_
  refine zz_cons (k' := 66) rfl (zz_Ok_none _ _) ?_
  refine zz_cons (k' := 67) rfl (zk_iast X dX2_workOnce_66 rfl) ?_
  refine zz_cons (k' := 68) rfl (zk_iload_n X dX2_workOnce_67 rfl rfl) ?_
  refine zz_cons (k' := 69) rfl (zk_iconst X dX2_workOnce_68 (by decide) rfl) ?_
  refine zz_cons (k' := 70) rfl (zk_icmp_ne X dX2_workOnce_69 (by decide) rfl) ?_
  refine zz_cons (k' := 71) rfl (zz_Ok_none _ _) ?_
  refine zz_cons (k' := 72) rfl (zz_Ok_none _ _) ?_
  refine zz_cons (k' := 73) rfl (zk_aload_n X dX2_workOnce_72 rfl rfl) ?_
  refine zz_cons (k' := 74) rfl (zk_getf X ff_X2_32 dX2_workOnce_73 rfl) ?_
  refine zz_cons (k' := 75) rfl (zz_Ok_none _ _) ?_
  refine zz_cons (k' := 76) rfl (zz_Ok_none _ _) ?_
  refine zz_cons (k' := 77) rfl (zk_iload_n X dX2_workOnce_76 rfl rfl) ?_
  refine zz_cons (k' := 78) rfl (zk_iconst X dX2_workOnce_77 (by decide) rfl) ?_
  refine zz_cons (k' := 79) rfl (zk_iast X dX2_workOnce_78 rfl) ?_
  refine zz_cons (k' := 80) rfl (zk_iconst X dX2_workOnce_79 (by decide) rfl) ?_
  refine zz_cons (k' := 81) rfl (zk_iret X rfl dX2_workOnce_80) ?_
  refine zz_cons (k' := 82) rfl (zk_iload_n X dX2_workOnce_81 rfl rfl) ?_
  refine zz_cons (k' := 83) rfl (zk_iconst X dX2_workOnce_82 (by decide) rfl) ?_
  refine zz_cons (k' := 84) rfl (zk_icmp_ne X dX2_workOnce_83 (by decide) rfl) ?_
  refine zz_cons (k' := 85) rfl (zz_Ok_none _ _) ?_
  refine zz_cons (k' := 86) rfl (zz_Ok_none _ _) ?_
  refine zz_cons (k' := 87) rfl (zk_aload_n X dX2_workOnce_86 rfl rfl) ?_
  refine zz_cons (k' := 88) rfl (zk_iload_n X dX2_workOnce_87 rfl rfl) ?_
  refine zz_cons (k' := 89) rfl (zk_callv X (zz_Cv_of (List.forall_mem_cons.mpr ⟨⟨(RX_1, zzT1, 12), yX2_noteFailure, cX2_noteFailure, 4, none, 0, 0, rfl, kv_X2_110_1, (mm_X2_noteFailure Wd).1, by decide, by decide⟩, (List.forall_mem_cons.mpr ⟨⟨(RX_2, zzT2, 12), yX2_noteFailure, cX2_noteFailure, 4, none, 0, 0, rfl, kv_X2_110_2, (mm_X2_noteFailure Wd).1, by decide, by decide⟩, (List.forall_mem_cons.mpr ⟨⟨(RX_3, zzT3, 12), yX2_noteFailure, cX2_noteFailure, 4, none, 0, 0, rfl, kv_X2_110_3, (mm_X2_noteFailure Wd).1, by decide, by decide⟩, (List.forall_mem_cons.mpr ⟨⟨(RX_4, zzT4, 12), yX2_noteFailure, cX2_noteFailure, 4, none, 0, 0, rfl, kv_X2_110_4, (mm_X2_noteFailure Wd).1, by decide, by decide⟩, (List.forall_mem_cons.mpr ⟨⟨(RX_5, zzT5, 12), yX2_noteFailure, cX2_noteFailure, 4, none, 0, 0, rfl, kv_X2_110_5, (mm_X2_noteFailure Wd).1, by decide, by decide⟩, (List.forall_mem_cons.mpr ⟨⟨(RX_6, zzT6, 13), yX2_noteFailure, cX2_noteFailure, 4, none, 0, 0, rfl, kv_X2_110_6, (mm_X2_noteFailure Wd).1, by decide, by decide⟩, (List.forall_mem_cons.mpr ⟨⟨(RX_7, zzT7, 15), yX2_noteFailure, cX2_noteFailure, 4, none, 0, 0, rfl, kv_X2_110_7, (mm_X2_noteFailure Wd).1, by decide, by decide⟩, (fun _ h => absurd h List.not_mem_nil)⟩)⟩)⟩)⟩)⟩)⟩)⟩)) dX2_workOnce_88 rfl) ?_
  refine zz_cons (k' := 90) rfl (zz_Ok_none _ _) ?_
  refine zz_cons (k' := 91) rfl (zz_Ok_none _ _) ?_
  refine zz_cons (k' := 92) rfl (zk_aload_n X dX2_workOnce_91 rfl rfl) ?_
  refine zz_cons (k' := 93) rfl (zk_iload_n X dX2_workOnce_92 rfl rfl) ?_
  refine zz_cons (k' := 94) rfl (zk_callv X (zz_Cv_of (List.forall_mem_cons.mpr ⟨⟨(RX_1, zzT1, 12), yX2_enqueue, cX2_enqueue, 2, none, 0, 0, rfl, kv_X2_76_1, (mm_X2_enqueue Wd).1, by decide, by decide⟩, (List.forall_mem_cons.mpr ⟨⟨(RX_2, zzT2, 12), yX2_enqueue, cX2_enqueue, 2, none, 0, 0, rfl, kv_X2_76_2, (mm_X2_enqueue Wd).1, by decide, by decide⟩, (List.forall_mem_cons.mpr ⟨⟨(RX_3, zzT3, 12), yX2_enqueue, cX2_enqueue, 2, none, 0, 0, rfl, kv_X2_76_3, (mm_X2_enqueue Wd).1, by decide, by decide⟩, (List.forall_mem_cons.mpr ⟨⟨(RX_4, zzT4, 12), yX2_enqueue, cX2_enqueue, 2, none, 0, 0, rfl, kv_X2_76_4, (mm_X2_enqueue Wd).1, by decide, by decide⟩, (List.forall_mem_cons.mpr ⟨⟨(RX_5, zzT5, 12), yX2_enqueue, cX2_enqueue, 2, none, 0, 0, rfl, kv_X2_76_5, (mm_X2_enqueue Wd).1, by decide, by decide⟩, (List.forall_mem_cons.mpr ⟨⟨(RX_6, zzT6, 13), yX2_enqueue, cX2_enqueue, 2, none, 0, 0, rfl, kv_X2_76_6, (mm_X2_enqueue Wd).1, by decide, by decide⟩, (List.forall_mem_cons.mpr ⟨⟨(RX_7, zzT7, 15), yX2_enqueue, cX2_enqueue, 2, none, 0, 0, rfl, kv_X2_76_7, (mm_X2_enqueue Wd).1, by decide, by decide⟩, (fun _ h => absurd h List.not_mem_nil)⟩)⟩)⟩)⟩)⟩)⟩)⟩)) dX2_workOnce_93 rfl) ?_
  refine zz_cons (k' := 95) rfl (zz_Ok_none _ _) ?_
  refine zz_cons (k' := 96) rfl (zz_Ok_none _ _) ?_
  refine zz_cons (k' := 97) rfl (zk_iload_n X dX2_workOnce_96 rfl rfl) ?_
  refine zz_cons (k' := 98) rfl (zk_iret X rfl dX2_workOnce_97) ?_
  exact trivial
end
