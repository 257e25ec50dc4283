/-! the reference: the constructor -/
section Model16
variable {G : GG} {m : Mem} {M : Nat}
set_option maxRecDepth 100000 in
set_option maxHeartbeats 4000000 in
theorem m_init2 {m0 : Mem} {X : XX} {z0 n0 : Nat} {mF : Mem} (hX : MW m0 X) (hM : MM m0 X (inK, (fun _ => 0), (fun _ => 0)) = mF) : EvB G 1 uX6_init z0 n0 none mF 52 [(0, .ref X.1)] [] (MM m0 X ((fun _ => 0), (fun _ => 0), (fun _ => 0))) := by
  have L3 : ∀ (k i : Nat), i + k = 32 → EvB G 1 uX6_init z0 n0 none mF 110 [(1, .int (nI i)), (0, .ref X.1)] [] (MM m0 X ((lp (fun p k => upd k (340 + p) (-1)) i (lp (fun l k => upd k (240 + l) (-2)) 100 (c4 (upd (fun _ => 0) 2 (nI 1))))), (fun _ => 0), (fun _ => 0))) := by
    intro k
    induction k with
    | zero =>
      intro i hi
      refine e_iload_n 0 dX6_init_110 rfl ?_
      refine e_bipush (v := nI 32) dX6_init_111 (by decide) ?_
      refine e_icmp_geN 133 dX6_init_113 (by decide) (by omega) (by omega) (fun _ => ?_) (fun h => absurd h (by omega))
      have e1 : i = 32 := by omega
      subst e1
      exact e_retV dX6_init_133 rfl rfl hM
    | succ k ih =>
      intro i hi
      refine e_iload_n 0 dX6_init_110 rfl ?_
      refine e_bipush (v := nI 32) dX6_init_111 (by decide) ?_
      refine e_icmp_geN 133 dX6_init_113 (by decide) (by omega) (by omega) (fun h => absurd h (by omega)) (fun _ => ?_)
      refine e_aload_n 1 dX6_init_116 rfl ?_
      refine e_mk hX dX6_init_117 fl_X6_8 ?_
      refine e_sipush (v := nI 340) dX6_init_120 (by decide) ?_
      refine e_iload_n 0 dX6_init_123 rfl ?_
      refine e_iaddN dX6_init_124 ?_
      refine e_ic ((-1)) dX6_init_125 (by decide) ?_
      refine e_kst hX dX6_init_126 (by omega) ?_
      refine e_iinc1N (lv' := [(1, .int (nI (i + 1))), (0, .ref X.1)]) 0 dX6_init_127 rfl (by decide) rfl ?_
      refine e_goto 110 dX6_init_130 (by decide) ?_
      refine e_sub [0, 1] rfl ?_
      exact ih (i + 1) (by omega)
  have L2 : ∀ (k i : Nat), i + k = 100 → EvB G 1 uX6_init z0 n0 none mF 84 [(1, .int (nI i)), (0, .ref X.1)] [] (MM m0 X ((lp (fun l k => upd k (240 + l) (-2)) i (c4 (upd (fun _ => 0) 2 (nI 1)))), (fun _ => 0), (fun _ => 0))) := by
    intro k
    induction k with
    | zero =>
      intro i hi
      refine e_iload_n 0 dX6_init_84 rfl ?_
      refine e_bipush (v := nI 100) dX6_init_85 (by decide) ?_
      refine e_icmp_geN 108 dX6_init_87 (by decide) (by omega) (by omega) (fun _ => ?_) (fun h => absurd h (by omega))
      refine e_ic (nI 0) dX6_init_108 (by decide) ?_
      refine e_istore_n (lv' := [(1, .int (nI 0)), (0, .ref X.1)]) dX6_init_109 (by decide) rfl ?_
      refine e_sub [0, 1] rfl ?_
      have e1 : i = 100 := by omega
      subst e1
      exact L3 32 0 (by omega)
    | succ k ih =>
      intro i hi
      refine e_iload_n 0 dX6_init_84 rfl ?_
      refine e_bipush (v := nI 100) dX6_init_85 (by decide) ?_
      refine e_icmp_geN 108 dX6_init_87 (by decide) (by omega) (by omega) (fun h => absurd h (by omega)) (fun _ => ?_)
      refine e_aload_n 1 dX6_init_90 rfl ?_
      refine e_mk hX dX6_init_91 fl_X6_8 ?_
      refine e_sipush (v := nI 240) dX6_init_94 (by decide) ?_
      refine e_iload_n 0 dX6_init_97 rfl ?_
      refine e_iaddN dX6_init_98 ?_
      refine e_bipush (v := (-2)) dX6_init_99 (by decide) ?_
      refine e_kst hX dX6_init_101 (by omega) ?_
      refine e_iinc1N (lv' := [(1, .int (nI (i + 1))), (0, .ref X.1)]) 0 dX6_init_102 rfl (by decide) rfl ?_
      refine e_goto 84 dX6_init_105 (by decide) ?_
      refine e_sub [0, 1] rfl ?_
      exact ih (i + 1) (by omega)
  refine e_aload_n 0 dX6_init_52 rfl ?_
  refine e_mk hX dX6_init_53 fl_X6_8 ?_
  refine e_ic (nI 2) dX6_init_56 (by decide) ?_
  refine e_ic (nI 1) dX6_init_57 (by decide) ?_
  refine e_kst hX dX6_init_58 (by omega) ?_
  refine e_ic (nI 0) dX6_init_59 (by decide) ?_
  refine e_istore_n (lv' := [(1, .int (nI 0)), (0, .ref X.1)]) dX6_init_60 (by decide) rfl ?_
  refine e_iload_n 0 dX6_init_61 rfl ?_
  refine e_ic (nI 4) dX6_init_62 (by decide) ?_
  refine e_icmp_geN 82 dX6_init_63 (by decide) (by omega) (by omega) (fun h => absurd h (by decide)) (fun _ => ?_)
  refine e_aload_n 1 dX6_init_66 rfl ?_
  refine e_mk hX dX6_init_67 fl_X6_8 ?_
  refine e_bipush (v := nI 7) dX6_init_70 (by decide) ?_
  refine e_iload_n 0 dX6_init_72 rfl ?_
  refine e_iaddN dX6_init_73 ?_
  refine e_ic ((-1)) dX6_init_74 (by decide) ?_
  refine e_kst hX dX6_init_75 (by omega) ?_
  refine e_iinc1N (lv' := [(1, .int (nI 1)), (0, .ref X.1)]) 0 dX6_init_76 rfl (by decide) rfl ?_
  refine e_goto 61 dX6_init_79 (by decide) ?_
  refine e_iload_n 0 dX6_init_61 rfl ?_
  refine e_ic (nI 4) dX6_init_62 (by decide) ?_
  refine e_icmp_geN 82 dX6_init_63 (by decide) (by omega) (by omega) (fun h => absurd h (by decide)) (fun _ => ?_)
  refine e_aload_n 1 dX6_init_66 rfl ?_
  refine e_mk hX dX6_init_67 fl_X6_8 ?_
  refine e_bipush (v := nI 7) dX6_init_70 (by decide) ?_
  refine e_iload_n 0 dX6_init_72 rfl ?_
  refine e_iaddN dX6_init_73 ?_
  refine e_ic ((-1)) dX6_init_74 (by decide) ?_
  refine e_kst hX dX6_init_75 (by omega) ?_
  refine e_iinc1N (lv' := [(1, .int (nI 2)), (0, .ref X.1)]) 0 dX6_init_76 rfl (by decide) rfl ?_
  refine e_goto 61 dX6_init_79 (by decide) ?_
  refine e_iload_n 0 dX6_init_61 rfl ?_
  refine e_ic (nI 4) dX6_init_62 (by decide) ?_
  refine e_icmp_geN 82 dX6_init_63 (by decide) (by omega) (by omega) (fun h => absurd h (by decide)) (fun _ => ?_)
  refine e_aload_n 1 dX6_init_66 rfl ?_
  refine e_mk hX dX6_init_67 fl_X6_8 ?_
  refine e_bipush (v := nI 7) dX6_init_70 (by decide) ?_
  refine e_iload_n 0 dX6_init_72 rfl ?_
  refine e_iaddN dX6_init_73 ?_
  refine e_ic ((-1)) dX6_init_74 (by decide) ?_
  refine e_kst hX dX6_init_75 (by omega) ?_
  refine e_iinc1N (lv' := [(1, .int (nI 3)), (0, .ref X.1)]) 0 dX6_init_76 rfl (by decide) rfl ?_
  refine e_goto 61 dX6_init_79 (by decide) ?_
  refine e_iload_n 0 dX6_init_61 rfl ?_
  refine e_ic (nI 4) dX6_init_62 (by decide) ?_
  refine e_icmp_geN 82 dX6_init_63 (by decide) (by omega) (by omega) (fun h => absurd h (by decide)) (fun _ => ?_)
  refine e_aload_n 1 dX6_init_66 rfl ?_
  refine e_mk hX dX6_init_67 fl_X6_8 ?_
  refine e_bipush (v := nI 7) dX6_init_70 (by decide) ?_
  refine e_iload_n 0 dX6_init_72 rfl ?_
  refine e_iaddN dX6_init_73 ?_
  refine e_ic ((-1)) dX6_init_74 (by decide) ?_
  refine e_kst hX dX6_init_75 (by omega) ?_
  refine e_iinc1N (lv' := [(1, .int (nI 4)), (0, .ref X.1)]) 0 dX6_init_76 rfl (by decide) rfl ?_
  refine e_goto 61 dX6_init_79 (by decide) ?_
  refine e_iload_n 0 dX6_init_61 rfl ?_
  refine e_ic (nI 4) dX6_init_62 (by decide) ?_
  refine e_icmp_geN 82 dX6_init_63 (by decide) (by omega) (by omega) (fun _ => ?_) (fun h => absurd h (by decide))
  refine e_ic (nI 0) dX6_init_82 (by decide) ?_
  refine e_istore_n (lv' := [(1, .int (nI 0)), (0, .ref X.1)]) dX6_init_83 (by decide) rfl ?_
  refine e_sub [0, 1] rfl ?_
  exact L2 100 0 (by omega)
end Model16
