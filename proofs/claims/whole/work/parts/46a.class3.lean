/-! the class: rows filled and copied, short numbers, rows -/
section Class3
variable {G : GG} {m : Mem}

def flM (m : Mem) (a : Nat) (x : Int32) (n : Nat) : Mem := lp (fun i q => sAI q a i x) n m
theorem fl_T (a : Nat) (x : Int32) (n : Nat) : gT (flM m a x n) = gT m := by
  induction n with
  | zero => rfl
  | succ n ih => exact ih
theorem fl_N (a : Nat) (x : Int32) (n : Nat) : gN (flM m a x n) = gN m := by
  induction n with
  | zero => rfl
  | succ n ih => exact ih
theorem fl_L (a : Nat) (x : Int32) (n : Nat) : gL (flM m a x n) = gL m := by
  induction n with
  | zero => rfl
  | succ n ih => exact ih
theorem fl_P (a : Nat) (x : Int32) (n : Nat) : gP (flM m a x n) = gP m := by
  induction n with
  | zero => rfl
  | succ n ih => exact ih
theorem fl_at (a : Nat) (x : Int32) (n : Nat) : ∀ i, i < n → aI (flM m a x n) a i = x := by
  induction n with
  | zero => intro i hi; exact absurd hi (Nat.not_lt_zero _)
  | succ n ih =>
    intro i hi
    show u2 (aI (flM m a x n)) a n x a i = x
    by_cases e : i = n
    · subst e
      exact u2_eq _ _ _ _
    · rw [u2_na _ _ e]
      exact ih i (by omega)

set_option maxRecDepth 100000 in
set_option maxHeartbeats 4000000 in
theorem a_fillI {a : Nat} {x : Int32} (ht : gT m a = 12) (hn : gN m a < 2 ^ 31) : Ev G 0 uJ7_fill_53178 [.ref a, .int x] m none (flM m a x (gN m a)) := by
  refine Ev.of plain_J7 (Nat.le_of_ble_eq_true rfl) ?_
  have L : ∀ (k i : Nat), i + k = gN m a → EvB G 0 uJ7_fill_53178 (zz m) (nn m) none (flM m a x (gN m a)) 5 [(2, .int (nI i)), (3, .int (nI (gN m a))), (0, .ref a), (1, .int x)] [] (flM m a x i) := by
    intro k
    induction k with
    | zero =>
      intro i hi
      refine e_iload_n 0 dJ7_fill_53178_5 rfl ?_
      refine e_iload_n 1 dJ7_fill_53178_6 rfl ?_
      refine e_icmp_geN 20 dJ7_fill_53178_7 (by decide) (by omega) (by omega) (fun _ => ?_) (fun h => absurd h (by omega))
      exact e_retV dJ7_fill_53178_20 rfl rfl (hm := by rw [show i = gN m a by omega])
    | succ k ih =>
      intro i hi
      refine e_iload_n 0 dJ7_fill_53178_5 rfl ?_
      refine e_iload_n 1 dJ7_fill_53178_6 rfl ?_
      refine e_icmp_geN 20 dJ7_fill_53178_7 (by decide) (by omega) (by omega) (fun h => absurd h (by omega)) (fun _ => ?_)
      refine e_aload_n 2 dJ7_fill_53178_10 rfl ?_
      refine e_iload_n 0 dJ7_fill_53178_11 rfl ?_
      refine e_iload_n 3 dJ7_fill_53178_12 rfl ?_
      refine e_iastN (flM m a x (i + 1)) dJ7_fill_53178_13 (by rw [fl_T]; exact ht) (by rw [fl_N]; omega) (by rw [fl_N]; exact hn) rfl ?_
      refine e_iinc1N (lv' := [(2, .int (nI (i + 1))), (3, .int (nI (gN m a))), (0, .ref a), (1, .int x)]) 0 dJ7_fill_53178_14 rfl (by decide) rfl ?_
      refine e_goto 5 dJ7_fill_53178_17 (by decide) ?_
      refine e_sub [0, 1, 2, 3] rfl ?_
      exact ih (i + 1) (by omega)
  refine e_lvs (lv' := [(0, .ref a), (1, .int x)]) rfl ?_
  refine e_ic (nI 0) dJ7_fill_53178_0 (by decide) ?_
  refine e_istore_n (lv' := [(2, .int (nI 0)), (0, .ref a), (1, .int x)]) dJ7_fill_53178_1 (by decide) rfl ?_
  refine e_aload_n 1 dJ7_fill_53178_2 rfl ?_
  refine e_alen (n := nI (gN m a)) dJ7_fill_53178_3 ht (by omega) rfl ?_
  refine e_istore_n (lv' := [(3, .int (nI (gN m a))), (2, .int (nI 0)), (0, .ref a), (1, .int x)]) dJ7_fill_53178_4 (by decide) rfl ?_
  refine e_sub [1, 0, 2, 3] rfl ?_
  exact L (gN m a) 0 (by omega)

set_option maxRecDepth 100000 in
set_option maxHeartbeats 4000000 in
theorem a_fillS {a : Nat} {x : Int32} (ht : gT m a = 14) (hn : gN m a < 2 ^ 31) (hx : narrow .short (.int x) = .int x) : Ev G 0 uJ7_fill_fb410 [.ref a, .int x] m none (flM m a x (gN m a)) := by
  refine Ev.of plain_J7 (Nat.le_of_ble_eq_true rfl) ?_
  have L : ∀ (k i : Nat), i + k = gN m a → EvB G 0 uJ7_fill_fb410 (zz m) (nn m) none (flM m a x (gN m a)) 5 [(2, .int (nI i)), (3, .int (nI (gN m a))), (0, .ref a), (1, .int x)] [] (flM m a x i) := by
    intro k
    induction k with
    | zero =>
      intro i hi
      refine e_iload_n 0 dJ7_fill_fb410_5 rfl ?_
      refine e_iload_n 1 dJ7_fill_fb410_6 rfl ?_
      refine e_icmp_geN 20 dJ7_fill_fb410_7 (by decide) (by omega) (by omega) (fun _ => ?_) (fun h => absurd h (by omega))
      exact e_retV dJ7_fill_fb410_20 rfl rfl (hm := by rw [show i = gN m a by omega])
    | succ k ih =>
      intro i hi
      refine e_iload_n 0 dJ7_fill_fb410_5 rfl ?_
      refine e_iload_n 1 dJ7_fill_fb410_6 rfl ?_
      refine e_icmp_geN 20 dJ7_fill_fb410_7 (by decide) (by omega) (by omega) (fun h => absurd h (by omega)) (fun _ => ?_)
      refine e_aload_n 2 dJ7_fill_fb410_10 rfl ?_
      refine e_iload_n 0 dJ7_fill_fb410_11 rfl ?_
      refine e_iload_n 3 dJ7_fill_fb410_12 rfl ?_
      refine e_sastN (y := x) (flM m a x (i + 1)) dJ7_fill_fb410_13 (by rw [fl_T]; exact ht) (by rw [fl_N]; omega) (by rw [fl_N]; exact hn) hx rfl ?_
      refine e_iinc1N (lv' := [(2, .int (nI (i + 1))), (3, .int (nI (gN m a))), (0, .ref a), (1, .int x)]) 0 dJ7_fill_fb410_14 rfl (by decide) rfl ?_
      refine e_goto 5 dJ7_fill_fb410_17 (by decide) ?_
      refine e_sub [0, 1, 2, 3] rfl ?_
      exact ih (i + 1) (by omega)
  refine e_lvs (lv' := [(0, .ref a), (1, .int x)]) rfl ?_
  refine e_ic (nI 0) dJ7_fill_fb410_0 (by decide) ?_
  refine e_istore_n (lv' := [(2, .int (nI 0)), (0, .ref a), (1, .int x)]) dJ7_fill_fb410_1 (by decide) rfl ?_
  refine e_aload_n 1 dJ7_fill_fb410_2 rfl ?_
  refine e_alen (n := nI (gN m a)) dJ7_fill_fb410_3 ht (by omega) rfl ?_
  refine e_istore_n (lv' := [(3, .int (nI (gN m a))), (2, .int (nI 0)), (0, .ref a), (1, .int x)]) dJ7_fill_fb410_4 (by decide) rfl ?_
  refine e_sub [1, 0, 2, 3] rfl ?_
  exact L (gN m a) 0 (by omega)

theorem fit_b (y : Int8) : fits (tyA 11) (.int y.toInt32) = true := by
  show (decide (-128 ≤ y.toInt32) && decide (y.toInt32 ≤ 127)) = true
  rw [Bool.and_eq_true, decide_eq_true_iff, decide_eq_true_iff, Int32.le_iff_toInt_le, Int32.le_iff_toInt_le, Int8.toInt_toInt32]
  exact ⟨Int8.le_toInt y, Int8.toInt_le y⟩

set_option maxRecDepth 100000 in
set_option maxHeartbeats 4000000 in
theorem a_copyI {a N : Nat} (ht : gT m a = 12) (ha : a < zz m) (hl : gN m a < N) (hN : N ≤ 40000) : Ev G 1 uJ7_copyOf_59c91 [.ref a, .int (nI N)] m (some (.ref (zz m))) (sRI (nw m 12 N) (zz m) (va_cpy (aI m a) (aI (nw m 12 N) (zz m)) 0 0 (gN m a))) := by
  refine Ev.of plain_J7 (Nat.le_of_ble_eq_true rfl) ?_
  have hta : gT (nw m 12 N) a = 12 := (vu_ne _ _ (by omega)).trans ht
  have hla : gN (nw m 12 N) a = gN m a := vu_ne _ _ (by omega)
  have hlz : gN (nw m 12 N) (zz m) = N := vu_eq _ _ _
  have hca : aI (nw m 12 N) a = aI m a := by
    funext i
    show zr (aI m) (zz m) 0 a i = _
    unfold zr
    rw [if_neg (by omega)]
  refine e_lvs (lv' := [(0, .ref a), (1, .int (nI N))]) rfl ?_
  refine e_iload_n 1 dJ7_copyOf_59c91_0 rfl ?_
  refine e_aload_n 0 dJ7_copyOf_59c91_1 rfl ?_
  refine e_alen (n := nI (gN m a)) dJ7_copyOf_59c91_2 ht (by omega) rfl ?_
  refine e_icmp_neN 14 dJ7_copyOf_59c91_3 (by decide) (by omega) (by omega) (fun _ => ?_) (fun h => absurd h (by omega))
  refine e_iload_n 1 dJ7_copyOf_59c91_14 rfl ?_
  refine e_newa (t := 12) (N := N) dJ7_copyOf_59c91_15 ac_int ⟨by omega, rfl⟩ (nI_pos (by omega)) (nI_clamp (by omega)) (by omega) ?_
  refine e_astore_n (lv' := [(2, .ref (zz m)), (0, .ref a), (1, .int (nI N))]) dJ7_copyOf_59c91_17 (by decide) rfl ?_
  refine e_aload_n 1 dJ7_copyOf_59c91_18 rfl ?_
  refine e_ic (nI 0) dJ7_copyOf_59c91_19 (by decide) ?_
  refine e_aload_n 0 dJ7_copyOf_59c91_20 rfl ?_
  refine e_ic (nI 0) dJ7_copyOf_59c91_21 (by decide) ?_
  refine e_aload_n 1 dJ7_copyOf_59c91_22 rfl ?_
  refine e_alen (n := nI (gN m a)) dJ7_copyOf_59c91_23 hta (by omega) (by rw [hla]; rfl) ?_
  refine e_iload_n 2 dJ7_copyOf_59c91_24 rfl ?_
  refine e_jmin dJ7_copyOf_59c91_25 lkm_J7_304 (Nat.le_of_ble_eq_true rfl) ?_
  refine e_iv (w := nI (gN m a)) (by rw [mnI, if_neg (fun q => absurd ((nI_ltI (by omega) (by omega)).mp q) (by omega))]) ?_
  refine e_copyI (t := 12) dJ7_copyOf_59c91_28 lkm_J7_150 nat_arraycopy sm_arraycopy ini_J10 hta (vu_eq _ _ _) (by omega) (by rw [hla]; omega) (by rw [hlz]; omega) (by rw [hla]; omega) (by rw [hlz]; omega) (fun _ _ => rfl) (Nat.le_of_ble_eq_true rfl) ?_
  refine e_aload_n 0 dJ7_copyOf_59c91_31 rfl ?_
  exact e_retA (v := some (zz m)) dJ7_copyOf_59c91_32 rfl (by simp) rfl rfl (hm := by rw [hca])

set_option maxRecDepth 100000 in
set_option maxHeartbeats 4000000 in
theorem a_copyB {a N : Nat} (ht : gT m a = 11) (ha : a < zz m) (hl : gN m a < N) (hN : N ≤ 40000) (hb : ∀ j, ∃ y : Int8, aI m a j = y.toInt32) : Ev G 1 uJ7_copyOf_9075b [.ref a, .int (nI N)] m (some (.ref (zz m))) (sRI (nw m 11 N) (zz m) (va_cpy (aI m a) (aI (nw m 11 N) (zz m)) 0 0 (gN m a))) := by
  refine Ev.of plain_J7 (Nat.le_of_ble_eq_true rfl) ?_
  have hta : gT (nw m 11 N) a = 11 := (vu_ne _ _ (by omega)).trans ht
  have hla : gN (nw m 11 N) a = gN m a := vu_ne _ _ (by omega)
  have hlz : gN (nw m 11 N) (zz m) = N := vu_eq _ _ _
  have hca : aI (nw m 11 N) a = aI m a := by
    funext i
    show zr (aI m) (zz m) 0 a i = _
    unfold zr
    rw [if_neg (by omega)]
  refine e_lvs (lv' := [(0, .ref a), (1, .int (nI N))]) rfl ?_
  refine e_iload_n 1 dJ7_copyOf_9075b_0 rfl ?_
  refine e_aload_n 0 dJ7_copyOf_9075b_1 rfl ?_
  refine e_alen (n := nI (gN m a)) dJ7_copyOf_9075b_2 ht (by omega) rfl ?_
  refine e_icmp_neN 14 dJ7_copyOf_9075b_3 (by decide) (by omega) (by omega) (fun _ => ?_) (fun h => absurd h (by omega))
  refine e_iload_n 1 dJ7_copyOf_9075b_14 rfl ?_
  refine e_newa (t := 11) (N := N) dJ7_copyOf_9075b_15 ac_byte ⟨by omega, rfl⟩ (nI_pos (by omega)) (nI_clamp (by omega)) (by omega) ?_
  refine e_astore_n (lv' := [(2, .ref (zz m)), (0, .ref a), (1, .int (nI N))]) dJ7_copyOf_9075b_17 (by decide) rfl ?_
  refine e_aload_n 1 dJ7_copyOf_9075b_18 rfl ?_
  refine e_ic (nI 0) dJ7_copyOf_9075b_19 (by decide) ?_
  refine e_aload_n 0 dJ7_copyOf_9075b_20 rfl ?_
  refine e_ic (nI 0) dJ7_copyOf_9075b_21 (by decide) ?_
  refine e_aload_n 1 dJ7_copyOf_9075b_22 rfl ?_
  refine e_alen (n := nI (gN m a)) dJ7_copyOf_9075b_23 hta (by omega) (by rw [hla]; rfl) ?_
  refine e_iload_n 2 dJ7_copyOf_9075b_24 rfl ?_
  refine e_jmin dJ7_copyOf_9075b_25 lkm_J7_304 (Nat.le_of_ble_eq_true rfl) ?_
  refine e_iv (w := nI (gN m a)) (by rw [mnI, if_neg (fun q => absurd ((nI_ltI (by omega) (by omega)).mp q) (by omega))]) ?_
  refine e_copyI (t := 11) dJ7_copyOf_9075b_28 lkm_J7_150 nat_arraycopy sm_arraycopy ini_J10 hta (vu_eq _ _ _) (by omega) (by rw [hla]; omega) (by rw [hlz]; omega) (by rw [hla]; omega) (by rw [hlz]; omega) (fun j _ => by rw [hca]; obtain ⟨y, hy⟩ := hb (0 + j); rw [hy]; exact fit_b y) (Nat.le_of_ble_eq_true rfl) ?_
  refine e_aload_n 0 dJ7_copyOf_9075b_31 rfl ?_
  exact e_retA (v := some (zz m)) dJ7_copyOf_9075b_32 rfl (by simp) rfl rfl (hm := by rw [hca])

set_option maxRecDepth 100000 in
set_option maxHeartbeats 4000000 in
theorem a_copyL {a N : Nat} (ht : gT m a = 13) (ha : a < zz m) (hl : gN m a < N) (hN : N ≤ 40000) : Ev G 1 uJ7_copyOf_c38d5 [.ref a, .int (nI N)] m (some (.ref (zz m))) (sRL (nw m 13 N) (zz m) (va_cpy (aL m a) (aL (nw m 13 N) (zz m)) 0 0 (gN m a))) := by
  refine Ev.of plain_J7 (Nat.le_of_ble_eq_true rfl) ?_
  have hta : gT (nw m 13 N) a = 13 := (vu_ne _ _ (by omega)).trans ht
  have hla : gN (nw m 13 N) a = gN m a := vu_ne _ _ (by omega)
  have hlz : gN (nw m 13 N) (zz m) = N := vu_eq _ _ _
  have hca : aL (nw m 13 N) a = aL m a := by
    funext i
    show zr (aL m) (zz m) 0 a i = _
    unfold zr
    rw [if_neg (by omega)]
  refine e_lvs (lv' := [(0, .ref a), (1, .int (nI N))]) rfl ?_
  refine e_iload_n 1 dJ7_copyOf_c38d5_0 rfl ?_
  refine e_aload_n 0 dJ7_copyOf_c38d5_1 rfl ?_
  refine e_alen (n := nI (gN m a)) dJ7_copyOf_c38d5_2 ht (by omega) rfl ?_
  refine e_icmp_neN 14 dJ7_copyOf_c38d5_3 (by decide) (by omega) (by omega) (fun _ => ?_) (fun h => absurd h (by omega))
  refine e_iload_n 1 dJ7_copyOf_c38d5_14 rfl ?_
  refine e_newa (t := 13) (N := N) dJ7_copyOf_c38d5_15 ac_long ⟨by omega, rfl⟩ (nI_pos (by omega)) (nI_clamp (by omega)) (by omega) ?_
  refine e_astore_n (lv' := [(2, .ref (zz m)), (0, .ref a), (1, .int (nI N))]) dJ7_copyOf_c38d5_17 (by decide) rfl ?_
  refine e_aload_n 1 dJ7_copyOf_c38d5_18 rfl ?_
  refine e_ic (nI 0) dJ7_copyOf_c38d5_19 (by decide) ?_
  refine e_aload_n 0 dJ7_copyOf_c38d5_20 rfl ?_
  refine e_ic (nI 0) dJ7_copyOf_c38d5_21 (by decide) ?_
  refine e_aload_n 1 dJ7_copyOf_c38d5_22 rfl ?_
  refine e_alen (n := nI (gN m a)) dJ7_copyOf_c38d5_23 hta (by omega) (by rw [hla]; rfl) ?_
  refine e_iload_n 2 dJ7_copyOf_c38d5_24 rfl ?_
  refine e_jmin dJ7_copyOf_c38d5_25 lkm_J7_304 (Nat.le_of_ble_eq_true rfl) ?_
  refine e_iv (w := nI (gN m a)) (by rw [mnI, if_neg (fun q => absurd ((nI_ltI (by omega) (by omega)).mp q) (by omega))]) ?_
  refine e_copyL dJ7_copyOf_c38d5_28 lkm_J7_150 nat_arraycopy sm_arraycopy ini_J10 hta (vu_eq _ _ _) (by rw [hla]; omega) (by rw [hlz]; omega) (by rw [hla]; omega) (by rw [hlz]; omega) (Nat.le_of_ble_eq_true rfl) ?_
  refine e_aload_n 0 dJ7_copyOf_c38d5_31 rfl ?_
  exact e_retA (v := some (zz m)) dJ7_copyOf_c38d5_32 rfl (by simp) rfl rfl (hm := by rw [hca])

end Class3
