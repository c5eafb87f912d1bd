/-! THE INSTRUCTIONS that the walks meet -/
theorem gwpc {xs : List Int32} {call : CT} {y : Nat} {Q : QT} {pc pc' : Nat} {L : LoS} {st : List Value} {h : AH} {mc ms : Nat} (e : pc = pc') (g : gw xs call y Q pc' L st h mc ms) : gw xs call y Q pc L st h mc ms := by
  rw [e]
  exact g
theorem mx_0 : mMx 0 = 1 := by decide +kernel
theorem cn_0 : mCn 0 = 60 := by decide +kernel
theorem rt_0 : mRt 0 = (some .boolean) := by decide +kernel
theorem sm_t {y pc : Nat} {t : List (Option RI)} {r : RI} (h : allT.getD y [] = t) (h2 : t.getD pc none = some r) : smI y pc = some r := by
  unfold smI
  rw [h]
  exact h2
def zT (y k : Nat) (l : List (Option RI)) : Prop := ∀ i, smI y (k + i) = l.getD i none
theorem zT_0 {y : Nat} {l : List (Option RI)} (h : allT.getD y [] = l) : zT y 0 l := by
  intro i
  rw [Nat.zero_add]
  unfold smI
  rw [h]
theorem zT_s {y k n k2 : Nat} {a b : List (Option RI)} (h : zT y k (a ++ b)) (hl : a.length = n) (hk : k + n = k2) : zT y k2 b := by
  intro i
  subst hk
  rw [Nat.add_assoc, h (n + i), List.getD_eq_getElem?_getD, List.getD_eq_getElem?_getD, List.getElem?_append_right (by omega), hl, Nat.add_sub_cancel_left]
theorem zT_a {y k i : Nat} {a b : List (Option RI)} {r : RI} (h : zT y k (a ++ b)) (e : a.getD i none = some r) : smI y (k + i) = some r := by
  have hi : i < a.length := by
    rcases Nat.lt_or_ge i a.length with q | q
    · exact q
    · rw [List.getD_eq_getElem?_getD, List.getElem?_eq_none q] at e
      simp at e
  rw [h i, List.getD_eq_getElem?_getD, List.getElem?_append_left hi, ← List.getD_eq_getElem?_getD, e]
theorem zT_l {y k i : Nat} {a : List (Option RI)} {r : RI} (h : zT y k a) (e : a.getD i none = some r) : smI y (k + i) = some r := by
  rw [h i, e]
theorem tq_0 : allT.getD 0 [] = tb_0 := rfl
theorem m0_0 : smI 0 0 = some (.getstatic 38, 3, 0, 99, 0, 1) := sm_t tq_0 rfl
theorem m0_3 : smI 0 3 = rI2 (.ifCond .eq 14) 6 17 := sm_t tq_0 rfl
theorem m0_6 : smI 0 6 = rI0 ziA0 7 := sm_t tq_0 rfl
theorem m0_7 : smI 0 7 = rI3 (.getfield 15) 10 60 1 := sm_t tq_0 rfl
theorem m0_10 : smI 0 10 = rI2 (.ifCond .ne 7) 13 17 := sm_t tq_0 rfl
theorem m0_13 : smI 0 13 = rI1 ziC1 14 1 := sm_t tq_0 rfl
theorem m0_14 : smI 0 14 = rI2 (.goto 4) 17 18 := sm_t tq_0 rfl
theorem m0_17 : smI 0 17 = rI0 ziC0 18 := sm_t tq_0 rfl
theorem m0_18 : smI 0 18 = rI0 .ireturn 19 := sm_t tq_0 rfl
theorem mx_1 : mMx 1 = 1 := by decide +kernel
theorem cn_1 : mCn 1 = 60 := by decide +kernel
theorem rt_1 : mRt 1 = (some .byte) := by decide +kernel
theorem tq_1 : allT.getD 1 [] = tb_1 := rfl
theorem m1_0 : smI 1 0 = some (.getstatic 38, 3, 0, 99, 0, 1) := sm_t tq_1 rfl
theorem m1_3 : smI 1 3 = rI2 (.ifCond .eq 10) 6 13 := sm_t tq_1 rfl
theorem m1_6 : smI 1 6 = rI0 ziA0 7 := sm_t tq_1 rfl
theorem m1_7 : smI 1 7 = rI3 (.getfield 15) 10 60 1 := sm_t tq_1 rfl
theorem m1_10 : smI 1 10 = rI2 (.goto 4) 13 14 := sm_t tq_1 rfl
theorem m1_13 : smI 1 13 = rI1 ziC1 14 1 := sm_t tq_1 rfl
theorem m1_14 : smI 1 14 = rI0 .ireturn 15 := sm_t tq_1 rfl
theorem mx_2 : mMx 2 = 1 := by decide +kernel
theorem cn_2 : mCn 2 = 60 := by decide +kernel
theorem rt_2 : mRt 2 = (some .int) := by decide +kernel
theorem tq_2 : allT.getD 2 [] = tb_2 := rfl
theorem m2_0 : smI 2 0 = rI0 ziA0 1 := sm_t tq_2 rfl
theorem m2_1 : smI 2 1 = rI2 (.getfield 9) 4 60 := sm_t tq_2 rfl
theorem m2_4 : smI 2 4 = rI0 .arraylength 5 := sm_t tq_2 rfl
theorem m2_5 : smI 2 5 = rI0 ziA0 6 := sm_t tq_2 rfl
theorem m2_6 : smI 2 6 = rI4 (.invokevirtual 335) 9 20 1 0 := sm_t tq_2 rfl
theorem m2_9 : smI 2 9 = rI0 .ishr 10 := sm_t tq_2 rfl
theorem m2_10 : smI 2 10 = rI0 .ireturn 11 := sm_t tq_2 rfl
theorem mx_3 : mMx 3 = 3 := by decide +kernel
theorem cn_3 : mCn 3 = 60 := by decide +kernel
theorem rt_3 : mRt 3 = (some .int) := by decide +kernel
theorem tq_3 : allT.getD 3 [] = tb_3 := rfl
theorem zT3_0 : zT 3 0 (tb_3_0 ++ (tb_3_1)) := zT_0 tq_3
theorem zT3_1 : zT 3 32 (tb_3_1) := zT_s zT3_0 (n := 32) (by decide +kernel) rfl
theorem m3_0 : smI 3 0 = rI0 ziA0 1 := zT_a (k := 0) (i := 0) zT3_0 rfl
theorem m3_1 : smI 3 1 = rI4 (.invokevirtual 492) 4 20 0 0 := zT_a (k := 0) (i := 1) zT3_0 rfl
theorem m3_4 : smI 3 4 = rI2 (.ifCond .eq 19) 7 23 := zT_a (k := 0) (i := 4) zT3_0 rfl
theorem m3_7 : smI 3 7 = rI0 ziA0 8 := zT_a (k := 0) (i := 7) zT3_0 rfl
theorem m3_8 : smI 3 8 = rI2 (.getfield 9) 11 60 := zT_a (k := 0) (i := 8) zT3_0 rfl
theorem m3_11 : smI 3 11 = rI0 ziI1 12 := zT_a (k := 0) (i := 11) zT3_0 rfl
theorem m3_12 : smI 3 12 = rI0 ziI2 13 := zT_a (k := 0) (i := 12) zT3_0 rfl
theorem m3_13 : smI 3 13 = rI0 ziA0 14 := zT_a (k := 0) (i := 13) zT3_0 rfl
theorem m3_14 : smI 3 14 = rI4 (.invokevirtual 505) 17 20 2 0 := zT_a (k := 0) (i := 14) zT3_0 rfl
theorem m3_17 : smI 3 17 = rI3 (.invokestatic 637) 20 7 4 := zT_a (k := 0) (i := 17) zT3_0 rfl
theorem m3_20 : smI 3 20 = rI2 (.goto 16) 23 36 := zT_a (k := 0) (i := 20) zT3_0 rfl
theorem m3_23 : smI 3 23 = rI0 ziA0 24 := zT_a (k := 0) (i := 23) zT3_0 rfl
theorem m3_24 : smI 3 24 = rI2 (.getfield 9) 27 60 := zT_a (k := 0) (i := 24) zT3_0 rfl
theorem m3_27 : smI 3 27 = rI0 ziI1 28 := zT_a (k := 0) (i := 27) zT3_0 rfl
theorem m3_28 : smI 3 28 = rI0 ziI2 29 := zT_a (k := 0) (i := 28) zT3_0 rfl
theorem m3_29 : smI 3 29 = rI0 ziA0 30 := zT_a (k := 0) (i := 29) zT3_0 rfl
theorem m3_30 : smI 3 30 = rI4 (.invokevirtual 505) 33 20 2 0 := zT_a (k := 0) (i := 30) zT3_0 rfl
theorem m3_36 : smI 3 36 = rI0 .ireturn 37 := zT_l (k := 32) (i := 4) zT3_1 rfl
theorem mx_4 : mMx 4 = 2 := by decide +kernel
theorem cn_4 : mCn 4 = 60 := by decide +kernel
theorem rt_4 : mRt 4 = (some .int) := by decide +kernel
theorem tq_4 : allT.getD 4 [] = tb_4 := rfl
theorem m4_0 : smI 4 0 = rI0 ziA0 1 := sm_t tq_4 rfl
theorem m4_1 : smI 4 1 = rI0 ziI1 2 := sm_t tq_4 rfl
theorem m4_2 : smI 4 2 = rI0 ziC0 3 := sm_t tq_4 rfl
theorem m4_3 : smI 4 3 = rI4 (.invokevirtual 633) 6 20 3 2 := sm_t tq_4 rfl
theorem m4_6 : smI 4 6 = rI0 .ireturn 7 := sm_t tq_4 rfl
theorem mx_5 : mMx 5 = 1 := by decide +kernel
theorem cn_5 : mCn 5 = 61 := by decide +kernel
theorem rt_5 : mRt 5 = (some .boolean) := by decide +kernel
theorem tq_5 : allT.getD 5 [] = tb_5 := rfl
theorem m5_0 : smI 5 0 = rI0 ziI0 1 := sm_t tq_5 rfl
theorem m5_1 : smI 5 1 = rI2 (.ifCond .lt 14) 4 15 := sm_t tq_5 rfl
theorem m5_4 : smI 5 4 = rI0 ziI0 5 := sm_t tq_5 rfl
theorem m5_5 : smI 5 5 = rI1 (.sipush 255) 8 255 := sm_t tq_5 rfl
theorem m5_8 : smI 5 8 = rI2 (.if_icmp .gt 7) 11 15 := sm_t tq_5 rfl
theorem m5_11 : smI 5 11 = rI1 ziC1 12 1 := sm_t tq_5 rfl
theorem m5_12 : smI 5 12 = rI2 (.goto 4) 15 16 := sm_t tq_5 rfl
theorem m5_15 : smI 5 15 = rI0 ziC0 16 := sm_t tq_5 rfl
theorem m5_16 : smI 5 16 = rI0 .ireturn 17 := sm_t tq_5 rfl
theorem mx_6 : mMx 6 = 6 := by decide +kernel
theorem cn_6 : mCn 6 = 61 := by decide +kernel
theorem rt_6 : mRt 6 = (some .int) := by decide +kernel
theorem tq_6 : allT.getD 6 [] = tb_6 := rfl
theorem zT6_0 : zT 6 0 (tb_6_0 ++ (tb_6_1)) := zT_0 tq_6
theorem zT6_1 : zT 6 32 (tb_6_1) := zT_s zT6_0 (n := 32) (by decide +kernel) rfl
theorem m6_0 : smI 6 0 = rI0 ziI1 1 := zT_a (k := 0) (i := 0) zT6_0 rfl
theorem m6_1 : smI 6 1 = rI0 .i2b 2 := zT_a (k := 0) (i := 1) zT6_0 rfl
theorem m6_2 : smI 6 2 = rI0 (.istore 4) 4 := zT_a (k := 0) (i := 2) zT6_0 rfl
theorem m6_4 : smI 6 4 = rI0 ziI2 5 := zT_a (k := 0) (i := 4) zT6_0 rfl
theorem m6_5 : smI 6 5 = rI0 (.istore 5) 7 := zT_a (k := 0) (i := 5) zT6_0 rfl
theorem m6_7 : smI 6 7 = rI0 (.iload 5) 9 := zT_a (k := 0) (i := 7) zT6_0 rfl
theorem m6_9 : smI 6 9 = rI0 ziI3 10 := zT_a (k := 0) (i := 9) zT6_0 rfl
theorem m6_10 : smI 6 10 = rI2 (.if_icmp .ge 21) 13 31 := zT_a (k := 0) (i := 10) zT6_0 rfl
theorem m6_13 : smI 6 13 = rI0 ziA0 14 := zT_a (k := 0) (i := 13) zT6_0 rfl
theorem m6_14 : smI 6 14 = rI0 (.iload 5) 16 := zT_a (k := 0) (i := 14) zT6_0 rfl
theorem m6_16 : smI 6 16 = rI0 .baload 17 := zT_a (k := 0) (i := 16) zT6_0 rfl
theorem m6_17 : smI 6 17 = rI0 (.iload 4) 19 := zT_a (k := 0) (i := 17) zT6_0 rfl
theorem m6_19 : smI 6 19 = rI2 (.if_icmp .ne 6) 22 25 := zT_a (k := 0) (i := 19) zT6_0 rfl
theorem m6_22 : smI 6 22 = rI0 (.iload 5) 24 := zT_a (k := 0) (i := 22) zT6_0 rfl
theorem m6_24 : smI 6 24 = rI0 .ireturn 25 := zT_a (k := 0) (i := 24) zT6_0 rfl
theorem m6_25 : smI 6 25 = rI1 (.iinc 5 1) 28 1 := zT_a (k := 0) (i := 25) zT6_0 rfl
theorem m6_28 : smI 6 28 = rI2 (.goto (-21)) 31 7 := zT_a (k := 0) (i := 28) zT6_0 rfl
theorem m6_31 : smI 6 31 = rI1 (.iconst (-1)) 32 (-1) := zT_a (k := 0) (i := 31) zT6_0 rfl
theorem m6_32 : smI 6 32 = rI0 .ireturn 33 := zT_l (k := 32) (i := 0) zT6_1 rfl
theorem mx_7 : mMx 7 = 4 := by decide +kernel
theorem cn_7 : mCn 7 = 61 := by decide +kernel
theorem rt_7 : mRt 7 = (some .int) := by decide +kernel
theorem tq_7 : allT.getD 7 [] = tb_7 := rfl
theorem zT7_0 : zT 7 0 (tb_7_0 ++ (tb_7_1)) := zT_0 tq_7
theorem zT7_1 : zT 7 32 (tb_7_1) := zT_s zT7_0 (n := 32) (by decide +kernel) rfl
theorem m7_0 : smI 7 0 = rI0 ziI1 1 := zT_a (k := 0) (i := 0) zT7_0 rfl
theorem m7_1 : smI 7 1 = rI3 (.invokestatic 88) 4 5 1 := zT_a (k := 0) (i := 1) zT7_0 rfl
theorem m7_4 : smI 7 4 = rI2 (.ifCond .ne 5) 7 9 := zT_a (k := 0) (i := 4) zT7_0 rfl
theorem m7_7 : smI 7 7 = rI1 (.iconst (-1)) 8 (-1) := zT_a (k := 0) (i := 7) zT7_0 rfl
theorem m7_8 : smI 7 8 = rI0 .ireturn 9 := zT_a (k := 0) (i := 8) zT7_0 rfl
theorem m7_9 : smI 7 9 = rI0 ziI2 10 := zT_a (k := 0) (i := 9) zT7_0 rfl
theorem m7_10 : smI 7 10 = rI0 ziC0 11 := zT_a (k := 0) (i := 10) zT7_0 rfl
theorem m7_11 : smI 7 11 = rI4 (.invokestatic 92) 14 2 0 2 := zT_a (k := 0) (i := 11) zT7_0 rfl
theorem m7_14 : smI 7 14 = rI0 ziS2 15 := zT_a (k := 0) (i := 14) zT7_0 rfl
theorem m7_15 : smI 7 15 = rI0 ziI3 16 := zT_a (k := 0) (i := 15) zT7_0 rfl
theorem m7_16 : smI 7 16 = rI0 ziA0 17 := zT_a (k := 0) (i := 16) zT7_0 rfl
theorem m7_17 : smI 7 17 = rI0 .arraylength 18 := zT_a (k := 0) (i := 17) zT7_0 rfl
theorem m7_18 : smI 7 18 = rI4 (.invokestatic 38) 21 3 0 2 := zT_a (k := 0) (i := 18) zT7_0 rfl
theorem m7_21 : smI 7 21 = rI0 ziS3 22 := zT_a (k := 0) (i := 21) zT7_0 rfl
theorem m7_22 : smI 7 22 = rI0 ziI2 23 := zT_a (k := 0) (i := 22) zT7_0 rfl
theorem m7_23 : smI 7 23 = rI0 ziI3 24 := zT_a (k := 0) (i := 23) zT7_0 rfl
theorem m7_24 : smI 7 24 = rI2 (.if_icmp .lt 5) 27 29 := zT_a (k := 0) (i := 24) zT7_0 rfl
theorem m7_27 : smI 7 27 = rI1 (.iconst (-1)) 28 (-1) := zT_a (k := 0) (i := 27) zT7_0 rfl
theorem m7_28 : smI 7 28 = rI0 .ireturn 29 := zT_a (k := 0) (i := 28) zT7_0 rfl
theorem m7_29 : smI 7 29 = rI0 ziA0 30 := zT_a (k := 0) (i := 29) zT7_0 rfl
theorem m7_30 : smI 7 30 = rI0 ziI1 31 := zT_a (k := 0) (i := 30) zT7_0 rfl
theorem m7_31 : smI 7 31 = rI0 ziI2 32 := zT_a (k := 0) (i := 31) zT7_0 rfl
theorem m7_32 : smI 7 32 = rI0 ziI3 33 := zT_l (k := 32) (i := 0) zT7_1 rfl
theorem m7_33 : smI 7 33 = rI3 (.invokestatic 95) 36 6 4 := zT_l (k := 32) (i := 1) zT7_1 rfl
theorem m7_36 : smI 7 36 = rI0 .ireturn 37 := zT_l (k := 32) (i := 4) zT7_1 rfl
theorem mx_8 : mMx 8 = 3 := by decide +kernel
theorem cn_8 : mCn 8 = 62 := by decide +kernel
theorem rt_8 : mRt 8 = (some (.array .int)) := by decide +kernel
theorem tq_8 : allT.getD 8 [] = tb_8 := rfl
theorem zT8_0 : zT 8 0 (tb_8_0 ++ (tb_8_1)) := zT_0 tq_8
theorem zT8_1 : zT 8 32 (tb_8_1) := zT_s zT8_0 (n := 32) (by decide +kernel) rfl
theorem m8_0 : smI 8 0 = rI0 ziI1 1 := zT_a (k := 0) (i := 0) zT8_0 rfl
theorem m8_1 : smI 8 1 = rI0 ziA0 2 := zT_a (k := 0) (i := 1) zT8_0 rfl
theorem m8_2 : smI 8 2 = rI0 .arraylength 3 := zT_a (k := 0) (i := 2) zT8_0 rfl
theorem m8_3 : smI 8 3 = rI2 (.if_icmp .ne 11) 6 14 := zT_a (k := 0) (i := 3) zT8_0 rfl
theorem m8_6 : smI 8 6 = rI0 ziA0 7 := zT_a (k := 0) (i := 6) zT8_0 rfl
theorem m8_7 : smI 8 7 = rI4 (.invokevirtual 316) 10 5 0 0 := zT_a (k := 0) (i := 7) zT8_0 rfl
theorem m8_10 : smI 8 10 = rI0 (.checkcast 317) 13 := zT_a (k := 0) (i := 10) zT8_0 rfl
theorem m8_13 : smI 8 13 = rI0 .areturn 14 := zT_a (k := 0) (i := 13) zT8_0 rfl
theorem m8_14 : smI 8 14 = rI0 ziI1 15 := zT_a (k := 0) (i := 14) zT8_0 rfl
theorem m8_15 : smI 8 15 = rI0 (.newarray .int) 17 := zT_a (k := 0) (i := 15) zT8_0 rfl
theorem m8_17 : smI 8 17 = rI0 (.astore_n 2) 18 := zT_a (k := 0) (i := 17) zT8_0 rfl
theorem m8_18 : smI 8 18 = rI0 ziA0 19 := zT_a (k := 0) (i := 18) zT8_0 rfl
theorem m8_19 : smI 8 19 = rI0 ziC0 20 := zT_a (k := 0) (i := 19) zT8_0 rfl
theorem m8_20 : smI 8 20 = rI0 ziA2 21 := zT_a (k := 0) (i := 20) zT8_0 rfl
theorem m8_21 : smI 8 21 = rI0 ziC0 22 := zT_a (k := 0) (i := 21) zT8_0 rfl
theorem m8_22 : smI 8 22 = rI0 ziA0 23 := zT_a (k := 0) (i := 22) zT8_0 rfl
theorem m8_23 : smI 8 23 = rI0 .arraylength 24 := zT_a (k := 0) (i := 23) zT8_0 rfl
theorem m8_24 : smI 8 24 = rI0 ziI1 25 := zT_a (k := 0) (i := 24) zT8_0 rfl
theorem m8_25 : smI 8 25 = rI4 (.invokestatic 304) 28 3 0 2 := zT_a (k := 0) (i := 25) zT8_0 rfl
theorem m8_28 : smI 8 28 = rI4 (.invokestatic 150) 31 4 0 5 := zT_a (k := 0) (i := 28) zT8_0 rfl
theorem m8_31 : smI 8 31 = rI0 ziA2 32 := zT_a (k := 0) (i := 31) zT8_0 rfl
theorem m8_32 : smI 8 32 = rI0 .areturn 33 := zT_l (k := 32) (i := 0) zT8_1 rfl
theorem mx_9 : mMx 9 = 4 := by decide +kernel
theorem cn_9 : mCn 9 = 62 := by decide +kernel
theorem rt_9 : mRt 9 = none := by decide +kernel
theorem tq_9 : allT.getD 9 [] = tb_9 := rfl
theorem m9_0 : smI 9 0 = rI0 ziC0 1 := sm_t tq_9 rfl
theorem m9_1 : smI 9 1 = rI0 ziS2 2 := sm_t tq_9 rfl
theorem m9_2 : smI 9 2 = rI0 ziA0 3 := sm_t tq_9 rfl
theorem m9_3 : smI 9 3 = rI0 .arraylength 4 := sm_t tq_9 rfl
theorem m9_4 : smI 9 4 = rI0 ziS3 5 := sm_t tq_9 rfl
theorem m9_5 : smI 9 5 = rI0 ziI2 6 := sm_t tq_9 rfl
theorem m9_6 : smI 9 6 = rI0 ziI3 7 := sm_t tq_9 rfl
theorem m9_7 : smI 9 7 = rI2 (.if_icmp .ge 13) 10 20 := sm_t tq_9 rfl
theorem m9_10 : smI 9 10 = rI0 ziA0 11 := sm_t tq_9 rfl
theorem m9_11 : smI 9 11 = rI0 ziI2 12 := sm_t tq_9 rfl
theorem m9_12 : smI 9 12 = rI0 ziI1 13 := sm_t tq_9 rfl
theorem m9_13 : smI 9 13 = rI0 .iastore 14 := sm_t tq_9 rfl
theorem m9_14 : smI 9 14 = rI1 (.iinc 2 1) 17 1 := sm_t tq_9 rfl
theorem m9_17 : smI 9 17 = rI2 (.goto (-12)) 20 5 := sm_t tq_9 rfl
theorem m9_20 : smI 9 20 = rI0 .return_ 21 := sm_t tq_9 rfl
theorem mx_10 : mMx 10 = 1 := by decide +kernel
theorem cn_10 : mCn 10 = 0 := by decide +kernel
theorem rt_10 : mRt 10 = none := by decide +kernel
theorem tq_10 : allT.getD 10 [] = tb_10 := rfl
theorem zT10_0 : zT 10 0 (tb_10_0 ++ (tb_10_1)) := zT_0 tq_10
theorem zT10_1 : zT 10 32 (tb_10_1) := zT_s zT10_0 (n := 32) (by decide +kernel) rfl
theorem m10_0 : smI 10 0 = rI0 ziA0 1 := zT_a (k := 0) (i := 0) zT10_0 rfl
theorem m10_1 : smI 10 1 = rI4 (.invokespecial 3) 4 12 0 0 := zT_a (k := 0) (i := 1) zT10_0 rfl
theorem m10_4 : smI 10 4 = rI0 ziA0 5 := zT_a (k := 0) (i := 4) zT10_0 rfl
theorem m10_5 : smI 10 5 = rI1 ziC1 6 1 := zT_a (k := 0) (i := 5) zT10_0 rfl
theorem m10_6 : smI 10 6 = rI0 (.putfield 9) 9 := zT_a (k := 0) (i := 6) zT10_0 rfl
theorem m10_9 : smI 10 9 = rI0 ziA0 10 := zT_a (k := 0) (i := 9) zT10_0 rfl
theorem m10_10 : smI 10 10 = rI1 (.bipush 50) 12 50 := zT_a (k := 0) (i := 10) zT10_0 rfl
theorem m10_12 : smI 10 12 = rI0 (.newarray .int) 14 := zT_a (k := 0) (i := 12) zT10_0 rfl
theorem m10_14 : smI 10 14 = rI3 (.putfield 15) 17 0 1 := zT_a (k := 0) (i := 14) zT10_0 rfl
theorem m10_17 : smI 10 17 = rI0 ziA0 18 := zT_a (k := 0) (i := 17) zT10_0 rfl
theorem m10_18 : smI 10 18 = rI0 ziC0 19 := zT_a (k := 0) (i := 18) zT10_0 rfl
theorem m10_19 : smI 10 19 = rI3 (.putfield 19) 22 0 2 := zT_a (k := 0) (i := 19) zT10_0 rfl
theorem m10_22 : smI 10 22 = rI0 ziA0 23 := zT_a (k := 0) (i := 22) zT10_0 rfl
theorem m10_23 : smI 10 23 = rI1 (.bipush 20) 25 20 := zT_a (k := 0) (i := 23) zT10_0 rfl
theorem m10_25 : smI 10 25 = rI0 (.newarray .int) 27 := zT_a (k := 0) (i := 25) zT10_0 rfl
theorem m10_27 : smI 10 27 = rI3 (.putfield 22) 30 0 3 := zT_a (k := 0) (i := 27) zT10_0 rfl
theorem m10_30 : smI 10 30 = rI0 ziA0 31 := zT_a (k := 0) (i := 30) zT10_0 rfl
theorem m10_31 : smI 10 31 = rI0 ziC0 32 := zT_a (k := 0) (i := 31) zT10_0 rfl
theorem m10_32 : smI 10 32 = rI3 (.putfield 25) 35 0 4 := zT_l (k := 32) (i := 0) zT10_1 rfl
theorem m10_35 : smI 10 35 = rI0 .return_ 36 := zT_l (k := 32) (i := 3) zT10_1 rfl
theorem mx_11 : mMx 11 = 2 := by decide +kernel
theorem cn_11 : mCn 11 = 0 := by decide +kernel
theorem rt_11 : mRt 11 = none := by decide +kernel
theorem tq_11 : allT.getD 11 [] = tb_11 := rfl
theorem zT11_0 : zT 11 0 (tb_11_0 ++ (tb_11_1)) := zT_0 tq_11
theorem zT11_1 : zT 11 32 (tb_11_1) := zT_s zT11_0 (n := 32) (by decide +kernel) rfl
theorem m11_0 : smI 11 0 = rI0 ziA0 1 := zT_a (k := 0) (i := 0) zT11_0 rfl
theorem m11_1 : smI 11 1 = rI0 ziA1 2 := zT_a (k := 0) (i := 1) zT11_0 rfl
theorem m11_2 : smI 11 2 = rI0 (.getfield 9) 5 := zT_a (k := 0) (i := 2) zT11_0 rfl
theorem m11_5 : smI 11 5 = rI0 (.putfield 9) 8 := zT_a (k := 0) (i := 5) zT11_0 rfl
theorem m11_8 : smI 11 8 = rI0 ziA1 9 := zT_a (k := 0) (i := 8) zT11_0 rfl
theorem m11_9 : smI 11 9 = rI3 (.getfield 15) 12 0 1 := zT_a (k := 0) (i := 9) zT11_0 rfl
theorem m11_12 : smI 11 12 = rI0 ziC0 13 := zT_a (k := 0) (i := 12) zT11_0 rfl
theorem m11_13 : smI 11 13 = rI0 ziA0 14 := zT_a (k := 0) (i := 13) zT11_0 rfl
theorem m11_14 : smI 11 14 = rI3 (.getfield 15) 17 0 1 := zT_a (k := 0) (i := 14) zT11_0 rfl
theorem m11_17 : smI 11 17 = rI0 ziC0 18 := zT_a (k := 0) (i := 17) zT11_0 rfl
theorem m11_18 : smI 11 18 = rI1 (.bipush 50) 20 50 := zT_a (k := 0) (i := 18) zT11_0 rfl
theorem m11_20 : smI 11 20 = rI4 (.invokestatic 28) 23 4 0 5 := zT_a (k := 0) (i := 20) zT11_0 rfl
theorem m11_23 : smI 11 23 = rI0 ziA0 24 := zT_a (k := 0) (i := 23) zT11_0 rfl
theorem m11_24 : smI 11 24 = rI0 ziA1 25 := zT_a (k := 0) (i := 24) zT11_0 rfl
theorem m11_25 : smI 11 25 = rI3 (.getfield 19) 28 0 2 := zT_a (k := 0) (i := 25) zT11_0 rfl
theorem m11_28 : smI 11 28 = rI3 (.putfield 19) 31 0 2 := zT_a (k := 0) (i := 28) zT11_0 rfl
theorem m11_31 : smI 11 31 = rI0 ziA1 32 := zT_a (k := 0) (i := 31) zT11_0 rfl
theorem m11_32 : smI 11 32 = rI3 (.getfield 22) 35 0 3 := zT_l (k := 32) (i := 0) zT11_1 rfl
theorem m11_35 : smI 11 35 = rI0 ziC0 36 := zT_l (k := 32) (i := 3) zT11_1 rfl
theorem m11_36 : smI 11 36 = rI0 ziA0 37 := zT_l (k := 32) (i := 4) zT11_1 rfl
theorem m11_37 : smI 11 37 = rI3 (.getfield 22) 40 0 3 := zT_l (k := 32) (i := 5) zT11_1 rfl
theorem m11_40 : smI 11 40 = rI0 ziC0 41 := zT_l (k := 32) (i := 8) zT11_1 rfl
theorem m11_41 : smI 11 41 = rI1 (.bipush 20) 43 20 := zT_l (k := 32) (i := 9) zT11_1 rfl
theorem m11_43 : smI 11 43 = rI4 (.invokestatic 28) 46 4 0 5 := zT_l (k := 32) (i := 11) zT11_1 rfl
theorem m11_46 : smI 11 46 = rI0 ziA0 47 := zT_l (k := 32) (i := 14) zT11_1 rfl
theorem m11_47 : smI 11 47 = rI0 ziA1 48 := zT_l (k := 32) (i := 15) zT11_1 rfl
theorem m11_48 : smI 11 48 = rI3 (.getfield 25) 51 0 4 := zT_l (k := 32) (i := 16) zT11_1 rfl
theorem m11_51 : smI 11 51 = rI3 (.putfield 25) 54 0 4 := zT_l (k := 32) (i := 19) zT11_1 rfl
theorem m11_54 : smI 11 54 = rI0 .return_ 55 := zT_l (k := 32) (i := 22) zT11_1 rfl
theorem mx_12 : mMx 12 = 1 := by decide +kernel
theorem cn_12 : mCn 12 = 0 := by decide +kernel
theorem rt_12 : mRt 12 = (some .int) := by decide +kernel
theorem tq_12 : allT.getD 12 [] = tb_12 := rfl
theorem m12_0 : smI 12 0 = rI0 ziA0 1 := sm_t tq_12 rfl
theorem m12_1 : smI 12 1 = rI0 ziA0 2 := sm_t tq_12 rfl
theorem m12_2 : smI 12 2 = rI0 (.getfield 9) 5 := sm_t tq_12 rfl
theorem m12_5 : smI 12 5 = rI1 (.ldc 34) 7 1103515245 := sm_t tq_12 rfl
theorem m12_7 : smI 12 7 = rI0 .imul 8 := sm_t tq_12 rfl
theorem m12_8 : smI 12 8 = rI1 (.sipush 12345) 11 12345 := sm_t tq_12 rfl
theorem m12_11 : smI 12 11 = rI0 .iadd 12 := sm_t tq_12 rfl
theorem m12_12 : smI 12 12 = rI0 (.putfield 9) 15 := sm_t tq_12 rfl
theorem m12_15 : smI 12 15 = rI0 ziA0 16 := sm_t tq_12 rfl
theorem m12_16 : smI 12 16 = rI0 (.getfield 9) 19 := sm_t tq_12 rfl
theorem m12_19 : smI 12 19 = rI1 (.bipush 8) 21 8 := sm_t tq_12 rfl
theorem m12_21 : smI 12 21 = rI0 .iushr 22 := sm_t tq_12 rfl
theorem m12_22 : smI 12 22 = rI0 .ireturn 23 := sm_t tq_12 rfl
theorem mx_13 : mMx 13 = 3 := by decide +kernel
theorem cn_13 : mCn 13 = 1 := by decide +kernel
theorem rt_13 : mRt 13 = none := by decide +kernel
theorem tq_13 : allT.getD 13 [] = tb_13 := rfl
theorem m13_0 : smI 13 0 = rI0 ziA0 1 := sm_t tq_13 rfl
theorem m13_1 : smI 13 1 = rI4 (.invokespecial 3) 4 12 0 0 := sm_t tq_13 rfl
theorem m13_4 : smI 13 4 = rI0 ziA0 5 := sm_t tq_13 rfl
theorem m13_5 : smI 13 5 = rI0 ziA1 6 := sm_t tq_13 rfl
theorem m13_6 : smI 13 6 = rI0 ziI2 7 := sm_t tq_13 rfl
theorem m13_7 : smI 13 7 = rI3 (.invokestatic 9) 10 8 2 := sm_t tq_13 rfl
theorem m13_10 : smI 13 10 = rI2 (.putfield 15) 13 1 := sm_t tq_13 rfl
theorem m13_13 : smI 13 13 = rI0 ziA0 14 := sm_t tq_13 rfl
theorem m13_14 : smI 13 14 = rI0 ziI2 15 := sm_t tq_13 rfl
theorem m13_15 : smI 13 15 = rI0 (.newarray .int) 17 := sm_t tq_13 rfl
theorem m13_17 : smI 13 17 = rI3 (.putfield 21) 20 1 1 := sm_t tq_13 rfl
theorem m13_20 : smI 13 20 = rI0 .return_ 21 := sm_t tq_13 rfl
theorem mx_14 : mMx 14 = 10 := by decide +kernel
theorem cn_14 : mCn 14 = 1 := by decide +kernel
theorem rt_14 : mRt 14 = (some .int) := by decide +kernel
theorem tq_14 : allT.getD 14 [] = tb_14 := rfl
theorem zT14_0 : zT 14 0 (tb_14_0 ++ (tb_14_1 ++ (tb_14_2 ++ (tb_14_3 ++ (tb_14_4 ++ (tb_14_5 ++ (tb_14_6 ++ (tb_14_7 ++ (tb_14_8 ++ (tb_14_9 ++ (tb_14_10 ++ (tb_14_11 ++ (tb_14_12 ++ (tb_14_13 ++ (tb_14_14 ++ (tb_14_15 ++ (tb_14_16))))))))))))))))) := zT_0 tq_14
theorem zT14_1 : zT 14 32 (tb_14_1 ++ (tb_14_2 ++ (tb_14_3 ++ (tb_14_4 ++ (tb_14_5 ++ (tb_14_6 ++ (tb_14_7 ++ (tb_14_8 ++ (tb_14_9 ++ (tb_14_10 ++ (tb_14_11 ++ (tb_14_12 ++ (tb_14_13 ++ (tb_14_14 ++ (tb_14_15 ++ (tb_14_16)))))))))))))))) := zT_s zT14_0 (n := 32) (by decide +kernel) rfl
theorem zT14_2 : zT 14 64 (tb_14_2 ++ (tb_14_3 ++ (tb_14_4 ++ (tb_14_5 ++ (tb_14_6 ++ (tb_14_7 ++ (tb_14_8 ++ (tb_14_9 ++ (tb_14_10 ++ (tb_14_11 ++ (tb_14_12 ++ (tb_14_13 ++ (tb_14_14 ++ (tb_14_15 ++ (tb_14_16))))))))))))))) := zT_s zT14_1 (n := 32) (by decide +kernel) rfl
theorem zT14_3 : zT 14 96 (tb_14_3 ++ (tb_14_4 ++ (tb_14_5 ++ (tb_14_6 ++ (tb_14_7 ++ (tb_14_8 ++ (tb_14_9 ++ (tb_14_10 ++ (tb_14_11 ++ (tb_14_12 ++ (tb_14_13 ++ (tb_14_14 ++ (tb_14_15 ++ (tb_14_16)))))))))))))) := zT_s zT14_2 (n := 32) (by decide +kernel) rfl
theorem zT14_4 : zT 14 128 (tb_14_4 ++ (tb_14_5 ++ (tb_14_6 ++ (tb_14_7 ++ (tb_14_8 ++ (tb_14_9 ++ (tb_14_10 ++ (tb_14_11 ++ (tb_14_12 ++ (tb_14_13 ++ (tb_14_14 ++ (tb_14_15 ++ (tb_14_16))))))))))))) := zT_s zT14_3 (n := 32) (by decide +kernel) rfl
theorem zT14_5 : zT 14 160 (tb_14_5 ++ (tb_14_6 ++ (tb_14_7 ++ (tb_14_8 ++ (tb_14_9 ++ (tb_14_10 ++ (tb_14_11 ++ (tb_14_12 ++ (tb_14_13 ++ (tb_14_14 ++ (tb_14_15 ++ (tb_14_16)))))))))))) := zT_s zT14_4 (n := 32) (by decide +kernel) rfl
theorem zT14_6 : zT 14 192 (tb_14_6 ++ (tb_14_7 ++ (tb_14_8 ++ (tb_14_9 ++ (tb_14_10 ++ (tb_14_11 ++ (tb_14_12 ++ (tb_14_13 ++ (tb_14_14 ++ (tb_14_15 ++ (tb_14_16))))))))))) := zT_s zT14_5 (n := 32) (by decide +kernel) rfl
theorem zT14_7 : zT 14 224 (tb_14_7 ++ (tb_14_8 ++ (tb_14_9 ++ (tb_14_10 ++ (tb_14_11 ++ (tb_14_12 ++ (tb_14_13 ++ (tb_14_14 ++ (tb_14_15 ++ (tb_14_16)))))))))) := zT_s zT14_6 (n := 32) (by decide +kernel) rfl
theorem zT14_8 : zT 14 256 (tb_14_8 ++ (tb_14_9 ++ (tb_14_10 ++ (tb_14_11 ++ (tb_14_12 ++ (tb_14_13 ++ (tb_14_14 ++ (tb_14_15 ++ (tb_14_16))))))))) := zT_s zT14_7 (n := 32) (by decide +kernel) rfl
theorem zT14_9 : zT 14 288 (tb_14_9 ++ (tb_14_10 ++ (tb_14_11 ++ (tb_14_12 ++ (tb_14_13 ++ (tb_14_14 ++ (tb_14_15 ++ (tb_14_16)))))))) := zT_s zT14_8 (n := 32) (by decide +kernel) rfl
theorem zT14_10 : zT 14 320 (tb_14_10 ++ (tb_14_11 ++ (tb_14_12 ++ (tb_14_13 ++ (tb_14_14 ++ (tb_14_15 ++ (tb_14_16))))))) := zT_s zT14_9 (n := 32) (by decide +kernel) rfl
theorem zT14_11 : zT 14 352 (tb_14_11 ++ (tb_14_12 ++ (tb_14_13 ++ (tb_14_14 ++ (tb_14_15 ++ (tb_14_16)))))) := zT_s zT14_10 (n := 32) (by decide +kernel) rfl
theorem zT14_12 : zT 14 384 (tb_14_12 ++ (tb_14_13 ++ (tb_14_14 ++ (tb_14_15 ++ (tb_14_16))))) := zT_s zT14_11 (n := 32) (by decide +kernel) rfl
theorem zT14_13 : zT 14 416 (tb_14_13 ++ (tb_14_14 ++ (tb_14_15 ++ (tb_14_16)))) := zT_s zT14_12 (n := 32) (by decide +kernel) rfl
theorem zT14_14 : zT 14 448 (tb_14_14 ++ (tb_14_15 ++ (tb_14_16))) := zT_s zT14_13 (n := 32) (by decide +kernel) rfl
theorem zT14_15 : zT 14 480 (tb_14_15 ++ (tb_14_16)) := zT_s zT14_14 (n := 32) (by decide +kernel) rfl
theorem zT14_16 : zT 14 512 (tb_14_16) := zT_s zT14_15 (n := 32) (by decide +kernel) rfl
theorem m14_0 : smI 14 0 = rI0 ziC0 1 := zT_a (k := 0) (i := 0) zT14_0 rfl
theorem m14_1 : smI 14 1 = rI0 (.istore 4) 3 := zT_a (k := 0) (i := 1) zT14_0 rfl
theorem m14_3 : smI 14 3 = rI0 ziC0 4 := zT_a (k := 0) (i := 3) zT14_0 rfl
theorem m14_4 : smI 14 4 = rI0 (.istore 5) 6 := zT_a (k := 0) (i := 4) zT14_0 rfl
theorem m14_6 : smI 14 6 = rI0 (.iload 5) 8 := zT_a (k := 0) (i := 6) zT14_0 rfl
theorem m14_8 : smI 14 8 = rI0 ziA0 9 := zT_a (k := 0) (i := 8) zT14_0 rfl
theorem m14_9 : smI 14 9 = rI2 (.getfield 15) 12 1 := zT_a (k := 0) (i := 9) zT14_0 rfl
theorem m14_12 : smI 14 12 = rI0 .arraylength 13 := zT_a (k := 0) (i := 12) zT14_0 rfl
theorem m14_13 : smI 14 13 = rI2 (.if_icmp .ge 511) 16 524 := zT_a (k := 0) (i := 13) zT14_0 rfl
theorem m14_16 : smI 14 16 = rI0 ziA0 17 := zT_a (k := 0) (i := 16) zT14_0 rfl
theorem m14_17 : smI 14 17 = rI2 (.getfield 15) 20 1 := zT_a (k := 0) (i := 17) zT14_0 rfl
theorem m14_20 : smI 14 20 = rI0 (.iload 5) 22 := zT_a (k := 0) (i := 20) zT14_0 rfl
theorem m14_22 : smI 14 22 = rI0 .iaload 23 := zT_a (k := 0) (i := 22) zT14_0 rfl
theorem m14_23 : smI 14 23 = rI0 (.istore 6) 25 := zT_a (k := 0) (i := 23) zT14_0 rfl
theorem m14_25 : smI 14 25 = rI0 (.iload 6) 27 := zT_a (k := 0) (i := 25) zT14_0 rfl
theorem m14_27 : smI 14 27 = rI1 (.sipush 1000) 30 1000 := zT_a (k := 0) (i := 27) zT14_0 rfl
theorem m14_30 : smI 14 30 = rI2 (.if_icmp .ge 9) 33 39 := zT_a (k := 0) (i := 30) zT14_0 rfl
theorem m14_33 : smI 14 33 = rI0 (.iload 6) 35 := zT_a (k := 32) (i := 1) zT14_1 rfl
theorem m14_35 : smI 14 35 = rI1 ziC3 36 3 := zT_a (k := 32) (i := 3) zT14_1 rfl
theorem m14_36 : smI 14 36 = rI2 (.if_icmp .ge 7) 39 43 := zT_a (k := 32) (i := 4) zT14_1 rfl
theorem m14_39 : smI 14 39 = rI0 ziC0 40 := zT_a (k := 32) (i := 7) zT14_1 rfl
theorem m14_40 : smI 14 40 = rI2 (.goto 15) 43 55 := zT_a (k := 32) (i := 8) zT14_1 rfl
theorem m14_43 : smI 14 43 = rI0 (.iload 6) 45 := zT_a (k := 32) (i := 11) zT14_1 rfl
theorem m14_45 : smI 14 45 = rI1 (.bipush 33) 47 33 := zT_a (k := 32) (i := 13) zT14_1 rfl
theorem m14_47 : smI 14 47 = rI2 (.if_icmp .ne 7) 50 54 := zT_a (k := 32) (i := 15) zT14_1 rfl
theorem m14_50 : smI 14 50 = rI1 ziC1 51 1 := zT_a (k := 32) (i := 18) zT14_1 rfl
theorem m14_51 : smI 14 51 = rI2 (.goto 4) 54 55 := zT_a (k := 32) (i := 19) zT14_1 rfl
theorem m14_54 : smI 14 54 = rI1 ziC2 55 2 := zT_a (k := 32) (i := 22) zT14_1 rfl
theorem m14_55 : smI 14 55 = rI0 (.istore 7) 57 := zT_a (k := 32) (i := 23) zT14_1 rfl
theorem m14_57 : smI 14 57 = rI0 (.iload 4) 59 := zT_a (k := 32) (i := 25) zT14_1 rfl
theorem m14_59 : smI 14 59 = rI0 (.iload 7) 61 := zT_a (k := 32) (i := 27) zT14_1 rfl
theorem m14_61 : smI 14 61 = rI0 .isub 62 := zT_a (k := 32) (i := 29) zT14_1 rfl
theorem m14_62 : smI 14 62 = rI0 (.istore 4) 64 := zT_a (k := 32) (i := 30) zT14_1 rfl
theorem m14_64 : smI 14 64 = rI0 (.iload 4) 66 := zT_a (k := 64) (i := 0) zT14_2 rfl
theorem m14_66 : smI 14 66 = rI2 (.ifCond .lt 13) 69 79 := zT_a (k := 64) (i := 2) zT14_2 rfl
theorem m14_69 : smI 14 69 = rI0 (.iload 4) 71 := zT_a (k := 64) (i := 5) zT14_2 rfl
theorem m14_71 : smI 14 71 = rI0 ziA0 72 := zT_a (k := 64) (i := 7) zT14_2 rfl
theorem m14_72 : smI 14 72 = rI3 (.getfield 21) 75 1 1 := zT_a (k := 64) (i := 8) zT14_2 rfl
theorem m14_75 : smI 14 75 = rI0 .arraylength 76 := zT_a (k := 64) (i := 11) zT14_2 rfl
theorem m14_76 : smI 14 76 = rI2 (.if_icmp .lt 5) 79 81 := zT_a (k := 64) (i := 12) zT14_2 rfl
theorem m14_79 : smI 14 79 = rI0 ziC0 80 := zT_a (k := 64) (i := 15) zT14_2 rfl
theorem m14_80 : smI 14 80 = rI0 .ireturn 81 := zT_a (k := 64) (i := 16) zT14_2 rfl
theorem m14_81 : smI 14 81 = rI0 ziA0 82 := zT_a (k := 64) (i := 17) zT14_2 rfl
theorem m14_82 : smI 14 82 = rI3 (.getfield 21) 85 1 1 := zT_a (k := 64) (i := 18) zT14_2 rfl
theorem m14_85 : smI 14 85 = rI0 (.iload 4) 87 := zT_a (k := 64) (i := 21) zT14_2 rfl
theorem m14_87 : smI 14 87 = rI0 .iaload 88 := zT_a (k := 64) (i := 23) zT14_2 rfl
theorem m14_88 : smI 14 88 = rI0 (.istore 8) 90 := zT_a (k := 64) (i := 24) zT14_2 rfl
theorem m14_90 : smI 14 90 = rI0 (.iload 4) 92 := zT_a (k := 64) (i := 26) zT14_2 rfl
theorem m14_92 : smI 14 92 = rI1 ziC1 93 1 := zT_a (k := 64) (i := 28) zT14_2 rfl
theorem m14_93 : smI 14 93 = rI0 .iadd 94 := zT_a (k := 64) (i := 29) zT14_2 rfl
theorem m14_94 : smI 14 94 = rI0 ziA0 95 := zT_a (k := 64) (i := 30) zT14_2 rfl
theorem m14_95 : smI 14 95 = rI3 (.getfield 21) 98 1 1 := zT_a (k := 64) (i := 31) zT14_2 rfl
theorem m14_98 : smI 14 98 = rI0 .arraylength 99 := zT_a (k := 96) (i := 2) zT14_3 rfl
theorem m14_99 : smI 14 99 = rI2 (.if_icmp .ge 15) 102 114 := zT_a (k := 96) (i := 3) zT14_3 rfl
theorem m14_102 : smI 14 102 = rI0 ziA0 103 := zT_a (k := 96) (i := 6) zT14_3 rfl
theorem m14_103 : smI 14 103 = rI3 (.getfield 21) 106 1 1 := zT_a (k := 96) (i := 7) zT14_3 rfl
theorem m14_106 : smI 14 106 = rI0 (.iload 4) 108 := zT_a (k := 96) (i := 10) zT14_3 rfl
theorem m14_108 : smI 14 108 = rI1 ziC1 109 1 := zT_a (k := 96) (i := 12) zT14_3 rfl
theorem m14_109 : smI 14 109 = rI0 .iadd 110 := zT_a (k := 96) (i := 13) zT14_3 rfl
theorem m14_110 : smI 14 110 = rI0 .iaload 111 := zT_a (k := 96) (i := 14) zT14_3 rfl
theorem m14_111 : smI 14 111 = rI2 (.goto 4) 114 115 := zT_a (k := 96) (i := 15) zT14_3 rfl
theorem m14_114 : smI 14 114 = rI0 ziC0 115 := zT_a (k := 96) (i := 18) zT14_3 rfl
theorem m14_115 : smI 14 115 = rI0 (.istore 9) 117 := zT_a (k := 96) (i := 19) zT14_3 rfl
theorem m14_117 : smI 14 117 = rI0 (.iload 6) 119 := zT_a (k := 96) (i := 21) zT14_3 rfl
theorem m14_119 : smI 14 119 = rI0 (.lookupswitch 383 #[(0, 121), (1, 132), (2, 143), (33, 154), (37, 243), (38, 333), (42, 204), (43, 174), (45, 189), (47, 219), (60, 267), (61, 289), (62, 311), (124, 358)]) 240 := zT_a (k := 96) (i := 23) zT14_3 rfl
theorem m14_240 : smI 14 240 = rI0 ziA0 241 := zT_a (k := 224) (i := 16) zT14_7 rfl
theorem m14_241 : smI 14 241 = rI3 (.getfield 21) 244 1 1 := zT_a (k := 224) (i := 17) zT14_7 rfl
theorem m14_244 : smI 14 244 = rI0 (.iload 4) 246 := zT_a (k := 224) (i := 20) zT14_7 rfl
theorem m14_246 : smI 14 246 = rI0 ziI1 247 := zT_a (k := 224) (i := 22) zT14_7 rfl
theorem m14_247 : smI 14 247 = rI0 .iastore 248 := zT_a (k := 224) (i := 23) zT14_7 rfl
theorem m14_248 : smI 14 248 = rI2 (.goto 267) 251 515 := zT_a (k := 224) (i := 24) zT14_7 rfl
theorem m14_251 : smI 14 251 = rI0 ziA0 252 := zT_a (k := 224) (i := 27) zT14_7 rfl
theorem m14_252 : smI 14 252 = rI3 (.getfield 21) 255 1 1 := zT_a (k := 224) (i := 28) zT14_7 rfl
theorem m14_255 : smI 14 255 = rI0 (.iload 4) 257 := zT_a (k := 224) (i := 31) zT14_7 rfl
theorem m14_257 : smI 14 257 = rI0 ziI2 258 := zT_a (k := 256) (i := 1) zT14_8 rfl
theorem m14_258 : smI 14 258 = rI0 .iastore 259 := zT_a (k := 256) (i := 2) zT14_8 rfl
theorem m14_259 : smI 14 259 = rI2 (.goto 256) 262 515 := zT_a (k := 256) (i := 3) zT14_8 rfl
theorem m14_262 : smI 14 262 = rI0 ziA0 263 := zT_a (k := 256) (i := 6) zT14_8 rfl
theorem m14_263 : smI 14 263 = rI3 (.getfield 21) 266 1 1 := zT_a (k := 256) (i := 7) zT14_8 rfl
theorem m14_266 : smI 14 266 = rI0 (.iload 4) 268 := zT_a (k := 256) (i := 10) zT14_8 rfl
theorem m14_268 : smI 14 268 = rI0 ziI3 269 := zT_a (k := 256) (i := 12) zT14_8 rfl
theorem m14_269 : smI 14 269 = rI0 .iastore 270 := zT_a (k := 256) (i := 13) zT14_8 rfl
theorem m14_270 : smI 14 270 = rI2 (.goto 245) 273 515 := zT_a (k := 256) (i := 14) zT14_8 rfl
theorem m14_273 : smI 14 273 = rI0 ziA0 274 := zT_a (k := 256) (i := 17) zT14_8 rfl
theorem m14_274 : smI 14 274 = rI3 (.getfield 21) 277 1 1 := zT_a (k := 256) (i := 18) zT14_8 rfl
theorem m14_277 : smI 14 277 = rI0 (.iload 4) 279 := zT_a (k := 256) (i := 21) zT14_8 rfl
theorem m14_279 : smI 14 279 = rI0 (.iload 8) 281 := zT_a (k := 256) (i := 23) zT14_8 rfl
theorem m14_281 : smI 14 281 = rI2 (.ifCond .ne 7) 284 288 := zT_a (k := 256) (i := 25) zT14_8 rfl
theorem m14_284 : smI 14 284 = rI1 ziC1 285 1 := zT_a (k := 256) (i := 28) zT14_8 rfl
theorem m14_285 : smI 14 285 = rI2 (.goto 4) 288 289 := zT_a (k := 256) (i := 29) zT14_8 rfl
theorem m14_288 : smI 14 288 = rI0 ziC0 289 := zT_a (k := 288) (i := 0) zT14_9 rfl
theorem m14_289 : smI 14 289 = rI0 .iastore 290 := zT_a (k := 288) (i := 1) zT14_9 rfl
theorem m14_290 : smI 14 290 = rI2 (.goto 225) 293 515 := zT_a (k := 288) (i := 2) zT14_9 rfl
theorem m14_293 : smI 14 293 = rI0 ziA0 294 := zT_a (k := 288) (i := 5) zT14_9 rfl
theorem m14_294 : smI 14 294 = rI3 (.getfield 21) 297 1 1 := zT_a (k := 288) (i := 6) zT14_9 rfl
theorem m14_297 : smI 14 297 = rI0 (.iload 4) 299 := zT_a (k := 288) (i := 9) zT14_9 rfl
theorem m14_299 : smI 14 299 = rI0 (.iload 8) 301 := zT_a (k := 288) (i := 11) zT14_9 rfl
theorem m14_301 : smI 14 301 = rI0 (.iload 9) 303 := zT_a (k := 288) (i := 13) zT14_9 rfl
theorem m14_303 : smI 14 303 = rI0 .iadd 304 := zT_a (k := 288) (i := 15) zT14_9 rfl
theorem m14_304 : smI 14 304 = rI0 .iastore 305 := zT_a (k := 288) (i := 16) zT14_9 rfl
theorem m14_305 : smI 14 305 = rI2 (.goto 210) 308 515 := zT_a (k := 288) (i := 17) zT14_9 rfl
theorem m14_308 : smI 14 308 = rI0 ziA0 309 := zT_a (k := 288) (i := 20) zT14_9 rfl
theorem m14_309 : smI 14 309 = rI3 (.getfield 21) 312 1 1 := zT_a (k := 288) (i := 21) zT14_9 rfl
theorem m14_312 : smI 14 312 = rI0 (.iload 4) 314 := zT_a (k := 288) (i := 24) zT14_9 rfl
theorem m14_314 : smI 14 314 = rI0 (.iload 8) 316 := zT_a (k := 288) (i := 26) zT14_9 rfl
theorem m14_316 : smI 14 316 = rI0 (.iload 9) 318 := zT_a (k := 288) (i := 28) zT14_9 rfl
theorem m14_318 : smI 14 318 = rI0 .isub 319 := zT_a (k := 288) (i := 30) zT14_9 rfl
theorem m14_319 : smI 14 319 = rI0 .iastore 320 := zT_a (k := 288) (i := 31) zT14_9 rfl
theorem m14_320 : smI 14 320 = rI2 (.goto 195) 323 515 := zT_a (k := 320) (i := 0) zT14_10 rfl
theorem m14_323 : smI 14 323 = rI0 ziA0 324 := zT_a (k := 320) (i := 3) zT14_10 rfl
theorem m14_324 : smI 14 324 = rI3 (.getfield 21) 327 1 1 := zT_a (k := 320) (i := 4) zT14_10 rfl
theorem m14_327 : smI 14 327 = rI0 (.iload 4) 329 := zT_a (k := 320) (i := 7) zT14_10 rfl
theorem m14_329 : smI 14 329 = rI0 (.iload 8) 331 := zT_a (k := 320) (i := 9) zT14_10 rfl
theorem m14_331 : smI 14 331 = rI0 (.iload 9) 333 := zT_a (k := 320) (i := 11) zT14_10 rfl
theorem m14_333 : smI 14 333 = rI0 .imul 334 := zT_a (k := 320) (i := 13) zT14_10 rfl
theorem m14_334 : smI 14 334 = rI0 .iastore 335 := zT_a (k := 320) (i := 14) zT14_10 rfl
theorem m14_335 : smI 14 335 = rI2 (.goto 180) 338 515 := zT_a (k := 320) (i := 15) zT14_10 rfl
theorem m14_338 : smI 14 338 = rI0 ziA0 339 := zT_a (k := 320) (i := 18) zT14_10 rfl
theorem m14_339 : smI 14 339 = rI3 (.getfield 21) 342 1 1 := zT_a (k := 320) (i := 19) zT14_10 rfl
theorem m14_342 : smI 14 342 = rI0 (.iload 4) 344 := zT_a (k := 320) (i := 22) zT14_10 rfl
theorem m14_344 : smI 14 344 = rI0 (.iload 9) 346 := zT_a (k := 320) (i := 24) zT14_10 rfl
theorem m14_346 : smI 14 346 = rI2 (.ifCond .ne 7) 349 353 := zT_a (k := 320) (i := 26) zT14_10 rfl
theorem m14_349 : smI 14 349 = rI0 ziC0 350 := zT_a (k := 320) (i := 29) zT14_10 rfl
theorem m14_350 : smI 14 350 = rI2 (.goto 8) 353 358 := zT_a (k := 320) (i := 30) zT14_10 rfl
theorem m14_353 : smI 14 353 = rI0 (.iload 8) 355 := zT_a (k := 352) (i := 1) zT14_11 rfl
theorem m14_355 : smI 14 355 = rI0 (.iload 9) 357 := zT_a (k := 352) (i := 3) zT14_11 rfl
theorem m14_357 : smI 14 357 = rI0 .idiv 358 := zT_a (k := 352) (i := 5) zT14_11 rfl
theorem m14_358 : smI 14 358 = rI0 .iastore 359 := zT_a (k := 352) (i := 6) zT14_11 rfl
theorem m14_359 : smI 14 359 = rI2 (.goto 156) 362 515 := zT_a (k := 352) (i := 7) zT14_11 rfl
theorem m14_362 : smI 14 362 = rI0 ziA0 363 := zT_a (k := 352) (i := 10) zT14_11 rfl
theorem m14_363 : smI 14 363 = rI3 (.getfield 21) 366 1 1 := zT_a (k := 352) (i := 11) zT14_11 rfl
theorem m14_366 : smI 14 366 = rI0 (.iload 4) 368 := zT_a (k := 352) (i := 14) zT14_11 rfl
theorem m14_368 : smI 14 368 = rI0 (.iload 9) 370 := zT_a (k := 352) (i := 16) zT14_11 rfl
theorem m14_370 : smI 14 370 = rI2 (.ifCond .ne 7) 373 377 := zT_a (k := 352) (i := 18) zT14_11 rfl
theorem m14_373 : smI 14 373 = rI0 ziC0 374 := zT_a (k := 352) (i := 21) zT14_11 rfl
theorem m14_374 : smI 14 374 = rI2 (.goto 8) 377 382 := zT_a (k := 352) (i := 22) zT14_11 rfl
theorem m14_377 : smI 14 377 = rI0 (.iload 8) 379 := zT_a (k := 352) (i := 25) zT14_11 rfl
theorem m14_379 : smI 14 379 = rI0 (.iload 9) 381 := zT_a (k := 352) (i := 27) zT14_11 rfl
theorem m14_381 : smI 14 381 = rI0 .irem 382 := zT_a (k := 352) (i := 29) zT14_11 rfl
theorem m14_382 : smI 14 382 = rI0 .iastore 383 := zT_a (k := 352) (i := 30) zT14_11 rfl
theorem m14_383 : smI 14 383 = rI2 (.goto 132) 386 515 := zT_a (k := 352) (i := 31) zT14_11 rfl
theorem m14_386 : smI 14 386 = rI0 ziA0 387 := zT_a (k := 384) (i := 2) zT14_12 rfl
theorem m14_387 : smI 14 387 = rI3 (.getfield 21) 390 1 1 := zT_a (k := 384) (i := 3) zT14_12 rfl
theorem m14_390 : smI 14 390 = rI0 (.iload 4) 392 := zT_a (k := 384) (i := 6) zT14_12 rfl
theorem m14_392 : smI 14 392 = rI0 (.iload 8) 394 := zT_a (k := 384) (i := 8) zT14_12 rfl
theorem m14_394 : smI 14 394 = rI0 (.iload 9) 396 := zT_a (k := 384) (i := 10) zT14_12 rfl
theorem m14_396 : smI 14 396 = rI2 (.if_icmp .ge 7) 399 403 := zT_a (k := 384) (i := 12) zT14_12 rfl
theorem m14_399 : smI 14 399 = rI1 ziC1 400 1 := zT_a (k := 384) (i := 15) zT14_12 rfl
theorem m14_400 : smI 14 400 = rI2 (.goto 4) 403 404 := zT_a (k := 384) (i := 16) zT14_12 rfl
theorem m14_403 : smI 14 403 = rI0 ziC0 404 := zT_a (k := 384) (i := 19) zT14_12 rfl
theorem m14_404 : smI 14 404 = rI0 .iastore 405 := zT_a (k := 384) (i := 20) zT14_12 rfl
theorem m14_405 : smI 14 405 = rI2 (.goto 110) 408 515 := zT_a (k := 384) (i := 21) zT14_12 rfl
theorem m14_408 : smI 14 408 = rI0 ziA0 409 := zT_a (k := 384) (i := 24) zT14_12 rfl
theorem m14_409 : smI 14 409 = rI3 (.getfield 21) 412 1 1 := zT_a (k := 384) (i := 25) zT14_12 rfl
theorem m14_412 : smI 14 412 = rI0 (.iload 4) 414 := zT_a (k := 384) (i := 28) zT14_12 rfl
theorem m14_414 : smI 14 414 = rI0 (.iload 8) 416 := zT_a (k := 384) (i := 30) zT14_12 rfl
theorem m14_416 : smI 14 416 = rI0 (.iload 9) 418 := zT_a (k := 416) (i := 0) zT14_13 rfl
theorem m14_418 : smI 14 418 = rI2 (.if_icmp .ne 7) 421 425 := zT_a (k := 416) (i := 2) zT14_13 rfl
theorem m14_421 : smI 14 421 = rI1 ziC1 422 1 := zT_a (k := 416) (i := 5) zT14_13 rfl
theorem m14_422 : smI 14 422 = rI2 (.goto 4) 425 426 := zT_a (k := 416) (i := 6) zT14_13 rfl
theorem m14_425 : smI 14 425 = rI0 ziC0 426 := zT_a (k := 416) (i := 9) zT14_13 rfl
theorem m14_426 : smI 14 426 = rI0 .iastore 427 := zT_a (k := 416) (i := 10) zT14_13 rfl
theorem m14_427 : smI 14 427 = rI2 (.goto 88) 430 515 := zT_a (k := 416) (i := 11) zT14_13 rfl
theorem m14_430 : smI 14 430 = rI0 ziA0 431 := zT_a (k := 416) (i := 14) zT14_13 rfl
theorem m14_431 : smI 14 431 = rI3 (.getfield 21) 434 1 1 := zT_a (k := 416) (i := 15) zT14_13 rfl
theorem m14_434 : smI 14 434 = rI0 (.iload 4) 436 := zT_a (k := 416) (i := 18) zT14_13 rfl
theorem m14_436 : smI 14 436 = rI0 (.iload 8) 438 := zT_a (k := 416) (i := 20) zT14_13 rfl
theorem m14_438 : smI 14 438 = rI0 (.iload 9) 440 := zT_a (k := 416) (i := 22) zT14_13 rfl
theorem m14_440 : smI 14 440 = rI2 (.if_icmp .le 7) 443 447 := zT_a (k := 416) (i := 24) zT14_13 rfl
theorem m14_443 : smI 14 443 = rI1 ziC1 444 1 := zT_a (k := 416) (i := 27) zT14_13 rfl
theorem m14_444 : smI 14 444 = rI2 (.goto 4) 447 448 := zT_a (k := 416) (i := 28) zT14_13 rfl
theorem m14_447 : smI 14 447 = rI0 ziC0 448 := zT_a (k := 416) (i := 31) zT14_13 rfl
theorem m14_448 : smI 14 448 = rI0 .iastore 449 := zT_a (k := 448) (i := 0) zT14_14 rfl
theorem m14_449 : smI 14 449 = rI2 (.goto 66) 452 515 := zT_a (k := 448) (i := 1) zT14_14 rfl
theorem m14_452 : smI 14 452 = rI0 ziA0 453 := zT_a (k := 448) (i := 4) zT14_14 rfl
theorem m14_453 : smI 14 453 = rI3 (.getfield 21) 456 1 1 := zT_a (k := 448) (i := 5) zT14_14 rfl
theorem m14_456 : smI 14 456 = rI0 (.iload 4) 458 := zT_a (k := 448) (i := 8) zT14_14 rfl
theorem m14_458 : smI 14 458 = rI0 (.iload 8) 460 := zT_a (k := 448) (i := 10) zT14_14 rfl
theorem m14_460 : smI 14 460 = rI2 (.ifCond .eq 12) 463 472 := zT_a (k := 448) (i := 12) zT14_14 rfl
theorem m14_463 : smI 14 463 = rI0 (.iload 9) 465 := zT_a (k := 448) (i := 15) zT14_14 rfl
theorem m14_465 : smI 14 465 = rI2 (.ifCond .eq 7) 468 472 := zT_a (k := 448) (i := 17) zT14_14 rfl
theorem m14_468 : smI 14 468 = rI1 ziC1 469 1 := zT_a (k := 448) (i := 20) zT14_14 rfl
theorem m14_469 : smI 14 469 = rI2 (.goto 4) 472 473 := zT_a (k := 448) (i := 21) zT14_14 rfl
theorem m14_472 : smI 14 472 = rI0 ziC0 473 := zT_a (k := 448) (i := 24) zT14_14 rfl
theorem m14_473 : smI 14 473 = rI0 .iastore 474 := zT_a (k := 448) (i := 25) zT14_14 rfl
theorem m14_474 : smI 14 474 = rI2 (.goto 41) 477 515 := zT_a (k := 448) (i := 26) zT14_14 rfl
theorem m14_477 : smI 14 477 = rI0 ziA0 478 := zT_a (k := 448) (i := 29) zT14_14 rfl
theorem m14_478 : smI 14 478 = rI3 (.getfield 21) 481 1 1 := zT_a (k := 448) (i := 30) zT14_14 rfl
theorem m14_481 : smI 14 481 = rI0 (.iload 4) 483 := zT_a (k := 480) (i := 1) zT14_15 rfl
theorem m14_483 : smI 14 483 = rI0 (.iload 8) 485 := zT_a (k := 480) (i := 3) zT14_15 rfl
theorem m14_485 : smI 14 485 = rI2 (.ifCond .ne 8) 488 493 := zT_a (k := 480) (i := 5) zT14_15 rfl
theorem m14_488 : smI 14 488 = rI0 (.iload 9) 490 := zT_a (k := 480) (i := 8) zT14_15 rfl
theorem m14_490 : smI 14 490 = rI2 (.ifCond .eq 7) 493 497 := zT_a (k := 480) (i := 10) zT14_15 rfl
theorem m14_493 : smI 14 493 = rI1 ziC1 494 1 := zT_a (k := 480) (i := 13) zT14_15 rfl
theorem m14_494 : smI 14 494 = rI2 (.goto 4) 497 498 := zT_a (k := 480) (i := 14) zT14_15 rfl
theorem m14_497 : smI 14 497 = rI0 ziC0 498 := zT_a (k := 480) (i := 17) zT14_15 rfl
theorem m14_498 : smI 14 498 = rI0 .iastore 499 := zT_a (k := 480) (i := 18) zT14_15 rfl
theorem m14_499 : smI 14 499 = rI2 (.goto 16) 502 515 := zT_a (k := 480) (i := 19) zT14_15 rfl
theorem m14_502 : smI 14 502 = rI0 ziA0 503 := zT_a (k := 480) (i := 22) zT14_15 rfl
theorem m14_503 : smI 14 503 = rI3 (.getfield 21) 506 1 1 := zT_a (k := 480) (i := 23) zT14_15 rfl
theorem m14_506 : smI 14 506 = rI0 (.iload 4) 508 := zT_a (k := 480) (i := 26) zT14_15 rfl
theorem m14_508 : smI 14 508 = rI0 (.iload 6) 510 := zT_a (k := 480) (i := 28) zT14_15 rfl
theorem m14_510 : smI 14 510 = rI1 (.sipush 1000) 513 1000 := zT_a (k := 480) (i := 30) zT14_15 rfl
theorem m14_513 : smI 14 513 = rI0 .isub 514 := zT_l (k := 512) (i := 1) zT14_16 rfl
theorem m14_514 : smI 14 514 = rI0 .iastore 515 := zT_l (k := 512) (i := 2) zT14_16 rfl
theorem m14_515 : smI 14 515 = rI1 (.iinc 4 1) 518 1 := zT_l (k := 512) (i := 3) zT14_16 rfl
theorem m14_518 : smI 14 518 = rI1 (.iinc 5 1) 521 1 := zT_l (k := 512) (i := 6) zT14_16 rfl
theorem m14_521 : smI 14 521 = rI2 (.goto (-515)) 524 6 := zT_l (k := 512) (i := 9) zT14_16 rfl
theorem m14_524 : smI 14 524 = rI0 ziA0 525 := zT_l (k := 512) (i := 12) zT14_16 rfl
theorem m14_525 : smI 14 525 = rI3 (.getfield 21) 528 1 1 := zT_l (k := 512) (i := 13) zT14_16 rfl
theorem m14_528 : smI 14 528 = rI0 .arraylength 529 := zT_l (k := 512) (i := 16) zT14_16 rfl
theorem m14_529 : smI 14 529 = rI2 (.ifCond .le 12) 532 541 := zT_l (k := 512) (i := 17) zT14_16 rfl
theorem m14_532 : smI 14 532 = rI0 ziA0 533 := zT_l (k := 512) (i := 20) zT14_16 rfl
theorem m14_533 : smI 14 533 = rI3 (.getfield 21) 536 1 1 := zT_l (k := 512) (i := 21) zT14_16 rfl
theorem m14_536 : smI 14 536 = rI0 ziC0 537 := zT_l (k := 512) (i := 24) zT14_16 rfl
theorem m14_537 : smI 14 537 = rI0 .iaload 538 := zT_l (k := 512) (i := 25) zT14_16 rfl
theorem m14_538 : smI 14 538 = rI2 (.goto 4) 541 542 := zT_l (k := 512) (i := 26) zT14_16 rfl
theorem m14_541 : smI 14 541 = rI0 ziC0 542 := zT_l (k := 512) (i := 29) zT14_16 rfl
theorem m14_542 : smI 14 542 = rI0 .ireturn 543 := zT_l (k := 512) (i := 30) zT14_16 rfl
theorem mx_15 : mMx 15 = 2 := by decide +kernel
theorem cn_15 : mCn 15 = 2 := by decide +kernel
theorem rt_15 : mRt 15 = none := by decide +kernel
theorem tq_15 : allT.getD 15 [] = tb_15 := rfl
theorem zT15_0 : zT 15 0 (tb_15_0 ++ (tb_15_1)) := zT_0 tq_15
theorem zT15_1 : zT 15 32 (tb_15_1) := zT_s zT15_0 (n := 32) (by decide +kernel) rfl
theorem m15_0 : smI 15 0 = rI0 ziA0 1 := zT_a (k := 0) (i := 0) zT15_0 rfl
theorem m15_1 : smI 15 1 = rI4 (.invokespecial 3) 4 12 0 0 := zT_a (k := 0) (i := 1) zT15_0 rfl
theorem m15_4 : smI 15 4 = rI0 ziA0 5 := zT_a (k := 0) (i := 4) zT15_0 rfl
theorem m15_5 : smI 15 5 = rI1 (.bipush 50) 7 50 := zT_a (k := 0) (i := 5) zT15_0 rfl
theorem m15_7 : smI 15 7 = rI0 (.newarray .int) 9 := zT_a (k := 0) (i := 7) zT15_0 rfl
theorem m15_9 : smI 15 9 = rI2 (.putfield 9) 12 2 := zT_a (k := 0) (i := 9) zT15_0 rfl
theorem m15_12 : smI 15 12 = rI0 ziA0 13 := zT_a (k := 0) (i := 12) zT15_0 rfl
theorem m15_13 : smI 15 13 = rI0 ziC0 14 := zT_a (k := 0) (i := 13) zT15_0 rfl
theorem m15_14 : smI 15 14 = rI3 (.putfield 15) 17 2 1 := zT_a (k := 0) (i := 14) zT15_0 rfl
theorem m15_17 : smI 15 17 = rI0 ziA0 18 := zT_a (k := 0) (i := 17) zT15_0 rfl
theorem m15_18 : smI 15 18 = rI0 ziC0 19 := zT_a (k := 0) (i := 18) zT15_0 rfl
theorem m15_19 : smI 15 19 = rI3 (.putfield 19) 22 2 3 := zT_a (k := 0) (i := 19) zT15_0 rfl
theorem m15_22 : smI 15 22 = rI0 ziA0 23 := zT_a (k := 0) (i := 22) zT15_0 rfl
theorem m15_23 : smI 15 23 = rI2 (.ldc 22) 25 3 := zT_a (k := 0) (i := 23) zT15_0 rfl
theorem m15_25 : smI 15 25 = rI3 (.putfield 24) 28 2 4 := zT_a (k := 0) (i := 25) zT15_0 rfl
theorem m15_28 : smI 15 28 = rI0 ziA0 29 := zT_a (k := 0) (i := 28) zT15_0 rfl
theorem m15_29 : smI 15 29 = rI0 ziC0 30 := zT_a (k := 0) (i := 29) zT15_0 rfl
theorem m15_30 : smI 15 30 = rI3 (.putfield 28) 33 2 5 := zT_a (k := 0) (i := 30) zT15_0 rfl
theorem m15_33 : smI 15 33 = rI0 ziA0 34 := zT_l (k := 32) (i := 1) zT15_1 rfl
theorem m15_34 : smI 15 34 = rI1 (.iconst (-1)) 35 (-1) := zT_l (k := 32) (i := 2) zT15_1 rfl
theorem m15_35 : smI 15 35 = rI3 (.putfield 31) 38 2 6 := zT_l (k := 32) (i := 3) zT15_1 rfl
theorem m15_38 : smI 15 38 = rI0 ziA0 39 := zT_l (k := 32) (i := 6) zT15_1 rfl
theorem m15_39 : smI 15 39 = rI0 ziA1 40 := zT_l (k := 32) (i := 7) zT15_1 rfl
theorem m15_40 : smI 15 40 = rI3 (.putfield 34) 43 2 2 := zT_l (k := 32) (i := 8) zT15_1 rfl
theorem m15_43 : smI 15 43 = rI0 .return_ 44 := zT_l (k := 32) (i := 11) zT15_1 rfl
theorem mx_16 : mMx 16 = 1 := by decide +kernel
theorem cn_16 : mCn 16 = 2 := by decide +kernel
theorem rt_16 : mRt 16 = (some (.object "java/lang/String")) := by decide +kernel
theorem tq_16 : allT.getD 16 [] = tb_16 := rfl
theorem zT16_0 : zT 16 0 (tb_16_0 ++ (tb_16_1)) := zT_0 tq_16
theorem zT16_1 : zT 16 32 (tb_16_1) := zT_s zT16_0 (n := 32) (by decide +kernel) rfl
theorem m16_0 : smI 16 0 = rI0 ziI0 1 := zT_a (k := 0) (i := 0) zT16_0 rfl
theorem m16_1 : smI 16 1 = rI0 (.tableswitch 43 0 3 #[31, 34, 37, 40]) 32 := zT_a (k := 0) (i := 1) zT16_0 rfl
theorem m16_32 : smI 16 32 = rI2 (.ldc 65) 34 6 := zT_l (k := 32) (i := 0) zT16_1 rfl
theorem m16_34 : smI 16 34 = rI0 .areturn 35 := zT_l (k := 32) (i := 2) zT16_1 rfl
theorem m16_35 : smI 16 35 = rI2 (.ldc 67) 37 7 := zT_l (k := 32) (i := 3) zT16_1 rfl
theorem m16_37 : smI 16 37 = rI0 .areturn 38 := zT_l (k := 32) (i := 5) zT16_1 rfl
theorem m16_38 : smI 16 38 = rI2 (.ldc 69) 40 8 := zT_l (k := 32) (i := 6) zT16_1 rfl
theorem m16_40 : smI 16 40 = rI0 .areturn 41 := zT_l (k := 32) (i := 8) zT16_1 rfl
theorem m16_41 : smI 16 41 = rI2 (.ldc 71) 43 9 := zT_l (k := 32) (i := 9) zT16_1 rfl
theorem m16_43 : smI 16 43 = rI0 .areturn 44 := zT_l (k := 32) (i := 11) zT16_1 rfl
theorem m16_44 : smI 16 44 = rI2 (.ldc 73) 46 10 := zT_l (k := 32) (i := 12) zT16_1 rfl
theorem m16_46 : smI 16 46 = rI0 .areturn 47 := zT_l (k := 32) (i := 14) zT16_1 rfl
theorem mx_17 : mMx 17 = 1 := by decide +kernel
theorem cn_17 : mCn 17 = 2 := by decide +kernel
theorem rt_17 : mRt 17 = (some .int) := by decide +kernel
theorem tq_17 : allT.getD 17 [] = tb_17 := rfl
theorem m17_0 : smI 17 0 = rI0 ziA0 1 := sm_t tq_17 rfl
theorem m17_1 : smI 17 1 = rI3 (.getfield 31) 4 2 6 := sm_t tq_17 rfl
theorem m17_4 : smI 17 4 = rI2 (.ifCond .ge 26) 7 30 := sm_t tq_17 rfl
theorem m17_7 : smI 17 7 = rI0 ziA0 8 := sm_t tq_17 rfl
theorem m17_8 : smI 17 8 = rI3 (.getfield 28) 11 2 5 := sm_t tq_17 rfl
theorem m17_11 : smI 17 11 = rI0 ziA0 12 := sm_t tq_17 rfl
theorem m17_12 : smI 17 12 = rI3 (.getfield 19) 15 2 3 := sm_t tq_17 rfl
theorem m17_15 : smI 17 15 = rI2 (.if_icmp .ge 15) 18 30 := sm_t tq_17 rfl
theorem m17_18 : smI 17 18 = rI0 ziA0 19 := sm_t tq_17 rfl
theorem m17_19 : smI 17 19 = rI3 (.getfield 34) 22 2 2 := sm_t tq_17 rfl
theorem m17_22 : smI 17 22 = rI0 ziA0 23 := sm_t tq_17 rfl
theorem m17_23 : smI 17 23 = rI3 (.getfield 28) 26 2 5 := sm_t tq_17 rfl
theorem m17_26 : smI 17 26 = rI0 .iaload 27 := sm_t tq_17 rfl
theorem m17_27 : smI 17 27 = rI2 (.goto 4) 30 31 := sm_t tq_17 rfl
theorem m17_30 : smI 17 30 = rI1 (.iconst (-1)) 31 (-1) := sm_t tq_17 rfl
theorem m17_31 : smI 17 31 = rI0 .ireturn 32 := sm_t tq_17 rfl
theorem mx_18 : mMx 18 = 3 := by decide +kernel
theorem cn_18 : mCn 18 = 2 := by decide +kernel
theorem rt_18 : mRt 18 = (some .int) := by decide +kernel
theorem tq_18 : allT.getD 18 [] = tb_18 := rfl
theorem m18_0 : smI 18 0 = rI0 ziA0 1 := sm_t tq_18 rfl
theorem m18_1 : smI 18 1 = rI4 (.invokevirtual 75) 4 20 17 0 := sm_t tq_18 rfl
theorem m18_4 : smI 18 4 = rI0 ziS2 5 := sm_t tq_18 rfl
theorem m18_5 : smI 18 5 = rI0 ziI2 6 := sm_t tq_18 rfl
theorem m18_6 : smI 18 6 = rI2 (.ifCond .lt 12) 9 18 := sm_t tq_18 rfl
theorem m18_9 : smI 18 9 = rI0 ziA1 10 := sm_t tq_18 rfl
theorem m18_10 : smI 18 10 = rI0 ziI2 11 := sm_t tq_18 rfl
theorem m18_11 : smI 18 11 = rI0 .i2c 12 := sm_t tq_18 rfl
theorem m18_12 : smI 18 12 = rI4 (.invokevirtual 79) 15 20 4 1 := sm_t tq_18 rfl
theorem m18_15 : smI 18 15 = rI2 (.ifCond .ge 5) 18 20 := sm_t tq_18 rfl
theorem m18_18 : smI 18 18 = rI0 ziC0 19 := sm_t tq_18 rfl
theorem m18_19 : smI 18 19 = rI0 .ireturn 20 := sm_t tq_18 rfl
theorem m18_20 : smI 18 20 = rI0 ziA0 21 := sm_t tq_18 rfl
theorem m18_21 : smI 18 21 = rI0 .dup 22 := sm_t tq_18 rfl
theorem m18_22 : smI 18 22 = rI3 (.getfield 28) 25 2 5 := sm_t tq_18 rfl
theorem m18_25 : smI 18 25 = rI1 ziC1 26 1 := sm_t tq_18 rfl
theorem m18_26 : smI 18 26 = rI0 .iadd 27 := sm_t tq_18 rfl
theorem m18_27 : smI 18 27 = rI3 (.putfield 28) 30 2 5 := sm_t tq_18 rfl
theorem m18_30 : smI 18 30 = rI0 ziI2 31 := sm_t tq_18 rfl
theorem m18_31 : smI 18 31 = rI0 .ireturn 32 := sm_t tq_18 rfl
theorem mx_19 : mMx 19 = 2 := by decide +kernel
theorem cn_19 : mCn 19 = 2 := by decide +kernel
theorem rt_19 : mRt 19 = none := by decide +kernel
theorem tq_19 : allT.getD 19 [] = tb_19 := rfl
theorem m19_0 : smI 19 0 = rI0 ziA0 1 := sm_t tq_19 rfl
theorem m19_1 : smI 19 1 = rI3 (.getfield 15) 4 2 1 := sm_t tq_19 rfl
theorem m19_4 : smI 19 4 = rI1 (.bipush 50) 6 50 := sm_t tq_19 rfl
theorem m19_6 : smI 19 6 = rI2 (.if_icmp .ge 23) 9 29 := sm_t tq_19 rfl
theorem m19_9 : smI 19 9 = rI0 ziA0 10 := sm_t tq_19 rfl
theorem m19_10 : smI 19 10 = rI2 (.getfield 9) 13 2 := sm_t tq_19 rfl
theorem m19_13 : smI 19 13 = rI0 ziA0 14 := sm_t tq_19 rfl
theorem m19_14 : smI 19 14 = rI3 (.getfield 15) 17 2 1 := sm_t tq_19 rfl
theorem m19_17 : smI 19 17 = rI0 ziI1 18 := sm_t tq_19 rfl
theorem m19_18 : smI 19 18 = rI0 .iastore 19 := sm_t tq_19 rfl
theorem m19_19 : smI 19 19 = rI0 ziA0 20 := sm_t tq_19 rfl
theorem m19_20 : smI 19 20 = rI0 .dup 21 := sm_t tq_19 rfl
theorem m19_21 : smI 19 21 = rI3 (.getfield 15) 24 2 1 := sm_t tq_19 rfl
theorem m19_24 : smI 19 24 = rI1 ziC1 25 1 := sm_t tq_19 rfl
theorem m19_25 : smI 19 25 = rI0 .iadd 26 := sm_t tq_19 rfl
theorem m19_26 : smI 19 26 = rI3 (.putfield 15) 29 2 1 := sm_t tq_19 rfl
theorem m19_29 : smI 19 29 = rI0 .return_ 30 := sm_t tq_19 rfl
theorem mx_20 : mMx 20 = 1 := by decide +kernel
theorem cn_20 : mCn 20 = 2 := by decide +kernel
theorem rt_20 : mRt 20 = (some .boolean) := by decide +kernel
theorem tq_20 : allT.getD 20 [] = tb_20 := rfl
theorem m20_0 : smI 20 0 = rI0 ziI0 1 := sm_t tq_20 rfl
theorem m20_1 : smI 20 1 = rI1 (.bipush 48) 3 48 := sm_t tq_20 rfl
theorem m20_3 : smI 20 3 = rI2 (.if_icmp .lt 13) 6 16 := sm_t tq_20 rfl
theorem m20_6 : smI 20 6 = rI0 ziI0 7 := sm_t tq_20 rfl
theorem m20_7 : smI 20 7 = rI1 (.bipush 57) 9 57 := sm_t tq_20 rfl
theorem m20_9 : smI 20 9 = rI2 (.if_icmp .gt 7) 12 16 := sm_t tq_20 rfl
theorem m20_12 : smI 20 12 = rI1 ziC1 13 1 := sm_t tq_20 rfl
theorem m20_13 : smI 20 13 = rI2 (.goto 4) 16 17 := sm_t tq_20 rfl
theorem m20_16 : smI 20 16 = rI0 ziC0 17 := sm_t tq_20 rfl
theorem m20_17 : smI 20 17 = rI0 .ireturn 18 := sm_t tq_20 rfl
theorem mx_21 : mMx 21 = 3 := by decide +kernel
theorem cn_21 : mCn 21 = 2 := by decide +kernel
theorem rt_21 : mRt 21 = none := by decide +kernel
theorem tq_21 : allT.getD 21 [] = tb_21 := rfl
theorem zT21_0 : zT 21 0 (tb_21_0 ++ (tb_21_1)) := zT_0 tq_21
theorem zT21_1 : zT 21 32 (tb_21_1) := zT_s zT21_0 (n := 32) (by decide +kernel) rfl
theorem m21_0 : smI 21 0 = rI0 ziC0 1 := zT_a (k := 0) (i := 0) zT21_0 rfl
theorem m21_1 : smI 21 1 = rI0 ziS1 2 := zT_a (k := 0) (i := 1) zT21_0 rfl
theorem m21_2 : smI 21 2 = rI0 ziC0 3 := zT_a (k := 0) (i := 2) zT21_0 rfl
theorem m21_3 : smI 21 3 = rI0 ziS2 4 := zT_a (k := 0) (i := 3) zT21_0 rfl
theorem m21_4 : smI 21 4 = rI0 ziI2 5 := zT_a (k := 0) (i := 4) zT21_0 rfl
theorem m21_5 : smI 21 5 = rI1 ziC4 6 4 := zT_a (k := 0) (i := 5) zT21_0 rfl
theorem m21_6 : smI 21 6 = rI2 (.if_icmp .ge 42) 9 48 := zT_a (k := 0) (i := 6) zT21_0 rfl
theorem m21_9 : smI 21 9 = rI0 ziA0 10 := zT_a (k := 0) (i := 9) zT21_0 rfl
theorem m21_10 : smI 21 10 = rI4 (.invokevirtual 75) 13 20 17 0 := zT_a (k := 0) (i := 10) zT21_0 rfl
theorem m21_13 : smI 21 13 = rI3 (.invokestatic 85) 16 20 1 := zT_a (k := 0) (i := 13) zT21_0 rfl
theorem m21_16 : smI 21 16 = rI2 (.ifCond .eq 32) 19 48 := zT_a (k := 0) (i := 16) zT21_0 rfl
theorem m21_19 : smI 21 19 = rI0 ziI1 20 := zT_a (k := 0) (i := 19) zT21_0 rfl
theorem m21_20 : smI 21 20 = rI1 (.bipush 10) 22 10 := zT_a (k := 0) (i := 20) zT21_0 rfl
theorem m21_22 : smI 21 22 = rI0 .imul 23 := zT_a (k := 0) (i := 22) zT21_0 rfl
theorem m21_23 : smI 21 23 = rI0 ziA0 24 := zT_a (k := 0) (i := 23) zT21_0 rfl
theorem m21_24 : smI 21 24 = rI4 (.invokevirtual 75) 27 20 17 0 := zT_a (k := 0) (i := 24) zT21_0 rfl
theorem m21_27 : smI 21 27 = rI0 .iadd 28 := zT_a (k := 0) (i := 27) zT21_0 rfl
theorem m21_28 : smI 21 28 = rI1 (.bipush 48) 30 48 := zT_a (k := 0) (i := 28) zT21_0 rfl
theorem m21_30 : smI 21 30 = rI0 .isub 31 := zT_a (k := 0) (i := 30) zT21_0 rfl
theorem m21_31 : smI 21 31 = rI0 ziS1 32 := zT_a (k := 0) (i := 31) zT21_0 rfl
theorem m21_32 : smI 21 32 = rI0 ziA0 33 := zT_l (k := 32) (i := 0) zT21_1 rfl
theorem m21_33 : smI 21 33 = rI0 .dup 34 := zT_l (k := 32) (i := 1) zT21_1 rfl
theorem m21_34 : smI 21 34 = rI3 (.getfield 28) 37 2 5 := zT_l (k := 32) (i := 2) zT21_1 rfl
theorem m21_37 : smI 21 37 = rI1 ziC1 38 1 := zT_l (k := 32) (i := 5) zT21_1 rfl
theorem m21_38 : smI 21 38 = rI0 .iadd 39 := zT_l (k := 32) (i := 6) zT21_1 rfl
theorem m21_39 : smI 21 39 = rI3 (.putfield 28) 42 2 5 := zT_l (k := 32) (i := 7) zT21_1 rfl
theorem m21_42 : smI 21 42 = rI1 (.iinc 2 1) 45 1 := zT_l (k := 32) (i := 10) zT21_1 rfl
theorem m21_45 : smI 21 45 = rI2 (.goto (-41)) 48 4 := zT_l (k := 32) (i := 13) zT21_1 rfl
theorem m21_48 : smI 21 48 = rI0 ziA0 49 := zT_l (k := 32) (i := 16) zT21_1 rfl
theorem m21_49 : smI 21 49 = rI1 (.sipush 1000) 52 1000 := zT_l (k := 32) (i := 17) zT21_1 rfl
theorem m21_52 : smI 21 52 = rI0 ziI1 53 := zT_l (k := 32) (i := 20) zT21_1 rfl
theorem m21_53 : smI 21 53 = rI0 .iadd 54 := zT_l (k := 32) (i := 21) zT21_1 rfl
theorem m21_54 : smI 21 54 = rI4 (.invokevirtual 62) 57 20 19 1 := zT_l (k := 32) (i := 22) zT21_1 rfl
theorem m21_57 : smI 21 57 = rI0 .return_ 58 := zT_l (k := 32) (i := 25) zT21_1 rfl
theorem mx_22 : mMx 22 = 1 := by decide +kernel
theorem cn_22 : mCn 22 = 2 := by decide +kernel
theorem rt_22 : mRt 22 = none := by decide +kernel
theorem tq_22 : allT.getD 22 [] = tb_22 := rfl
theorem m22_0 : smI 22 0 = rI0 ziA0 1 := sm_t tq_22 rfl
theorem m22_1 : smI 22 1 = rI3 (.getfield 31) 4 2 6 := sm_t tq_22 rfl
theorem m22_4 : smI 22 4 = rI2 (.ifCond .ge 11) 7 15 := sm_t tq_22 rfl
theorem m22_7 : smI 22 7 = rI0 ziA0 8 := sm_t tq_22 rfl
theorem m22_8 : smI 22 8 = rI0 ziA0 9 := sm_t tq_22 rfl
theorem m22_9 : smI 22 9 = rI3 (.getfield 28) 12 2 5 := sm_t tq_22 rfl
theorem m22_12 : smI 22 12 = rI3 (.putfield 31) 15 2 6 := sm_t tq_22 rfl
theorem m22_15 : smI 22 15 = rI0 .return_ 16 := sm_t tq_22 rfl
theorem mx_23 : mMx 23 = 4 := by decide +kernel
theorem cn_23 : mCn 23 = 2 := by decide +kernel
theorem rt_23 : mRt 23 = none := by decide +kernel
theorem tq_23 : allT.getD 23 [] = tb_23 := rfl
theorem zT23_0 : zT 23 0 (tb_23_0 ++ (tb_23_1 ++ (tb_23_2 ++ (tb_23_3 ++ (tb_23_4))))) := zT_0 tq_23
theorem zT23_1 : zT 23 32 (tb_23_1 ++ (tb_23_2 ++ (tb_23_3 ++ (tb_23_4)))) := zT_s zT23_0 (n := 32) (by decide +kernel) rfl
theorem zT23_2 : zT 23 64 (tb_23_2 ++ (tb_23_3 ++ (tb_23_4))) := zT_s zT23_1 (n := 32) (by decide +kernel) rfl
theorem zT23_3 : zT 23 96 (tb_23_3 ++ (tb_23_4)) := zT_s zT23_2 (n := 32) (by decide +kernel) rfl
theorem zT23_4 : zT 23 128 (tb_23_4) := zT_s zT23_3 (n := 32) (by decide +kernel) rfl
theorem m23_0 : smI 23 0 = rI0 ziA0 1 := zT_a (k := 0) (i := 0) zT23_0 rfl
theorem m23_1 : smI 23 1 = rI4 (.invokevirtual 75) 4 20 17 0 := zT_a (k := 0) (i := 1) zT23_0 rfl
theorem m23_4 : smI 23 4 = rI0 ziS2 5 := zT_a (k := 0) (i := 4) zT23_0 rfl
theorem m23_5 : smI 23 5 = rI0 ziI2 6 := zT_a (k := 0) (i := 5) zT23_0 rfl
theorem m23_6 : smI 23 6 = rI2 (.ifCond .ge 7) 9 13 := zT_a (k := 0) (i := 6) zT23_0 rfl
theorem m23_9 : smI 23 9 = rI1 (.iconst (-1)) 10 (-1) := zT_a (k := 0) (i := 9) zT23_0 rfl
theorem m23_10 : smI 23 10 = rI2 (.goto 12) 13 22 := zT_a (k := 0) (i := 10) zT23_0 rfl
theorem m23_13 : smI 23 13 = rI0 ziA0 14 := zT_a (k := 0) (i := 13) zT23_0 rfl
theorem m23_14 : smI 23 14 = rI3 (.getfield 24) 17 2 4 := zT_a (k := 0) (i := 14) zT23_0 rfl
theorem m23_17 : smI 23 17 = rI0 ziI2 18 := zT_a (k := 0) (i := 17) zT23_0 rfl
theorem m23_18 : smI 23 18 = rI0 .i2c 19 := zT_a (k := 0) (i := 18) zT23_0 rfl
theorem m23_19 : smI 23 19 = rI4 (.invokevirtual 79) 22 20 4 1 := zT_a (k := 0) (i := 19) zT23_0 rfl
theorem m23_22 : smI 23 22 = rI0 ziS3 23 := zT_a (k := 0) (i := 22) zT23_0 rfl
theorem m23_23 : smI 23 23 = rI0 ziI2 24 := zT_a (k := 0) (i := 23) zT23_0 rfl
theorem m23_24 : smI 23 24 = rI3 (.invokestatic 85) 27 20 1 := zT_a (k := 0) (i := 24) zT23_0 rfl
theorem m23_27 : smI 23 27 = rI2 (.ifCond .eq 10) 30 37 := zT_a (k := 0) (i := 27) zT23_0 rfl
theorem m23_30 : smI 23 30 = rI0 ziA0 31 := zT_a (k := 0) (i := 30) zT23_0 rfl
theorem m23_31 : smI 23 31 = rI4 (.invokevirtual 89) 34 20 21 0 := zT_a (k := 0) (i := 31) zT23_0 rfl
theorem m23_34 : smI 23 34 = rI2 (.goto 111) 37 145 := zT_a (k := 32) (i := 2) zT23_1 rfl
theorem m23_37 : smI 23 37 = rI0 ziI3 38 := zT_a (k := 32) (i := 5) zT23_1 rfl
theorem m23_38 : smI 23 38 = rI2 (.ifCond .lt 21) 41 59 := zT_a (k := 32) (i := 6) zT23_1 rfl
theorem m23_41 : smI 23 41 = rI0 ziA0 42 := zT_a (k := 32) (i := 9) zT23_1 rfl
theorem m23_42 : smI 23 42 = rI0 .dup 43 := zT_a (k := 32) (i := 10) zT23_1 rfl
theorem m23_43 : smI 23 43 = rI3 (.getfield 28) 46 2 5 := zT_a (k := 32) (i := 11) zT23_1 rfl
theorem m23_46 : smI 23 46 = rI1 ziC1 47 1 := zT_a (k := 32) (i := 14) zT23_1 rfl
theorem m23_47 : smI 23 47 = rI0 .iadd 48 := zT_a (k := 32) (i := 15) zT23_1 rfl
theorem m23_48 : smI 23 48 = rI3 (.putfield 28) 51 2 5 := zT_a (k := 32) (i := 16) zT23_1 rfl
theorem m23_51 : smI 23 51 = rI0 ziA0 52 := zT_a (k := 32) (i := 19) zT23_1 rfl
theorem m23_52 : smI 23 52 = rI0 ziI3 53 := zT_a (k := 32) (i := 20) zT23_1 rfl
theorem m23_53 : smI 23 53 = rI4 (.invokevirtual 62) 56 20 19 1 := zT_a (k := 32) (i := 21) zT23_1 rfl
theorem m23_56 : smI 23 56 = rI2 (.goto 89) 59 145 := zT_a (k := 32) (i := 24) zT23_1 rfl
theorem m23_59 : smI 23 59 = rI0 ziI2 60 := zT_a (k := 32) (i := 27) zT23_1 rfl
theorem m23_60 : smI 23 60 = rI1 (.bipush 33) 62 33 := zT_a (k := 32) (i := 28) zT23_1 rfl
theorem m23_62 : smI 23 62 = rI2 (.if_icmp .ne 34) 65 96 := zT_a (k := 32) (i := 30) zT23_1 rfl
theorem m23_65 : smI 23 65 = rI0 ziI1 66 := zT_a (k := 64) (i := 1) zT23_2 rfl
theorem m23_66 : smI 23 66 = rI1 ziC5 67 5 := zT_a (k := 64) (i := 2) zT23_2 rfl
theorem m23_67 : smI 23 67 = rI2 (.if_icmp .ge 29) 70 96 := zT_a (k := 64) (i := 3) zT23_2 rfl
theorem m23_70 : smI 23 70 = rI0 ziA0 71 := zT_a (k := 64) (i := 6) zT23_2 rfl
theorem m23_71 : smI 23 71 = rI0 .dup 72 := zT_a (k := 64) (i := 7) zT23_2 rfl
theorem m23_72 : smI 23 72 = rI3 (.getfield 28) 75 2 5 := zT_a (k := 64) (i := 8) zT23_2 rfl
theorem m23_75 : smI 23 75 = rI1 ziC1 76 1 := zT_a (k := 64) (i := 11) zT23_2 rfl
theorem m23_76 : smI 23 76 = rI0 .iadd 77 := zT_a (k := 64) (i := 12) zT23_2 rfl
theorem m23_77 : smI 23 77 = rI3 (.putfield 28) 80 2 5 := zT_a (k := 64) (i := 13) zT23_2 rfl
theorem m23_80 : smI 23 80 = rI0 ziA0 81 := zT_a (k := 64) (i := 16) zT23_2 rfl
theorem m23_81 : smI 23 81 = rI0 ziI1 82 := zT_a (k := 64) (i := 17) zT23_2 rfl
theorem m23_82 : smI 23 82 = rI1 ziC1 83 1 := zT_a (k := 64) (i := 18) zT23_2 rfl
theorem m23_83 : smI 23 83 = rI0 .iadd 84 := zT_a (k := 64) (i := 19) zT23_2 rfl
theorem m23_84 : smI 23 84 = rI4 (.invokevirtual 50) 87 20 23 1 := zT_a (k := 64) (i := 20) zT23_2 rfl
theorem m23_87 : smI 23 87 = rI0 ziA0 88 := zT_a (k := 64) (i := 23) zT23_2 rfl
theorem m23_88 : smI 23 88 = rI1 (.bipush 33) 90 33 := zT_a (k := 64) (i := 24) zT23_2 rfl
theorem m23_90 : smI 23 90 = rI4 (.invokevirtual 62) 93 20 19 1 := zT_a (k := 64) (i := 26) zT23_2 rfl
theorem m23_93 : smI 23 93 = rI2 (.goto 52) 96 145 := zT_a (k := 64) (i := 29) zT23_2 rfl
theorem m23_96 : smI 23 96 = rI0 ziI2 97 := zT_a (k := 96) (i := 0) zT23_3 rfl
theorem m23_97 : smI 23 97 = rI1 (.bipush 40) 99 40 := zT_a (k := 96) (i := 1) zT23_3 rfl
theorem m23_99 : smI 23 99 = rI2 (.if_icmp .ne 42) 102 141 := zT_a (k := 96) (i := 3) zT23_3 rfl
theorem m23_102 : smI 23 102 = rI0 ziI1 103 := zT_a (k := 96) (i := 6) zT23_3 rfl
theorem m23_103 : smI 23 103 = rI1 ziC5 104 5 := zT_a (k := 96) (i := 7) zT23_3 rfl
theorem m23_104 : smI 23 104 = rI2 (.if_icmp .ge 37) 107 141 := zT_a (k := 96) (i := 8) zT23_3 rfl
theorem m23_107 : smI 23 107 = rI0 ziA0 108 := zT_a (k := 96) (i := 11) zT23_3 rfl
theorem m23_108 : smI 23 108 = rI0 .dup 109 := zT_a (k := 96) (i := 12) zT23_3 rfl
theorem m23_109 : smI 23 109 = rI3 (.getfield 28) 112 2 5 := zT_a (k := 96) (i := 13) zT23_3 rfl
theorem m23_112 : smI 23 112 = rI1 ziC1 113 1 := zT_a (k := 96) (i := 16) zT23_3 rfl
theorem m23_113 : smI 23 113 = rI0 .iadd 114 := zT_a (k := 96) (i := 17) zT23_3 rfl
theorem m23_114 : smI 23 114 = rI3 (.putfield 28) 117 2 5 := zT_a (k := 96) (i := 18) zT23_3 rfl
theorem m23_117 : smI 23 117 = rI0 ziA0 118 := zT_a (k := 96) (i := 21) zT23_3 rfl
theorem m23_118 : smI 23 118 = rI0 ziC0 119 := zT_a (k := 96) (i := 22) zT23_3 rfl
theorem m23_119 : smI 23 119 = rI0 ziI1 120 := zT_a (k := 96) (i := 23) zT23_3 rfl
theorem m23_120 : smI 23 120 = rI1 ziC1 121 1 := zT_a (k := 96) (i := 24) zT23_3 rfl
theorem m23_121 : smI 23 121 = rI0 .iadd 122 := zT_a (k := 96) (i := 25) zT23_3 rfl
theorem m23_122 : smI 23 122 = rI4 (.invokevirtual 43) 125 20 24 2 := zT_a (k := 96) (i := 26) zT23_3 rfl
theorem m23_125 : smI 23 125 = rI0 ziA0 126 := zT_a (k := 96) (i := 29) zT23_3 rfl
theorem m23_126 : smI 23 126 = rI2 (.ldc 92) 128 5 := zT_a (k := 96) (i := 30) zT23_3 rfl
theorem m23_128 : smI 23 128 = rI4 (.invokevirtual 58) 131 20 18 1 := zT_l (k := 128) (i := 0) zT23_4 rfl
theorem m23_131 : smI 23 131 = rI2 (.ifCond .ne 14) 134 145 := zT_l (k := 128) (i := 3) zT23_4 rfl
theorem m23_134 : smI 23 134 = rI0 ziA0 135 := zT_l (k := 128) (i := 6) zT23_4 rfl
theorem m23_135 : smI 23 135 = rI4 (.invokevirtual 47) 138 20 22 0 := zT_l (k := 128) (i := 7) zT23_4 rfl
theorem m23_138 : smI 23 138 = rI2 (.goto 7) 141 145 := zT_l (k := 128) (i := 10) zT23_4 rfl
theorem m23_141 : smI 23 141 = rI0 ziA0 142 := zT_l (k := 128) (i := 13) zT23_4 rfl
theorem m23_142 : smI 23 142 = rI4 (.invokevirtual 47) 145 20 22 0 := zT_l (k := 128) (i := 14) zT23_4 rfl
theorem m23_145 : smI 23 145 = rI0 .return_ 146 := zT_l (k := 128) (i := 17) zT23_4 rfl
theorem mx_24 : mMx 24 = 6 := by decide +kernel
theorem cn_24 : mCn 24 = 2 := by decide +kernel
theorem rt_24 : mRt 24 = none := by decide +kernel
theorem tq_24 : allT.getD 24 [] = tb_24 := rfl
theorem zT24_0 : zT 24 0 (tb_24_0 ++ (tb_24_1 ++ (tb_24_2))) := zT_0 tq_24
theorem zT24_1 : zT 24 32 (tb_24_1 ++ (tb_24_2)) := zT_s zT24_0 (n := 32) (by decide +kernel) rfl
theorem zT24_2 : zT 24 64 (tb_24_2) := zT_s zT24_1 (n := 32) (by decide +kernel) rfl
theorem m24_0 : smI 24 0 = rI0 ziI1 1 := zT_a (k := 0) (i := 0) zT24_0 rfl
theorem m24_1 : smI 24 1 = rI1 ziC5 2 5 := zT_a (k := 0) (i := 1) zT24_0 rfl
theorem m24_2 : smI 24 2 = rI2 (.if_icmp .lt 9) 5 11 := zT_a (k := 0) (i := 2) zT24_0 rfl
theorem m24_5 : smI 24 5 = rI0 ziA0 6 := zT_a (k := 0) (i := 5) zT24_0 rfl
theorem m24_6 : smI 24 6 = rI0 ziI2 7 := zT_a (k := 0) (i := 6) zT24_0 rfl
theorem m24_7 : smI 24 7 = rI4 (.invokevirtual 50) 10 20 23 1 := zT_a (k := 0) (i := 7) zT24_0 rfl
theorem m24_10 : smI 24 10 = rI0 .return_ 11 := zT_a (k := 0) (i := 10) zT24_0 rfl
theorem m24_11 : smI 24 11 = rI0 ziA0 12 := zT_a (k := 0) (i := 11) zT24_0 rfl
theorem m24_12 : smI 24 12 = rI0 ziI1 13 := zT_a (k := 0) (i := 12) zT24_0 rfl
theorem m24_13 : smI 24 13 = rI1 ziC1 14 1 := zT_a (k := 0) (i := 13) zT24_0 rfl
theorem m24_14 : smI 24 14 = rI0 .iadd 15 := zT_a (k := 0) (i := 14) zT24_0 rfl
theorem m24_15 : smI 24 15 = rI0 ziI2 16 := zT_a (k := 0) (i := 15) zT24_0 rfl
theorem m24_16 : smI 24 16 = rI4 (.invokevirtual 43) 19 20 24 2 := zT_a (k := 0) (i := 16) zT24_0 rfl
theorem m24_19 : smI 24 19 = rI0 ziI1 20 := zT_a (k := 0) (i := 19) zT24_0 rfl
theorem m24_20 : smI 24 20 = rI1 ziC2 21 2 := zT_a (k := 0) (i := 20) zT24_0 rfl
theorem m24_21 : smI 24 21 = rI2 (.if_icmp .ne 7) 24 28 := zT_a (k := 0) (i := 21) zT24_0 rfl
theorem m24_24 : smI 24 24 = rI1 ziC1 25 1 := zT_a (k := 0) (i := 24) zT24_0 rfl
theorem m24_25 : smI 24 25 = rI2 (.goto 5) 28 30 := zT_a (k := 0) (i := 25) zT24_0 rfl
theorem m24_28 : smI 24 28 = rI1 (.bipush 50) 30 50 := zT_a (k := 0) (i := 28) zT24_0 rfl
theorem m24_30 : smI 24 30 = rI0 ziS3 31 := zT_a (k := 0) (i := 30) zT24_0 rfl
theorem m24_31 : smI 24 31 = rI0 ziC0 32 := zT_a (k := 0) (i := 31) zT24_0 rfl
theorem m24_32 : smI 24 32 = rI0 (.istore 4) 34 := zT_a (k := 32) (i := 0) zT24_1 rfl
theorem m24_34 : smI 24 34 = rI0 (.iload 4) 36 := zT_a (k := 32) (i := 2) zT24_1 rfl
theorem m24_36 : smI 24 36 = rI0 ziI3 37 := zT_a (k := 32) (i := 4) zT24_1 rfl
theorem m24_37 : smI 24 37 = rI2 (.if_icmp .ge 39) 40 76 := zT_a (k := 32) (i := 5) zT24_1 rfl
theorem m24_40 : smI 24 40 = rI0 ziA0 41 := zT_a (k := 32) (i := 8) zT24_1 rfl
theorem m24_41 : smI 24 41 = rI0 ziI1 42 := zT_a (k := 32) (i := 9) zT24_1 rfl
theorem m24_42 : smI 24 42 = rI3 (.invokestatic 54) 45 16 1 := zT_a (k := 32) (i := 10) zT24_1 rfl
theorem m24_45 : smI 24 45 = rI4 (.invokevirtual 58) 48 20 18 1 := zT_a (k := 32) (i := 13) zT24_1 rfl
theorem m24_48 : smI 24 48 = rI0 (.istore 5) 50 := zT_a (k := 32) (i := 16) zT24_1 rfl
theorem m24_50 : smI 24 50 = rI0 (.iload 5) 52 := zT_a (k := 32) (i := 18) zT24_1 rfl
theorem m24_52 : smI 24 52 = rI2 (.ifCond .ne 4) 55 56 := zT_a (k := 32) (i := 20) zT24_1 rfl
theorem m24_55 : smI 24 55 = rI0 .return_ 56 := zT_a (k := 32) (i := 23) zT24_1 rfl
theorem m24_56 : smI 24 56 = rI0 ziA0 57 := zT_a (k := 32) (i := 24) zT24_1 rfl
theorem m24_57 : smI 24 57 = rI0 ziI1 58 := zT_a (k := 32) (i := 25) zT24_1 rfl
theorem m24_58 : smI 24 58 = rI1 ziC1 59 1 := zT_a (k := 32) (i := 26) zT24_1 rfl
theorem m24_59 : smI 24 59 = rI0 .iadd 60 := zT_a (k := 32) (i := 27) zT24_1 rfl
theorem m24_60 : smI 24 60 = rI0 ziI2 61 := zT_a (k := 32) (i := 28) zT24_1 rfl
theorem m24_61 : smI 24 61 = rI4 (.invokevirtual 43) 64 20 24 2 := zT_a (k := 32) (i := 29) zT24_1 rfl
theorem m24_64 : smI 24 64 = rI0 ziA0 65 := zT_l (k := 64) (i := 0) zT24_2 rfl
theorem m24_65 : smI 24 65 = rI0 (.iload 5) 67 := zT_l (k := 64) (i := 1) zT24_2 rfl
theorem m24_67 : smI 24 67 = rI4 (.invokevirtual 62) 70 20 19 1 := zT_l (k := 64) (i := 3) zT24_2 rfl
theorem m24_70 : smI 24 70 = rI1 (.iinc 4 1) 73 1 := zT_l (k := 64) (i := 6) zT24_2 rfl
theorem m24_73 : smI 24 73 = rI2 (.goto (-39)) 76 34 := zT_l (k := 64) (i := 9) zT24_2 rfl
theorem m24_76 : smI 24 76 = rI0 .return_ 77 := zT_l (k := 64) (i := 12) zT24_2 rfl
theorem mx_25 : mMx 25 = 3 := by decide +kernel
theorem cn_25 : mCn 25 = 2 := by decide +kernel
theorem rt_25 : mRt 25 = (some .int) := by decide +kernel
theorem tq_25 : allT.getD 25 [] = tb_25 := rfl
theorem zT25_0 : zT 25 0 (tb_25_0 ++ (tb_25_1)) := zT_0 tq_25
theorem zT25_1 : zT 25 32 (tb_25_1) := zT_s zT25_0 (n := 32) (by decide +kernel) rfl
theorem m25_0 : smI 25 0 = rI0 ziA0 1 := zT_a (k := 0) (i := 0) zT25_0 rfl
theorem m25_1 : smI 25 1 = rI0 ziI1 2 := zT_a (k := 0) (i := 1) zT25_0 rfl
theorem m25_2 : smI 25 2 = rI0 ziA0 3 := zT_a (k := 0) (i := 2) zT25_0 rfl
theorem m25_3 : smI 25 3 = rI3 (.getfield 34) 6 2 2 := zT_a (k := 0) (i := 3) zT25_0 rfl
theorem m25_6 : smI 25 6 = rI0 .arraylength 7 := zT_a (k := 0) (i := 6) zT25_0 rfl
theorem m25_7 : smI 25 7 = rI4 (.invokestatic 37) 10 3 0 2 := zT_a (k := 0) (i := 7) zT25_0 rfl
theorem m25_10 : smI 25 10 = rI3 (.putfield 19) 13 2 3 := zT_a (k := 0) (i := 10) zT25_0 rfl
theorem m25_13 : smI 25 13 = rI0 ziA0 14 := zT_a (k := 0) (i := 13) zT25_0 rfl
theorem m25_14 : smI 25 14 = rI0 ziA2 15 := zT_a (k := 0) (i := 14) zT25_0 rfl
theorem m25_15 : smI 25 15 = rI3 (.putfield 24) 18 2 4 := zT_a (k := 0) (i := 15) zT25_0 rfl
theorem m25_18 : smI 25 18 = rI0 ziA0 19 := zT_a (k := 0) (i := 18) zT25_0 rfl
theorem m25_19 : smI 25 19 = rI0 ziC0 20 := zT_a (k := 0) (i := 19) zT25_0 rfl
theorem m25_20 : smI 25 20 = rI3 (.putfield 15) 23 2 1 := zT_a (k := 0) (i := 20) zT25_0 rfl
theorem m25_23 : smI 25 23 = rI0 ziA0 24 := zT_a (k := 0) (i := 23) zT25_0 rfl
theorem m25_24 : smI 25 24 = rI0 ziC0 25 := zT_a (k := 0) (i := 24) zT25_0 rfl
theorem m25_25 : smI 25 25 = rI3 (.putfield 28) 28 2 5 := zT_a (k := 0) (i := 25) zT25_0 rfl
theorem m25_28 : smI 25 28 = rI0 ziA0 29 := zT_a (k := 0) (i := 28) zT25_0 rfl
theorem m25_29 : smI 25 29 = rI1 (.iconst (-1)) 30 (-1) := zT_a (k := 0) (i := 29) zT25_0 rfl
theorem m25_30 : smI 25 30 = rI3 (.putfield 31) 33 2 6 := zT_a (k := 0) (i := 30) zT25_0 rfl
theorem m25_33 : smI 25 33 = rI0 ziA0 34 := zT_l (k := 32) (i := 1) zT25_1 rfl
theorem m25_34 : smI 25 34 = rI0 ziC0 35 := zT_l (k := 32) (i := 2) zT25_1 rfl
theorem m25_35 : smI 25 35 = rI0 ziC0 36 := zT_l (k := 32) (i := 3) zT25_1 rfl
theorem m25_36 : smI 25 36 = rI4 (.invokevirtual 43) 39 20 24 2 := zT_l (k := 32) (i := 4) zT25_1 rfl
theorem m25_39 : smI 25 39 = rI0 ziA0 40 := zT_l (k := 32) (i := 7) zT25_1 rfl
theorem m25_40 : smI 25 40 = rI3 (.getfield 28) 43 2 5 := zT_l (k := 32) (i := 8) zT25_1 rfl
theorem m25_43 : smI 25 43 = rI0 ziA0 44 := zT_l (k := 32) (i := 11) zT25_1 rfl
theorem m25_44 : smI 25 44 = rI3 (.getfield 19) 47 2 3 := zT_l (k := 32) (i := 12) zT25_1 rfl
theorem m25_47 : smI 25 47 = rI2 (.if_icmp .ge 7) 50 54 := zT_l (k := 32) (i := 15) zT25_1 rfl
theorem m25_50 : smI 25 50 = rI0 ziA0 51 := zT_l (k := 32) (i := 18) zT25_1 rfl
theorem m25_51 : smI 25 51 = rI4 (.invokevirtual 47) 54 20 22 0 := zT_l (k := 32) (i := 19) zT25_1 rfl
theorem m25_54 : smI 25 54 = rI0 ziA0 55 := zT_l (k := 32) (i := 22) zT25_1 rfl
theorem m25_55 : smI 25 55 = rI3 (.getfield 31) 58 2 6 := zT_l (k := 32) (i := 23) zT25_1 rfl
theorem m25_58 : smI 25 58 = rI0 .ireturn 59 := zT_l (k := 32) (i := 26) zT25_1 rfl
theorem mx_26 : mMx 26 = 1 := by decide +kernel
theorem cn_26 : mCn 26 = 3 := by decide +kernel
theorem rt_26 : mRt 26 = none := by decide +kernel
theorem tq_26 : allT.getD 26 [] = tb_26 := rfl
theorem m26_0 : smI 26 0 = rI0 ziA0 1 := sm_t tq_26 rfl
theorem m26_1 : smI 26 1 = rI4 (.invokespecial 3) 4 12 0 0 := sm_t tq_26 rfl
theorem m26_4 : smI 26 4 = rI0 ziA0 5 := sm_t tq_26 rfl
theorem m26_5 : smI 26 5 = rI0 ziC0 6 := sm_t tq_26 rfl
theorem m26_6 : smI 26 6 = rI2 (.putfield 9) 9 3 := sm_t tq_26 rfl
theorem m26_9 : smI 26 9 = rI0 ziA0 10 := sm_t tq_26 rfl
theorem m26_10 : smI 26 10 = rI0 ziC0 11 := sm_t tq_26 rfl
theorem m26_11 : smI 26 11 = rI3 (.putfield 15) 14 3 1 := sm_t tq_26 rfl
theorem m26_14 : smI 26 14 = rI0 ziA0 15 := sm_t tq_26 rfl
theorem m26_15 : smI 26 15 = rI1 (.bipush 40) 17 40 := sm_t tq_26 rfl
theorem m26_17 : smI 26 17 = rI0 (.newarray .int) 19 := sm_t tq_26 rfl
theorem m26_19 : smI 26 19 = rI3 (.putfield 18) 22 3 2 := sm_t tq_26 rfl
theorem m26_22 : smI 26 22 = rI0 .return_ 23 := sm_t tq_26 rfl
theorem mx_27 : mMx 27 = 3 := by decide +kernel
theorem cn_27 : mCn 27 = 3 := by decide +kernel
theorem rt_27 : mRt 27 = none := by decide +kernel
theorem tq_27 : allT.getD 27 [] = tb_27 := rfl
theorem m27_0 : smI 27 0 = rI0 ziA0 1 := sm_t tq_27 rfl
theorem m27_1 : smI 27 1 = rI0 ziI1 2 := sm_t tq_27 rfl
theorem m27_2 : smI 27 2 = rI2 (.putfield 9) 5 3 := sm_t tq_27 rfl
theorem m27_5 : smI 27 5 = rI0 ziA0 6 := sm_t tq_27 rfl
theorem m27_6 : smI 27 6 = rI0 ziI2 7 := sm_t tq_27 rfl
theorem m27_7 : smI 27 7 = rI3 (.putfield 15) 10 3 1 := sm_t tq_27 rfl
theorem m27_10 : smI 27 10 = rI0 ziA0 11 := sm_t tq_27 rfl
theorem m27_11 : smI 27 11 = rI3 (.getfield 18) 14 3 2 := sm_t tq_27 rfl
theorem m27_14 : smI 27 14 = rI0 ziC0 15 := sm_t tq_27 rfl
theorem m27_15 : smI 27 15 = rI3 (.invokestatic 22) 18 9 2 := sm_t tq_27 rfl
theorem m27_18 : smI 27 18 = rI0 .return_ 19 := sm_t tq_27 rfl
theorem mx_28 : mMx 28 = 2 := by decide +kernel
theorem cn_28 : mCn 28 = 3 := by decide +kernel
theorem rt_28 : mRt 28 = (some .int) := by decide +kernel
theorem tq_28 : allT.getD 28 [] = tb_28 := rfl
theorem zT28_0 : zT 28 0 (tb_28_0 ++ (tb_28_1)) := zT_0 tq_28
theorem zT28_1 : zT 28 32 (tb_28_1) := zT_s zT28_0 (n := 32) (by decide +kernel) rfl
theorem m28_0 : smI 28 0 = rI0 ziA0 1 := zT_a (k := 0) (i := 0) zT28_0 rfl
theorem m28_1 : smI 28 1 = rI2 (.getfield 9) 4 3 := zT_a (k := 0) (i := 1) zT28_0 rfl
theorem m28_4 : smI 28 4 = rI1 (.bipush 8) 6 8 := zT_a (k := 0) (i := 4) zT28_0 rfl
theorem m28_6 : smI 28 6 = rI2 (.if_icmp .ne 11) 9 17 := zT_a (k := 0) (i := 6) zT28_0 rfl
theorem m28_9 : smI 28 9 = rI0 ziI1 10 := zT_a (k := 0) (i := 9) zT28_0 rfl
theorem m28_10 : smI 28 10 = rI1 (.sipush 255) 13 255 := zT_a (k := 0) (i := 10) zT28_0 rfl
theorem m28_13 : smI 28 13 = rI0 .iand 14 := zT_a (k := 0) (i := 13) zT28_0 rfl
theorem m28_14 : smI 28 14 = rI2 (.goto 20) 17 34 := zT_a (k := 0) (i := 14) zT28_0 rfl
theorem m28_17 : smI 28 17 = rI0 ziA0 18 := zT_a (k := 0) (i := 17) zT28_0 rfl
theorem m28_18 : smI 28 18 = rI2 (.getfield 9) 21 3 := zT_a (k := 0) (i := 18) zT28_0 rfl
theorem m28_21 : smI 28 21 = rI1 (.bipush 16) 23 16 := zT_a (k := 0) (i := 21) zT28_0 rfl
theorem m28_23 : smI 28 23 = rI2 (.if_icmp .ne 10) 26 33 := zT_a (k := 0) (i := 23) zT28_0 rfl
theorem m28_26 : smI 28 26 = rI0 ziI1 27 := zT_a (k := 0) (i := 26) zT28_0 rfl
theorem m28_27 : smI 28 27 = rI1 (.ldc 28) 29 65535 := zT_a (k := 0) (i := 27) zT28_0 rfl
theorem m28_29 : smI 28 29 = rI0 .iand 30 := zT_a (k := 0) (i := 29) zT28_0 rfl
theorem m28_30 : smI 28 30 = rI2 (.goto 4) 33 34 := zT_a (k := 0) (i := 30) zT28_0 rfl
theorem m28_33 : smI 28 33 = rI0 ziI1 34 := zT_l (k := 32) (i := 1) zT28_1 rfl
theorem m28_34 : smI 28 34 = rI0 .ireturn 35 := zT_l (k := 32) (i := 2) zT28_1 rfl
theorem mx_29 : mMx 29 = 3 := by decide +kernel
theorem cn_29 : mCn 29 = 3 := by decide +kernel
theorem rt_29 : mRt 29 = (some .boolean) := by decide +kernel
theorem tq_29 : allT.getD 29 [] = tb_29 := rfl
theorem m29_0 : smI 29 0 = rI0 ziA0 1 := sm_t tq_29 rfl
theorem m29_1 : smI 29 1 = rI3 (.getfield 18) 4 3 2 := sm_t tq_29 rfl
theorem m29_4 : smI 29 4 = rI0 ziI1 5 := sm_t tq_29 rfl
theorem m29_5 : smI 29 5 = rI0 .iaload 6 := sm_t tq_29 rfl
theorem m29_6 : smI 29 6 = rI0 ziA0 7 := sm_t tq_29 rfl
theorem m29_7 : smI 29 7 = rI0 ziI2 8 := sm_t tq_29 rfl
theorem m29_8 : smI 29 8 = rI4 (.invokevirtual 29) 11 20 28 1 := sm_t tq_29 rfl
theorem m29_11 : smI 29 11 = rI2 (.if_icmp .ne 7) 14 18 := sm_t tq_29 rfl
theorem m29_14 : smI 29 14 = rI1 ziC1 15 1 := sm_t tq_29 rfl
theorem m29_15 : smI 29 15 = rI2 (.goto 4) 18 19 := sm_t tq_29 rfl
theorem m29_18 : smI 29 18 = rI0 ziC0 19 := sm_t tq_29 rfl
theorem m29_19 : smI 29 19 = rI0 .ireturn 20 := sm_t tq_29 rfl
theorem mx_30 : mMx 30 = 1 := by decide +kernel
theorem cn_30 : mCn 30 = 4 := by decide +kernel
theorem rt_30 : mRt 30 = none := by decide +kernel
theorem tq_30 : allT.getD 30 [] = tb_30 := rfl
theorem zT30_0 : zT 30 0 (tb_30_0 ++ (tb_30_1 ++ (tb_30_2 ++ (tb_30_3)))) := zT_0 tq_30
theorem zT30_1 : zT 30 32 (tb_30_1 ++ (tb_30_2 ++ (tb_30_3))) := zT_s zT30_0 (n := 32) (by decide +kernel) rfl
theorem zT30_2 : zT 30 64 (tb_30_2 ++ (tb_30_3)) := zT_s zT30_1 (n := 32) (by decide +kernel) rfl
theorem zT30_3 : zT 30 96 (tb_30_3) := zT_s zT30_2 (n := 32) (by decide +kernel) rfl
theorem m30_0 : smI 30 0 = rI0 ziA0 1 := zT_a (k := 0) (i := 0) zT30_0 rfl
theorem m30_1 : smI 30 1 = rI4 (.invokespecial 3) 4 12 0 0 := zT_a (k := 0) (i := 1) zT30_0 rfl
theorem m30_4 : smI 30 4 = rI0 ziA0 5 := zT_a (k := 0) (i := 4) zT30_0 rfl
theorem m30_5 : smI 30 5 = rI1 (.bipush 8) 7 8 := zT_a (k := 0) (i := 5) zT30_0 rfl
theorem m30_7 : smI 30 7 = rI0 (.newarray .int) 9 := zT_a (k := 0) (i := 7) zT30_0 rfl
theorem m30_9 : smI 30 9 = rI0 .dup 10 := zT_a (k := 0) (i := 9) zT30_0 rfl
theorem m30_10 : smI 30 10 = rI0 ziC0 11 := zT_a (k := 0) (i := 10) zT30_0 rfl
theorem m30_11 : smI 30 11 = rI1 ziC5 12 5 := zT_a (k := 0) (i := 11) zT30_0 rfl
theorem m30_12 : smI 30 12 = rI0 .iastore 13 := zT_a (k := 0) (i := 12) zT30_0 rfl
theorem m30_13 : smI 30 13 = rI0 .dup 14 := zT_a (k := 0) (i := 13) zT30_0 rfl
theorem m30_14 : smI 30 14 = rI1 ziC1 15 1 := zT_a (k := 0) (i := 14) zT30_0 rfl
theorem m30_15 : smI 30 15 = rI1 ziC5 16 5 := zT_a (k := 0) (i := 15) zT30_0 rfl
theorem m30_16 : smI 30 16 = rI0 .iastore 17 := zT_a (k := 0) (i := 16) zT30_0 rfl
theorem m30_17 : smI 30 17 = rI0 .dup 18 := zT_a (k := 0) (i := 17) zT30_0 rfl
theorem m30_18 : smI 30 18 = rI1 ziC2 19 2 := zT_a (k := 0) (i := 18) zT30_0 rfl
theorem m30_19 : smI 30 19 = rI1 ziC5 20 5 := zT_a (k := 0) (i := 19) zT30_0 rfl
theorem m30_20 : smI 30 20 = rI0 .iastore 21 := zT_a (k := 0) (i := 20) zT30_0 rfl
theorem m30_21 : smI 30 21 = rI0 .dup 22 := zT_a (k := 0) (i := 21) zT30_0 rfl
theorem m30_22 : smI 30 22 = rI1 ziC3 23 3 := zT_a (k := 0) (i := 22) zT30_0 rfl
theorem m30_23 : smI 30 23 = rI1 ziC5 24 5 := zT_a (k := 0) (i := 23) zT30_0 rfl
theorem m30_24 : smI 30 24 = rI0 .iastore 25 := zT_a (k := 0) (i := 24) zT30_0 rfl
theorem m30_25 : smI 30 25 = rI0 .dup 26 := zT_a (k := 0) (i := 25) zT30_0 rfl
theorem m30_26 : smI 30 26 = rI1 ziC4 27 4 := zT_a (k := 0) (i := 26) zT30_0 rfl
theorem m30_27 : smI 30 27 = rI1 ziC5 28 5 := zT_a (k := 0) (i := 27) zT30_0 rfl
theorem m30_28 : smI 30 28 = rI0 .iastore 29 := zT_a (k := 0) (i := 28) zT30_0 rfl
theorem m30_29 : smI 30 29 = rI0 .dup 30 := zT_a (k := 0) (i := 29) zT30_0 rfl
theorem m30_30 : smI 30 30 = rI1 ziC5 31 5 := zT_a (k := 0) (i := 30) zT30_0 rfl
theorem m30_31 : smI 30 31 = rI1 ziC5 32 5 := zT_a (k := 0) (i := 31) zT30_0 rfl
theorem m30_32 : smI 30 32 = rI0 .iastore 33 := zT_a (k := 32) (i := 0) zT30_1 rfl
theorem m30_33 : smI 30 33 = rI0 .dup 34 := zT_a (k := 32) (i := 1) zT30_1 rfl
theorem m30_34 : smI 30 34 = rI1 (.bipush 6) 36 6 := zT_a (k := 32) (i := 2) zT30_1 rfl
theorem m30_36 : smI 30 36 = rI1 ziC5 37 5 := zT_a (k := 32) (i := 4) zT30_1 rfl
theorem m30_37 : smI 30 37 = rI0 .iastore 38 := zT_a (k := 32) (i := 5) zT30_1 rfl
theorem m30_38 : smI 30 38 = rI0 .dup 39 := zT_a (k := 32) (i := 6) zT30_1 rfl
theorem m30_39 : smI 30 39 = rI1 (.bipush 7) 41 7 := zT_a (k := 32) (i := 7) zT30_1 rfl
theorem m30_41 : smI 30 41 = rI1 ziC5 42 5 := zT_a (k := 32) (i := 9) zT30_1 rfl
theorem m30_42 : smI 30 42 = rI0 .iastore 43 := zT_a (k := 32) (i := 10) zT30_1 rfl
theorem m30_43 : smI 30 43 = rI2 (.putfield 9) 46 4 := zT_a (k := 32) (i := 11) zT30_1 rfl
theorem m30_46 : smI 30 46 = rI0 ziA0 47 := zT_a (k := 32) (i := 14) zT30_1 rfl
theorem m30_47 : smI 30 47 = rI1 (.bipush 8) 49 8 := zT_a (k := 32) (i := 15) zT30_1 rfl
theorem m30_49 : smI 30 49 = rI0 (.newarray .int) 51 := zT_a (k := 32) (i := 17) zT30_1 rfl
theorem m30_51 : smI 30 51 = rI3 (.putfield 15) 54 4 1 := zT_a (k := 32) (i := 19) zT30_1 rfl
theorem m30_54 : smI 30 54 = rI0 ziA0 55 := zT_a (k := 32) (i := 22) zT30_1 rfl
theorem m30_55 : smI 30 55 = rI1 (.bipush 8) 57 8 := zT_a (k := 32) (i := 23) zT30_1 rfl
theorem m30_57 : smI 30 57 = rI0 (.newarray .int) 59 := zT_a (k := 32) (i := 25) zT30_1 rfl
theorem m30_59 : smI 30 59 = rI3 (.putfield 18) 62 4 2 := zT_a (k := 32) (i := 27) zT30_1 rfl
theorem m30_62 : smI 30 62 = rI0 ziA0 63 := zT_a (k := 32) (i := 30) zT30_1 rfl
theorem m30_63 : smI 30 63 = rI1 (.bipush 8) 65 8 := zT_a (k := 32) (i := 31) zT30_1 rfl
theorem m30_65 : smI 30 65 = rI0 (.newarray .int) 67 := zT_a (k := 64) (i := 1) zT30_2 rfl
theorem m30_67 : smI 30 67 = rI3 (.putfield 21) 70 4 3 := zT_a (k := 64) (i := 3) zT30_2 rfl
theorem m30_70 : smI 30 70 = rI0 ziA0 71 := zT_a (k := 64) (i := 6) zT30_2 rfl
theorem m30_71 : smI 30 71 = rI1 (.bipush 8) 73 8 := zT_a (k := 64) (i := 7) zT30_2 rfl
theorem m30_73 : smI 30 73 = rI0 (.newarray .int) 75 := zT_a (k := 64) (i := 9) zT30_2 rfl
theorem m30_75 : smI 30 75 = rI3 (.putfield 24) 78 4 4 := zT_a (k := 64) (i := 11) zT30_2 rfl
theorem m30_78 : smI 30 78 = rI0 ziA0 79 := zT_a (k := 64) (i := 14) zT30_2 rfl
theorem m30_79 : smI 30 79 = rI1 (.bipush 8) 81 8 := zT_a (k := 64) (i := 15) zT30_2 rfl
theorem m30_81 : smI 30 81 = rI0 (.newarray .int) 83 := zT_a (k := 64) (i := 17) zT30_2 rfl
theorem m30_83 : smI 30 83 = rI3 (.putfield 27) 86 4 5 := zT_a (k := 64) (i := 19) zT30_2 rfl
theorem m30_86 : smI 30 86 = rI0 ziA0 87 := zT_a (k := 64) (i := 22) zT30_2 rfl
theorem m30_87 : smI 30 87 = rI1 (.bipush 8) 89 8 := zT_a (k := 64) (i := 23) zT30_2 rfl
theorem m30_89 : smI 30 89 = rI2 (.newarray .boolean) 91 1 := zT_a (k := 64) (i := 25) zT30_2 rfl
theorem m30_91 : smI 30 91 = rI3 (.putfield 30) 94 4 6 := zT_a (k := 64) (i := 27) zT30_2 rfl
theorem m30_94 : smI 30 94 = rI0 ziA0 95 := zT_a (k := 64) (i := 30) zT30_2 rfl
theorem m30_95 : smI 30 95 = rI1 (.bipush 8) 97 8 := zT_a (k := 64) (i := 31) zT30_2 rfl
theorem m30_97 : smI 30 97 = rI0 (.newarray .int) 99 := zT_l (k := 96) (i := 1) zT30_3 rfl
theorem m30_99 : smI 30 99 = rI3 (.putfield 34) 102 4 7 := zT_l (k := 96) (i := 3) zT30_3 rfl
theorem m30_102 : smI 30 102 = rI0 ziA0 103 := zT_l (k := 96) (i := 6) zT30_3 rfl
theorem m30_103 : smI 30 103 = rI1 ziC1 104 1 := zT_l (k := 96) (i := 7) zT30_3 rfl
theorem m30_104 : smI 30 104 = rI3 (.putfield 37) 107 4 8 := zT_l (k := 96) (i := 8) zT30_3 rfl
theorem m30_107 : smI 30 107 = rI0 ziA0 108 := zT_l (k := 96) (i := 11) zT30_3 rfl
theorem m30_108 : smI 30 108 = rI0 ziC0 109 := zT_l (k := 96) (i := 12) zT30_3 rfl
theorem m30_109 : smI 30 109 = rI3 (.putfield 41) 112 4 9 := zT_l (k := 96) (i := 13) zT30_3 rfl
theorem m30_112 : smI 30 112 = rI0 ziA0 113 := zT_l (k := 96) (i := 16) zT30_3 rfl
theorem m30_113 : smI 30 113 = rI0 ziC0 114 := zT_l (k := 96) (i := 17) zT30_3 rfl
theorem m30_114 : smI 30 114 = rI3 (.putfield 44) 117 4 10 := zT_l (k := 96) (i := 18) zT30_3 rfl
theorem m30_117 : smI 30 117 = rI0 ziA0 118 := zT_l (k := 96) (i := 21) zT30_3 rfl
theorem m30_118 : smI 30 118 = rI0 .aconst_null 119 := zT_l (k := 96) (i := 22) zT30_3 rfl
theorem m30_119 : smI 30 119 = rI3 (.putfield 47) 122 4 11 := zT_l (k := 96) (i := 23) zT30_3 rfl
theorem m30_122 : smI 30 122 = rI0 ziA0 123 := zT_l (k := 96) (i := 26) zT30_3 rfl
theorem m30_123 : smI 30 123 = rI0 .aconst_null 124 := zT_l (k := 96) (i := 27) zT30_3 rfl
theorem m30_124 : smI 30 124 = rI3 (.putfield 51) 127 4 12 := zT_l (k := 96) (i := 28) zT30_3 rfl
theorem m30_127 : smI 30 127 = rI0 .return_ 128 := zT_l (k := 96) (i := 31) zT30_3 rfl
theorem mx_31 : mMx 31 = 2 := by decide +kernel
theorem cn_31 : mCn 31 = 4 := by decide +kernel
theorem rt_31 : mRt 31 = none := by decide +kernel
theorem tq_31 : allT.getD 31 [] = tb_31 := rfl
theorem zT31_0 : zT 31 0 (tb_31_0 ++ (tb_31_1 ++ (tb_31_2 ++ (tb_31_3 ++ (tb_31_4))))) := zT_0 tq_31
theorem zT31_1 : zT 31 32 (tb_31_1 ++ (tb_31_2 ++ (tb_31_3 ++ (tb_31_4)))) := zT_s zT31_0 (n := 32) (by decide +kernel) rfl
theorem zT31_2 : zT 31 64 (tb_31_2 ++ (tb_31_3 ++ (tb_31_4))) := zT_s zT31_1 (n := 32) (by decide +kernel) rfl
theorem zT31_3 : zT 31 96 (tb_31_3 ++ (tb_31_4)) := zT_s zT31_2 (n := 32) (by decide +kernel) rfl
theorem zT31_4 : zT 31 128 (tb_31_4) := zT_s zT31_3 (n := 32) (by decide +kernel) rfl
theorem m31_0 : smI 31 0 = rI0 ziA1 1 := zT_a (k := 0) (i := 0) zT31_0 rfl
theorem m31_1 : smI 31 1 = rI2 (.getfield 9) 4 4 := zT_a (k := 0) (i := 1) zT31_0 rfl
theorem m31_4 : smI 31 4 = rI0 ziC0 5 := zT_a (k := 0) (i := 4) zT31_0 rfl
theorem m31_5 : smI 31 5 = rI0 ziA0 6 := zT_a (k := 0) (i := 5) zT31_0 rfl
theorem m31_6 : smI 31 6 = rI2 (.getfield 9) 9 4 := zT_a (k := 0) (i := 6) zT31_0 rfl
theorem m31_9 : smI 31 9 = rI0 ziC0 10 := zT_a (k := 0) (i := 9) zT31_0 rfl
theorem m31_10 : smI 31 10 = rI1 (.bipush 8) 12 8 := zT_a (k := 0) (i := 10) zT31_0 rfl
theorem m31_12 : smI 31 12 = rI4 (.invokestatic 54) 15 4 0 5 := zT_a (k := 0) (i := 12) zT31_0 rfl
theorem m31_15 : smI 31 15 = rI0 ziA1 16 := zT_a (k := 0) (i := 15) zT31_0 rfl
theorem m31_16 : smI 31 16 = rI3 (.getfield 15) 19 4 1 := zT_a (k := 0) (i := 16) zT31_0 rfl
theorem m31_19 : smI 31 19 = rI0 ziC0 20 := zT_a (k := 0) (i := 19) zT31_0 rfl
theorem m31_20 : smI 31 20 = rI0 ziA0 21 := zT_a (k := 0) (i := 20) zT31_0 rfl
theorem m31_21 : smI 31 21 = rI3 (.getfield 15) 24 4 1 := zT_a (k := 0) (i := 21) zT31_0 rfl
theorem m31_24 : smI 31 24 = rI0 ziC0 25 := zT_a (k := 0) (i := 24) zT31_0 rfl
theorem m31_25 : smI 31 25 = rI1 (.bipush 8) 27 8 := zT_a (k := 0) (i := 25) zT31_0 rfl
theorem m31_27 : smI 31 27 = rI4 (.invokestatic 54) 30 4 0 5 := zT_a (k := 0) (i := 27) zT31_0 rfl
theorem m31_30 : smI 31 30 = rI0 ziA1 31 := zT_a (k := 0) (i := 30) zT31_0 rfl
theorem m31_31 : smI 31 31 = rI3 (.getfield 18) 34 4 2 := zT_a (k := 0) (i := 31) zT31_0 rfl
theorem m31_34 : smI 31 34 = rI0 ziC0 35 := zT_a (k := 32) (i := 2) zT31_1 rfl
theorem m31_35 : smI 31 35 = rI0 ziA0 36 := zT_a (k := 32) (i := 3) zT31_1 rfl
theorem m31_36 : smI 31 36 = rI3 (.getfield 18) 39 4 2 := zT_a (k := 32) (i := 4) zT31_1 rfl
theorem m31_39 : smI 31 39 = rI0 ziC0 40 := zT_a (k := 32) (i := 7) zT31_1 rfl
theorem m31_40 : smI 31 40 = rI1 (.bipush 8) 42 8 := zT_a (k := 32) (i := 8) zT31_1 rfl
theorem m31_42 : smI 31 42 = rI4 (.invokestatic 54) 45 4 0 5 := zT_a (k := 32) (i := 10) zT31_1 rfl
theorem m31_45 : smI 31 45 = rI0 ziA1 46 := zT_a (k := 32) (i := 13) zT31_1 rfl
theorem m31_46 : smI 31 46 = rI3 (.getfield 21) 49 4 3 := zT_a (k := 32) (i := 14) zT31_1 rfl
theorem m31_49 : smI 31 49 = rI0 ziC0 50 := zT_a (k := 32) (i := 17) zT31_1 rfl
theorem m31_50 : smI 31 50 = rI0 ziA0 51 := zT_a (k := 32) (i := 18) zT31_1 rfl
theorem m31_51 : smI 31 51 = rI3 (.getfield 21) 54 4 3 := zT_a (k := 32) (i := 19) zT31_1 rfl
theorem m31_54 : smI 31 54 = rI0 ziC0 55 := zT_a (k := 32) (i := 22) zT31_1 rfl
theorem m31_55 : smI 31 55 = rI1 (.bipush 8) 57 8 := zT_a (k := 32) (i := 23) zT31_1 rfl
theorem m31_57 : smI 31 57 = rI4 (.invokestatic 54) 60 4 0 5 := zT_a (k := 32) (i := 25) zT31_1 rfl
theorem m31_60 : smI 31 60 = rI0 ziA1 61 := zT_a (k := 32) (i := 28) zT31_1 rfl
theorem m31_61 : smI 31 61 = rI3 (.getfield 24) 64 4 4 := zT_a (k := 32) (i := 29) zT31_1 rfl
theorem m31_64 : smI 31 64 = rI0 ziC0 65 := zT_a (k := 64) (i := 0) zT31_2 rfl
theorem m31_65 : smI 31 65 = rI0 ziA0 66 := zT_a (k := 64) (i := 1) zT31_2 rfl
theorem m31_66 : smI 31 66 = rI3 (.getfield 24) 69 4 4 := zT_a (k := 64) (i := 2) zT31_2 rfl
theorem m31_69 : smI 31 69 = rI0 ziC0 70 := zT_a (k := 64) (i := 5) zT31_2 rfl
theorem m31_70 : smI 31 70 = rI1 (.bipush 8) 72 8 := zT_a (k := 64) (i := 6) zT31_2 rfl
theorem m31_72 : smI 31 72 = rI4 (.invokestatic 54) 75 4 0 5 := zT_a (k := 64) (i := 8) zT31_2 rfl
theorem m31_75 : smI 31 75 = rI0 ziA1 76 := zT_a (k := 64) (i := 11) zT31_2 rfl
theorem m31_76 : smI 31 76 = rI3 (.getfield 27) 79 4 5 := zT_a (k := 64) (i := 12) zT31_2 rfl
theorem m31_79 : smI 31 79 = rI0 ziC0 80 := zT_a (k := 64) (i := 15) zT31_2 rfl
theorem m31_80 : smI 31 80 = rI0 ziA0 81 := zT_a (k := 64) (i := 16) zT31_2 rfl
theorem m31_81 : smI 31 81 = rI3 (.getfield 27) 84 4 5 := zT_a (k := 64) (i := 17) zT31_2 rfl
theorem m31_84 : smI 31 84 = rI0 ziC0 85 := zT_a (k := 64) (i := 20) zT31_2 rfl
theorem m31_85 : smI 31 85 = rI1 (.bipush 8) 87 8 := zT_a (k := 64) (i := 21) zT31_2 rfl
theorem m31_87 : smI 31 87 = rI4 (.invokestatic 54) 90 4 0 5 := zT_a (k := 64) (i := 23) zT31_2 rfl
theorem m31_90 : smI 31 90 = rI0 ziA1 91 := zT_a (k := 64) (i := 26) zT31_2 rfl
theorem m31_91 : smI 31 91 = rI3 (.getfield 30) 94 4 6 := zT_a (k := 64) (i := 27) zT31_2 rfl
theorem m31_94 : smI 31 94 = rI0 ziC0 95 := zT_a (k := 64) (i := 30) zT31_2 rfl
theorem m31_95 : smI 31 95 = rI0 ziA0 96 := zT_a (k := 64) (i := 31) zT31_2 rfl
theorem m31_96 : smI 31 96 = rI3 (.getfield 30) 99 4 6 := zT_a (k := 96) (i := 0) zT31_3 rfl
theorem m31_99 : smI 31 99 = rI0 ziC0 100 := zT_a (k := 96) (i := 3) zT31_3 rfl
theorem m31_100 : smI 31 100 = rI1 (.bipush 8) 102 8 := zT_a (k := 96) (i := 4) zT31_3 rfl
theorem m31_102 : smI 31 102 = rI4 (.invokestatic 54) 105 4 0 5 := zT_a (k := 96) (i := 6) zT31_3 rfl
theorem m31_105 : smI 31 105 = rI0 ziA0 106 := zT_a (k := 96) (i := 9) zT31_3 rfl
theorem m31_106 : smI 31 106 = rI0 ziA1 107 := zT_a (k := 96) (i := 10) zT31_3 rfl
theorem m31_107 : smI 31 107 = rI3 (.getfield 37) 110 4 8 := zT_a (k := 96) (i := 11) zT31_3 rfl
theorem m31_110 : smI 31 110 = rI3 (.putfield 37) 113 4 8 := zT_a (k := 96) (i := 14) zT31_3 rfl
theorem m31_113 : smI 31 113 = rI0 ziA0 114 := zT_a (k := 96) (i := 17) zT31_3 rfl
theorem m31_114 : smI 31 114 = rI0 ziA1 115 := zT_a (k := 96) (i := 18) zT31_3 rfl
theorem m31_115 : smI 31 115 = rI3 (.getfield 41) 118 4 9 := zT_a (k := 96) (i := 19) zT31_3 rfl
theorem m31_118 : smI 31 118 = rI3 (.putfield 41) 121 4 9 := zT_a (k := 96) (i := 22) zT31_3 rfl
theorem m31_121 : smI 31 121 = rI0 ziA0 122 := zT_a (k := 96) (i := 25) zT31_3 rfl
theorem m31_122 : smI 31 122 = rI0 ziA1 123 := zT_a (k := 96) (i := 26) zT31_3 rfl
theorem m31_123 : smI 31 123 = rI3 (.getfield 44) 126 4 10 := zT_a (k := 96) (i := 27) zT31_3 rfl
theorem m31_126 : smI 31 126 = rI3 (.putfield 44) 129 4 10 := zT_a (k := 96) (i := 30) zT31_3 rfl
theorem m31_129 : smI 31 129 = rI0 ziA0 130 := zT_l (k := 128) (i := 1) zT31_4 rfl
theorem m31_130 : smI 31 130 = rI0 ziA1 131 := zT_l (k := 128) (i := 2) zT31_4 rfl
theorem m31_131 : smI 31 131 = rI3 (.getfield 47) 134 4 11 := zT_l (k := 128) (i := 3) zT31_4 rfl
theorem m31_134 : smI 31 134 = rI3 (.putfield 47) 137 4 11 := zT_l (k := 128) (i := 6) zT31_4 rfl
theorem m31_137 : smI 31 137 = rI0 ziA0 138 := zT_l (k := 128) (i := 9) zT31_4 rfl
theorem m31_138 : smI 31 138 = rI0 ziA1 139 := zT_l (k := 128) (i := 10) zT31_4 rfl
theorem m31_139 : smI 31 139 = rI3 (.getfield 51) 142 4 12 := zT_l (k := 128) (i := 11) zT31_4 rfl
theorem m31_142 : smI 31 142 = rI3 (.putfield 51) 145 4 12 := zT_l (k := 128) (i := 14) zT31_4 rfl
theorem m31_145 : smI 31 145 = rI0 .return_ 146 := zT_l (k := 128) (i := 17) zT31_4 rfl
theorem mx_32 : mMx 32 = 4 := by decide +kernel
theorem cn_32 : mCn 32 = 4 := by decide +kernel
theorem rt_32 : mRt 32 = (some .int) := by decide +kernel
theorem tq_32 : allT.getD 32 [] = tb_32 := rfl
theorem zT32_0 : zT 32 0 (tb_32_0 ++ (tb_32_1)) := zT_0 tq_32
theorem zT32_1 : zT 32 32 (tb_32_1) := zT_s zT32_0 (n := 32) (by decide +kernel) rfl
theorem m32_0 : smI 32 0 = rI0 ziA0 1 := zT_a (k := 0) (i := 0) zT32_0 rfl
theorem m32_1 : smI 32 1 = rI3 (.getfield 47) 4 4 11 := zT_a (k := 0) (i := 1) zT32_0 rfl
theorem m32_4 : smI 32 4 = rI2 (.ifnonnull 15) 7 19 := zT_a (k := 0) (i := 4) zT32_0 rfl
theorem m32_7 : smI 32 7 = rI0 ziI2 8 := zT_a (k := 0) (i := 7) zT32_0 rfl
theorem m32_8 : smI 32 8 = rI1 (.bipush 9) 10 9 := zT_a (k := 0) (i := 8) zT32_0 rfl
theorem m32_10 : smI 32 10 = rI0 .iadd 11 := zT_a (k := 0) (i := 10) zT32_0 rfl
theorem m32_11 : smI 32 11 = rI0 ziI1 12 := zT_a (k := 0) (i := 11) zT32_0 rfl
theorem m32_12 : smI 32 12 = rI1 (.bipush 9) 14 9 := zT_a (k := 0) (i := 12) zT32_0 rfl
theorem m32_14 : smI 32 14 = rI0 .idiv 15 := zT_a (k := 0) (i := 14) zT32_0 rfl
theorem m32_15 : smI 32 15 = rI0 .isub 16 := zT_a (k := 0) (i := 15) zT32_0 rfl
theorem m32_16 : smI 32 16 = rI2 (.goto 13) 19 29 := zT_a (k := 0) (i := 16) zT32_0 rfl
theorem m32_19 : smI 32 19 = rI0 ziA0 20 := zT_a (k := 0) (i := 19) zT32_0 rfl
theorem m32_20 : smI 32 20 = rI3 (.getfield 47) 23 4 11 := zT_a (k := 0) (i := 20) zT32_0 rfl
theorem m32_23 : smI 32 23 = rI0 ziI1 24 := zT_a (k := 0) (i := 23) zT32_0 rfl
theorem m32_24 : smI 32 24 = rI0 ziI2 25 := zT_a (k := 0) (i := 24) zT32_0 rfl
theorem m32_25 : smI 32 25 = rI0 ziI3 26 := zT_a (k := 0) (i := 25) zT32_0 rfl
theorem m32_26 : smI 32 26 = rI4 (.invokevirtual 60) 29 20 14 3 := zT_a (k := 0) (i := 26) zT32_0 rfl
theorem m32_29 : smI 32 29 = rI1 (.bipush 99) 31 99 := zT_a (k := 0) (i := 29) zT32_0 rfl
theorem m32_31 : smI 32 31 = rI4 (.invokestatic 66) 34 1 51 2 := zT_a (k := 0) (i := 31) zT32_0 rfl
theorem m32_34 : smI 32 34 = rI0 .ireturn 35 := zT_l (k := 32) (i := 2) zT32_1 rfl
theorem mx_33 : mMx 33 = 4 := by decide +kernel
theorem cn_33 : mCn 33 = 4 := by decide +kernel
theorem rt_33 : mRt 33 = (some .int) := by decide +kernel
theorem tq_33 : allT.getD 33 [] = tb_33 := rfl
theorem m33_0 : smI 33 0 = rI0 ziA0 1 := sm_t tq_33 rfl
theorem m33_1 : smI 33 1 = rI3 (.getfield 51) 4 4 12 := sm_t tq_33 rfl
theorem m33_4 : smI 33 4 = rI2 (.ifnonnull 7) 7 11 := sm_t tq_33 rfl
theorem m33_7 : smI 33 7 = rI0 ziC0 8 := sm_t tq_33 rfl
theorem m33_8 : smI 33 8 = rI2 (.goto 17) 11 25 := sm_t tq_33 rfl
theorem m33_11 : smI 33 11 = rI0 ziA0 12 := sm_t tq_33 rfl
theorem m33_12 : smI 33 12 = rI3 (.getfield 51) 15 4 12 := sm_t tq_33 rfl
theorem m33_15 : smI 33 15 = rI0 ziI1 16 := sm_t tq_33 rfl
theorem m33_16 : smI 33 16 = rI0 ziI2 17 := sm_t tq_33 rfl
theorem m33_17 : smI 33 17 = rI0 ziI3 18 := sm_t tq_33 rfl
theorem m33_18 : smI 33 18 = rI4 (.invokevirtual 60) 21 20 14 3 := sm_t tq_33 rfl
theorem m33_21 : smI 33 21 = rI1 ziC1 22 1 := sm_t tq_33 rfl
theorem m33_22 : smI 33 22 = rI4 (.invokestatic 66) 25 1 51 2 := sm_t tq_33 rfl
theorem m33_25 : smI 33 25 = rI0 .ireturn 26 := sm_t tq_33 rfl
theorem mx_34 : mMx 34 = 3 := by decide +kernel
theorem cn_34 : mCn 34 = 4 := by decide +kernel
theorem rt_34 : mRt 34 = (some .int) := by decide +kernel
theorem tq_34 : allT.getD 34 [] = tb_34 := rfl
theorem zT34_0 : zT 34 0 (tb_34_0 ++ (tb_34_1 ++ (tb_34_2 ++ (tb_34_3 ++ (tb_34_4 ++ (tb_34_5)))))) := zT_0 tq_34
theorem zT34_1 : zT 34 32 (tb_34_1 ++ (tb_34_2 ++ (tb_34_3 ++ (tb_34_4 ++ (tb_34_5))))) := zT_s zT34_0 (n := 32) (by decide +kernel) rfl
theorem zT34_2 : zT 34 64 (tb_34_2 ++ (tb_34_3 ++ (tb_34_4 ++ (tb_34_5)))) := zT_s zT34_1 (n := 32) (by decide +kernel) rfl
theorem zT34_3 : zT 34 96 (tb_34_3 ++ (tb_34_4 ++ (tb_34_5))) := zT_s zT34_2 (n := 32) (by decide +kernel) rfl
theorem zT34_4 : zT 34 128 (tb_34_4 ++ (tb_34_5)) := zT_s zT34_3 (n := 32) (by decide +kernel) rfl
theorem zT34_5 : zT 34 160 (tb_34_5) := zT_s zT34_4 (n := 32) (by decide +kernel) rfl
theorem m34_0 : smI 34 0 = rI0 ziA0 1 := zT_a (k := 0) (i := 0) zT34_0 rfl
theorem m34_1 : smI 34 1 = rI0 ziA0 2 := zT_a (k := 0) (i := 1) zT34_0 rfl
theorem m34_2 : smI 34 2 = rI3 (.getfield 21) 5 4 3 := zT_a (k := 0) (i := 2) zT34_0 rfl
theorem m34_5 : smI 34 5 = rI0 ziI1 6 := zT_a (k := 0) (i := 5) zT34_0 rfl
theorem m34_6 : smI 34 6 = rI0 .iaload 7 := zT_a (k := 0) (i := 6) zT34_0 rfl
theorem m34_7 : smI 34 7 = rI0 ziA0 8 := zT_a (k := 0) (i := 7) zT34_0 rfl
theorem m34_8 : smI 34 8 = rI3 (.getfield 27) 11 4 5 := zT_a (k := 0) (i := 8) zT34_0 rfl
theorem m34_11 : smI 34 11 = rI0 ziI1 12 := zT_a (k := 0) (i := 11) zT34_0 rfl
theorem m34_12 : smI 34 12 = rI0 .iaload 13 := zT_a (k := 0) (i := 12) zT34_0 rfl
theorem m34_13 : smI 34 13 = rI0 ziA0 14 := zT_a (k := 0) (i := 13) zT34_0 rfl
theorem m34_14 : smI 34 14 = rI3 (.getfield 41) 17 4 9 := zT_a (k := 0) (i := 14) zT34_0 rfl
theorem m34_17 : smI 34 17 = rI1 (.bipush 16) 19 16 := zT_a (k := 0) (i := 17) zT34_0 rfl
theorem m34_19 : smI 34 19 = rI0 .irem 20 := zT_a (k := 0) (i := 19) zT34_0 rfl
theorem m34_20 : smI 34 20 = rI4 (.invokevirtual 70) 23 20 32 3 := zT_a (k := 0) (i := 20) zT34_0 rfl
theorem m34_23 : smI 34 23 = rI0 ziS2 24 := zT_a (k := 0) (i := 23) zT34_0 rfl
theorem m34_24 : smI 34 24 = rI0 ziA0 25 := zT_a (k := 0) (i := 24) zT34_0 rfl
theorem m34_25 : smI 34 25 = rI3 (.getfield 15) 28 4 1 := zT_a (k := 0) (i := 25) zT34_0 rfl
theorem m34_28 : smI 34 28 = rI0 ziI1 29 := zT_a (k := 0) (i := 28) zT34_0 rfl
theorem m34_29 : smI 34 29 = rI0 .iaload 30 := zT_a (k := 0) (i := 29) zT34_0 rfl
theorem m34_30 : smI 34 30 = rI0 (.tableswitch 149 1 6 #[38, 54, 65, 83, 102, 129]) 68 := zT_a (k := 0) (i := 30) zT34_0 rfl
theorem m34_68 : smI 34 68 = rI0 ziI2 69 := zT_a (k := 64) (i := 4) zT34_2 rfl
theorem m34_69 : smI 34 69 = rI0 ziA0 70 := zT_a (k := 64) (i := 5) zT34_2 rfl
theorem m34_70 : smI 34 70 = rI3 (.getfield 24) 73 4 4 := zT_a (k := 64) (i := 6) zT34_2 rfl
theorem m34_73 : smI 34 73 = rI0 ziI1 74 := zT_a (k := 64) (i := 9) zT34_2 rfl
theorem m34_74 : smI 34 74 = rI0 .iaload 75 := zT_a (k := 64) (i := 10) zT34_2 rfl
theorem m34_75 : smI 34 75 = rI0 .iadd 76 := zT_a (k := 64) (i := 11) zT34_2 rfl
theorem m34_76 : smI 34 76 = rI0 ziA0 77 := zT_a (k := 64) (i := 12) zT34_2 rfl
theorem m34_77 : smI 34 77 = rI3 (.getfield 18) 80 4 2 := zT_a (k := 64) (i := 13) zT34_2 rfl
theorem m34_80 : smI 34 80 = rI0 ziI1 81 := zT_a (k := 64) (i := 16) zT34_2 rfl
theorem m34_81 : smI 34 81 = rI0 .iaload 82 := zT_a (k := 64) (i := 17) zT34_2 rfl
theorem m34_82 : smI 34 82 = rI0 .iadd 83 := zT_a (k := 64) (i := 18) zT34_2 rfl
theorem m34_83 : smI 34 83 = rI0 .ireturn 84 := zT_a (k := 64) (i := 19) zT34_2 rfl
theorem m34_84 : smI 34 84 = rI0 ziI2 85 := zT_a (k := 64) (i := 20) zT34_2 rfl
theorem m34_85 : smI 34 85 = rI1 ziC2 86 2 := zT_a (k := 64) (i := 21) zT34_2 rfl
theorem m34_86 : smI 34 86 = rI0 .idiv 87 := zT_a (k := 64) (i := 22) zT34_2 rfl
theorem m34_87 : smI 34 87 = rI0 ziA0 88 := zT_a (k := 64) (i := 23) zT34_2 rfl
theorem m34_88 : smI 34 88 = rI3 (.getfield 24) 91 4 4 := zT_a (k := 64) (i := 24) zT34_2 rfl
theorem m34_91 : smI 34 91 = rI0 ziI1 92 := zT_a (k := 64) (i := 27) zT34_2 rfl
theorem m34_92 : smI 34 92 = rI0 .iaload 93 := zT_a (k := 64) (i := 28) zT34_2 rfl
theorem m34_93 : smI 34 93 = rI0 .iadd 94 := zT_a (k := 64) (i := 29) zT34_2 rfl
theorem m34_94 : smI 34 94 = rI0 .ireturn 95 := zT_a (k := 64) (i := 30) zT34_2 rfl
theorem m34_95 : smI 34 95 = rI0 ziI2 96 := zT_a (k := 64) (i := 31) zT34_2 rfl
theorem m34_96 : smI 34 96 = rI0 ziA0 97 := zT_a (k := 96) (i := 0) zT34_3 rfl
theorem m34_97 : smI 34 97 = rI3 (.getfield 24) 100 4 4 := zT_a (k := 96) (i := 1) zT34_3 rfl
theorem m34_100 : smI 34 100 = rI0 ziI1 101 := zT_a (k := 96) (i := 4) zT34_3 rfl
theorem m34_101 : smI 34 101 = rI0 .iaload 102 := zT_a (k := 96) (i := 5) zT34_3 rfl
theorem m34_102 : smI 34 102 = rI0 .iadd 103 := zT_a (k := 96) (i := 6) zT34_3 rfl
theorem m34_103 : smI 34 103 = rI0 ziA0 104 := zT_a (k := 96) (i := 7) zT34_3 rfl
theorem m34_104 : smI 34 104 = rI3 (.getfield 21) 107 4 3 := zT_a (k := 96) (i := 8) zT34_3 rfl
theorem m34_107 : smI 34 107 = rI0 ziI1 108 := zT_a (k := 96) (i := 11) zT34_3 rfl
theorem m34_108 : smI 34 108 = rI0 .iaload 109 := zT_a (k := 96) (i := 12) zT34_3 rfl
theorem m34_109 : smI 34 109 = rI1 ziC2 110 2 := zT_a (k := 96) (i := 13) zT34_3 rfl
theorem m34_110 : smI 34 110 = rI0 .idiv 111 := zT_a (k := 96) (i := 14) zT34_3 rfl
theorem m34_111 : smI 34 111 = rI0 .isub 112 := zT_a (k := 96) (i := 15) zT34_3 rfl
theorem m34_112 : smI 34 112 = rI0 .ireturn 113 := zT_a (k := 96) (i := 16) zT34_3 rfl
theorem m34_113 : smI 34 113 = rI0 ziI2 114 := zT_a (k := 96) (i := 17) zT34_3 rfl
theorem m34_114 : smI 34 114 = rI0 ziA0 115 := zT_a (k := 96) (i := 18) zT34_3 rfl
theorem m34_115 : smI 34 115 = rI3 (.getfield 24) 118 4 4 := zT_a (k := 96) (i := 19) zT34_3 rfl
theorem m34_118 : smI 34 118 = rI0 ziI1 119 := zT_a (k := 96) (i := 22) zT34_3 rfl
theorem m34_119 : smI 34 119 = rI0 .iaload 120 := zT_a (k := 96) (i := 23) zT34_3 rfl
theorem m34_120 : smI 34 120 = rI0 .iadd 121 := zT_a (k := 96) (i := 24) zT34_3 rfl
theorem m34_121 : smI 34 121 = rI0 ziA0 122 := zT_a (k := 96) (i := 25) zT34_3 rfl
theorem m34_122 : smI 34 122 = rI3 (.getfield 18) 125 4 2 := zT_a (k := 96) (i := 26) zT34_3 rfl
theorem m34_125 : smI 34 125 = rI0 ziI1 126 := zT_a (k := 96) (i := 29) zT34_3 rfl
theorem m34_126 : smI 34 126 = rI0 .iaload 127 := zT_a (k := 96) (i := 30) zT34_3 rfl
theorem m34_127 : smI 34 127 = rI0 .iadd 128 := zT_a (k := 96) (i := 31) zT34_3 rfl
theorem m34_128 : smI 34 128 = rI1 (.bipush 20) 130 20 := zT_a (k := 128) (i := 0) zT34_4 rfl
theorem m34_130 : smI 34 130 = rI0 .isub 131 := zT_a (k := 128) (i := 2) zT34_4 rfl
theorem m34_131 : smI 34 131 = rI0 .ireturn 132 := zT_a (k := 128) (i := 3) zT34_4 rfl
theorem m34_132 : smI 34 132 = rI0 ziI2 133 := zT_a (k := 128) (i := 4) zT34_4 rfl
theorem m34_133 : smI 34 133 = rI1 ziC2 134 2 := zT_a (k := 128) (i := 5) zT34_4 rfl
theorem m34_134 : smI 34 134 = rI0 .idiv 135 := zT_a (k := 128) (i := 6) zT34_4 rfl
theorem m34_135 : smI 34 135 = rI0 ziA0 136 := zT_a (k := 128) (i := 7) zT34_4 rfl
theorem m34_136 : smI 34 136 = rI3 (.getfield 24) 139 4 4 := zT_a (k := 128) (i := 8) zT34_4 rfl
theorem m34_139 : smI 34 139 = rI0 ziI1 140 := zT_a (k := 128) (i := 11) zT34_4 rfl
theorem m34_140 : smI 34 140 = rI0 .iaload 141 := zT_a (k := 128) (i := 12) zT34_4 rfl
theorem m34_141 : smI 34 141 = rI0 .iadd 142 := zT_a (k := 128) (i := 13) zT34_4 rfl
theorem m34_142 : smI 34 142 = rI0 ziA0 143 := zT_a (k := 128) (i := 14) zT34_4 rfl
theorem m34_143 : smI 34 143 = rI3 (.getfield 27) 146 4 5 := zT_a (k := 128) (i := 15) zT34_4 rfl
theorem m34_146 : smI 34 146 = rI0 ziI1 147 := zT_a (k := 128) (i := 18) zT34_4 rfl
theorem m34_147 : smI 34 147 = rI0 .iaload 148 := zT_a (k := 128) (i := 19) zT34_4 rfl
theorem m34_148 : smI 34 148 = rI2 (.ifCond .le 8) 151 156 := zT_a (k := 128) (i := 20) zT34_4 rfl
theorem m34_151 : smI 34 151 = rI1 (.bipush 9) 153 9 := zT_a (k := 128) (i := 23) zT34_4 rfl
theorem m34_153 : smI 34 153 = rI2 (.goto 4) 156 157 := zT_a (k := 128) (i := 25) zT34_4 rfl
theorem m34_156 : smI 34 156 = rI0 ziC0 157 := zT_a (k := 128) (i := 28) zT34_4 rfl
theorem m34_157 : smI 34 157 = rI0 .iadd 158 := zT_a (k := 128) (i := 29) zT34_4 rfl
theorem m34_158 : smI 34 158 = rI0 .ireturn 159 := zT_a (k := 128) (i := 30) zT34_4 rfl
theorem m34_159 : smI 34 159 = rI0 ziI2 160 := zT_a (k := 128) (i := 31) zT34_4 rfl
theorem m34_160 : smI 34 160 = rI1 ziC2 161 2 := zT_l (k := 160) (i := 0) zT34_5 rfl
theorem m34_161 : smI 34 161 = rI0 ziA0 162 := zT_l (k := 160) (i := 1) zT34_5 rfl
theorem m34_162 : smI 34 162 = rI3 (.getfield 24) 165 4 4 := zT_l (k := 160) (i := 2) zT34_5 rfl
theorem m34_165 : smI 34 165 = rI0 ziI1 166 := zT_l (k := 160) (i := 5) zT34_5 rfl
theorem m34_166 : smI 34 166 = rI0 .iaload 167 := zT_l (k := 160) (i := 6) zT34_5 rfl
theorem m34_167 : smI 34 167 = rI0 .imul 168 := zT_l (k := 160) (i := 7) zT34_5 rfl
theorem m34_168 : smI 34 168 = rI0 .iadd 169 := zT_l (k := 160) (i := 8) zT34_5 rfl
theorem m34_169 : smI 34 169 = rI0 ziA0 170 := zT_l (k := 160) (i := 9) zT34_5 rfl
theorem m34_170 : smI 34 170 = rI3 (.getfield 21) 173 4 3 := zT_l (k := 160) (i := 10) zT34_5 rfl
theorem m34_173 : smI 34 173 = rI0 ziI1 174 := zT_l (k := 160) (i := 13) zT34_5 rfl
theorem m34_174 : smI 34 174 = rI0 .iaload 175 := zT_l (k := 160) (i := 14) zT34_5 rfl
theorem m34_175 : smI 34 175 = rI1 ziC2 176 2 := zT_l (k := 160) (i := 15) zT34_5 rfl
theorem m34_176 : smI 34 176 = rI0 .idiv 177 := zT_l (k := 160) (i := 16) zT34_5 rfl
theorem m34_177 : smI 34 177 = rI0 .isub 178 := zT_l (k := 160) (i := 17) zT34_5 rfl
theorem m34_178 : smI 34 178 = rI0 .ireturn 179 := zT_l (k := 160) (i := 18) zT34_5 rfl
theorem m34_179 : smI 34 179 = rI0 ziI2 180 := zT_l (k := 160) (i := 19) zT34_5 rfl
theorem m34_180 : smI 34 180 = rI0 ziA0 181 := zT_l (k := 160) (i := 20) zT34_5 rfl
theorem m34_181 : smI 34 181 = rI3 (.getfield 24) 184 4 4 := zT_l (k := 160) (i := 21) zT34_5 rfl
theorem m34_184 : smI 34 184 = rI0 ziI1 185 := zT_l (k := 160) (i := 24) zT34_5 rfl
theorem m34_185 : smI 34 185 = rI0 .iaload 186 := zT_l (k := 160) (i := 25) zT34_5 rfl
theorem m34_186 : smI 34 186 = rI0 .iadd 187 := zT_l (k := 160) (i := 26) zT34_5 rfl
theorem m34_187 : smI 34 187 = rI0 .ireturn 188 := zT_l (k := 160) (i := 27) zT34_5 rfl
theorem mx_35 : mMx 35 = 2 := by decide +kernel
theorem cn_35 : mCn 35 = 4 := by decide +kernel
theorem rt_35 : mRt 35 = (some .int) := by decide +kernel
theorem tq_35 : allT.getD 35 [] = tb_35 := rfl
theorem zT35_0 : zT 35 0 (tb_35_0 ++ (tb_35_1)) := zT_0 tq_35
theorem zT35_1 : zT 35 32 (tb_35_1) := zT_s zT35_0 (n := 32) (by decide +kernel) rfl
theorem m35_0 : smI 35 0 = rI0 ziA0 1 := zT_a (k := 0) (i := 0) zT35_0 rfl
theorem m35_1 : smI 35 1 = rI3 (.getfield 15) 4 4 1 := zT_a (k := 0) (i := 1) zT35_0 rfl
theorem m35_4 : smI 35 4 = rI0 ziI1 5 := zT_a (k := 0) (i := 4) zT35_0 rfl
theorem m35_5 : smI 35 5 = rI0 .iaload 6 := zT_a (k := 0) (i := 5) zT35_0 rfl
theorem m35_6 : smI 35 6 = rI0 (.tableswitch 53 1 6 #[38, 40, 42, 38, 40, 42]) 44 := zT_a (k := 0) (i := 6) zT35_0 rfl
theorem m35_44 : smI 35 44 = rI0 ziC0 45 := zT_l (k := 32) (i := 12) zT35_1 rfl
theorem m35_45 : smI 35 45 = rI0 .ireturn 46 := zT_l (k := 32) (i := 13) zT35_1 rfl
theorem m35_46 : smI 35 46 = rI1 ziC2 47 2 := zT_l (k := 32) (i := 14) zT35_1 rfl
theorem m35_47 : smI 35 47 = rI0 .ireturn 48 := zT_l (k := 32) (i := 15) zT35_1 rfl
theorem m35_48 : smI 35 48 = rI1 ziC1 49 1 := zT_l (k := 32) (i := 16) zT35_1 rfl
theorem m35_49 : smI 35 49 = rI0 ziA0 50 := zT_l (k := 32) (i := 17) zT35_1 rfl
theorem m35_50 : smI 35 50 = rI3 (.getfield 18) 53 4 2 := zT_l (k := 32) (i := 18) zT35_1 rfl
theorem m35_53 : smI 35 53 = rI0 ziI1 54 := zT_l (k := 32) (i := 21) zT35_1 rfl
theorem m35_54 : smI 35 54 = rI0 .iaload 55 := zT_l (k := 32) (i := 22) zT35_1 rfl
theorem m35_55 : smI 35 55 = rI1 ziC3 56 3 := zT_l (k := 32) (i := 23) zT35_1 rfl
theorem m35_56 : smI 35 56 = rI0 .irem 57 := zT_l (k := 32) (i := 24) zT35_1 rfl
theorem m35_57 : smI 35 57 = rI0 .iadd 58 := zT_l (k := 32) (i := 25) zT35_1 rfl
theorem m35_58 : smI 35 58 = rI0 .ireturn 59 := zT_l (k := 32) (i := 26) zT35_1 rfl
theorem m35_59 : smI 35 59 = rI1 ziC1 60 1 := zT_l (k := 32) (i := 27) zT35_1 rfl
theorem m35_60 : smI 35 60 = rI0 .ireturn 61 := zT_l (k := 32) (i := 28) zT35_1 rfl
theorem mx_36 : mMx 36 = 2 := by decide +kernel
theorem cn_36 : mCn 36 = 4 := by decide +kernel
theorem rt_36 : mRt 36 = none := by decide +kernel
theorem tq_36 : allT.getD 36 [] = tb_36 := rfl
theorem m36_0 : smI 36 0 = rI0 ziC0 1 := sm_t tq_36 rfl
theorem m36_1 : smI 36 1 = rI0 ziS1 2 := sm_t tq_36 rfl
theorem m36_2 : smI 36 2 = rI0 ziI1 3 := sm_t tq_36 rfl
theorem m36_3 : smI 36 3 = rI0 ziA0 4 := sm_t tq_36 rfl
theorem m36_4 : smI 36 4 = rI3 (.getfield 44) 7 4 10 := sm_t tq_36 rfl
theorem m36_7 : smI 36 7 = rI2 (.if_icmp .ge 20) 10 27 := sm_t tq_36 rfl
theorem m36_10 : smI 36 10 = rI0 ziA0 11 := sm_t tq_36 rfl
theorem m36_11 : smI 36 11 = rI3 (.getfield 34) 14 4 7 := sm_t tq_36 rfl
theorem m36_14 : smI 36 14 = rI0 ziI1 15 := sm_t tq_36 rfl
theorem m36_15 : smI 36 15 = rI0 ziA0 16 := sm_t tq_36 rfl
theorem m36_16 : smI 36 16 = rI0 ziI1 17 := sm_t tq_36 rfl
theorem m36_17 : smI 36 17 = rI4 (.invokevirtual 73) 20 20 34 1 := sm_t tq_36 rfl
theorem m36_20 : smI 36 20 = rI0 .iastore 21 := sm_t tq_36 rfl
theorem m36_21 : smI 36 21 = rI1 (.iinc 1 1) 24 1 := sm_t tq_36 rfl
theorem m36_24 : smI 36 24 = rI2 (.goto (-22)) 27 2 := sm_t tq_36 rfl
theorem m36_27 : smI 36 27 = rI0 .return_ 28 := sm_t tq_36 rfl
theorem mx_37 : mMx 37 = 5 := by decide +kernel
theorem cn_37 : mCn 37 = 4 := by decide +kernel
theorem rt_37 : mRt 37 = (some .int) := by decide +kernel
theorem tq_37 : allT.getD 37 [] = tb_37 := rfl
theorem zT37_0 : zT 37 0 (tb_37_0 ++ (tb_37_1 ++ (tb_37_2))) := zT_0 tq_37
theorem zT37_1 : zT 37 32 (tb_37_1 ++ (tb_37_2)) := zT_s zT37_0 (n := 32) (by decide +kernel) rfl
theorem zT37_2 : zT 37 64 (tb_37_2) := zT_s zT37_1 (n := 32) (by decide +kernel) rfl
theorem m37_0 : smI 37 0 = rI0 ziC0 1 := zT_a (k := 0) (i := 0) zT37_0 rfl
theorem m37_1 : smI 37 1 = rI0 ziS2 2 := zT_a (k := 0) (i := 1) zT37_0 rfl
theorem m37_2 : smI 37 2 = rI0 ziC0 3 := zT_a (k := 0) (i := 2) zT37_0 rfl
theorem m37_3 : smI 37 3 = rI0 ziS3 4 := zT_a (k := 0) (i := 3) zT37_0 rfl
theorem m37_4 : smI 37 4 = rI0 ziI3 5 := zT_a (k := 0) (i := 4) zT37_0 rfl
theorem m37_5 : smI 37 5 = rI0 ziA0 6 := zT_a (k := 0) (i := 5) zT37_0 rfl
theorem m37_6 : smI 37 6 = rI3 (.getfield 44) 9 4 10 := zT_a (k := 0) (i := 6) zT37_0 rfl
theorem m37_9 : smI 37 9 = rI2 (.if_icmp .ge 68) 12 77 := zT_a (k := 0) (i := 9) zT37_0 rfl
theorem m37_12 : smI 37 12 = rI0 ziA0 13 := zT_a (k := 0) (i := 12) zT37_0 rfl
theorem m37_13 : smI 37 13 = rI3 (.getfield 34) 16 4 7 := zT_a (k := 0) (i := 13) zT37_0 rfl
theorem m37_16 : smI 37 16 = rI0 ziI3 17 := zT_a (k := 0) (i := 16) zT37_0 rfl
theorem m37_17 : smI 37 17 = rI0 .iaload 18 := zT_a (k := 0) (i := 17) zT37_0 rfl
theorem m37_18 : smI 37 18 = rI0 ziA0 19 := zT_a (k := 0) (i := 18) zT37_0 rfl
theorem m37_19 : smI 37 19 = rI3 (.getfield 34) 22 4 7 := zT_a (k := 0) (i := 19) zT37_0 rfl
theorem m37_22 : smI 37 22 = rI0 ziI1 23 := zT_a (k := 0) (i := 22) zT37_0 rfl
theorem m37_23 : smI 37 23 = rI0 .iaload 24 := zT_a (k := 0) (i := 23) zT37_0 rfl
theorem m37_24 : smI 37 24 = rI2 (.if_icmp .gt 23) 27 47 := zT_a (k := 0) (i := 24) zT37_0 rfl
theorem m37_27 : smI 37 27 = rI0 ziA0 28 := zT_a (k := 0) (i := 27) zT37_0 rfl
theorem m37_28 : smI 37 28 = rI3 (.getfield 34) 31 4 7 := zT_a (k := 0) (i := 28) zT37_0 rfl
theorem m37_31 : smI 37 31 = rI0 ziI3 32 := zT_a (k := 0) (i := 31) zT37_0 rfl
theorem m37_32 : smI 37 32 = rI0 .iaload 33 := zT_a (k := 32) (i := 0) zT37_1 rfl
theorem m37_33 : smI 37 33 = rI0 ziA0 34 := zT_a (k := 32) (i := 1) zT37_1 rfl
theorem m37_34 : smI 37 34 = rI3 (.getfield 34) 37 4 7 := zT_a (k := 32) (i := 2) zT37_1 rfl
theorem m37_37 : smI 37 37 = rI0 ziI1 38 := zT_a (k := 32) (i := 5) zT37_1 rfl
theorem m37_38 : smI 37 38 = rI0 .iaload 39 := zT_a (k := 32) (i := 6) zT37_1 rfl
theorem m37_39 : smI 37 39 = rI2 (.if_icmp .ne 12) 42 51 := zT_a (k := 32) (i := 7) zT37_1 rfl
theorem m37_42 : smI 37 42 = rI0 ziI3 43 := zT_a (k := 32) (i := 10) zT37_1 rfl
theorem m37_43 : smI 37 43 = rI0 ziI1 44 := zT_a (k := 32) (i := 11) zT37_1 rfl
theorem m37_44 : smI 37 44 = rI2 (.if_icmp .ge 7) 47 51 := zT_a (k := 32) (i := 12) zT37_1 rfl
theorem m37_47 : smI 37 47 = rI1 ziC1 48 1 := zT_a (k := 32) (i := 15) zT37_1 rfl
theorem m37_48 : smI 37 48 = rI2 (.goto 4) 51 52 := zT_a (k := 32) (i := 16) zT37_1 rfl
theorem m37_51 : smI 37 51 = rI0 ziC0 52 := zT_a (k := 32) (i := 19) zT37_1 rfl
theorem m37_52 : smI 37 52 = rI0 (.istore 4) 54 := zT_a (k := 32) (i := 20) zT37_1 rfl
theorem m37_54 : smI 37 54 = rI0 (.iload 4) 56 := zT_a (k := 32) (i := 22) zT37_1 rfl
theorem m37_56 : smI 37 56 = rI2 (.ifCond .eq 15) 59 71 := zT_a (k := 32) (i := 24) zT37_1 rfl
theorem m37_59 : smI 37 59 = rI0 ziA0 60 := zT_a (k := 32) (i := 27) zT37_1 rfl
theorem m37_60 : smI 37 60 = rI3 (.getfield 30) 63 4 6 := zT_a (k := 32) (i := 28) zT37_1 rfl
theorem m37_63 : smI 37 63 = rI0 ziI3 64 := zT_a (k := 32) (i := 31) zT37_1 rfl
theorem m37_64 : smI 37 64 = rI0 .baload 65 := zT_l (k := 64) (i := 0) zT37_2 rfl
theorem m37_65 : smI 37 65 = rI2 (.ifCond .ne 6) 68 71 := zT_l (k := 64) (i := 1) zT37_2 rfl
theorem m37_68 : smI 37 68 = rI1 (.iinc 2 1) 71 1 := zT_l (k := 64) (i := 4) zT37_2 rfl
theorem m37_71 : smI 37 71 = rI1 (.iinc 3 1) 74 1 := zT_l (k := 64) (i := 7) zT37_2 rfl
theorem m37_74 : smI 37 74 = rI2 (.goto (-70)) 77 4 := zT_l (k := 64) (i := 10) zT37_2 rfl
theorem m37_77 : smI 37 77 = rI0 ziI2 78 := zT_l (k := 64) (i := 13) zT37_2 rfl
theorem m37_78 : smI 37 78 = rI0 .ireturn 79 := zT_l (k := 64) (i := 14) zT37_2 rfl
theorem mx_38 : mMx 38 = 3 := by decide +kernel
theorem cn_38 : mCn 38 = 4 := by decide +kernel
theorem rt_38 : mRt 38 = (some .int) := by decide +kernel
theorem tq_38 : allT.getD 38 [] = tb_38 := rfl
theorem zT38_0 : zT 38 0 (tb_38_0 ++ (tb_38_1)) := zT_0 tq_38
theorem zT38_1 : zT 38 32 (tb_38_1) := zT_s zT38_0 (n := 32) (by decide +kernel) rfl
theorem m38_0 : smI 38 0 = rI0 ziC0 1 := zT_a (k := 0) (i := 0) zT38_0 rfl
theorem m38_1 : smI 38 1 = rI0 ziS1 2 := zT_a (k := 0) (i := 1) zT38_0 rfl
theorem m38_2 : smI 38 2 = rI0 ziC0 3 := zT_a (k := 0) (i := 2) zT38_0 rfl
theorem m38_3 : smI 38 3 = rI0 ziS2 4 := zT_a (k := 0) (i := 3) zT38_0 rfl
theorem m38_4 : smI 38 4 = rI0 ziI2 5 := zT_a (k := 0) (i := 4) zT38_0 rfl
theorem m38_5 : smI 38 5 = rI0 ziA0 6 := zT_a (k := 0) (i := 5) zT38_0 rfl
theorem m38_6 : smI 38 6 = rI3 (.getfield 44) 9 4 10 := zT_a (k := 0) (i := 6) zT38_0 rfl
theorem m38_9 : smI 38 9 = rI2 (.if_icmp .ge 36) 12 45 := zT_a (k := 0) (i := 9) zT38_0 rfl
theorem m38_12 : smI 38 12 = rI0 ziA0 13 := zT_a (k := 0) (i := 12) zT38_0 rfl
theorem m38_13 : smI 38 13 = rI3 (.getfield 30) 16 4 6 := zT_a (k := 0) (i := 13) zT38_0 rfl
theorem m38_16 : smI 38 16 = rI0 ziI2 17 := zT_a (k := 0) (i := 16) zT38_0 rfl
theorem m38_17 : smI 38 17 = rI0 .baload 18 := zT_a (k := 0) (i := 17) zT38_0 rfl
theorem m38_18 : smI 38 18 = rI2 (.ifCond .ne 21) 21 39 := zT_a (k := 0) (i := 18) zT38_0 rfl
theorem m38_21 : smI 38 21 = rI0 ziA0 22 := zT_a (k := 0) (i := 21) zT38_0 rfl
theorem m38_22 : smI 38 22 = rI0 ziI2 23 := zT_a (k := 0) (i := 22) zT38_0 rfl
theorem m38_23 : smI 38 23 = rI4 (.invokevirtual 77) 26 20 37 1 := zT_a (k := 0) (i := 23) zT38_0 rfl
theorem m38_26 : smI 38 26 = rI0 ziA0 27 := zT_a (k := 0) (i := 26) zT38_0 rfl
theorem m38_27 : smI 38 27 = rI3 (.getfield 37) 30 4 8 := zT_a (k := 0) (i := 27) zT38_0 rfl
theorem m38_30 : smI 38 30 = rI2 (.if_icmp .ge 9) 33 39 := zT_a (k := 0) (i := 30) zT38_0 rfl
theorem m38_33 : smI 38 33 = rI0 ziI1 34 := zT_l (k := 32) (i := 1) zT38_1 rfl
theorem m38_34 : smI 38 34 = rI1 ziC1 35 1 := zT_l (k := 32) (i := 2) zT38_1 rfl
theorem m38_35 : smI 38 35 = rI0 ziI2 36 := zT_l (k := 32) (i := 3) zT38_1 rfl
theorem m38_36 : smI 38 36 = rI0 .ishl 37 := zT_l (k := 32) (i := 4) zT38_1 rfl
theorem m38_37 : smI 38 37 = rI0 .ior 38 := zT_l (k := 32) (i := 5) zT38_1 rfl
theorem m38_38 : smI 38 38 = rI0 ziS1 39 := zT_l (k := 32) (i := 6) zT38_1 rfl
theorem m38_39 : smI 38 39 = rI1 (.iinc 2 1) 42 1 := zT_l (k := 32) (i := 7) zT38_1 rfl
theorem m38_42 : smI 38 42 = rI2 (.goto (-38)) 45 4 := zT_l (k := 32) (i := 10) zT38_1 rfl
theorem m38_45 : smI 38 45 = rI0 ziI1 46 := zT_l (k := 32) (i := 13) zT38_1 rfl
theorem m38_46 : smI 38 46 = rI0 .ireturn 47 := zT_l (k := 32) (i := 14) zT38_1 rfl
theorem mx_39 : mMx 39 = 3 := by decide +kernel
theorem cn_39 : mCn 39 = 4 := by decide +kernel
theorem rt_39 : mRt 39 = none := by decide +kernel
theorem tq_39 : allT.getD 39 [] = tb_39 := rfl
theorem zT39_0 : zT 39 0 (tb_39_0 ++ (tb_39_1 ++ (tb_39_2 ++ (tb_39_3)))) := zT_0 tq_39
theorem zT39_1 : zT 39 32 (tb_39_1 ++ (tb_39_2 ++ (tb_39_3))) := zT_s zT39_0 (n := 32) (by decide +kernel) rfl
theorem zT39_2 : zT 39 64 (tb_39_2 ++ (tb_39_3)) := zT_s zT39_1 (n := 32) (by decide +kernel) rfl
theorem zT39_3 : zT 39 96 (tb_39_3) := zT_s zT39_2 (n := 32) (by decide +kernel) rfl
theorem m39_0 : smI 39 0 = rI0 ziI2 1 := zT_a (k := 0) (i := 0) zT39_0 rfl
theorem m39_1 : smI 39 1 = rI2 (.ifCond .eq 56) 4 57 := zT_a (k := 0) (i := 1) zT39_0 rfl
theorem m39_4 : smI 39 4 = rI0 ziA0 5 := zT_a (k := 0) (i := 4) zT39_0 rfl
theorem m39_5 : smI 39 5 = rI3 (.getfield 21) 8 4 3 := zT_a (k := 0) (i := 5) zT39_0 rfl
theorem m39_8 : smI 39 8 = rI0 ziI1 9 := zT_a (k := 0) (i := 8) zT39_0 rfl
theorem m39_9 : smI 39 9 = rI0 ziC0 10 := zT_a (k := 0) (i := 9) zT39_0 rfl
theorem m39_10 : smI 39 10 = rI0 ziA0 11 := zT_a (k := 0) (i := 10) zT39_0 rfl
theorem m39_11 : smI 39 11 = rI3 (.getfield 21) 14 4 3 := zT_a (k := 0) (i := 11) zT39_0 rfl
theorem m39_14 : smI 39 14 = rI0 ziI1 15 := zT_a (k := 0) (i := 14) zT39_0 rfl
theorem m39_15 : smI 39 15 = rI0 .iaload 16 := zT_a (k := 0) (i := 15) zT39_0 rfl
theorem m39_16 : smI 39 16 = rI0 ziA0 17 := zT_a (k := 0) (i := 16) zT39_0 rfl
theorem m39_17 : smI 39 17 = rI2 (.getfield 9) 20 4 := zT_a (k := 0) (i := 17) zT39_0 rfl
theorem m39_20 : smI 39 20 = rI0 ziA0 21 := zT_a (k := 0) (i := 20) zT39_0 rfl
theorem m39_21 : smI 39 21 = rI3 (.getfield 27) 24 4 5 := zT_a (k := 0) (i := 21) zT39_0 rfl
theorem m39_24 : smI 39 24 = rI0 ziI1 25 := zT_a (k := 0) (i := 24) zT39_0 rfl
theorem m39_25 : smI 39 25 = rI0 .iaload 26 := zT_a (k := 0) (i := 25) zT39_0 rfl
theorem m39_26 : smI 39 26 = rI1 (.bipush 8) 28 8 := zT_a (k := 0) (i := 26) zT39_0 rfl
theorem m39_28 : smI 39 28 = rI0 .irem 29 := zT_a (k := 0) (i := 28) zT39_0 rfl
theorem m39_29 : smI 39 29 = rI0 .iaload 30 := zT_a (k := 0) (i := 29) zT39_0 rfl
theorem m39_30 : smI 39 30 = rI0 .isub 31 := zT_a (k := 0) (i := 30) zT39_0 rfl
theorem m39_31 : smI 39 31 = rI4 (.invokestatic 95) 34 2 0 2 := zT_a (k := 0) (i := 31) zT39_0 rfl
theorem m39_34 : smI 39 34 = rI0 .iastore 35 := zT_a (k := 32) (i := 2) zT39_1 rfl
theorem m39_35 : smI 39 35 = rI0 ziA0 36 := zT_a (k := 32) (i := 3) zT39_1 rfl
theorem m39_36 : smI 39 36 = rI3 (.getfield 27) 39 4 5 := zT_a (k := 32) (i := 4) zT39_1 rfl
theorem m39_39 : smI 39 39 = rI0 ziI1 40 := zT_a (k := 32) (i := 7) zT39_1 rfl
theorem m39_40 : smI 39 40 = rI1 (.bipush 99) 42 99 := zT_a (k := 32) (i := 8) zT39_1 rfl
theorem m39_42 : smI 39 42 = rI0 ziA0 43 := zT_a (k := 32) (i := 10) zT39_1 rfl
theorem m39_43 : smI 39 43 = rI3 (.getfield 27) 46 4 5 := zT_a (k := 32) (i := 11) zT39_1 rfl
theorem m39_46 : smI 39 46 = rI0 ziI1 47 := zT_a (k := 32) (i := 14) zT39_1 rfl
theorem m39_47 : smI 39 47 = rI0 .iaload 48 := zT_a (k := 32) (i := 15) zT39_1 rfl
theorem m39_48 : smI 39 48 = rI1 ziC1 49 1 := zT_a (k := 32) (i := 16) zT39_1 rfl
theorem m39_49 : smI 39 49 = rI0 .iadd 50 := zT_a (k := 32) (i := 17) zT39_1 rfl
theorem m39_50 : smI 39 50 = rI4 (.invokestatic 100) 53 3 0 2 := zT_a (k := 32) (i := 18) zT39_1 rfl
theorem m39_53 : smI 39 53 = rI0 .iastore 54 := zT_a (k := 32) (i := 21) zT39_1 rfl
theorem m39_54 : smI 39 54 = rI2 (.goto 26) 57 80 := zT_a (k := 32) (i := 22) zT39_1 rfl
theorem m39_57 : smI 39 57 = rI0 ziA0 58 := zT_a (k := 32) (i := 25) zT39_1 rfl
theorem m39_58 : smI 39 58 = rI3 (.getfield 21) 61 4 3 := zT_a (k := 32) (i := 26) zT39_1 rfl
theorem m39_61 : smI 39 61 = rI0 ziI1 62 := zT_a (k := 32) (i := 29) zT39_1 rfl
theorem m39_62 : smI 39 62 = rI1 (.bipush 99) 64 99 := zT_a (k := 32) (i := 30) zT39_1 rfl
theorem m39_64 : smI 39 64 = rI0 ziA0 65 := zT_a (k := 64) (i := 0) zT39_2 rfl
theorem m39_65 : smI 39 65 = rI3 (.getfield 21) 68 4 3 := zT_a (k := 64) (i := 1) zT39_2 rfl
theorem m39_68 : smI 39 68 = rI0 ziI1 69 := zT_a (k := 64) (i := 4) zT39_2 rfl
theorem m39_69 : smI 39 69 = rI0 .iaload 70 := zT_a (k := 64) (i := 5) zT39_2 rfl
theorem m39_70 : smI 39 70 = rI0 ziA0 71 := zT_a (k := 64) (i := 6) zT39_2 rfl
theorem m39_71 : smI 39 71 = rI0 ziI1 72 := zT_a (k := 64) (i := 7) zT39_2 rfl
theorem m39_72 : smI 39 72 = rI4 (.invokevirtual 103) 75 20 35 1 := zT_a (k := 64) (i := 8) zT39_2 rfl
theorem m39_75 : smI 39 75 = rI0 .iadd 76 := zT_a (k := 64) (i := 11) zT39_2 rfl
theorem m39_76 : smI 39 76 = rI4 (.invokestatic 100) 79 3 0 2 := zT_a (k := 64) (i := 12) zT39_2 rfl
theorem m39_79 : smI 39 79 = rI0 .iastore 80 := zT_a (k := 64) (i := 15) zT39_2 rfl
theorem m39_80 : smI 39 80 = rI0 ziA0 81 := zT_a (k := 64) (i := 16) zT39_2 rfl
theorem m39_81 : smI 39 81 = rI3 (.getfield 30) 84 4 6 := zT_a (k := 64) (i := 17) zT39_2 rfl
theorem m39_84 : smI 39 84 = rI0 ziI1 85 := zT_a (k := 64) (i := 20) zT39_2 rfl
theorem m39_85 : smI 39 85 = rI0 ziA0 86 := zT_a (k := 64) (i := 21) zT39_2 rfl
theorem m39_86 : smI 39 86 = rI3 (.getfield 51) 89 4 12 := zT_a (k := 64) (i := 22) zT39_2 rfl
theorem m39_89 : smI 39 89 = rI2 (.ifnull 31) 92 120 := zT_a (k := 64) (i := 25) zT39_2 rfl
theorem m39_92 : smI 39 92 = rI0 ziA0 93 := zT_a (k := 64) (i := 28) zT39_2 rfl
theorem m39_93 : smI 39 93 = rI0 ziA0 94 := zT_a (k := 64) (i := 29) zT39_2 rfl
theorem m39_94 : smI 39 94 = rI3 (.getfield 21) 97 4 3 := zT_a (k := 64) (i := 30) zT39_2 rfl
theorem m39_97 : smI 39 97 = rI0 ziI1 98 := zT_l (k := 96) (i := 1) zT39_3 rfl
theorem m39_98 : smI 39 98 = rI0 .iaload 99 := zT_l (k := 96) (i := 2) zT39_3 rfl
theorem m39_99 : smI 39 99 = rI0 ziA0 100 := zT_l (k := 96) (i := 3) zT39_3 rfl
theorem m39_100 : smI 39 100 = rI0 ziI1 101 := zT_l (k := 96) (i := 4) zT39_3 rfl
theorem m39_101 : smI 39 101 = rI4 (.invokevirtual 73) 104 20 34 1 := zT_l (k := 96) (i := 5) zT39_3 rfl
theorem m39_104 : smI 39 104 = rI0 ziA0 105 := zT_l (k := 96) (i := 8) zT39_3 rfl
theorem m39_105 : smI 39 105 = rI3 (.getfield 27) 108 4 5 := zT_l (k := 96) (i := 9) zT39_3 rfl
theorem m39_108 : smI 39 108 = rI0 ziI1 109 := zT_l (k := 96) (i := 12) zT39_3 rfl
theorem m39_109 : smI 39 109 = rI0 .iaload 110 := zT_l (k := 96) (i := 13) zT39_3 rfl
theorem m39_110 : smI 39 110 = rI4 (.invokevirtual 106) 113 20 33 3 := zT_l (k := 96) (i := 14) zT39_3 rfl
theorem m39_113 : smI 39 113 = rI2 (.ifCond .eq 7) 116 120 := zT_l (k := 96) (i := 17) zT39_3 rfl
theorem m39_116 : smI 39 116 = rI1 ziC1 117 1 := zT_l (k := 96) (i := 20) zT39_3 rfl
theorem m39_117 : smI 39 117 = rI2 (.goto 4) 120 121 := zT_l (k := 96) (i := 21) zT39_3 rfl
theorem m39_120 : smI 39 120 = rI0 ziC0 121 := zT_l (k := 96) (i := 24) zT39_3 rfl
theorem m39_121 : smI 39 121 = rI0 .bastore 122 := zT_l (k := 96) (i := 25) zT39_3 rfl
theorem m39_122 : smI 39 122 = rI0 .return_ 123 := zT_l (k := 96) (i := 26) zT39_3 rfl
theorem mx_40 : mMx 40 = 3 := by decide +kernel
theorem cn_40 : mCn 40 = 4 := by decide +kernel
theorem rt_40 : mRt 40 = (some .int) := by decide +kernel
theorem tq_40 : allT.getD 40 [] = tb_40 := rfl
theorem zT40_0 : zT 40 0 (tb_40_0 ++ (tb_40_1)) := zT_0 tq_40
theorem zT40_1 : zT 40 32 (tb_40_1) := zT_s zT40_0 (n := 32) (by decide +kernel) rfl
theorem m40_0 : smI 40 0 = rI0 ziA0 1 := zT_a (k := 0) (i := 0) zT40_0 rfl
theorem m40_1 : smI 40 1 = rI4 (.invokevirtual 80) 4 20 36 0 := zT_a (k := 0) (i := 1) zT40_0 rfl
theorem m40_4 : smI 40 4 = rI0 ziA0 5 := zT_a (k := 0) (i := 4) zT40_0 rfl
theorem m40_5 : smI 40 5 = rI4 (.invokevirtual 83) 8 20 38 0 := zT_a (k := 0) (i := 5) zT40_0 rfl
theorem m40_8 : smI 40 8 = rI0 ziS1 9 := zT_a (k := 0) (i := 8) zT40_0 rfl
theorem m40_9 : smI 40 9 = rI0 ziC0 10 := zT_a (k := 0) (i := 9) zT40_0 rfl
theorem m40_10 : smI 40 10 = rI0 ziS2 11 := zT_a (k := 0) (i := 10) zT40_0 rfl
theorem m40_11 : smI 40 11 = rI0 ziI2 12 := zT_a (k := 0) (i := 11) zT40_0 rfl
theorem m40_12 : smI 40 12 = rI0 ziA0 13 := zT_a (k := 0) (i := 12) zT40_0 rfl
theorem m40_13 : smI 40 13 = rI3 (.getfield 44) 16 4 10 := zT_a (k := 0) (i := 13) zT40_0 rfl
theorem m40_16 : smI 40 16 = rI2 (.if_icmp .ge 28) 19 44 := zT_a (k := 0) (i := 16) zT40_0 rfl
theorem m40_19 : smI 40 19 = rI0 ziA0 20 := zT_a (k := 0) (i := 19) zT40_0 rfl
theorem m40_20 : smI 40 20 = rI3 (.getfield 30) 23 4 6 := zT_a (k := 0) (i := 20) zT40_0 rfl
theorem m40_23 : smI 40 23 = rI0 ziI2 24 := zT_a (k := 0) (i := 23) zT40_0 rfl
theorem m40_24 : smI 40 24 = rI0 .baload 25 := zT_a (k := 0) (i := 24) zT40_0 rfl
theorem m40_25 : smI 40 25 = rI2 (.ifCond .ne 13) 28 38 := zT_a (k := 0) (i := 25) zT40_0 rfl
theorem m40_28 : smI 40 28 = rI0 ziA0 29 := zT_a (k := 0) (i := 28) zT40_0 rfl
theorem m40_29 : smI 40 29 = rI0 ziI2 30 := zT_a (k := 0) (i := 29) zT40_0 rfl
theorem m40_30 : smI 40 30 = rI0 ziI1 31 := zT_a (k := 0) (i := 30) zT40_0 rfl
theorem m40_31 : smI 40 31 = rI0 ziI2 32 := zT_a (k := 0) (i := 31) zT40_0 rfl
theorem m40_32 : smI 40 32 = rI4 (.invokestatic 87) 35 1 52 2 := zT_l (k := 32) (i := 0) zT40_1 rfl
theorem m40_35 : smI 40 35 = rI4 (.invokevirtual 91) 38 20 39 2 := zT_l (k := 32) (i := 3) zT40_1 rfl
theorem m40_38 : smI 40 38 = rI1 (.iinc 2 1) 41 1 := zT_l (k := 32) (i := 6) zT40_1 rfl
theorem m40_41 : smI 40 41 = rI2 (.goto (-30)) 44 11 := zT_l (k := 32) (i := 9) zT40_1 rfl
theorem m40_44 : smI 40 44 = rI0 ziA0 45 := zT_l (k := 32) (i := 12) zT40_1 rfl
theorem m40_45 : smI 40 45 = rI0 .dup 46 := zT_l (k := 32) (i := 13) zT40_1 rfl
theorem m40_46 : smI 40 46 = rI3 (.getfield 41) 49 4 9 := zT_l (k := 32) (i := 14) zT40_1 rfl
theorem m40_49 : smI 40 49 = rI1 ziC1 50 1 := zT_l (k := 32) (i := 17) zT40_1 rfl
theorem m40_50 : smI 40 50 = rI0 .iadd 51 := zT_l (k := 32) (i := 18) zT40_1 rfl
theorem m40_51 : smI 40 51 = rI3 (.putfield 41) 54 4 9 := zT_l (k := 32) (i := 19) zT40_1 rfl
theorem m40_54 : smI 40 54 = rI0 ziI1 55 := zT_l (k := 32) (i := 22) zT40_1 rfl
theorem m40_55 : smI 40 55 = rI0 .ireturn 56 := zT_l (k := 32) (i := 23) zT40_1 rfl
theorem mx_41 : mMx 41 = 3 := by decide +kernel
theorem cn_41 : mCn 41 = 4 := by decide +kernel
theorem rt_41 : mRt 41 = none := by decide +kernel
theorem tq_41 : allT.getD 41 [] = tb_41 := rfl
theorem m41_0 : smI 41 0 = rI0 ziC0 1 := sm_t tq_41 rfl
theorem m41_1 : smI 41 1 = rI0 ziS2 2 := sm_t tq_41 rfl
theorem m41_2 : smI 41 2 = rI0 ziI2 3 := sm_t tq_41 rfl
theorem m41_3 : smI 41 3 = rI0 ziI1 4 := sm_t tq_41 rfl
theorem m41_4 : smI 41 4 = rI2 (.if_icmp .ge 14) 7 18 := sm_t tq_41 rfl
theorem m41_7 : smI 41 7 = rI0 ziA0 8 := sm_t tq_41 rfl
theorem m41_8 : smI 41 8 = rI4 (.invokevirtual 109) 11 20 40 0 := sm_t tq_41 rfl
theorem m41_11 : smI 41 11 = rI0 .pop 12 := sm_t tq_41 rfl
theorem m41_12 : smI 41 12 = rI1 (.iinc 2 1) 15 1 := sm_t tq_41 rfl
theorem m41_15 : smI 41 15 = rI2 (.goto (-13)) 18 2 := sm_t tq_41 rfl
theorem m41_18 : smI 41 18 = rI0 .return_ 19 := sm_t tq_41 rfl
theorem mx_42 : mMx 42 = 5 := by decide +kernel
theorem cn_42 : mCn 42 = 4 := by decide +kernel
theorem rt_42 : mRt 42 = (some .int) := by decide +kernel
theorem tq_42 : allT.getD 42 [] = tb_42 := rfl
theorem zT42_0 : zT 42 0 (tb_42_0 ++ (tb_42_1)) := zT_0 tq_42
theorem zT42_1 : zT 42 32 (tb_42_1) := zT_s zT42_0 (n := 32) (by decide +kernel) rfl
theorem m42_0 : smI 42 0 = rI0 ziA0 1 := zT_a (k := 0) (i := 0) zT42_0 rfl
theorem m42_1 : smI 42 1 = rI3 (.getfield 27) 4 4 5 := zT_a (k := 0) (i := 1) zT42_0 rfl
theorem m42_4 : smI 42 4 = rI0 ziI1 5 := zT_a (k := 0) (i := 4) zT42_0 rfl
theorem m42_5 : smI 42 5 = rI0 .iaload 6 := zT_a (k := 0) (i := 5) zT42_0 rfl
theorem m42_6 : smI 42 6 = rI0 ziS3 7 := zT_a (k := 0) (i := 6) zT42_0 rfl
theorem m42_7 : smI 42 7 = rI1 ziC1 8 1 := zT_a (k := 0) (i := 7) zT42_0 rfl
theorem m42_8 : smI 42 8 = rI0 (.istore 4) 10 := zT_a (k := 0) (i := 8) zT42_0 rfl
theorem m42_10 : smI 42 10 = rI0 (.iload 4) 12 := zT_a (k := 0) (i := 10) zT42_0 rfl
theorem m42_12 : smI 42 12 = rI0 ziI2 13 := zT_a (k := 0) (i := 12) zT42_0 rfl
theorem m42_13 : smI 42 13 = rI2 (.if_icmp .gt 27) 16 40 := zT_a (k := 0) (i := 13) zT42_0 rfl
theorem m42_16 : smI 42 16 = rI0 ziA0 17 := zT_a (k := 0) (i := 16) zT42_0 rfl
theorem m42_17 : smI 42 17 = rI4 (.invokevirtual 109) 20 20 40 0 := zT_a (k := 0) (i := 17) zT42_0 rfl
theorem m42_20 : smI 42 20 = rI0 .pop 21 := zT_a (k := 0) (i := 20) zT42_0 rfl
theorem m42_21 : smI 42 21 = rI0 ziA0 22 := zT_a (k := 0) (i := 21) zT42_0 rfl
theorem m42_22 : smI 42 22 = rI3 (.getfield 27) 25 4 5 := zT_a (k := 0) (i := 22) zT42_0 rfl
theorem m42_25 : smI 42 25 = rI0 ziI1 26 := zT_a (k := 0) (i := 25) zT42_0 rfl
theorem m42_26 : smI 42 26 = rI0 .iaload 27 := zT_a (k := 0) (i := 26) zT42_0 rfl
theorem m42_27 : smI 42 27 = rI0 ziI3 28 := zT_a (k := 0) (i := 27) zT42_0 rfl
theorem m42_28 : smI 42 28 = rI2 (.if_icmp .le 6) 31 34 := zT_a (k := 0) (i := 28) zT42_0 rfl
theorem m42_31 : smI 42 31 = rI0 (.iload 4) 33 := zT_a (k := 0) (i := 31) zT42_0 rfl
theorem m42_33 : smI 42 33 = rI0 .ireturn 34 := zT_l (k := 32) (i := 1) zT42_1 rfl
theorem m42_34 : smI 42 34 = rI1 (.iinc 4 1) 37 1 := zT_l (k := 32) (i := 2) zT42_1 rfl
theorem m42_37 : smI 42 37 = rI2 (.goto (-27)) 40 10 := zT_l (k := 32) (i := 5) zT42_1 rfl
theorem m42_40 : smI 42 40 = rI0 ziC0 41 := zT_l (k := 32) (i := 8) zT42_1 rfl
theorem m42_41 : smI 42 41 = rI0 .ireturn 42 := zT_l (k := 32) (i := 9) zT42_1 rfl
theorem mx_43 : mMx 43 = 6 := by decide +kernel
theorem cn_43 : mCn 43 = 4 := by decide +kernel
theorem rt_43 : mRt 43 = (some .boolean) := by decide +kernel
theorem tq_43 : allT.getD 43 [] = tb_43 := rfl
theorem zT43_0 : zT 43 0 (tb_43_0 ++ (tb_43_1)) := zT_0 tq_43
theorem zT43_1 : zT 43 32 (tb_43_1) := zT_s zT43_0 (n := 32) (by decide +kernel) rfl
theorem m43_0 : smI 43 0 = rI0 ziA0 1 := zT_a (k := 0) (i := 0) zT43_0 rfl
theorem m43_1 : smI 43 1 = rI3 (.getfield 24) 4 4 4 := zT_a (k := 0) (i := 1) zT43_0 rfl
theorem m43_4 : smI 43 4 = rI0 ziI1 5 := zT_a (k := 0) (i := 4) zT43_0 rfl
theorem m43_5 : smI 43 5 = rI0 ziI3 6 := zT_a (k := 0) (i := 5) zT43_0 rfl
theorem m43_6 : smI 43 6 = rI0 .iastore 7 := zT_a (k := 0) (i := 6) zT43_0 rfl
theorem m43_7 : smI 43 7 = rI0 ziA0 8 := zT_a (k := 0) (i := 7) zT43_0 rfl
theorem m43_8 : smI 43 8 = rI3 (.getfield 27) 11 4 5 := zT_a (k := 0) (i := 8) zT43_0 rfl
theorem m43_11 : smI 43 11 = rI0 ziI1 12 := zT_a (k := 0) (i := 11) zT43_0 rfl
theorem m43_12 : smI 43 12 = rI0 .iaload 13 := zT_a (k := 0) (i := 12) zT43_0 rfl
theorem m43_13 : smI 43 13 = rI0 (.istore 4) 15 := zT_a (k := 0) (i := 13) zT43_0 rfl
theorem m43_15 : smI 43 15 = rI0 ziC0 16 := zT_a (k := 0) (i := 15) zT43_0 rfl
theorem m43_16 : smI 43 16 = rI0 (.istore 5) 18 := zT_a (k := 0) (i := 16) zT43_0 rfl
theorem m43_18 : smI 43 18 = rI0 (.iload 5) 20 := zT_a (k := 0) (i := 18) zT43_0 rfl
theorem m43_20 : smI 43 20 = rI0 ziI2 21 := zT_a (k := 0) (i := 20) zT43_0 rfl
theorem m43_21 : smI 43 21 = rI2 (.if_icmp .ge 25) 24 46 := zT_a (k := 0) (i := 21) zT43_0 rfl
theorem m43_24 : smI 43 24 = rI0 ziA0 25 := zT_a (k := 0) (i := 24) zT43_0 rfl
theorem m43_25 : smI 43 25 = rI3 (.getfield 27) 28 4 5 := zT_a (k := 0) (i := 25) zT43_0 rfl
theorem m43_28 : smI 43 28 = rI0 ziI1 29 := zT_a (k := 0) (i := 28) zT43_0 rfl
theorem m43_29 : smI 43 29 = rI0 .iaload 30 := zT_a (k := 0) (i := 29) zT43_0 rfl
theorem m43_30 : smI 43 30 = rI0 (.iload 4) 32 := zT_a (k := 0) (i := 30) zT43_0 rfl
theorem m43_32 : smI 43 32 = rI2 (.if_icmp .gt 14) 35 46 := zT_l (k := 32) (i := 0) zT43_1 rfl
theorem m43_35 : smI 43 35 = rI0 ziA0 36 := zT_l (k := 32) (i := 3) zT43_1 rfl
theorem m43_36 : smI 43 36 = rI4 (.invokevirtual 109) 39 20 40 0 := zT_l (k := 32) (i := 4) zT43_1 rfl
theorem m43_39 : smI 43 39 = rI0 .pop 40 := zT_l (k := 32) (i := 7) zT43_1 rfl
theorem m43_40 : smI 43 40 = rI1 (.iinc 5 1) 43 1 := zT_l (k := 32) (i := 8) zT43_1 rfl
theorem m43_43 : smI 43 43 = rI2 (.goto (-25)) 46 18 := zT_l (k := 32) (i := 11) zT43_1 rfl
theorem m43_46 : smI 43 46 = rI0 ziA0 47 := zT_l (k := 32) (i := 14) zT43_1 rfl
theorem m43_47 : smI 43 47 = rI3 (.getfield 27) 50 4 5 := zT_l (k := 32) (i := 15) zT43_1 rfl
theorem m43_50 : smI 43 50 = rI0 ziI1 51 := zT_l (k := 32) (i := 18) zT43_1 rfl
theorem m43_51 : smI 43 51 = rI0 .iaload 52 := zT_l (k := 32) (i := 19) zT43_1 rfl
theorem m43_52 : smI 43 52 = rI0 (.iload 4) 54 := zT_l (k := 32) (i := 20) zT43_1 rfl
theorem m43_54 : smI 43 54 = rI2 (.if_icmp .le 7) 57 61 := zT_l (k := 32) (i := 22) zT43_1 rfl
theorem m43_57 : smI 43 57 = rI1 ziC1 58 1 := zT_l (k := 32) (i := 25) zT43_1 rfl
theorem m43_58 : smI 43 58 = rI2 (.goto 4) 61 62 := zT_l (k := 32) (i := 26) zT43_1 rfl
theorem m43_61 : smI 43 61 = rI0 ziC0 62 := zT_l (k := 32) (i := 29) zT43_1 rfl
theorem m43_62 : smI 43 62 = rI0 .ireturn 63 := zT_l (k := 32) (i := 30) zT43_1 rfl
theorem mx_44 : mMx 44 = 4 := by decide +kernel
theorem cn_44 : mCn 44 = 4 := by decide +kernel
theorem rt_44 : mRt 44 = none := by decide +kernel
theorem tq_44 : allT.getD 44 [] = tb_44 := rfl
theorem m44_0 : smI 44 0 = rI0 ziC0 1 := sm_t tq_44 rfl
theorem m44_1 : smI 44 1 = rI0 ziS3 2 := sm_t tq_44 rfl
theorem m44_2 : smI 44 2 = rI0 ziI3 3 := sm_t tq_44 rfl
theorem m44_3 : smI 44 3 = rI0 ziA0 4 := sm_t tq_44 rfl
theorem m44_4 : smI 44 4 = rI3 (.getfield 44) 7 4 10 := sm_t tq_44 rfl
theorem m44_7 : smI 44 7 = rI2 (.if_icmp .ge 24) 10 31 := sm_t tq_44 rfl
theorem m44_10 : smI 44 10 = rI0 ziI1 11 := sm_t tq_44 rfl
theorem m44_11 : smI 44 11 = rI0 ziI3 12 := sm_t tq_44 rfl
theorem m44_12 : smI 44 12 = rI4 (.invokestatic 87) 15 1 52 2 := sm_t tq_44 rfl
theorem m44_15 : smI 44 15 = rI2 (.ifCond .eq 10) 18 25 := sm_t tq_44 rfl
theorem m44_18 : smI 44 18 = rI0 ziA0 19 := sm_t tq_44 rfl
theorem m44_19 : smI 44 19 = rI3 (.getfield 24) 22 4 4 := sm_t tq_44 rfl
theorem m44_22 : smI 44 22 = rI0 ziI3 23 := sm_t tq_44 rfl
theorem m44_23 : smI 44 23 = rI0 ziI2 24 := sm_t tq_44 rfl
theorem m44_24 : smI 44 24 = rI0 .iastore 25 := sm_t tq_44 rfl
theorem m44_25 : smI 44 25 = rI1 (.iinc 3 1) 28 1 := sm_t tq_44 rfl
theorem m44_28 : smI 44 28 = rI2 (.goto (-26)) 31 2 := sm_t tq_44 rfl
theorem m44_31 : smI 44 31 = rI0 .return_ 32 := sm_t tq_44 rfl
theorem mx_45 : mMx 45 = 3 := by decide +kernel
theorem cn_45 : mCn 45 = 4 := by decide +kernel
theorem rt_45 : mRt 45 = (some .int) := by decide +kernel
theorem tq_45 : allT.getD 45 [] = tb_45 := rfl
theorem m45_0 : smI 45 0 = rI0 ziC0 1 := sm_t tq_45 rfl
theorem m45_1 : smI 45 1 = rI0 ziS1 2 := sm_t tq_45 rfl
theorem m45_2 : smI 45 2 = rI0 ziC0 3 := sm_t tq_45 rfl
theorem m45_3 : smI 45 3 = rI0 ziS2 4 := sm_t tq_45 rfl
theorem m45_4 : smI 45 4 = rI0 ziI2 5 := sm_t tq_45 rfl
theorem m45_5 : smI 45 5 = rI0 ziA0 6 := sm_t tq_45 rfl
theorem m45_6 : smI 45 6 = rI3 (.getfield 44) 9 4 10 := sm_t tq_45 rfl
theorem m45_9 : smI 45 9 = rI2 (.if_icmp .ge 18) 12 27 := sm_t tq_45 rfl
theorem m45_12 : smI 45 12 = rI0 ziI1 13 := sm_t tq_45 rfl
theorem m45_13 : smI 45 13 = rI0 ziA0 14 := sm_t tq_45 rfl
theorem m45_14 : smI 45 14 = rI3 (.getfield 21) 17 4 3 := sm_t tq_45 rfl
theorem m45_17 : smI 45 17 = rI0 ziI2 18 := sm_t tq_45 rfl
theorem m45_18 : smI 45 18 = rI0 .iaload 19 := sm_t tq_45 rfl
theorem m45_19 : smI 45 19 = rI0 .iadd 20 := sm_t tq_45 rfl
theorem m45_20 : smI 45 20 = rI0 ziS1 21 := sm_t tq_45 rfl
theorem m45_21 : smI 45 21 = rI1 (.iinc 2 1) 24 1 := sm_t tq_45 rfl
theorem m45_24 : smI 45 24 = rI2 (.goto (-20)) 27 4 := sm_t tq_45 rfl
theorem m45_27 : smI 45 27 = rI0 ziI1 28 := sm_t tq_45 rfl
theorem m45_28 : smI 45 28 = rI0 .ireturn 29 := sm_t tq_45 rfl
theorem mx_46 : mMx 46 = 3 := by decide +kernel
theorem cn_46 : mCn 46 = 4 := by decide +kernel
theorem rt_46 : mRt 46 = (some .int) := by decide +kernel
theorem tq_46 : allT.getD 46 [] = tb_46 := rfl
theorem m46_0 : smI 46 0 = rI0 ziC0 1 := sm_t tq_46 rfl
theorem m46_1 : smI 46 1 = rI0 ziS1 2 := sm_t tq_46 rfl
theorem m46_2 : smI 46 2 = rI0 ziC0 3 := sm_t tq_46 rfl
theorem m46_3 : smI 46 3 = rI0 ziS2 4 := sm_t tq_46 rfl
theorem m46_4 : smI 46 4 = rI0 ziI2 5 := sm_t tq_46 rfl
theorem m46_5 : smI 46 5 = rI0 ziA0 6 := sm_t tq_46 rfl
theorem m46_6 : smI 46 6 = rI3 (.getfield 44) 9 4 10 := sm_t tq_46 rfl
theorem m46_9 : smI 46 9 = rI2 (.if_icmp .ge 20) 12 29 := sm_t tq_46 rfl
theorem m46_12 : smI 46 12 = rI0 ziI1 13 := sm_t tq_46 rfl
theorem m46_13 : smI 46 13 = rI0 ziA0 14 := sm_t tq_46 rfl
theorem m46_14 : smI 46 14 = rI3 (.getfield 21) 17 4 3 := sm_t tq_46 rfl
theorem m46_17 : smI 46 17 = rI0 ziI2 18 := sm_t tq_46 rfl
theorem m46_18 : smI 46 18 = rI0 .iaload 19 := sm_t tq_46 rfl
theorem m46_19 : smI 46 19 = rI4 (.invokestatic 95) 22 2 0 2 := sm_t tq_46 rfl
theorem m46_22 : smI 46 22 = rI0 ziS1 23 := sm_t tq_46 rfl
theorem m46_23 : smI 46 23 = rI1 (.iinc 2 1) 26 1 := sm_t tq_46 rfl
theorem m46_26 : smI 46 26 = rI2 (.goto (-22)) 29 4 := sm_t tq_46 rfl
theorem m46_29 : smI 46 29 = rI0 ziI1 30 := sm_t tq_46 rfl
theorem m46_30 : smI 46 30 = rI0 .ireturn 31 := sm_t tq_46 rfl
theorem mx_47 : mMx 47 = 3 := by decide +kernel
theorem cn_47 : mCn 47 = 4 := by decide +kernel
theorem rt_47 : mRt 47 = (some .int) := by decide +kernel
theorem tq_47 : allT.getD 47 [] = tb_47 := rfl
theorem m47_0 : smI 47 0 = rI0 ziC0 1 := sm_t tq_47 rfl
theorem m47_1 : smI 47 1 = rI0 ziS1 2 := sm_t tq_47 rfl
theorem m47_2 : smI 47 2 = rI0 ziC0 3 := sm_t tq_47 rfl
theorem m47_3 : smI 47 3 = rI0 ziS2 4 := sm_t tq_47 rfl
theorem m47_4 : smI 47 4 = rI0 ziI2 5 := sm_t tq_47 rfl
theorem m47_5 : smI 47 5 = rI0 ziA0 6 := sm_t tq_47 rfl
theorem m47_6 : smI 47 6 = rI3 (.getfield 44) 9 4 10 := sm_t tq_47 rfl
theorem m47_9 : smI 47 9 = rI2 (.if_icmp .ge 18) 12 27 := sm_t tq_47 rfl
theorem m47_12 : smI 47 12 = rI0 ziI1 13 := sm_t tq_47 rfl
theorem m47_13 : smI 47 13 = rI0 ziA0 14 := sm_t tq_47 rfl
theorem m47_14 : smI 47 14 = rI3 (.getfield 27) 17 4 5 := sm_t tq_47 rfl
theorem m47_17 : smI 47 17 = rI0 ziI2 18 := sm_t tq_47 rfl
theorem m47_18 : smI 47 18 = rI0 .iaload 19 := sm_t tq_47 rfl
theorem m47_19 : smI 47 19 = rI0 .iadd 20 := sm_t tq_47 rfl
theorem m47_20 : smI 47 20 = rI0 ziS1 21 := sm_t tq_47 rfl
theorem m47_21 : smI 47 21 = rI1 (.iinc 2 1) 24 1 := sm_t tq_47 rfl
theorem m47_24 : smI 47 24 = rI2 (.goto (-20)) 27 4 := sm_t tq_47 rfl
theorem m47_27 : smI 47 27 = rI0 ziI1 28 := sm_t tq_47 rfl
theorem m47_28 : smI 47 28 = rI0 .ireturn 29 := sm_t tq_47 rfl
theorem mx_48 : mMx 48 = 3 := by decide +kernel
theorem cn_48 : mCn 48 = 4 := by decide +kernel
theorem rt_48 : mRt 48 = (some .int) := by decide +kernel
theorem tq_48 : allT.getD 48 [] = tb_48 := rfl
theorem m48_0 : smI 48 0 = rI0 ziC0 1 := sm_t tq_48 rfl
theorem m48_1 : smI 48 1 = rI0 ziS1 2 := sm_t tq_48 rfl
theorem m48_2 : smI 48 2 = rI0 ziC0 3 := sm_t tq_48 rfl
theorem m48_3 : smI 48 3 = rI0 ziS2 4 := sm_t tq_48 rfl
theorem m48_4 : smI 48 4 = rI0 ziI2 5 := sm_t tq_48 rfl
theorem m48_5 : smI 48 5 = rI0 ziA0 6 := sm_t tq_48 rfl
theorem m48_6 : smI 48 6 = rI3 (.getfield 44) 9 4 10 := sm_t tq_48 rfl
theorem m48_9 : smI 48 9 = rI2 (.if_icmp .ge 21) 12 30 := sm_t tq_48 rfl
theorem m48_12 : smI 48 12 = rI0 ziA0 13 := sm_t tq_48 rfl
theorem m48_13 : smI 48 13 = rI3 (.getfield 30) 16 4 6 := sm_t tq_48 rfl
theorem m48_16 : smI 48 16 = rI0 ziI2 17 := sm_t tq_48 rfl
theorem m48_17 : smI 48 17 = rI0 .baload 18 := sm_t tq_48 rfl
theorem m48_18 : smI 48 18 = rI2 (.ifCond .eq 6) 21 24 := sm_t tq_48 rfl
theorem m48_21 : smI 48 21 = rI1 (.iinc 1 1) 24 1 := sm_t tq_48 rfl
theorem m48_24 : smI 48 24 = rI1 (.iinc 2 1) 27 1 := sm_t tq_48 rfl
theorem m48_27 : smI 48 27 = rI2 (.goto (-23)) 30 4 := sm_t tq_48 rfl
theorem m48_30 : smI 48 30 = rI0 ziI1 31 := sm_t tq_48 rfl
theorem m48_31 : smI 48 31 = rI0 .ireturn 32 := sm_t tq_48 rfl
theorem mx_49 : mMx 49 = 1 := by decide +kernel
theorem cn_49 : mCn 49 = 5 := by decide +kernel
theorem rt_49 : mRt 49 = none := by decide +kernel
theorem tq_49 : allT.getD 49 [] = tb_49 := rfl
theorem zT49_0 : zT 49 0 (tb_49_0 ++ (tb_49_1)) := zT_0 tq_49
theorem zT49_1 : zT 49 32 (tb_49_1) := zT_s zT49_0 (n := 32) (by decide +kernel) rfl
theorem m49_0 : smI 49 0 = rI0 ziA0 1 := zT_a (k := 0) (i := 0) zT49_0 rfl
theorem m49_1 : smI 49 1 = rI4 (.invokespecial 3) 4 12 0 0 := zT_a (k := 0) (i := 1) zT49_0 rfl
theorem m49_4 : smI 49 4 = rI0 ziA0 5 := zT_a (k := 0) (i := 4) zT49_0 rfl
theorem m49_5 : smI 49 5 = rI0 ziC0 6 := zT_a (k := 0) (i := 5) zT49_0 rfl
theorem m49_6 : smI 49 6 = rI2 (.putfield 9) 9 5 := zT_a (k := 0) (i := 6) zT49_0 rfl
theorem m49_9 : smI 49 9 = rI0 ziA0 10 := zT_a (k := 0) (i := 9) zT49_0 rfl
theorem m49_10 : smI 49 10 = rI0 ziC0 11 := zT_a (k := 0) (i := 10) zT49_0 rfl
theorem m49_11 : smI 49 11 = rI3 (.putfield 15) 14 5 1 := zT_a (k := 0) (i := 11) zT49_0 rfl
theorem m49_14 : smI 49 14 = rI0 ziA0 15 := zT_a (k := 0) (i := 14) zT49_0 rfl
theorem m49_15 : smI 49 15 = rI0 ziC0 16 := zT_a (k := 0) (i := 15) zT49_0 rfl
theorem m49_16 : smI 49 16 = rI3 (.putfield 18) 19 5 2 := zT_a (k := 0) (i := 16) zT49_0 rfl
theorem m49_19 : smI 49 19 = rI0 ziA0 20 := zT_a (k := 0) (i := 19) zT49_0 rfl
theorem m49_20 : smI 49 20 = rI1 (.bipush 40) 22 40 := zT_a (k := 0) (i := 20) zT49_0 rfl
theorem m49_22 : smI 49 22 = rI0 (.newarray .int) 24 := zT_a (k := 0) (i := 22) zT49_0 rfl
theorem m49_24 : smI 49 24 = rI3 (.putfield 21) 27 5 3 := zT_a (k := 0) (i := 24) zT49_0 rfl
theorem m49_27 : smI 49 27 = rI0 ziA0 28 := zT_a (k := 0) (i := 27) zT49_0 rfl
theorem m49_28 : smI 49 28 = rI0 ziC0 29 := zT_a (k := 0) (i := 28) zT49_0 rfl
theorem m49_29 : smI 49 29 = rI3 (.putfield 25) 32 5 4 := zT_a (k := 0) (i := 29) zT49_0 rfl
theorem m49_32 : smI 49 32 = rI0 .return_ 33 := zT_l (k := 32) (i := 0) zT49_1 rfl
theorem mx_50 : mMx 50 = 2 := by decide +kernel
theorem cn_50 : mCn 50 = 5 := by decide +kernel
theorem rt_50 : mRt 50 = none := by decide +kernel
theorem tq_50 : allT.getD 50 [] = tb_50 := rfl
theorem m50_0 : smI 50 0 = rI0 ziA0 1 := sm_t tq_50 rfl
theorem m50_1 : smI 50 1 = rI3 (.getfield 25) 4 5 4 := sm_t tq_50 rfl
theorem m50_4 : smI 50 4 = rI1 (.bipush 40) 6 40 := sm_t tq_50 rfl
theorem m50_6 : smI 50 6 = rI2 (.if_icmp .ge 23) 9 29 := sm_t tq_50 rfl
theorem m50_9 : smI 50 9 = rI0 ziA0 10 := sm_t tq_50 rfl
theorem m50_10 : smI 50 10 = rI3 (.getfield 21) 13 5 3 := sm_t tq_50 rfl
theorem m50_13 : smI 50 13 = rI0 ziA0 14 := sm_t tq_50 rfl
theorem m50_14 : smI 50 14 = rI3 (.getfield 25) 17 5 4 := sm_t tq_50 rfl
theorem m50_17 : smI 50 17 = rI0 ziI1 18 := sm_t tq_50 rfl
theorem m50_18 : smI 50 18 = rI0 .iastore 19 := sm_t tq_50 rfl
theorem m50_19 : smI 50 19 = rI0 ziA0 20 := sm_t tq_50 rfl
theorem m50_20 : smI 50 20 = rI0 .dup 21 := sm_t tq_50 rfl
theorem m50_21 : smI 50 21 = rI3 (.getfield 25) 24 5 4 := sm_t tq_50 rfl
theorem m50_24 : smI 50 24 = rI1 ziC1 25 1 := sm_t tq_50 rfl
theorem m50_25 : smI 50 25 = rI0 .iadd 26 := sm_t tq_50 rfl
theorem m50_26 : smI 50 26 = rI3 (.putfield 25) 29 5 4 := sm_t tq_50 rfl
theorem m50_29 : smI 50 29 = rI0 .return_ 30 := sm_t tq_50 rfl
theorem mx_51 : mMx 51 = 2 := by decide +kernel
theorem cn_51 : mCn 51 = 6 := by decide +kernel
theorem rt_51 : mRt 51 = (some .int) := by decide +kernel
theorem tq_51 : allT.getD 51 [] = tb_51 := rfl
theorem m51_0 : smI 51 0 = rI0 ziI0 1 := sm_t tq_51 rfl
theorem m51_1 : smI 51 1 = rI2 (.ifCond .ge 7) 4 8 := sm_t tq_51 rfl
theorem m51_4 : smI 51 4 = rI0 ziC0 5 := sm_t tq_51 rfl
theorem m51_5 : smI 51 5 = rI2 (.goto 13) 8 18 := sm_t tq_51 rfl
theorem m51_8 : smI 51 8 = rI0 ziI0 9 := sm_t tq_51 rfl
theorem m51_9 : smI 51 9 = rI0 ziI1 10 := sm_t tq_51 rfl
theorem m51_10 : smI 51 10 = rI2 (.if_icmp .le 7) 13 17 := sm_t tq_51 rfl
theorem m51_13 : smI 51 13 = rI0 ziI1 14 := sm_t tq_51 rfl
theorem m51_14 : smI 51 14 = rI2 (.goto 4) 17 18 := sm_t tq_51 rfl
theorem m51_17 : smI 51 17 = rI0 ziI0 18 := sm_t tq_51 rfl
theorem m51_18 : smI 51 18 = rI0 .ireturn 19 := sm_t tq_51 rfl
theorem mx_52 : mMx 52 = 2 := by decide +kernel
theorem cn_52 : mCn 52 = 6 := by decide +kernel
theorem rt_52 : mRt 52 = (some .boolean) := by decide +kernel
theorem tq_52 : allT.getD 52 [] = tb_52 := rfl
theorem m52_0 : smI 52 0 = rI0 ziI0 1 := sm_t tq_52 rfl
theorem m52_1 : smI 52 1 = rI0 ziI1 2 := sm_t tq_52 rfl
theorem m52_2 : smI 52 2 = rI0 .ishr 3 := sm_t tq_52 rfl
theorem m52_3 : smI 52 3 = rI1 ziC1 4 1 := sm_t tq_52 rfl
theorem m52_4 : smI 52 4 = rI0 .iand 5 := sm_t tq_52 rfl
theorem m52_5 : smI 52 5 = rI2 (.ifCond .eq 7) 8 12 := sm_t tq_52 rfl
theorem m52_8 : smI 52 8 = rI1 ziC1 9 1 := sm_t tq_52 rfl
theorem m52_9 : smI 52 9 = rI2 (.goto 4) 12 13 := sm_t tq_52 rfl
theorem m52_12 : smI 52 12 = rI0 ziC0 13 := sm_t tq_52 rfl
theorem m52_13 : smI 52 13 = rI0 .ireturn 14 := sm_t tq_52 rfl
theorem mx_53 : mMx 53 = 1 := by decide +kernel
theorem cn_53 : mCn 53 = 6 := by decide +kernel
theorem rt_53 : mRt 53 = none := by decide +kernel
theorem tq_53 : allT.getD 53 [] = tb_53 := rfl
theorem zT53_0 : zT 53 0 (tb_53_0 ++ (tb_53_1 ++ (tb_53_2 ++ (tb_53_3 ++ (tb_53_4 ++ (tb_53_5)))))) := zT_0 tq_53
theorem zT53_1 : zT 53 32 (tb_53_1 ++ (tb_53_2 ++ (tb_53_3 ++ (tb_53_4 ++ (tb_53_5))))) := zT_s zT53_0 (n := 32) (by decide +kernel) rfl
theorem zT53_2 : zT 53 64 (tb_53_2 ++ (tb_53_3 ++ (tb_53_4 ++ (tb_53_5)))) := zT_s zT53_1 (n := 32) (by decide +kernel) rfl
theorem zT53_3 : zT 53 96 (tb_53_3 ++ (tb_53_4 ++ (tb_53_5))) := zT_s zT53_2 (n := 32) (by decide +kernel) rfl
theorem zT53_4 : zT 53 128 (tb_53_4 ++ (tb_53_5)) := zT_s zT53_3 (n := 32) (by decide +kernel) rfl
theorem zT53_5 : zT 53 160 (tb_53_5) := zT_s zT53_4 (n := 32) (by decide +kernel) rfl
theorem m53_0 : smI 53 0 = rI0 ziA0 1 := zT_a (k := 0) (i := 0) zT53_0 rfl
theorem m53_1 : smI 53 1 = rI4 (.invokespecial 1) 4 12 0 0 := zT_a (k := 0) (i := 1) zT53_0 rfl
theorem m53_4 : smI 53 4 = rI0 ziA0 5 := zT_a (k := 0) (i := 4) zT53_0 rfl
theorem m53_5 : smI 53 5 = rI3 (.new 7) 8 4 13 := zT_a (k := 0) (i := 5) zT53_0 rfl
theorem m53_8 : smI 53 8 = rI0 .dup 9 := zT_a (k := 0) (i := 8) zT53_0 rfl
theorem m53_9 : smI 53 9 = rI4 (.invokespecial 9) 12 11 30 0 := zT_a (k := 0) (i := 9) zT53_0 rfl
theorem m53_12 : smI 53 12 = rI2 (.putfield 10) 15 6 := zT_a (k := 0) (i := 12) zT53_0 rfl
theorem m53_15 : smI 53 15 = rI0 ziA0 16 := zT_a (k := 0) (i := 15) zT53_0 rfl
theorem m53_16 : smI 53 16 = rI3 (.new 7) 19 4 13 := zT_a (k := 0) (i := 16) zT53_0 rfl
theorem m53_19 : smI 53 19 = rI0 .dup 20 := zT_a (k := 0) (i := 19) zT53_0 rfl
theorem m53_20 : smI 53 20 = rI4 (.invokespecial 9) 23 11 30 0 := zT_a (k := 0) (i := 20) zT53_0 rfl
theorem m53_23 : smI 53 23 = rI3 (.putfield 16) 26 6 1 := zT_a (k := 0) (i := 23) zT53_0 rfl
theorem m53_26 : smI 53 26 = rI0 ziA0 27 := zT_a (k := 0) (i := 26) zT53_0 rfl
theorem m53_27 : smI 53 27 = rI3 (.new 7) 30 4 13 := zT_a (k := 0) (i := 27) zT53_0 rfl
theorem m53_30 : smI 53 30 = rI0 .dup 31 := zT_a (k := 0) (i := 30) zT53_0 rfl
theorem m53_31 : smI 53 31 = rI4 (.invokespecial 9) 34 11 30 0 := zT_a (k := 0) (i := 31) zT53_0 rfl
theorem m53_34 : smI 53 34 = rI3 (.putfield 19) 37 6 2 := zT_a (k := 32) (i := 2) zT53_1 rfl
theorem m53_37 : smI 53 37 = rI0 ziA0 38 := zT_a (k := 32) (i := 5) zT53_1 rfl
theorem m53_38 : smI 53 38 = rI3 (.new 7) 41 4 13 := zT_a (k := 32) (i := 6) zT53_1 rfl
theorem m53_41 : smI 53 41 = rI0 .dup 42 := zT_a (k := 32) (i := 9) zT53_1 rfl
theorem m53_42 : smI 53 42 = rI4 (.invokespecial 9) 45 11 30 0 := zT_a (k := 32) (i := 10) zT53_1 rfl
theorem m53_45 : smI 53 45 = rI3 (.putfield 22) 48 6 3 := zT_a (k := 32) (i := 13) zT53_1 rfl
theorem m53_48 : smI 53 48 = rI0 ziA0 49 := zT_a (k := 32) (i := 16) zT53_1 rfl
theorem m53_49 : smI 53 49 = rI3 (.new 25) 52 0 5 := zT_a (k := 32) (i := 17) zT53_1 rfl
theorem m53_52 : smI 53 52 = rI0 .dup 53 := zT_a (k := 32) (i := 20) zT53_1 rfl
theorem m53_53 : smI 53 53 = rI4 (.invokespecial 27) 56 11 10 0 := zT_a (k := 32) (i := 21) zT53_1 rfl
theorem m53_56 : smI 53 56 = rI3 (.putfield 28) 59 6 4 := zT_a (k := 32) (i := 24) zT53_1 rfl
theorem m53_59 : smI 53 59 = rI0 ziA0 60 := zT_a (k := 32) (i := 27) zT53_1 rfl
theorem m53_60 : smI 53 60 = rI3 (.new 25) 63 0 5 := zT_a (k := 32) (i := 28) zT53_1 rfl
theorem m53_63 : smI 53 63 = rI0 .dup 64 := zT_a (k := 32) (i := 31) zT53_1 rfl
theorem m53_64 : smI 53 64 = rI4 (.invokespecial 27) 67 11 10 0 := zT_a (k := 64) (i := 0) zT53_2 rfl
theorem m53_67 : smI 53 67 = rI3 (.putfield 32) 70 6 5 := zT_a (k := 64) (i := 3) zT53_2 rfl
theorem m53_70 : smI 53 70 = rI0 ziA0 71 := zT_a (k := 64) (i := 6) zT53_2 rfl
theorem m53_71 : smI 53 71 = rI0 ziC0 72 := zT_a (k := 64) (i := 7) zT53_2 rfl
theorem m53_72 : smI 53 72 = rI3 (.putfield 35) 75 6 6 := zT_a (k := 64) (i := 8) zT53_2 rfl
theorem m53_75 : smI 53 75 = rI0 ziA0 76 := zT_a (k := 64) (i := 11) zT53_2 rfl
theorem m53_76 : smI 53 76 = rI3 (.new 39) 79 2 7 := zT_a (k := 64) (i := 12) zT53_2 rfl
theorem m53_79 : smI 53 79 = rI0 .dup 80 := zT_a (k := 64) (i := 15) zT53_2 rfl
theorem m53_80 : smI 53 80 = rI0 ziA0 81 := zT_a (k := 64) (i := 16) zT53_2 rfl
theorem m53_81 : smI 53 81 = rI3 (.getfield 28) 84 6 4 := zT_a (k := 64) (i := 17) zT53_2 rfl
theorem m53_84 : smI 53 84 = rI3 (.getfield 41) 87 0 1 := zT_a (k := 64) (i := 20) zT53_2 rfl
theorem m53_87 : smI 53 87 = rI4 (.invokespecial 45) 90 10 15 1 := zT_a (k := 64) (i := 23) zT53_2 rfl
theorem m53_90 : smI 53 90 = rI3 (.putfield 48) 93 6 7 := zT_a (k := 64) (i := 26) zT53_2 rfl
theorem m53_93 : smI 53 93 = rI0 ziA0 94 := zT_a (k := 64) (i := 29) zT53_2 rfl
theorem m53_94 : smI 53 94 = rI3 (.new 52) 97 5 5 := zT_a (k := 64) (i := 30) zT53_2 rfl
theorem m53_97 : smI 53 97 = rI0 .dup 98 := zT_a (k := 96) (i := 1) zT53_3 rfl
theorem m53_98 : smI 53 98 = rI4 (.invokespecial 54) 101 11 49 0 := zT_a (k := 96) (i := 2) zT53_3 rfl
theorem m53_101 : smI 53 101 = rI3 (.putfield 55) 104 6 8 := zT_a (k := 96) (i := 5) zT53_3 rfl
theorem m53_104 : smI 53 104 = rI0 ziA0 105 := zT_a (k := 96) (i := 8) zT53_3 rfl
theorem m53_105 : smI 53 105 = rI1 ziC4 106 4 := zT_a (k := 96) (i := 9) zT53_3 rfl
theorem m53_106 : smI 53 106 = rI2 (.anewarray 59) 109 2 := zT_a (k := 96) (i := 10) zT53_3 rfl
theorem m53_109 : smI 53 109 = rI0 .dup 110 := zT_a (k := 96) (i := 13) zT53_3 rfl
theorem m53_110 : smI 53 110 = rI0 ziC0 111 := zT_a (k := 96) (i := 14) zT53_3 rfl
theorem m53_111 : smI 53 111 = rI3 (.new 59) 114 3 3 := zT_a (k := 96) (i := 15) zT53_3 rfl
theorem m53_114 : smI 53 114 = rI0 .dup 115 := zT_a (k := 96) (i := 18) zT53_3 rfl
theorem m53_115 : smI 53 115 = rI4 (.invokespecial 61) 118 11 26 0 := zT_a (k := 96) (i := 19) zT53_3 rfl
theorem m53_118 : smI 53 118 = rI0 .aastore 119 := zT_a (k := 96) (i := 22) zT53_3 rfl
theorem m53_119 : smI 53 119 = rI0 .dup 120 := zT_a (k := 96) (i := 23) zT53_3 rfl
theorem m53_120 : smI 53 120 = rI1 ziC1 121 1 := zT_a (k := 96) (i := 24) zT53_3 rfl
theorem m53_121 : smI 53 121 = rI3 (.new 59) 124 3 3 := zT_a (k := 96) (i := 25) zT53_3 rfl
theorem m53_124 : smI 53 124 = rI0 .dup 125 := zT_a (k := 96) (i := 28) zT53_3 rfl
theorem m53_125 : smI 53 125 = rI4 (.invokespecial 61) 128 11 26 0 := zT_a (k := 96) (i := 29) zT53_3 rfl
theorem m53_128 : smI 53 128 = rI0 .aastore 129 := zT_a (k := 128) (i := 0) zT53_4 rfl
theorem m53_129 : smI 53 129 = rI0 .dup 130 := zT_a (k := 128) (i := 1) zT53_4 rfl
theorem m53_130 : smI 53 130 = rI1 ziC2 131 2 := zT_a (k := 128) (i := 2) zT53_4 rfl
theorem m53_131 : smI 53 131 = rI3 (.new 59) 134 3 3 := zT_a (k := 128) (i := 3) zT53_4 rfl
theorem m53_134 : smI 53 134 = rI0 .dup 135 := zT_a (k := 128) (i := 6) zT53_4 rfl
theorem m53_135 : smI 53 135 = rI4 (.invokespecial 61) 138 11 26 0 := zT_a (k := 128) (i := 7) zT53_4 rfl
theorem m53_138 : smI 53 138 = rI0 .aastore 139 := zT_a (k := 128) (i := 10) zT53_4 rfl
theorem m53_139 : smI 53 139 = rI0 .dup 140 := zT_a (k := 128) (i := 11) zT53_4 rfl
theorem m53_140 : smI 53 140 = rI1 ziC3 141 3 := zT_a (k := 128) (i := 12) zT53_4 rfl
theorem m53_141 : smI 53 141 = rI3 (.new 59) 144 3 3 := zT_a (k := 128) (i := 13) zT53_4 rfl
theorem m53_144 : smI 53 144 = rI0 .dup 145 := zT_a (k := 128) (i := 16) zT53_4 rfl
theorem m53_145 : smI 53 145 = rI4 (.invokespecial 61) 148 11 26 0 := zT_a (k := 128) (i := 17) zT53_4 rfl
theorem m53_148 : smI 53 148 = rI0 .aastore 149 := zT_a (k := 128) (i := 20) zT53_4 rfl
theorem m53_149 : smI 53 149 = rI3 (.putfield 62) 152 6 9 := zT_a (k := 128) (i := 21) zT53_4 rfl
theorem m53_152 : smI 53 152 = rI0 ziA0 153 := zT_a (k := 128) (i := 24) zT53_4 rfl
theorem m53_153 : smI 53 153 = rI1 (.bipush 6) 155 6 := zT_a (k := 128) (i := 25) zT53_4 rfl
theorem m53_155 : smI 53 155 = rI0 (.newarray .int) 157 := zT_a (k := 128) (i := 27) zT53_4 rfl
theorem m53_157 : smI 53 157 = rI3 (.putfield 66) 160 6 10 := zT_a (k := 128) (i := 29) zT53_4 rfl
theorem m53_160 : smI 53 160 = rI0 .return_ 161 := zT_l (k := 160) (i := 0) zT53_5 rfl
theorem mx_54 : mMx 54 = 2 := by decide +kernel
theorem cn_54 : mCn 54 = 6 := by decide +kernel
theorem rt_54 : mRt 54 = (some .boolean) := by decide +kernel
theorem tq_54 : allT.getD 54 [] = tb_54 := rfl
theorem m54_0 : smI 54 0 = rI0 ziI0 1 := sm_t tq_54 rfl
theorem m54_1 : smI 54 1 = rI2 (.ifCond .lt 12) 4 13 := sm_t tq_54 rfl
theorem m54_4 : smI 54 4 = rI0 ziI0 5 := sm_t tq_54 rfl
theorem m54_5 : smI 54 5 = rI0 ziI1 6 := sm_t tq_54 rfl
theorem m54_6 : smI 54 6 = rI2 (.if_icmp .gt 7) 9 13 := sm_t tq_54 rfl
theorem m54_9 : smI 54 9 = rI1 ziC1 10 1 := sm_t tq_54 rfl
theorem m54_10 : smI 54 10 = rI2 (.goto 4) 13 14 := sm_t tq_54 rfl
theorem m54_13 : smI 54 13 = rI0 ziC0 14 := sm_t tq_54 rfl
theorem m54_14 : smI 54 14 = rI0 .ireturn 15 := sm_t tq_54 rfl
theorem mx_55 : mMx 55 = 2 := by decide +kernel
theorem cn_55 : mCn 55 = 6 := by decide +kernel
theorem rt_55 : mRt 55 = (some .int) := by decide +kernel
theorem tq_55 : allT.getD 55 [] = tb_55 := rfl
theorem m55_0 : smI 55 0 = rI0 ziA0 1 := sm_t tq_55 rfl
theorem m55_1 : smI 55 1 = rI3 (.getfield 66) 4 6 10 := sm_t tq_55 rfl
theorem m55_4 : smI 55 4 = rI0 ziI1 5 := sm_t tq_55 rfl
theorem m55_5 : smI 55 5 = rI0 .dup2 6 := sm_t tq_55 rfl
theorem m55_6 : smI 55 6 = rI0 .iaload 7 := sm_t tq_55 rfl
theorem m55_7 : smI 55 7 = rI1 ziC1 8 1 := sm_t tq_55 rfl
theorem m55_8 : smI 55 8 = rI0 .iadd 9 := sm_t tq_55 rfl
theorem m55_9 : smI 55 9 = rI0 .iastore 10 := sm_t tq_55 rfl
theorem m55_10 : smI 55 10 = rI1 (.ldc_w 296) 13 (-1000000000) := sm_t tq_55 rfl
theorem m55_13 : smI 55 13 = rI0 ziI1 14 := sm_t tq_55 rfl
theorem m55_14 : smI 55 14 = rI0 .isub 15 := sm_t tq_55 rfl
theorem m55_15 : smI 55 15 = rI0 .ireturn 16 := sm_t tq_55 rfl
theorem mx_56 : mMx 56 = 4 := by decide +kernel
theorem cn_56 : mCn 56 = 6 := by decide +kernel
theorem rt_56 : mRt 56 = (some .int) := by decide +kernel
theorem tq_56 : allT.getD 56 [] = tb_56 := rfl
theorem zT56_0 : zT 56 0 (tb_56_0 ++ (tb_56_1)) := zT_0 tq_56
theorem zT56_1 : zT 56 32 (tb_56_1) := zT_s zT56_0 (n := 32) (by decide +kernel) rfl
theorem m56_0 : smI 56 0 = rI0 ziI1 1 := zT_a (k := 0) (i := 0) zT56_0 rfl
theorem m56_1 : smI 56 1 = rI1 (.bipush 7) 3 7 := zT_a (k := 0) (i := 1) zT56_0 rfl
theorem m56_3 : smI 56 3 = rI3 (.invokestatic 69) 6 54 2 := zT_a (k := 0) (i := 3) zT56_0 rfl
theorem m56_6 : smI 56 6 = rI2 (.ifCond .eq 12) 9 18 := zT_a (k := 0) (i := 6) zT56_0 rfl
theorem m56_9 : smI 56 9 = rI0 ziI2 10 := zT_a (k := 0) (i := 9) zT56_0 rfl
theorem m56_10 : smI 56 10 = rI1 (.bipush 30) 12 30 := zT_a (k := 0) (i := 10) zT56_0 rfl
theorem m56_12 : smI 56 12 = rI3 (.invokestatic 69) 15 54 2 := zT_a (k := 0) (i := 12) zT56_0 rfl
theorem m56_15 : smI 56 15 = rI2 (.ifCond .ne 9) 18 24 := zT_a (k := 0) (i := 15) zT56_0 rfl
theorem m56_18 : smI 56 18 = rI0 ziA0 19 := zT_a (k := 0) (i := 18) zT56_0 rfl
theorem m56_19 : smI 56 19 = rI1 ziC1 20 1 := zT_a (k := 0) (i := 19) zT56_0 rfl
theorem m56_20 : smI 56 20 = rI4 (.invokevirtual 73) 23 20 55 1 := zT_a (k := 0) (i := 20) zT56_0 rfl
theorem m56_23 : smI 56 23 = rI0 .ireturn 24 := zT_a (k := 0) (i := 23) zT56_0 rfl
theorem m56_24 : smI 56 24 = rI0 ziA0 25 := zT_a (k := 0) (i := 24) zT56_0 rfl
theorem m56_25 : smI 56 25 = rI2 (.getfield 10) 28 6 := zT_a (k := 0) (i := 25) zT56_0 rfl
theorem m56_28 : smI 56 28 = rI2 (.getfield 77) 31 4 := zT_a (k := 0) (i := 28) zT56_0 rfl
theorem m56_31 : smI 56 31 = rI0 ziI1 32 := zT_a (k := 0) (i := 31) zT56_0 rfl
theorem m56_32 : smI 56 32 = rI0 .iaload 33 := zT_l (k := 32) (i := 0) zT56_1 rfl
theorem m56_33 : smI 56 33 = rI0 ziS3 34 := zT_l (k := 32) (i := 1) zT56_1 rfl
theorem m56_34 : smI 56 34 = rI0 ziA0 35 := zT_l (k := 32) (i := 2) zT56_1 rfl
theorem m56_35 : smI 56 35 = rI2 (.getfield 10) 38 6 := zT_l (k := 32) (i := 3) zT56_1 rfl
theorem m56_38 : smI 56 38 = rI2 (.getfield 77) 41 4 := zT_l (k := 32) (i := 6) zT56_1 rfl
theorem m56_41 : smI 56 41 = rI0 ziI1 42 := zT_l (k := 32) (i := 9) zT56_1 rfl
theorem m56_42 : smI 56 42 = rI0 ziI2 43 := zT_l (k := 32) (i := 10) zT56_1 rfl
theorem m56_43 : smI 56 43 = rI0 .iastore 44 := zT_l (k := 32) (i := 11) zT56_1 rfl
theorem m56_44 : smI 56 44 = rI0 ziI3 45 := zT_l (k := 32) (i := 12) zT56_1 rfl
theorem m56_45 : smI 56 45 = rI0 .ireturn 46 := zT_l (k := 32) (i := 13) zT56_1 rfl
theorem mx_57 : mMx 57 = 2 := by decide +kernel
theorem cn_57 : mCn 57 = 6 := by decide +kernel
theorem rt_57 : mRt 57 = (some .int) := by decide +kernel
theorem tq_57 : allT.getD 57 [] = tb_57 := rfl
theorem m57_0 : smI 57 0 = rI0 ziI1 1 := sm_t tq_57 rfl
theorem m57_1 : smI 57 1 = rI1 (.bipush 7) 3 7 := sm_t tq_57 rfl
theorem m57_3 : smI 57 3 = rI3 (.invokestatic 69) 6 54 2 := sm_t tq_57 rfl
theorem m57_6 : smI 57 6 = rI2 (.ifCond .ne 9) 9 15 := sm_t tq_57 rfl
theorem m57_9 : smI 57 9 = rI0 ziA0 10 := sm_t tq_57 rfl
theorem m57_10 : smI 57 10 = rI1 ziC1 11 1 := sm_t tq_57 rfl
theorem m57_11 : smI 57 11 = rI4 (.invokevirtual 73) 14 20 55 1 := sm_t tq_57 rfl
theorem m57_14 : smI 57 14 = rI0 .ireturn 15 := sm_t tq_57 rfl
theorem m57_15 : smI 57 15 = rI0 ziA0 16 := sm_t tq_57 rfl
theorem m57_16 : smI 57 16 = rI2 (.getfield 10) 19 6 := sm_t tq_57 rfl
theorem m57_19 : smI 57 19 = rI2 (.getfield 77) 22 4 := sm_t tq_57 rfl
theorem m57_22 : smI 57 22 = rI0 ziI1 23 := sm_t tq_57 rfl
theorem m57_23 : smI 57 23 = rI0 .iaload 24 := sm_t tq_57 rfl
theorem m57_24 : smI 57 24 = rI0 .ireturn 25 := sm_t tq_57 rfl
theorem mx_58 : mMx 58 = 3 := by decide +kernel
theorem cn_58 : mCn 58 = 6 := by decide +kernel
theorem rt_58 : mRt 58 = (some .int) := by decide +kernel
theorem tq_58 : allT.getD 58 [] = tb_58 := rfl
theorem zT58_0 : zT 58 0 (tb_58_0 ++ (tb_58_1)) := zT_0 tq_58
theorem zT58_1 : zT 58 32 (tb_58_1) := zT_s zT58_0 (n := 32) (by decide +kernel) rfl
theorem m58_0 : smI 58 0 = rI0 ziI1 1 := zT_a (k := 0) (i := 0) zT58_0 rfl
theorem m58_1 : smI 58 1 = rI1 ziC1 2 1 := zT_a (k := 0) (i := 1) zT58_0 rfl
theorem m58_2 : smI 58 2 = rI2 (.if_icmp .lt 8) 5 10 := zT_a (k := 0) (i := 2) zT58_0 rfl
theorem m58_5 : smI 58 5 = rI0 ziI1 6 := zT_a (k := 0) (i := 5) zT58_0 rfl
theorem m58_6 : smI 58 6 = rI1 ziC4 7 4 := zT_a (k := 0) (i := 6) zT58_0 rfl
theorem m58_7 : smI 58 7 = rI2 (.if_icmp .le 9) 10 16 := zT_a (k := 0) (i := 7) zT58_0 rfl
theorem m58_10 : smI 58 10 = rI0 ziA0 11 := zT_a (k := 0) (i := 10) zT58_0 rfl
theorem m58_11 : smI 58 11 = rI1 ziC1 12 1 := zT_a (k := 0) (i := 11) zT58_0 rfl
theorem m58_12 : smI 58 12 = rI4 (.invokevirtual 73) 15 20 55 1 := zT_a (k := 0) (i := 12) zT58_0 rfl
theorem m58_15 : smI 58 15 = rI0 .ireturn 16 := zT_a (k := 0) (i := 15) zT58_0 rfl
theorem m58_16 : smI 58 16 = rI0 ziA0 17 := zT_a (k := 0) (i := 16) zT58_0 rfl
theorem m58_17 : smI 58 17 = rI2 (.getfield 10) 20 6 := zT_a (k := 0) (i := 17) zT58_0 rfl
theorem m58_20 : smI 58 20 = rI3 (.getfield 80) 23 4 8 := zT_a (k := 0) (i := 20) zT58_0 rfl
theorem m58_23 : smI 58 23 = rI0 ziS2 24 := zT_a (k := 0) (i := 23) zT58_0 rfl
theorem m58_24 : smI 58 24 = rI0 ziA0 25 := zT_a (k := 0) (i := 24) zT58_0 rfl
theorem m58_25 : smI 58 25 = rI2 (.getfield 10) 28 6 := zT_a (k := 0) (i := 25) zT58_0 rfl
theorem m58_28 : smI 58 28 = rI0 ziI1 29 := zT_a (k := 0) (i := 28) zT58_0 rfl
theorem m58_29 : smI 58 29 = rI3 (.putfield 80) 32 4 8 := zT_a (k := 0) (i := 29) zT58_0 rfl
theorem m58_32 : smI 58 32 = rI0 ziI2 33 := zT_l (k := 32) (i := 0) zT58_1 rfl
theorem m58_33 : smI 58 33 = rI0 .ireturn 34 := zT_l (k := 32) (i := 1) zT58_1 rfl
theorem mx_59 : mMx 59 = 5 := by decide +kernel
theorem cn_59 : mCn 59 = 6 := by decide +kernel
theorem rt_59 : mRt 59 = (some .int) := by decide +kernel
theorem tq_59 : allT.getD 59 [] = tb_59 := rfl
theorem zT59_0 : zT 59 0 (tb_59_0 ++ (tb_59_1 ++ (tb_59_2 ++ (tb_59_3 ++ (tb_59_4))))) := zT_0 tq_59
theorem zT59_1 : zT 59 32 (tb_59_1 ++ (tb_59_2 ++ (tb_59_3 ++ (tb_59_4)))) := zT_s zT59_0 (n := 32) (by decide +kernel) rfl
theorem zT59_2 : zT 59 64 (tb_59_2 ++ (tb_59_3 ++ (tb_59_4))) := zT_s zT59_1 (n := 32) (by decide +kernel) rfl
theorem zT59_3 : zT 59 96 (tb_59_3 ++ (tb_59_4)) := zT_s zT59_2 (n := 32) (by decide +kernel) rfl
theorem zT59_4 : zT 59 128 (tb_59_4) := zT_s zT59_3 (n := 32) (by decide +kernel) rfl
theorem m59_0 : smI 59 0 = rI0 ziI1 1 := zT_a (k := 0) (i := 0) zT59_0 rfl
theorem m59_1 : smI 59 1 = rI1 (.bipush 69) 3 69 := zT_a (k := 0) (i := 1) zT59_0 rfl
theorem m59_3 : smI 59 3 = rI3 (.invokestatic 69) 6 54 2 := zT_a (k := 0) (i := 3) zT59_0 rfl
theorem m59_6 : smI 59 6 = rI2 (.ifCond .eq 21) 9 27 := zT_a (k := 0) (i := 6) zT59_0 rfl
theorem m59_9 : smI 59 9 = rI0 ziI2 10 := zT_a (k := 0) (i := 9) zT59_0 rfl
theorem m59_10 : smI 59 10 = rI1 (.bipush 99) 12 99 := zT_a (k := 0) (i := 10) zT59_0 rfl
theorem m59_12 : smI 59 12 = rI3 (.invokestatic 69) 15 54 2 := zT_a (k := 0) (i := 12) zT59_0 rfl
theorem m59_15 : smI 59 15 = rI2 (.ifCond .eq 12) 18 27 := zT_a (k := 0) (i := 15) zT59_0 rfl
theorem m59_18 : smI 59 18 = rI0 ziI3 19 := zT_a (k := 0) (i := 18) zT59_0 rfl
theorem m59_19 : smI 59 19 = rI1 (.bipush 9) 21 9 := zT_a (k := 0) (i := 19) zT59_0 rfl
theorem m59_21 : smI 59 21 = rI3 (.invokestatic 69) 24 54 2 := zT_a (k := 0) (i := 21) zT59_0 rfl
theorem m59_24 : smI 59 24 = rI2 (.ifCond .ne 9) 27 33 := zT_a (k := 0) (i := 24) zT59_0 rfl
theorem m59_27 : smI 59 27 = rI0 ziA0 28 := zT_a (k := 0) (i := 27) zT59_0 rfl
theorem m59_28 : smI 59 28 = rI1 ziC1 29 1 := zT_a (k := 0) (i := 28) zT59_0 rfl
theorem m59_29 : smI 59 29 = rI4 (.invokevirtual 73) 32 20 55 1 := zT_a (k := 0) (i := 29) zT59_0 rfl
theorem m59_32 : smI 59 32 = rI0 .ireturn 33 := zT_a (k := 32) (i := 0) zT59_1 rfl
theorem m59_33 : smI 59 33 = rI0 ziA0 34 := zT_a (k := 32) (i := 1) zT59_1 rfl
theorem m59_34 : smI 59 34 = rI2 (.getfield 10) 37 6 := zT_a (k := 32) (i := 2) zT59_1 rfl
theorem m59_37 : smI 59 37 = rI3 (.getfield 83) 40 4 10 := zT_a (k := 32) (i := 5) zT59_1 rfl
theorem m59_40 : smI 59 40 = rI1 (.bipush 8) 42 8 := zT_a (k := 32) (i := 8) zT59_1 rfl
theorem m59_42 : smI 59 42 = rI2 (.if_icmp .lt 9) 45 51 := zT_a (k := 32) (i := 10) zT59_1 rfl
theorem m59_45 : smI 59 45 = rI0 ziA0 46 := zT_a (k := 32) (i := 13) zT59_1 rfl
theorem m59_46 : smI 59 46 = rI1 ziC4 47 4 := zT_a (k := 32) (i := 14) zT59_1 rfl
theorem m59_47 : smI 59 47 = rI4 (.invokevirtual 73) 50 20 55 1 := zT_a (k := 32) (i := 15) zT59_1 rfl
theorem m59_50 : smI 59 50 = rI0 .ireturn 51 := zT_a (k := 32) (i := 18) zT59_1 rfl
theorem m59_51 : smI 59 51 = rI0 ziA0 52 := zT_a (k := 32) (i := 19) zT59_1 rfl
theorem m59_52 : smI 59 52 = rI2 (.getfield 10) 55 6 := zT_a (k := 32) (i := 20) zT59_1 rfl
theorem m59_55 : smI 59 55 = rI3 (.getfield 83) 58 4 10 := zT_a (k := 32) (i := 23) zT59_1 rfl
theorem m59_58 : smI 59 58 = rI0 (.istore 4) 60 := zT_a (k := 32) (i := 26) zT59_1 rfl
theorem m59_60 : smI 59 60 = rI0 ziA0 61 := zT_a (k := 32) (i := 28) zT59_1 rfl
theorem m59_61 : smI 59 61 = rI2 (.getfield 10) 64 6 := zT_a (k := 32) (i := 29) zT59_1 rfl
theorem m59_64 : smI 59 64 = rI3 (.getfield 86) 67 4 1 := zT_a (k := 64) (i := 0) zT59_2 rfl
theorem m59_67 : smI 59 67 = rI0 (.iload 4) 69 := zT_a (k := 64) (i := 3) zT59_2 rfl
theorem m59_69 : smI 59 69 = rI0 ziI1 70 := zT_a (k := 64) (i := 5) zT59_2 rfl
theorem m59_70 : smI 59 70 = rI1 (.bipush 10) 72 10 := zT_a (k := 64) (i := 6) zT59_2 rfl
theorem m59_72 : smI 59 72 = rI0 .idiv 73 := zT_a (k := 64) (i := 8) zT59_2 rfl
theorem m59_73 : smI 59 73 = rI0 .iastore 74 := zT_a (k := 64) (i := 9) zT59_2 rfl
theorem m59_74 : smI 59 74 = rI0 ziA0 75 := zT_a (k := 64) (i := 10) zT59_2 rfl
theorem m59_75 : smI 59 75 = rI2 (.getfield 10) 78 6 := zT_a (k := 64) (i := 11) zT59_2 rfl
theorem m59_78 : smI 59 78 = rI3 (.getfield 89) 81 4 2 := zT_a (k := 64) (i := 14) zT59_2 rfl
theorem m59_81 : smI 59 81 = rI0 (.iload 4) 83 := zT_a (k := 64) (i := 17) zT59_2 rfl
theorem m59_83 : smI 59 83 = rI0 ziI1 84 := zT_a (k := 64) (i := 19) zT59_2 rfl
theorem m59_84 : smI 59 84 = rI1 (.bipush 10) 86 10 := zT_a (k := 64) (i := 20) zT59_2 rfl
theorem m59_86 : smI 59 86 = rI0 .irem 87 := zT_a (k := 64) (i := 22) zT59_2 rfl
theorem m59_87 : smI 59 87 = rI0 .iastore 88 := zT_a (k := 64) (i := 23) zT59_2 rfl
theorem m59_88 : smI 59 88 = rI0 ziA0 89 := zT_a (k := 64) (i := 24) zT59_2 rfl
theorem m59_89 : smI 59 89 = rI2 (.getfield 10) 92 6 := zT_a (k := 64) (i := 25) zT59_2 rfl
theorem m59_92 : smI 59 92 = rI3 (.getfield 92) 95 4 3 := zT_a (k := 64) (i := 28) zT59_2 rfl
theorem m59_95 : smI 59 95 = rI0 (.iload 4) 97 := zT_a (k := 64) (i := 31) zT59_2 rfl
theorem m59_97 : smI 59 97 = rI0 ziI2 98 := zT_a (k := 96) (i := 1) zT59_3 rfl
theorem m59_98 : smI 59 98 = rI0 .iastore 99 := zT_a (k := 96) (i := 2) zT59_3 rfl
theorem m59_99 : smI 59 99 = rI0 ziA0 100 := zT_a (k := 96) (i := 3) zT59_3 rfl
theorem m59_100 : smI 59 100 = rI2 (.getfield 10) 103 6 := zT_a (k := 96) (i := 4) zT59_3 rfl
theorem m59_103 : smI 59 103 = rI3 (.getfield 95) 106 4 4 := zT_a (k := 96) (i := 7) zT59_3 rfl
theorem m59_106 : smI 59 106 = rI0 (.iload 4) 108 := zT_a (k := 96) (i := 10) zT59_3 rfl
theorem m59_108 : smI 59 108 = rI0 ziI3 109 := zT_a (k := 96) (i := 12) zT59_3 rfl
theorem m59_109 : smI 59 109 = rI0 .iastore 110 := zT_a (k := 96) (i := 13) zT59_3 rfl
theorem m59_110 : smI 59 110 = rI0 ziA0 111 := zT_a (k := 96) (i := 14) zT59_3 rfl
theorem m59_111 : smI 59 111 = rI2 (.getfield 10) 114 6 := zT_a (k := 96) (i := 15) zT59_3 rfl
theorem m59_114 : smI 59 114 = rI3 (.getfield 98) 117 4 5 := zT_a (k := 96) (i := 18) zT59_3 rfl
theorem m59_117 : smI 59 117 = rI0 (.iload 4) 119 := zT_a (k := 96) (i := 21) zT59_3 rfl
theorem m59_119 : smI 59 119 = rI0 ziC0 120 := zT_a (k := 96) (i := 23) zT59_3 rfl
theorem m59_120 : smI 59 120 = rI0 .iastore 121 := zT_a (k := 96) (i := 24) zT59_3 rfl
theorem m59_121 : smI 59 121 = rI0 ziA0 122 := zT_a (k := 96) (i := 25) zT59_3 rfl
theorem m59_122 : smI 59 122 = rI2 (.getfield 10) 125 6 := zT_a (k := 96) (i := 26) zT59_3 rfl
theorem m59_125 : smI 59 125 = rI3 (.getfield 101) 128 4 6 := zT_a (k := 96) (i := 29) zT59_3 rfl
theorem m59_128 : smI 59 128 = rI0 (.iload 4) 130 := zT_l (k := 128) (i := 0) zT59_4 rfl
theorem m59_130 : smI 59 130 = rI0 ziC0 131 := zT_l (k := 128) (i := 2) zT59_4 rfl
theorem m59_131 : smI 59 131 = rI0 .bastore 132 := zT_l (k := 128) (i := 3) zT59_4 rfl
theorem m59_132 : smI 59 132 = rI0 ziA0 133 := zT_l (k := 128) (i := 4) zT59_4 rfl
theorem m59_133 : smI 59 133 = rI2 (.getfield 10) 136 6 := zT_l (k := 128) (i := 5) zT59_4 rfl
theorem m59_136 : smI 59 136 = rI0 (.iload 4) 138 := zT_l (k := 128) (i := 8) zT59_4 rfl
theorem m59_138 : smI 59 138 = rI1 ziC1 139 1 := zT_l (k := 128) (i := 10) zT59_4 rfl
theorem m59_139 : smI 59 139 = rI0 .iadd 140 := zT_l (k := 128) (i := 11) zT59_4 rfl
theorem m59_140 : smI 59 140 = rI3 (.putfield 83) 143 4 10 := zT_l (k := 128) (i := 12) zT59_4 rfl
theorem m59_143 : smI 59 143 = rI0 (.iload 4) 145 := zT_l (k := 128) (i := 15) zT59_4 rfl
theorem m59_145 : smI 59 145 = rI0 .ireturn 146 := zT_l (k := 128) (i := 17) zT59_4 rfl
theorem mx_60 : mMx 60 = 2 := by decide +kernel
theorem cn_60 : mCn 60 = 6 := by decide +kernel
theorem rt_60 : mRt 60 = (some .boolean) := by decide +kernel
theorem tq_60 : allT.getD 60 [] = tb_60 := rfl
theorem m60_0 : smI 60 0 = rI0 ziI1 1 := sm_t tq_60 rfl
theorem m60_1 : smI 60 1 = rI2 (.ifCond .lt 18) 4 19 := sm_t tq_60 rfl
theorem m60_4 : smI 60 4 = rI0 ziI1 5 := sm_t tq_60 rfl
theorem m60_5 : smI 60 5 = rI0 ziA0 6 := sm_t tq_60 rfl
theorem m60_6 : smI 60 6 = rI2 (.getfield 10) 9 6 := sm_t tq_60 rfl
theorem m60_9 : smI 60 9 = rI3 (.getfield 83) 12 4 10 := sm_t tq_60 rfl
theorem m60_12 : smI 60 12 = rI2 (.if_icmp .ge 7) 15 19 := sm_t tq_60 rfl
theorem m60_15 : smI 60 15 = rI1 ziC1 16 1 := sm_t tq_60 rfl
theorem m60_16 : smI 60 16 = rI2 (.goto 4) 19 20 := sm_t tq_60 rfl
theorem m60_19 : smI 60 19 = rI0 ziC0 20 := sm_t tq_60 rfl
theorem m60_20 : smI 60 20 = rI0 .ireturn 21 := sm_t tq_60 rfl
theorem mx_61 : mMx 61 = 3 := by decide +kernel
theorem cn_61 : mCn 61 = 6 := by decide +kernel
theorem rt_61 : mRt 61 = (some .int) := by decide +kernel
theorem tq_61 : allT.getD 61 [] = tb_61 := rfl
theorem zT61_0 : zT 61 0 (tb_61_0 ++ (tb_61_1 ++ (tb_61_2 ++ (tb_61_3 ++ (tb_61_4))))) := zT_0 tq_61
theorem zT61_1 : zT 61 32 (tb_61_1 ++ (tb_61_2 ++ (tb_61_3 ++ (tb_61_4)))) := zT_s zT61_0 (n := 32) (by decide +kernel) rfl
theorem zT61_2 : zT 61 64 (tb_61_2 ++ (tb_61_3 ++ (tb_61_4))) := zT_s zT61_1 (n := 32) (by decide +kernel) rfl
theorem zT61_3 : zT 61 96 (tb_61_3 ++ (tb_61_4)) := zT_s zT61_2 (n := 32) (by decide +kernel) rfl
theorem zT61_4 : zT 61 128 (tb_61_4) := zT_s zT61_3 (n := 32) (by decide +kernel) rfl
theorem m61_0 : smI 61 0 = rI0 ziA0 1 := zT_a (k := 0) (i := 0) zT61_0 rfl
theorem m61_1 : smI 61 1 = rI0 ziI1 2 := zT_a (k := 0) (i := 1) zT61_0 rfl
theorem m61_2 : smI 61 2 = rI4 (.invokevirtual 105) 5 20 60 1 := zT_a (k := 0) (i := 2) zT61_0 rfl
theorem m61_5 : smI 61 5 = rI2 (.ifCond .ne 9) 8 14 := zT_a (k := 0) (i := 5) zT61_0 rfl
theorem m61_8 : smI 61 8 = rI0 ziA0 9 := zT_a (k := 0) (i := 8) zT61_0 rfl
theorem m61_9 : smI 61 9 = rI1 ziC1 10 1 := zT_a (k := 0) (i := 9) zT61_0 rfl
theorem m61_10 : smI 61 10 = rI4 (.invokevirtual 73) 13 20 55 1 := zT_a (k := 0) (i := 10) zT61_0 rfl
theorem m61_13 : smI 61 13 = rI0 .ireturn 14 := zT_a (k := 0) (i := 13) zT61_0 rfl
theorem m61_14 : smI 61 14 = rI0 ziI2 15 := zT_a (k := 0) (i := 14) zT61_0 rfl
theorem m61_15 : smI 61 15 = rI0 (.tableswitch 118 0 6 #[41, 51, 61, 71, 81, 91, 109]) 56 := zT_a (k := 0) (i := 15) zT61_0 rfl
theorem m61_56 : smI 61 56 = rI0 ziA0 57 := zT_a (k := 32) (i := 24) zT61_1 rfl
theorem m61_57 : smI 61 57 = rI2 (.getfield 10) 60 6 := zT_a (k := 32) (i := 25) zT61_1 rfl
theorem m61_60 : smI 61 60 = rI3 (.getfield 86) 63 4 1 := zT_a (k := 32) (i := 28) zT61_1 rfl
theorem m61_63 : smI 61 63 = rI0 ziI1 64 := zT_a (k := 32) (i := 31) zT61_1 rfl
theorem m61_64 : smI 61 64 = rI0 .iaload 65 := zT_a (k := 64) (i := 0) zT61_2 rfl
theorem m61_65 : smI 61 65 = rI0 .ireturn 66 := zT_a (k := 64) (i := 1) zT61_2 rfl
theorem m61_66 : smI 61 66 = rI0 ziA0 67 := zT_a (k := 64) (i := 2) zT61_2 rfl
theorem m61_67 : smI 61 67 = rI2 (.getfield 10) 70 6 := zT_a (k := 64) (i := 3) zT61_2 rfl
theorem m61_70 : smI 61 70 = rI3 (.getfield 89) 73 4 2 := zT_a (k := 64) (i := 6) zT61_2 rfl
theorem m61_73 : smI 61 73 = rI0 ziI1 74 := zT_a (k := 64) (i := 9) zT61_2 rfl
theorem m61_74 : smI 61 74 = rI0 .iaload 75 := zT_a (k := 64) (i := 10) zT61_2 rfl
theorem m61_75 : smI 61 75 = rI0 .ireturn 76 := zT_a (k := 64) (i := 11) zT61_2 rfl
theorem m61_76 : smI 61 76 = rI0 ziA0 77 := zT_a (k := 64) (i := 12) zT61_2 rfl
theorem m61_77 : smI 61 77 = rI2 (.getfield 10) 80 6 := zT_a (k := 64) (i := 13) zT61_2 rfl
theorem m61_80 : smI 61 80 = rI3 (.getfield 92) 83 4 3 := zT_a (k := 64) (i := 16) zT61_2 rfl
theorem m61_83 : smI 61 83 = rI0 ziI1 84 := zT_a (k := 64) (i := 19) zT61_2 rfl
theorem m61_84 : smI 61 84 = rI0 .iaload 85 := zT_a (k := 64) (i := 20) zT61_2 rfl
theorem m61_85 : smI 61 85 = rI0 .ireturn 86 := zT_a (k := 64) (i := 21) zT61_2 rfl
theorem m61_86 : smI 61 86 = rI0 ziA0 87 := zT_a (k := 64) (i := 22) zT61_2 rfl
theorem m61_87 : smI 61 87 = rI2 (.getfield 10) 90 6 := zT_a (k := 64) (i := 23) zT61_2 rfl
theorem m61_90 : smI 61 90 = rI3 (.getfield 95) 93 4 4 := zT_a (k := 64) (i := 26) zT61_2 rfl
theorem m61_93 : smI 61 93 = rI0 ziI1 94 := zT_a (k := 64) (i := 29) zT61_2 rfl
theorem m61_94 : smI 61 94 = rI0 .iaload 95 := zT_a (k := 64) (i := 30) zT61_2 rfl
theorem m61_95 : smI 61 95 = rI0 .ireturn 96 := zT_a (k := 64) (i := 31) zT61_2 rfl
theorem m61_96 : smI 61 96 = rI0 ziA0 97 := zT_a (k := 96) (i := 0) zT61_3 rfl
theorem m61_97 : smI 61 97 = rI2 (.getfield 10) 100 6 := zT_a (k := 96) (i := 1) zT61_3 rfl
theorem m61_100 : smI 61 100 = rI3 (.getfield 98) 103 4 5 := zT_a (k := 96) (i := 4) zT61_3 rfl
theorem m61_103 : smI 61 103 = rI0 ziI1 104 := zT_a (k := 96) (i := 7) zT61_3 rfl
theorem m61_104 : smI 61 104 = rI0 .iaload 105 := zT_a (k := 96) (i := 8) zT61_3 rfl
theorem m61_105 : smI 61 105 = rI0 .ireturn 106 := zT_a (k := 96) (i := 9) zT61_3 rfl
theorem m61_106 : smI 61 106 = rI0 ziA0 107 := zT_a (k := 96) (i := 10) zT61_3 rfl
theorem m61_107 : smI 61 107 = rI2 (.getfield 10) 110 6 := zT_a (k := 96) (i := 11) zT61_3 rfl
theorem m61_110 : smI 61 110 = rI3 (.getfield 101) 113 4 6 := zT_a (k := 96) (i := 14) zT61_3 rfl
theorem m61_113 : smI 61 113 = rI0 ziI1 114 := zT_a (k := 96) (i := 17) zT61_3 rfl
theorem m61_114 : smI 61 114 = rI0 .baload 115 := zT_a (k := 96) (i := 18) zT61_3 rfl
theorem m61_115 : smI 61 115 = rI2 (.ifCond .eq 7) 118 122 := zT_a (k := 96) (i := 19) zT61_3 rfl
theorem m61_118 : smI 61 118 = rI1 ziC1 119 1 := zT_a (k := 96) (i := 22) zT61_3 rfl
theorem m61_119 : smI 61 119 = rI2 (.goto 4) 122 123 := zT_a (k := 96) (i := 23) zT61_3 rfl
theorem m61_122 : smI 61 122 = rI0 ziC0 123 := zT_a (k := 96) (i := 26) zT61_3 rfl
theorem m61_123 : smI 61 123 = rI0 .ireturn 124 := zT_a (k := 96) (i := 27) zT61_3 rfl
theorem m61_124 : smI 61 124 = rI0 ziA0 125 := zT_a (k := 96) (i := 28) zT61_3 rfl
theorem m61_125 : smI 61 125 = rI2 (.getfield 10) 128 6 := zT_a (k := 96) (i := 29) zT61_3 rfl
theorem m61_128 : smI 61 128 = rI0 ziI1 129 := zT_l (k := 128) (i := 0) zT61_4 rfl
theorem m61_129 : smI 61 129 = rI4 (.invokevirtual 109) 132 20 34 1 := zT_l (k := 128) (i := 1) zT61_4 rfl
theorem m61_132 : smI 61 132 = rI0 .ireturn 133 := zT_l (k := 128) (i := 4) zT61_4 rfl
theorem m61_133 : smI 61 133 = rI0 ziA0 134 := zT_l (k := 128) (i := 5) zT61_4 rfl
theorem m61_134 : smI 61 134 = rI1 ziC1 135 1 := zT_l (k := 128) (i := 6) zT61_4 rfl
theorem m61_135 : smI 61 135 = rI4 (.invokevirtual 73) 138 20 55 1 := zT_l (k := 128) (i := 7) zT61_4 rfl
theorem m61_138 : smI 61 138 = rI0 .ireturn 139 := zT_l (k := 128) (i := 10) zT61_4 rfl
theorem mx_62 : mMx 62 = 1 := by decide +kernel
theorem cn_62 : mCn 62 = 6 := by decide +kernel
theorem rt_62 : mRt 62 = (some .int) := by decide +kernel
theorem tq_62 : allT.getD 62 [] = tb_62 := rfl
theorem zT62_0 : zT 62 0 (tb_62_0 ++ (tb_62_1)) := zT_0 tq_62
theorem zT62_1 : zT 62 32 (tb_62_1) := zT_s zT62_0 (n := 32) (by decide +kernel) rfl
theorem m62_0 : smI 62 0 = rI0 ziI0 1 := zT_a (k := 0) (i := 0) zT62_0 rfl
theorem m62_1 : smI 62 1 = rI0 (.tableswitch 36 0 2 #[27, 30, 33]) 28 := zT_a (k := 0) (i := 1) zT62_0 rfl
theorem m62_28 : smI 62 28 = rI1 (.bipush 99) 30 99 := zT_a (k := 0) (i := 28) zT62_0 rfl
theorem m62_30 : smI 62 30 = rI0 .ireturn 31 := zT_a (k := 0) (i := 30) zT62_0 rfl
theorem m62_31 : smI 62 31 = rI1 (.bipush 9) 33 9 := zT_a (k := 0) (i := 31) zT62_0 rfl
theorem m62_33 : smI 62 33 = rI0 .ireturn 34 := zT_l (k := 32) (i := 1) zT62_1 rfl
theorem m62_34 : smI 62 34 = rI1 (.bipush 99) 36 99 := zT_l (k := 32) (i := 2) zT62_1 rfl
theorem m62_36 : smI 62 36 = rI0 .ireturn 37 := zT_l (k := 32) (i := 4) zT62_1 rfl
theorem m62_37 : smI 62 37 = rI1 ziC1 38 1 := zT_l (k := 32) (i := 5) zT62_1 rfl
theorem m62_38 : smI 62 38 = rI0 .ireturn 39 := zT_l (k := 32) (i := 6) zT62_1 rfl
theorem mx_63 : mMx 63 = 6 := by decide +kernel
theorem cn_63 : mCn 63 = 6 := by decide +kernel
theorem rt_63 : mRt 63 = (some .int) := by decide +kernel
theorem tq_63 : allT.getD 63 [] = tb_63 := rfl
theorem zT63_0 : zT 63 0 (tb_63_0 ++ (tb_63_1 ++ (tb_63_2 ++ (tb_63_3 ++ (tb_63_4))))) := zT_0 tq_63
theorem zT63_1 : zT 63 32 (tb_63_1 ++ (tb_63_2 ++ (tb_63_3 ++ (tb_63_4)))) := zT_s zT63_0 (n := 32) (by decide +kernel) rfl
theorem zT63_2 : zT 63 64 (tb_63_2 ++ (tb_63_3 ++ (tb_63_4))) := zT_s zT63_1 (n := 32) (by decide +kernel) rfl
theorem zT63_3 : zT 63 96 (tb_63_3 ++ (tb_63_4)) := zT_s zT63_2 (n := 32) (by decide +kernel) rfl
theorem zT63_4 : zT 63 128 (tb_63_4) := zT_s zT63_3 (n := 32) (by decide +kernel) rfl
theorem m63_0 : smI 63 0 = rI0 ziA0 1 := zT_a (k := 0) (i := 0) zT63_0 rfl
theorem m63_1 : smI 63 1 = rI0 ziI1 2 := zT_a (k := 0) (i := 1) zT63_0 rfl
theorem m63_2 : smI 63 2 = rI4 (.invokevirtual 105) 5 20 60 1 := zT_a (k := 0) (i := 2) zT63_0 rfl
theorem m63_5 : smI 63 5 = rI2 (.ifCond .eq 22) 8 27 := zT_a (k := 0) (i := 5) zT63_0 rfl
theorem m63_8 : smI 63 8 = rI0 ziI2 9 := zT_a (k := 0) (i := 8) zT63_0 rfl
theorem m63_9 : smI 63 9 = rI1 ziC3 10 3 := zT_a (k := 0) (i := 9) zT63_0 rfl
theorem m63_10 : smI 63 10 = rI3 (.invokestatic 69) 13 54 2 := zT_a (k := 0) (i := 10) zT63_0 rfl
theorem m63_13 : smI 63 13 = rI2 (.ifCond .eq 14) 16 27 := zT_a (k := 0) (i := 13) zT63_0 rfl
theorem m63_16 : smI 63 16 = rI0 ziI3 17 := zT_a (k := 0) (i := 16) zT63_0 rfl
theorem m63_17 : smI 63 17 = rI0 ziI2 18 := zT_a (k := 0) (i := 17) zT63_0 rfl
theorem m63_18 : smI 63 18 = rI3 (.invokestatic 112) 21 62 1 := zT_a (k := 0) (i := 18) zT63_0 rfl
theorem m63_21 : smI 63 21 = rI3 (.invokestatic 69) 24 54 2 := zT_a (k := 0) (i := 21) zT63_0 rfl
theorem m63_24 : smI 63 24 = rI2 (.ifCond .ne 9) 27 33 := zT_a (k := 0) (i := 24) zT63_0 rfl
theorem m63_27 : smI 63 27 = rI0 ziA0 28 := zT_a (k := 0) (i := 27) zT63_0 rfl
theorem m63_28 : smI 63 28 = rI1 ziC1 29 1 := zT_a (k := 0) (i := 28) zT63_0 rfl
theorem m63_29 : smI 63 29 = rI4 (.invokevirtual 73) 32 20 55 1 := zT_a (k := 0) (i := 29) zT63_0 rfl
theorem m63_32 : smI 63 32 = rI0 .ireturn 33 := zT_a (k := 32) (i := 0) zT63_1 rfl
theorem m63_33 : smI 63 33 = rI0 ziI2 34 := zT_a (k := 32) (i := 1) zT63_1 rfl
theorem m63_34 : smI 63 34 = rI1 ziC3 35 3 := zT_a (k := 32) (i := 2) zT63_1 rfl
theorem m63_35 : smI 63 35 = rI2 (.if_icmp .ne 44) 38 79 := zT_a (k := 32) (i := 3) zT63_1 rfl
theorem m63_38 : smI 63 38 = rI0 ziA0 39 := zT_a (k := 32) (i := 6) zT63_1 rfl
theorem m63_39 : smI 63 39 = rI2 (.getfield 10) 42 6 := zT_a (k := 32) (i := 7) zT63_1 rfl
theorem m63_42 : smI 63 42 = rI3 (.getfield 101) 45 4 6 := zT_a (k := 32) (i := 10) zT63_1 rfl
theorem m63_45 : smI 63 45 = rI0 ziI1 46 := zT_a (k := 32) (i := 13) zT63_1 rfl
theorem m63_46 : smI 63 46 = rI0 .baload 47 := zT_a (k := 32) (i := 14) zT63_1 rfl
theorem m63_47 : smI 63 47 = rI2 (.ifCond .eq 7) 50 54 := zT_a (k := 32) (i := 15) zT63_1 rfl
theorem m63_50 : smI 63 50 = rI1 ziC1 51 1 := zT_a (k := 32) (i := 18) zT63_1 rfl
theorem m63_51 : smI 63 51 = rI2 (.goto 4) 54 55 := zT_a (k := 32) (i := 19) zT63_1 rfl
theorem m63_54 : smI 63 54 = rI0 ziC0 55 := zT_a (k := 32) (i := 22) zT63_1 rfl
theorem m63_55 : smI 63 55 = rI0 (.istore 4) 57 := zT_a (k := 32) (i := 23) zT63_1 rfl
theorem m63_57 : smI 63 57 = rI0 ziA0 58 := zT_a (k := 32) (i := 25) zT63_1 rfl
theorem m63_58 : smI 63 58 = rI2 (.getfield 10) 61 6 := zT_a (k := 32) (i := 26) zT63_1 rfl
theorem m63_61 : smI 63 61 = rI3 (.getfield 101) 64 4 6 := zT_a (k := 32) (i := 29) zT63_1 rfl
theorem m63_64 : smI 63 64 = rI0 ziI1 65 := zT_a (k := 64) (i := 0) zT63_2 rfl
theorem m63_65 : smI 63 65 = rI0 ziI3 66 := zT_a (k := 64) (i := 1) zT63_2 rfl
theorem m63_66 : smI 63 66 = rI1 ziC1 67 1 := zT_a (k := 64) (i := 2) zT63_2 rfl
theorem m63_67 : smI 63 67 = rI2 (.if_icmp .ne 7) 70 74 := zT_a (k := 64) (i := 3) zT63_2 rfl
theorem m63_70 : smI 63 70 = rI1 ziC1 71 1 := zT_a (k := 64) (i := 6) zT63_2 rfl
theorem m63_71 : smI 63 71 = rI2 (.goto 4) 74 75 := zT_a (k := 64) (i := 7) zT63_2 rfl
theorem m63_74 : smI 63 74 = rI0 ziC0 75 := zT_a (k := 64) (i := 10) zT63_2 rfl
theorem m63_75 : smI 63 75 = rI0 .bastore 76 := zT_a (k := 64) (i := 11) zT63_2 rfl
theorem m63_76 : smI 63 76 = rI0 (.iload 4) 78 := zT_a (k := 64) (i := 12) zT63_2 rfl
theorem m63_78 : smI 63 78 = rI0 .ireturn 79 := zT_a (k := 64) (i := 14) zT63_2 rfl
theorem m63_79 : smI 63 79 = rI0 ziI2 80 := zT_a (k := 64) (i := 15) zT63_2 rfl
theorem m63_80 : smI 63 80 = rI2 (.ifCond .ne 13) 83 93 := zT_a (k := 64) (i := 16) zT63_2 rfl
theorem m63_83 : smI 63 83 = rI0 ziA0 84 := zT_a (k := 64) (i := 19) zT63_2 rfl
theorem m63_84 : smI 63 84 = rI2 (.getfield 10) 87 6 := zT_a (k := 64) (i := 20) zT63_2 rfl
theorem m63_87 : smI 63 87 = rI3 (.getfield 92) 90 4 3 := zT_a (k := 64) (i := 23) zT63_2 rfl
theorem m63_90 : smI 63 90 = rI2 (.goto 25) 93 115 := zT_a (k := 64) (i := 26) zT63_2 rfl
theorem m63_93 : smI 63 93 = rI0 ziI2 94 := zT_a (k := 64) (i := 29) zT63_2 rfl
theorem m63_94 : smI 63 94 = rI1 ziC1 95 1 := zT_a (k := 64) (i := 30) zT63_2 rfl
theorem m63_95 : smI 63 95 = rI2 (.if_icmp .ne 13) 98 108 := zT_a (k := 64) (i := 31) zT63_2 rfl
theorem m63_98 : smI 63 98 = rI0 ziA0 99 := zT_a (k := 96) (i := 2) zT63_3 rfl
theorem m63_99 : smI 63 99 = rI2 (.getfield 10) 102 6 := zT_a (k := 96) (i := 3) zT63_3 rfl
theorem m63_102 : smI 63 102 = rI3 (.getfield 95) 105 4 4 := zT_a (k := 96) (i := 6) zT63_3 rfl
theorem m63_105 : smI 63 105 = rI2 (.goto 10) 108 115 := zT_a (k := 96) (i := 9) zT63_3 rfl
theorem m63_108 : smI 63 108 = rI0 ziA0 109 := zT_a (k := 96) (i := 12) zT63_3 rfl
theorem m63_109 : smI 63 109 = rI2 (.getfield 10) 112 6 := zT_a (k := 96) (i := 13) zT63_3 rfl
theorem m63_112 : smI 63 112 = rI3 (.getfield 98) 115 4 5 := zT_a (k := 96) (i := 16) zT63_3 rfl
theorem m63_115 : smI 63 115 = rI0 (.astore 4) 117 := zT_a (k := 96) (i := 19) zT63_3 rfl
theorem m63_117 : smI 63 117 = rI0 (.aload 4) 119 := zT_a (k := 96) (i := 21) zT63_3 rfl
theorem m63_119 : smI 63 119 = rI0 ziI1 120 := zT_a (k := 96) (i := 23) zT63_3 rfl
theorem m63_120 : smI 63 120 = rI0 .iaload 121 := zT_a (k := 96) (i := 24) zT63_3 rfl
theorem m63_121 : smI 63 121 = rI0 (.istore 5) 123 := zT_a (k := 96) (i := 25) zT63_3 rfl
theorem m63_123 : smI 63 123 = rI0 (.aload 4) 125 := zT_a (k := 96) (i := 27) zT63_3 rfl
theorem m63_125 : smI 63 125 = rI0 ziI1 126 := zT_a (k := 96) (i := 29) zT63_3 rfl
theorem m63_126 : smI 63 126 = rI0 ziI3 127 := zT_a (k := 96) (i := 30) zT63_3 rfl
theorem m63_127 : smI 63 127 = rI0 .iastore 128 := zT_a (k := 96) (i := 31) zT63_3 rfl
theorem m63_128 : smI 63 128 = rI0 (.iload 5) 130 := zT_l (k := 128) (i := 0) zT63_4 rfl
theorem m63_130 : smI 63 130 = rI0 .ireturn 131 := zT_l (k := 128) (i := 2) zT63_4 rfl
theorem mx_64 : mMx 64 = 4 := by decide +kernel
theorem cn_64 : mCn 64 = 6 := by decide +kernel
theorem rt_64 : mRt 64 = (some .int) := by decide +kernel
theorem tq_64 : allT.getD 64 [] = tb_64 := rfl
theorem zT64_0 : zT 64 0 (tb_64_0 ++ (tb_64_1)) := zT_0 tq_64
theorem zT64_1 : zT 64 32 (tb_64_1) := zT_s zT64_0 (n := 32) (by decide +kernel) rfl
theorem m64_0 : smI 64 0 = rI0 ziA0 1 := zT_a (k := 0) (i := 0) zT64_0 rfl
theorem m64_1 : smI 64 1 = rI0 ziI1 2 := zT_a (k := 0) (i := 1) zT64_0 rfl
theorem m64_2 : smI 64 2 = rI4 (.invokevirtual 105) 5 20 60 1 := zT_a (k := 0) (i := 2) zT64_0 rfl
theorem m64_5 : smI 64 5 = rI2 (.ifCond .eq 12) 8 17 := zT_a (k := 0) (i := 5) zT64_0 rfl
theorem m64_8 : smI 64 8 = rI0 ziI2 9 := zT_a (k := 0) (i := 8) zT64_0 rfl
theorem m64_9 : smI 64 9 = rI1 (.bipush 69) 11 69 := zT_a (k := 0) (i := 9) zT64_0 rfl
theorem m64_11 : smI 64 11 = rI3 (.invokestatic 69) 14 54 2 := zT_a (k := 0) (i := 11) zT64_0 rfl
theorem m64_14 : smI 64 14 = rI2 (.ifCond .ne 9) 17 23 := zT_a (k := 0) (i := 14) zT64_0 rfl
theorem m64_17 : smI 64 17 = rI0 ziA0 18 := zT_a (k := 0) (i := 17) zT64_0 rfl
theorem m64_18 : smI 64 18 = rI1 ziC1 19 1 := zT_a (k := 0) (i := 18) zT64_0 rfl
theorem m64_19 : smI 64 19 = rI4 (.invokevirtual 73) 22 20 55 1 := zT_a (k := 0) (i := 19) zT64_0 rfl
theorem m64_22 : smI 64 22 = rI0 .ireturn 23 := zT_a (k := 0) (i := 22) zT64_0 rfl
theorem m64_23 : smI 64 23 = rI0 ziA0 24 := zT_a (k := 0) (i := 23) zT64_0 rfl
theorem m64_24 : smI 64 24 = rI2 (.getfield 10) 27 6 := zT_a (k := 0) (i := 24) zT64_0 rfl
theorem m64_27 : smI 64 27 = rI3 (.getfield 86) 30 4 1 := zT_a (k := 0) (i := 27) zT64_0 rfl
theorem m64_30 : smI 64 30 = rI0 ziI1 31 := zT_a (k := 0) (i := 30) zT64_0 rfl
theorem m64_31 : smI 64 31 = rI0 .iaload 32 := zT_a (k := 0) (i := 31) zT64_0 rfl
theorem m64_32 : smI 64 32 = rI0 ziS3 33 := zT_l (k := 32) (i := 0) zT64_1 rfl
theorem m64_33 : smI 64 33 = rI0 ziA0 34 := zT_l (k := 32) (i := 1) zT64_1 rfl
theorem m64_34 : smI 64 34 = rI2 (.getfield 10) 37 6 := zT_l (k := 32) (i := 2) zT64_1 rfl
theorem m64_37 : smI 64 37 = rI3 (.getfield 86) 40 4 1 := zT_l (k := 32) (i := 5) zT64_1 rfl
theorem m64_40 : smI 64 40 = rI0 ziI1 41 := zT_l (k := 32) (i := 8) zT64_1 rfl
theorem m64_41 : smI 64 41 = rI0 ziI2 42 := zT_l (k := 32) (i := 9) zT64_1 rfl
theorem m64_42 : smI 64 42 = rI1 (.bipush 10) 44 10 := zT_l (k := 32) (i := 10) zT64_1 rfl
theorem m64_44 : smI 64 44 = rI0 .idiv 45 := zT_l (k := 32) (i := 12) zT64_1 rfl
theorem m64_45 : smI 64 45 = rI0 .iastore 46 := zT_l (k := 32) (i := 13) zT64_1 rfl
theorem m64_46 : smI 64 46 = rI0 ziA0 47 := zT_l (k := 32) (i := 14) zT64_1 rfl
theorem m64_47 : smI 64 47 = rI2 (.getfield 10) 50 6 := zT_l (k := 32) (i := 15) zT64_1 rfl
theorem m64_50 : smI 64 50 = rI3 (.getfield 89) 53 4 2 := zT_l (k := 32) (i := 18) zT64_1 rfl
theorem m64_53 : smI 64 53 = rI0 ziI1 54 := zT_l (k := 32) (i := 21) zT64_1 rfl
theorem m64_54 : smI 64 54 = rI0 ziI2 55 := zT_l (k := 32) (i := 22) zT64_1 rfl
theorem m64_55 : smI 64 55 = rI1 (.bipush 10) 57 10 := zT_l (k := 32) (i := 23) zT64_1 rfl
theorem m64_57 : smI 64 57 = rI0 .irem 58 := zT_l (k := 32) (i := 25) zT64_1 rfl
theorem m64_58 : smI 64 58 = rI0 .iastore 59 := zT_l (k := 32) (i := 26) zT64_1 rfl
theorem m64_59 : smI 64 59 = rI0 ziI3 60 := zT_l (k := 32) (i := 27) zT64_1 rfl
theorem m64_60 : smI 64 60 = rI0 .ireturn 61 := zT_l (k := 32) (i := 28) zT64_1 rfl
theorem mx_65 : mMx 65 = 4 := by decide +kernel
theorem cn_65 : mCn 65 = 6 := by decide +kernel
theorem rt_65 : mRt 65 = (some .boolean) := by decide +kernel
theorem tq_65 : allT.getD 65 [] = tb_65 := rfl
theorem zT65_0 : zT 65 0 (tb_65_0 ++ (tb_65_1)) := zT_0 tq_65
theorem zT65_1 : zT 65 32 (tb_65_1) := zT_s zT65_0 (n := 32) (by decide +kernel) rfl
theorem m65_0 : smI 65 0 = rI0 ziI0 1 := zT_a (k := 0) (i := 0) zT65_0 rfl
theorem m65_1 : smI 65 1 = rI0 ziS2 2 := zT_a (k := 0) (i := 1) zT65_0 rfl
theorem m65_2 : smI 65 2 = rI0 ziC0 3 := zT_a (k := 0) (i := 2) zT65_0 rfl
theorem m65_3 : smI 65 3 = rI0 ziS3 4 := zT_a (k := 0) (i := 3) zT65_0 rfl
theorem m65_4 : smI 65 4 = rI0 ziI3 5 := zT_a (k := 0) (i := 4) zT65_0 rfl
theorem m65_5 : smI 65 5 = rI1 (.bipush 7) 7 7 := zT_a (k := 0) (i := 5) zT65_0 rfl
theorem m65_7 : smI 65 7 = rI2 (.if_icmp .ge 31) 10 38 := zT_a (k := 0) (i := 7) zT65_0 rfl
theorem m65_10 : smI 65 10 = rI0 ziI2 11 := zT_a (k := 0) (i := 10) zT65_0 rfl
theorem m65_11 : smI 65 11 = rI1 (.bipush 6) 13 6 := zT_a (k := 0) (i := 11) zT65_0 rfl
theorem m65_13 : smI 65 13 = rI3 (.invokestatic 69) 16 54 2 := zT_a (k := 0) (i := 13) zT65_0 rfl
theorem m65_16 : smI 65 16 = rI2 (.ifCond .eq 22) 19 38 := zT_a (k := 0) (i := 16) zT65_0 rfl
theorem m65_19 : smI 65 19 = rI0 ziI2 20 := zT_a (k := 0) (i := 19) zT65_0 rfl
theorem m65_20 : smI 65 20 = rI0 ziI1 21 := zT_a (k := 0) (i := 20) zT65_0 rfl
theorem m65_21 : smI 65 21 = rI2 (.if_icmp .ne 5) 24 26 := zT_a (k := 0) (i := 21) zT65_0 rfl
theorem m65_24 : smI 65 24 = rI1 ziC1 25 1 := zT_a (k := 0) (i := 24) zT65_0 rfl
theorem m65_25 : smI 65 25 = rI0 .ireturn 26 := zT_a (k := 0) (i := 25) zT65_0 rfl
theorem m65_26 : smI 65 26 = rI2 (.getstatic 118) 29 1 := zT_a (k := 0) (i := 26) zT65_0 rfl
theorem m65_29 : smI 65 29 = rI0 ziI2 30 := zT_a (k := 0) (i := 29) zT65_0 rfl
theorem m65_30 : smI 65 30 = rI0 .iaload 31 := zT_a (k := 0) (i := 30) zT65_0 rfl
theorem m65_31 : smI 65 31 = rI0 ziS2 32 := zT_a (k := 0) (i := 31) zT65_0 rfl
theorem m65_32 : smI 65 32 = rI1 (.iinc 3 1) 35 1 := zT_l (k := 32) (i := 0) zT65_1 rfl
theorem m65_35 : smI 65 35 = rI2 (.goto (-31)) 38 4 := zT_l (k := 32) (i := 3) zT65_1 rfl
theorem m65_38 : smI 65 38 = rI0 ziC0 39 := zT_l (k := 32) (i := 6) zT65_1 rfl
theorem m65_39 : smI 65 39 = rI0 .ireturn 40 := zT_l (k := 32) (i := 7) zT65_1 rfl
theorem mx_66 : mMx 66 = 3 := by decide +kernel
theorem cn_66 : mCn 66 = 6 := by decide +kernel
theorem rt_66 : mRt 66 = (some .int) := by decide +kernel
theorem tq_66 : allT.getD 66 [] = tb_66 := rfl
theorem zT66_0 : zT 66 0 (tb_66_0 ++ (tb_66_1)) := zT_0 tq_66
theorem zT66_1 : zT 66 32 (tb_66_1) := zT_s zT66_0 (n := 32) (by decide +kernel) rfl
theorem m66_0 : smI 66 0 = rI0 ziA0 1 := zT_a (k := 0) (i := 0) zT66_0 rfl
theorem m66_1 : smI 66 1 = rI0 ziI1 2 := zT_a (k := 0) (i := 1) zT66_0 rfl
theorem m66_2 : smI 66 2 = rI4 (.invokevirtual 105) 5 20 60 1 := zT_a (k := 0) (i := 2) zT66_0 rfl
theorem m66_5 : smI 66 5 = rI2 (.ifCond .eq 12) 8 17 := zT_a (k := 0) (i := 5) zT66_0 rfl
theorem m66_8 : smI 66 8 = rI0 ziI2 9 := zT_a (k := 0) (i := 8) zT66_0 rfl
theorem m66_9 : smI 66 9 = rI1 (.bipush 6) 11 6 := zT_a (k := 0) (i := 9) zT66_0 rfl
theorem m66_11 : smI 66 11 = rI3 (.invokestatic 69) 14 54 2 := zT_a (k := 0) (i := 11) zT66_0 rfl
theorem m66_14 : smI 66 14 = rI2 (.ifCond .ne 9) 17 23 := zT_a (k := 0) (i := 14) zT66_0 rfl
theorem m66_17 : smI 66 17 = rI0 ziA0 18 := zT_a (k := 0) (i := 17) zT66_0 rfl
theorem m66_18 : smI 66 18 = rI1 ziC1 19 1 := zT_a (k := 0) (i := 18) zT66_0 rfl
theorem m66_19 : smI 66 19 = rI4 (.invokevirtual 73) 22 20 55 1 := zT_a (k := 0) (i := 19) zT66_0 rfl
theorem m66_22 : smI 66 22 = rI0 .ireturn 23 := zT_a (k := 0) (i := 22) zT66_0 rfl
theorem m66_23 : smI 66 23 = rI0 ziA0 24 := zT_a (k := 0) (i := 23) zT66_0 rfl
theorem m66_24 : smI 66 24 = rI2 (.getfield 10) 27 6 := zT_a (k := 0) (i := 24) zT66_0 rfl
theorem m66_27 : smI 66 27 = rI3 (.getfield 86) 30 4 1 := zT_a (k := 0) (i := 27) zT66_0 rfl
theorem m66_30 : smI 66 30 = rI0 ziI1 31 := zT_a (k := 0) (i := 30) zT66_0 rfl
theorem m66_31 : smI 66 31 = rI0 .iaload 32 := zT_a (k := 0) (i := 31) zT66_0 rfl
theorem m66_32 : smI 66 32 = rI0 ziI2 33 := zT_l (k := 32) (i := 0) zT66_1 rfl
theorem m66_33 : smI 66 33 = rI3 (.invokestatic 115) 36 65 2 := zT_l (k := 32) (i := 1) zT66_1 rfl
theorem m66_36 : smI 66 36 = rI2 (.ifCond .ne 9) 39 45 := zT_l (k := 32) (i := 4) zT66_1 rfl
theorem m66_39 : smI 66 39 = rI0 ziA0 40 := zT_l (k := 32) (i := 7) zT66_1 rfl
theorem m66_40 : smI 66 40 = rI1 ziC5 41 5 := zT_l (k := 32) (i := 8) zT66_1 rfl
theorem m66_41 : smI 66 41 = rI4 (.invokevirtual 73) 44 20 55 1 := zT_l (k := 32) (i := 9) zT66_1 rfl
theorem m66_44 : smI 66 44 = rI0 .ireturn 45 := zT_l (k := 32) (i := 12) zT66_1 rfl
theorem m66_45 : smI 66 45 = rI0 ziA0 46 := zT_l (k := 32) (i := 13) zT66_1 rfl
theorem m66_46 : smI 66 46 = rI2 (.getfield 10) 49 6 := zT_l (k := 32) (i := 14) zT66_1 rfl
theorem m66_49 : smI 66 49 = rI3 (.getfield 89) 52 4 2 := zT_l (k := 32) (i := 17) zT66_1 rfl
theorem m66_52 : smI 66 52 = rI0 ziI1 53 := zT_l (k := 32) (i := 20) zT66_1 rfl
theorem m66_53 : smI 66 53 = rI0 .iaload 54 := zT_l (k := 32) (i := 21) zT66_1 rfl
theorem m66_54 : smI 66 54 = rI0 .ireturn 55 := zT_l (k := 32) (i := 22) zT66_1 rfl
theorem mx_67 : mMx 67 = 5 := by decide +kernel
theorem cn_67 : mCn 67 = 6 := by decide +kernel
theorem rt_67 : mRt 67 = (some .int) := by decide +kernel
theorem tq_67 : allT.getD 67 [] = tb_67 := rfl
theorem zT67_0 : zT 67 0 (tb_67_0 ++ (tb_67_1 ++ (tb_67_2 ++ (tb_67_3)))) := zT_0 tq_67
theorem zT67_1 : zT 67 32 (tb_67_1 ++ (tb_67_2 ++ (tb_67_3))) := zT_s zT67_0 (n := 32) (by decide +kernel) rfl
theorem zT67_2 : zT 67 64 (tb_67_2 ++ (tb_67_3)) := zT_s zT67_1 (n := 32) (by decide +kernel) rfl
theorem zT67_3 : zT 67 96 (tb_67_3) := zT_s zT67_2 (n := 32) (by decide +kernel) rfl
theorem m67_0 : smI 67 0 = rI0 ziI3 1 := zT_a (k := 0) (i := 0) zT67_0 rfl
theorem m67_1 : smI 67 1 = rI1 ziC1 2 1 := zT_a (k := 0) (i := 1) zT67_0 rfl
theorem m67_2 : smI 67 2 = rI2 (.if_icmp .lt 9) 5 11 := zT_a (k := 0) (i := 2) zT67_0 rfl
theorem m67_5 : smI 67 5 = rI0 ziI3 6 := zT_a (k := 0) (i := 5) zT67_0 rfl
theorem m67_6 : smI 67 6 = rI1 (.bipush 8) 8 8 := zT_a (k := 0) (i := 6) zT67_0 rfl
theorem m67_8 : smI 67 8 = rI2 (.if_icmp .le 9) 11 17 := zT_a (k := 0) (i := 8) zT67_0 rfl
theorem m67_11 : smI 67 11 = rI0 ziA0 12 := zT_a (k := 0) (i := 11) zT67_0 rfl
theorem m67_12 : smI 67 12 = rI1 ziC1 13 1 := zT_a (k := 0) (i := 12) zT67_0 rfl
theorem m67_13 : smI 67 13 = rI4 (.invokevirtual 73) 16 20 55 1 := zT_a (k := 0) (i := 13) zT67_0 rfl
theorem m67_16 : smI 67 16 = rI0 .ireturn 17 := zT_a (k := 0) (i := 16) zT67_0 rfl
theorem m67_17 : smI 67 17 = rI0 ziA0 18 := zT_a (k := 0) (i := 17) zT67_0 rfl
theorem m67_18 : smI 67 18 = rI3 (.getfield 28) 21 6 4 := zT_a (k := 0) (i := 18) zT67_0 rfl
theorem m67_21 : smI 67 21 = rI3 (.getfield 121) 24 0 2 := zT_a (k := 0) (i := 21) zT67_0 rfl
theorem m67_24 : smI 67 24 = rI1 (.bipush 50) 26 50 := zT_a (k := 0) (i := 24) zT67_0 rfl
theorem m67_26 : smI 67 26 = rI0 ziI3 27 := zT_a (k := 0) (i := 26) zT67_0 rfl
theorem m67_27 : smI 67 27 = rI0 .isub 28 := zT_a (k := 0) (i := 27) zT67_0 rfl
theorem m67_28 : smI 67 28 = rI2 (.if_icmp .le 9) 31 37 := zT_a (k := 0) (i := 28) zT67_0 rfl
theorem m67_31 : smI 67 31 = rI0 ziA0 32 := zT_a (k := 0) (i := 31) zT67_0 rfl
theorem m67_32 : smI 67 32 = rI1 ziC4 33 4 := zT_a (k := 32) (i := 0) zT67_1 rfl
theorem m67_33 : smI 67 33 = rI4 (.invokevirtual 73) 36 20 55 1 := zT_a (k := 32) (i := 1) zT67_1 rfl
theorem m67_36 : smI 67 36 = rI0 .ireturn 37 := zT_a (k := 32) (i := 4) zT67_1 rfl
theorem m67_37 : smI 67 37 = rI0 ziC0 38 := zT_a (k := 32) (i := 5) zT67_1 rfl
theorem m67_38 : smI 67 38 = rI0 (.istore 4) 40 := zT_a (k := 32) (i := 6) zT67_1 rfl
theorem m67_40 : smI 67 40 = rI0 (.iload 4) 42 := zT_a (k := 32) (i := 8) zT67_1 rfl
theorem m67_42 : smI 67 42 = rI0 ziI3 43 := zT_a (k := 32) (i := 10) zT67_1 rfl
theorem m67_43 : smI 67 43 = rI2 (.if_icmp .ge 49) 46 92 := zT_a (k := 32) (i := 11) zT67_1 rfl
theorem m67_46 : smI 67 46 = rI0 ziA0 47 := zT_a (k := 32) (i := 14) zT67_1 rfl
theorem m67_47 : smI 67 47 = rI3 (.getfield 28) 50 6 4 := zT_a (k := 32) (i := 15) zT67_1 rfl
theorem m67_50 : smI 67 50 = rI3 (.getfield 41) 53 0 1 := zT_a (k := 32) (i := 18) zT67_1 rfl
theorem m67_53 : smI 67 53 = rI0 ziA0 54 := zT_a (k := 32) (i := 21) zT67_1 rfl
theorem m67_54 : smI 67 54 = rI3 (.getfield 28) 57 6 4 := zT_a (k := 32) (i := 22) zT67_1 rfl
theorem m67_57 : smI 67 57 = rI3 (.getfield 121) 60 0 2 := zT_a (k := 32) (i := 25) zT67_1 rfl
theorem m67_60 : smI 67 60 = rI0 (.lload_n 1) 61 := zT_a (k := 32) (i := 28) zT67_1 rfl
theorem m67_61 : smI 67 61 = rI1 (.bipush 8) 63 8 := zT_a (k := 32) (i := 29) zT67_1 rfl
theorem m67_63 : smI 67 63 = rI0 (.iload 4) 65 := zT_a (k := 32) (i := 31) zT67_1 rfl
theorem m67_65 : smI 67 65 = rI0 .imul 66 := zT_a (k := 64) (i := 1) zT67_2 rfl
theorem m67_66 : smI 67 66 = rI0 .lushr 67 := zT_a (k := 64) (i := 2) zT67_2 rfl
theorem m67_67 : smI 67 67 = rI0 .l2i 68 := zT_a (k := 64) (i := 3) zT67_2 rfl
theorem m67_68 : smI 67 68 = rI1 (.sipush 255) 71 255 := zT_a (k := 64) (i := 4) zT67_2 rfl
theorem m67_71 : smI 67 71 = rI0 .iand 72 := zT_a (k := 64) (i := 7) zT67_2 rfl
theorem m67_72 : smI 67 72 = rI0 .iastore 73 := zT_a (k := 64) (i := 8) zT67_2 rfl
theorem m67_73 : smI 67 73 = rI0 ziA0 74 := zT_a (k := 64) (i := 9) zT67_2 rfl
theorem m67_74 : smI 67 74 = rI3 (.getfield 28) 77 6 4 := zT_a (k := 64) (i := 10) zT67_2 rfl
theorem m67_77 : smI 67 77 = rI0 .dup 78 := zT_a (k := 64) (i := 13) zT67_2 rfl
theorem m67_78 : smI 67 78 = rI3 (.getfield 121) 81 0 2 := zT_a (k := 64) (i := 14) zT67_2 rfl
theorem m67_81 : smI 67 81 = rI1 ziC1 82 1 := zT_a (k := 64) (i := 17) zT67_2 rfl
theorem m67_82 : smI 67 82 = rI0 .iadd 83 := zT_a (k := 64) (i := 18) zT67_2 rfl
theorem m67_83 : smI 67 83 = rI3 (.putfield 121) 86 0 2 := zT_a (k := 64) (i := 19) zT67_2 rfl
theorem m67_86 : smI 67 86 = rI1 (.iinc 4 1) 89 1 := zT_a (k := 64) (i := 22) zT67_2 rfl
theorem m67_89 : smI 67 89 = rI2 (.goto (-49)) 92 40 := zT_a (k := 64) (i := 25) zT67_2 rfl
theorem m67_92 : smI 67 92 = rI0 ziA0 93 := zT_a (k := 64) (i := 28) zT67_2 rfl
theorem m67_93 : smI 67 93 = rI3 (.getfield 28) 96 6 4 := zT_a (k := 64) (i := 29) zT67_2 rfl
theorem m67_96 : smI 67 96 = rI3 (.getfield 121) 99 0 2 := zT_l (k := 96) (i := 0) zT67_3 rfl
theorem m67_99 : smI 67 99 = rI0 .ireturn 100 := zT_l (k := 96) (i := 3) zT67_3 rfl
theorem mx_68 : mMx 68 = 4 := by decide +kernel
theorem cn_68 : mCn 68 = 6 := by decide +kernel
theorem rt_68 : mRt 68 = (some .int) := by decide +kernel
theorem tq_68 : allT.getD 68 [] = tb_68 := rfl
theorem zT68_0 : zT 68 0 (tb_68_0 ++ (tb_68_1 ++ (tb_68_2 ++ (tb_68_3)))) := zT_0 tq_68
theorem zT68_1 : zT 68 32 (tb_68_1 ++ (tb_68_2 ++ (tb_68_3))) := zT_s zT68_0 (n := 32) (by decide +kernel) rfl
theorem zT68_2 : zT 68 64 (tb_68_2 ++ (tb_68_3)) := zT_s zT68_1 (n := 32) (by decide +kernel) rfl
theorem zT68_3 : zT 68 96 (tb_68_3) := zT_s zT68_2 (n := 32) (by decide +kernel) rfl
theorem m68_0 : smI 68 0 = rI0 ziI1 1 := zT_a (k := 0) (i := 0) zT68_0 rfl
theorem m68_1 : smI 68 1 = rI1 ziC1 2 1 := zT_a (k := 0) (i := 1) zT68_0 rfl
theorem m68_2 : smI 68 2 = rI3 (.invokestatic 69) 5 54 2 := zT_a (k := 0) (i := 2) zT68_0 rfl
theorem m68_5 : smI 68 5 = rI2 (.ifCond .ne 9) 8 14 := zT_a (k := 0) (i := 5) zT68_0 rfl
theorem m68_8 : smI 68 8 = rI0 ziA0 9 := zT_a (k := 0) (i := 8) zT68_0 rfl
theorem m68_9 : smI 68 9 = rI1 ziC1 10 1 := zT_a (k := 0) (i := 9) zT68_0 rfl
theorem m68_10 : smI 68 10 = rI4 (.invokevirtual 73) 13 20 55 1 := zT_a (k := 0) (i := 10) zT68_0 rfl
theorem m68_13 : smI 68 13 = rI0 .ireturn 14 := zT_a (k := 0) (i := 13) zT68_0 rfl
theorem m68_14 : smI 68 14 = rI0 ziA0 15 := zT_a (k := 0) (i := 14) zT68_0 rfl
theorem m68_15 : smI 68 15 = rI3 (.getfield 48) 18 6 7 := zT_a (k := 0) (i := 15) zT68_0 rfl
theorem m68_18 : smI 68 18 = rI0 ziA0 19 := zT_a (k := 0) (i := 18) zT68_0 rfl
theorem m68_19 : smI 68 19 = rI3 (.getfield 28) 22 6 4 := zT_a (k := 0) (i := 19) zT68_0 rfl
theorem m68_22 : smI 68 22 = rI3 (.getfield 121) 25 0 2 := zT_a (k := 0) (i := 22) zT68_0 rfl
theorem m68_25 : smI 68 25 = rI0 ziI1 26 := zT_a (k := 0) (i := 25) zT68_0 rfl
theorem m68_26 : smI 68 26 = rI2 (.ifCond .ne 8) 29 34 := zT_a (k := 0) (i := 26) zT68_0 rfl
theorem m68_29 : smI 68 29 = rI2 (.ldc 124) 31 3 := zT_a (k := 0) (i := 29) zT68_0 rfl
theorem m68_31 : smI 68 31 = rI2 (.goto 5) 34 36 := zT_a (k := 0) (i := 31) zT68_0 rfl
theorem m68_34 : smI 68 34 = rI2 (.ldc 126) 36 4 := zT_a (k := 32) (i := 2) zT68_1 rfl
theorem m68_36 : smI 68 36 = rI4 (.invokevirtual 128) 39 20 25 2 := zT_a (k := 32) (i := 4) zT68_1 rfl
theorem m68_39 : smI 68 39 = rI0 ziS2 40 := zT_a (k := 32) (i := 7) zT68_1 rfl
theorem m68_40 : smI 68 40 = rI0 ziA0 41 := zT_a (k := 32) (i := 8) zT68_1 rfl
theorem m68_41 : smI 68 41 = rI3 (.getfield 28) 44 6 4 := zT_a (k := 32) (i := 9) zT68_1 rfl
theorem m68_44 : smI 68 44 = rI0 ziC0 45 := zT_a (k := 32) (i := 12) zT68_1 rfl
theorem m68_45 : smI 68 45 = rI3 (.putfield 121) 48 0 2 := zT_a (k := 32) (i := 13) zT68_1 rfl
theorem m68_48 : smI 68 48 = rI0 ziI2 49 := zT_a (k := 32) (i := 16) zT68_1 rfl
theorem m68_49 : smI 68 49 = rI2 (.ifCond .lt 8) 52 57 := zT_a (k := 32) (i := 17) zT68_1 rfl
theorem m68_52 : smI 68 52 = rI1 (.bipush (-10)) 54 (-10) := zT_a (k := 32) (i := 20) zT68_1 rfl
theorem m68_54 : smI 68 54 = rI0 ziI2 55 := zT_a (k := 32) (i := 22) zT68_1 rfl
theorem m68_55 : smI 68 55 = rI0 .isub 56 := zT_a (k := 32) (i := 23) zT68_1 rfl
theorem m68_56 : smI 68 56 = rI0 .ireturn 57 := zT_a (k := 32) (i := 24) zT68_1 rfl
theorem m68_57 : smI 68 57 = rI3 (.new 132) 60 1 2 := zT_a (k := 32) (i := 25) zT68_1 rfl
theorem m68_60 : smI 68 60 = rI0 .dup 61 := zT_a (k := 32) (i := 28) zT68_1 rfl
theorem m68_61 : smI 68 61 = rI0 ziA0 62 := zT_a (k := 32) (i := 29) zT68_1 rfl
theorem m68_62 : smI 68 62 = rI3 (.getfield 48) 65 6 7 := zT_a (k := 32) (i := 30) zT68_1 rfl
theorem m68_65 : smI 68 65 = rI2 (.getfield 134) 68 2 := zT_a (k := 64) (i := 1) zT68_2 rfl
theorem m68_68 : smI 68 68 = rI0 ziA0 69 := zT_a (k := 64) (i := 4) zT68_2 rfl
theorem m68_69 : smI 68 69 = rI3 (.getfield 48) 72 6 7 := zT_a (k := 64) (i := 5) zT68_2 rfl
theorem m68_72 : smI 68 72 = rI3 (.getfield 137) 75 2 1 := zT_a (k := 64) (i := 8) zT68_2 rfl
theorem m68_75 : smI 68 75 = rI4 (.invokespecial 140) 78 10 13 2 := zT_a (k := 64) (i := 11) zT68_2 rfl
theorem m68_78 : smI 68 78 = rI0 (.astore_n 3) 79 := zT_a (k := 64) (i := 14) zT68_2 rfl
theorem m68_79 : smI 68 79 = rI0 ziI1 80 := zT_a (k := 64) (i := 15) zT68_2 rfl
theorem m68_80 : smI 68 80 = rI2 (.ifCond .ne 14) 83 94 := zT_a (k := 64) (i := 16) zT68_2 rfl
theorem m68_83 : smI 68 83 = rI0 ziA0 84 := zT_a (k := 64) (i := 19) zT68_2 rfl
theorem m68_84 : smI 68 84 = rI2 (.getfield 10) 87 6 := zT_a (k := 64) (i := 20) zT68_2 rfl
theorem m68_87 : smI 68 87 = rI0 ziA3 88 := zT_a (k := 64) (i := 23) zT68_2 rfl
theorem m68_88 : smI 68 88 = rI3 (.putfield 143) 91 4 11 := zT_a (k := 64) (i := 24) zT68_2 rfl
theorem m68_91 : smI 68 91 = rI2 (.goto 11) 94 102 := zT_a (k := 64) (i := 27) zT68_2 rfl
theorem m68_94 : smI 68 94 = rI0 ziA0 95 := zT_a (k := 64) (i := 30) zT68_2 rfl
theorem m68_95 : smI 68 95 = rI2 (.getfield 10) 98 6 := zT_a (k := 64) (i := 31) zT68_2 rfl
theorem m68_98 : smI 68 98 = rI0 ziA3 99 := zT_l (k := 96) (i := 2) zT68_3 rfl
theorem m68_99 : smI 68 99 = rI3 (.putfield 147) 102 4 12 := zT_l (k := 96) (i := 3) zT68_3 rfl
theorem m68_102 : smI 68 102 = rI1 ziC1 103 1 := zT_l (k := 96) (i := 6) zT68_3 rfl
theorem m68_103 : smI 68 103 = rI0 .ireturn 104 := zT_l (k := 96) (i := 7) zT68_3 rfl
theorem mx_69 : mMx 69 = 5 := by decide +kernel
theorem cn_69 : mCn 69 = 6 := by decide +kernel
theorem rt_69 : mRt 69 = (some .int) := by decide +kernel
theorem tq_69 : allT.getD 69 [] = tb_69 := rfl
theorem zT69_0 : zT 69 0 (tb_69_0 ++ (tb_69_1)) := zT_0 tq_69
theorem zT69_1 : zT 69 32 (tb_69_1) := zT_s zT69_0 (n := 32) (by decide +kernel) rfl
theorem m69_0 : smI 69 0 = rI0 ziI1 1 := zT_a (k := 0) (i := 0) zT69_0 rfl
theorem m69_1 : smI 69 1 = rI1 ziC1 2 1 := zT_a (k := 0) (i := 1) zT69_0 rfl
theorem m69_2 : smI 69 2 = rI3 (.invokestatic 69) 5 54 2 := zT_a (k := 0) (i := 2) zT69_0 rfl
theorem m69_5 : smI 69 5 = rI2 (.ifCond .ne 9) 8 14 := zT_a (k := 0) (i := 5) zT69_0 rfl
theorem m69_8 : smI 69 8 = rI0 ziA0 9 := zT_a (k := 0) (i := 8) zT69_0 rfl
theorem m69_9 : smI 69 9 = rI1 ziC1 10 1 := zT_a (k := 0) (i := 9) zT69_0 rfl
theorem m69_10 : smI 69 10 = rI4 (.invokevirtual 73) 13 20 55 1 := zT_a (k := 0) (i := 10) zT69_0 rfl
theorem m69_13 : smI 69 13 = rI0 .ireturn 14 := zT_a (k := 0) (i := 13) zT69_0 rfl
theorem m69_14 : smI 69 14 = rI0 ziI1 15 := zT_a (k := 0) (i := 14) zT69_0 rfl
theorem m69_15 : smI 69 15 = rI2 (.ifCond .ne 17) 18 32 := zT_a (k := 0) (i := 15) zT69_0 rfl
theorem m69_18 : smI 69 18 = rI0 ziA0 19 := zT_a (k := 0) (i := 18) zT69_0 rfl
theorem m69_19 : smI 69 19 = rI2 (.getfield 10) 22 6 := zT_a (k := 0) (i := 19) zT69_0 rfl
theorem m69_22 : smI 69 22 = rI0 ziI2 23 := zT_a (k := 0) (i := 22) zT69_0 rfl
theorem m69_23 : smI 69 23 = rI0 ziI3 24 := zT_a (k := 0) (i := 23) zT69_0 rfl
theorem m69_24 : smI 69 24 = rI0 (.iload 4) 26 := zT_a (k := 0) (i := 24) zT69_0 rfl
theorem m69_26 : smI 69 26 = rI4 (.invokevirtual 150) 29 20 32 3 := zT_a (k := 0) (i := 26) zT69_0 rfl
theorem m69_29 : smI 69 29 = rI2 (.goto 14) 32 43 := zT_a (k := 0) (i := 29) zT69_0 rfl
theorem m69_32 : smI 69 32 = rI0 ziA0 33 := zT_l (k := 32) (i := 0) zT69_1 rfl
theorem m69_33 : smI 69 33 = rI2 (.getfield 10) 36 6 := zT_l (k := 32) (i := 1) zT69_1 rfl
theorem m69_36 : smI 69 36 = rI0 ziI2 37 := zT_l (k := 32) (i := 4) zT69_1 rfl
theorem m69_37 : smI 69 37 = rI0 ziI3 38 := zT_l (k := 32) (i := 5) zT69_1 rfl
theorem m69_38 : smI 69 38 = rI0 (.iload 4) 40 := zT_l (k := 32) (i := 6) zT69_1 rfl
theorem m69_40 : smI 69 40 = rI4 (.invokevirtual 154) 43 20 33 3 := zT_l (k := 32) (i := 8) zT69_1 rfl
theorem m69_43 : smI 69 43 = rI0 .ireturn 44 := zT_l (k := 32) (i := 11) zT69_1 rfl
theorem mx_70 : mMx 70 = 2 := by decide +kernel
theorem cn_70 : mCn 70 = 6 := by decide +kernel
theorem rt_70 : mRt 70 = (some .int) := by decide +kernel
theorem tq_70 : allT.getD 70 [] = tb_70 := rfl
theorem zT70_0 : zT 70 0 (tb_70_0 ++ (tb_70_1)) := zT_0 tq_70
theorem zT70_1 : zT 70 32 (tb_70_1) := zT_s zT70_0 (n := 32) (by decide +kernel) rfl
theorem m70_0 : smI 70 0 = rI0 ziI1 1 := zT_a (k := 0) (i := 0) zT70_0 rfl
theorem m70_1 : smI 70 1 = rI1 ziC1 2 1 := zT_a (k := 0) (i := 1) zT70_0 rfl
theorem m70_2 : smI 70 2 = rI2 (.if_icmp .lt 9) 5 11 := zT_a (k := 0) (i := 2) zT70_0 rfl
theorem m70_5 : smI 70 5 = rI0 ziI1 6 := zT_a (k := 0) (i := 5) zT70_0 rfl
theorem m70_6 : smI 70 6 = rI1 (.bipush 60) 8 60 := zT_a (k := 0) (i := 6) zT70_0 rfl
theorem m70_8 : smI 70 8 = rI2 (.if_icmp .le 9) 11 17 := zT_a (k := 0) (i := 8) zT70_0 rfl
theorem m70_11 : smI 70 11 = rI0 ziA0 12 := zT_a (k := 0) (i := 11) zT70_0 rfl
theorem m70_12 : smI 70 12 = rI1 ziC1 13 1 := zT_a (k := 0) (i := 12) zT70_0 rfl
theorem m70_13 : smI 70 13 = rI4 (.invokevirtual 73) 16 20 55 1 := zT_a (k := 0) (i := 13) zT70_0 rfl
theorem m70_16 : smI 70 16 = rI0 .ireturn 17 := zT_a (k := 0) (i := 16) zT70_0 rfl
theorem m70_17 : smI 70 17 = rI0 ziA0 18 := zT_a (k := 0) (i := 17) zT70_0 rfl
theorem m70_18 : smI 70 18 = rI2 (.getfield 10) 21 6 := zT_a (k := 0) (i := 18) zT70_0 rfl
theorem m70_21 : smI 70 21 = rI3 (.getfield 157) 24 4 9 := zT_a (k := 0) (i := 21) zT70_0 rfl
theorem m70_24 : smI 70 24 = rI1 (.sipush 9999) 27 9999 := zT_a (k := 0) (i := 24) zT70_0 rfl
theorem m70_27 : smI 70 27 = rI0 ziI1 28 := zT_a (k := 0) (i := 27) zT70_0 rfl
theorem m70_28 : smI 70 28 = rI0 .isub 29 := zT_a (k := 0) (i := 28) zT70_0 rfl
theorem m70_29 : smI 70 29 = rI2 (.if_icmp .le 9) 32 38 := zT_a (k := 0) (i := 29) zT70_0 rfl
theorem m70_32 : smI 70 32 = rI0 ziA0 33 := zT_l (k := 32) (i := 0) zT70_1 rfl
theorem m70_33 : smI 70 33 = rI1 ziC3 34 3 := zT_l (k := 32) (i := 1) zT70_1 rfl
theorem m70_34 : smI 70 34 = rI4 (.invokevirtual 73) 37 20 55 1 := zT_l (k := 32) (i := 2) zT70_1 rfl
theorem m70_37 : smI 70 37 = rI0 .ireturn 38 := zT_l (k := 32) (i := 5) zT70_1 rfl
theorem m70_38 : smI 70 38 = rI0 ziA0 39 := zT_l (k := 32) (i := 6) zT70_1 rfl
theorem m70_39 : smI 70 39 = rI2 (.getfield 10) 42 6 := zT_l (k := 32) (i := 7) zT70_1 rfl
theorem m70_42 : smI 70 42 = rI0 ziI1 43 := zT_l (k := 32) (i := 10) zT70_1 rfl
theorem m70_43 : smI 70 43 = rI4 (.invokevirtual 160) 46 20 41 1 := zT_l (k := 32) (i := 11) zT70_1 rfl
theorem m70_46 : smI 70 46 = rI0 ziA0 47 := zT_l (k := 32) (i := 14) zT70_1 rfl
theorem m70_47 : smI 70 47 = rI2 (.getfield 10) 50 6 := zT_l (k := 32) (i := 15) zT70_1 rfl
theorem m70_50 : smI 70 50 = rI4 (.invokevirtual 164) 53 20 45 0 := zT_l (k := 32) (i := 18) zT70_1 rfl
theorem m70_53 : smI 70 53 = rI0 .ireturn 54 := zT_l (k := 32) (i := 21) zT70_1 rfl
theorem mx_71 : mMx 71 = 2 := by decide +kernel
theorem cn_71 : mCn 71 = 6 := by decide +kernel
theorem rt_71 : mRt 71 = none := by decide +kernel
theorem tq_71 : allT.getD 71 [] = tb_71 := rfl
theorem zT71_0 : zT 71 0 (tb_71_0 ++ (tb_71_1)) := zT_0 tq_71
theorem zT71_1 : zT 71 32 (tb_71_1) := zT_s zT71_0 (n := 32) (by decide +kernel) rfl
theorem m71_0 : smI 71 0 = rI0 ziA0 1 := zT_a (k := 0) (i := 0) zT71_0 rfl
theorem m71_1 : smI 71 1 = rI3 (.getfield 28) 4 6 4 := zT_a (k := 0) (i := 1) zT71_0 rfl
theorem m71_4 : smI 71 4 = rI4 (.invokevirtual 174) 7 20 12 0 := zT_a (k := 0) (i := 4) zT71_0 rfl
theorem m71_7 : smI 71 7 = rI0 ziS1 8 := zT_a (k := 0) (i := 7) zT71_0 rfl
theorem m71_8 : smI 71 8 = rI0 ziA0 9 := zT_a (k := 0) (i := 8) zT71_0 rfl
theorem m71_9 : smI 71 9 = rI2 (.getfield 10) 12 6 := zT_a (k := 0) (i := 9) zT71_0 rfl
theorem m71_12 : smI 71 12 = rI3 (.getfield 83) 15 4 10 := zT_a (k := 0) (i := 12) zT71_0 rfl
theorem m71_15 : smI 71 15 = rI2 (.ifCond .le 27) 18 42 := zT_a (k := 0) (i := 15) zT71_0 rfl
theorem m71_18 : smI 71 18 = rI0 ziA0 19 := zT_a (k := 0) (i := 18) zT71_0 rfl
theorem m71_19 : smI 71 19 = rI2 (.getfield 10) 22 6 := zT_a (k := 0) (i := 19) zT71_0 rfl
theorem m71_22 : smI 71 22 = rI3 (.getfield 95) 25 4 4 := zT_a (k := 0) (i := 22) zT71_0 rfl
theorem m71_25 : smI 71 25 = rI0 ziI1 26 := zT_a (k := 0) (i := 25) zT71_0 rfl
theorem m71_26 : smI 71 26 = rI0 ziA0 27 := zT_a (k := 0) (i := 26) zT71_0 rfl
theorem m71_27 : smI 71 27 = rI2 (.getfield 10) 30 6 := zT_a (k := 0) (i := 27) zT71_0 rfl
theorem m71_30 : smI 71 30 = rI3 (.getfield 83) 33 4 10 := zT_a (k := 0) (i := 30) zT71_0 rfl
theorem m71_33 : smI 71 33 = rI0 .irem 34 := zT_l (k := 32) (i := 1) zT71_1 rfl
theorem m71_34 : smI 71 34 = rI0 ziI1 35 := zT_l (k := 32) (i := 2) zT71_1 rfl
theorem m71_35 : smI 71 35 = rI1 (.bipush 8) 37 8 := zT_l (k := 32) (i := 3) zT71_1 rfl
theorem m71_37 : smI 71 37 = rI0 .idiv 38 := zT_l (k := 32) (i := 5) zT71_1 rfl
theorem m71_38 : smI 71 38 = rI1 (.bipush 10) 40 10 := zT_l (k := 32) (i := 6) zT71_1 rfl
theorem m71_40 : smI 71 40 = rI0 .irem 41 := zT_l (k := 32) (i := 8) zT71_1 rfl
theorem m71_41 : smI 71 41 = rI0 .iastore 42 := zT_l (k := 32) (i := 9) zT71_1 rfl
theorem m71_42 : smI 71 42 = rI0 .return_ 43 := zT_l (k := 32) (i := 10) zT71_1 rfl
theorem mx_72 : mMx 72 = 3 := by decide +kernel
theorem cn_72 : mCn 72 = 6 := by decide +kernel
theorem rt_72 : mRt 72 = (some .int) := by decide +kernel
theorem tq_72 : allT.getD 72 [] = tb_72 := rfl
theorem zT72_0 : zT 72 0 (tb_72_0 ++ (tb_72_1 ++ (tb_72_2))) := zT_0 tq_72
theorem zT72_1 : zT 72 32 (tb_72_1 ++ (tb_72_2)) := zT_s zT72_0 (n := 32) (by decide +kernel) rfl
theorem zT72_2 : zT 72 64 (tb_72_2) := zT_s zT72_1 (n := 32) (by decide +kernel) rfl
theorem m72_0 : smI 72 0 = rI0 ziI1 1 := zT_a (k := 0) (i := 0) zT72_0 rfl
theorem m72_1 : smI 72 1 = rI1 ziC1 2 1 := zT_a (k := 0) (i := 1) zT72_0 rfl
theorem m72_2 : smI 72 2 = rI2 (.if_icmp .lt 9) 5 11 := zT_a (k := 0) (i := 2) zT72_0 rfl
theorem m72_5 : smI 72 5 = rI0 ziI1 6 := zT_a (k := 0) (i := 5) zT72_0 rfl
theorem m72_6 : smI 72 6 = rI1 (.bipush 40) 8 40 := zT_a (k := 0) (i := 6) zT72_0 rfl
theorem m72_8 : smI 72 8 = rI2 (.if_icmp .le 9) 11 17 := zT_a (k := 0) (i := 8) zT72_0 rfl
theorem m72_11 : smI 72 11 = rI0 ziA0 12 := zT_a (k := 0) (i := 11) zT72_0 rfl
theorem m72_12 : smI 72 12 = rI1 ziC1 13 1 := zT_a (k := 0) (i := 12) zT72_0 rfl
theorem m72_13 : smI 72 13 = rI4 (.invokevirtual 73) 16 20 55 1 := zT_a (k := 0) (i := 13) zT72_0 rfl
theorem m72_16 : smI 72 16 = rI0 .ireturn 17 := zT_a (k := 0) (i := 16) zT72_0 rfl
theorem m72_17 : smI 72 17 = rI0 ziA0 18 := zT_a (k := 0) (i := 17) zT72_0 rfl
theorem m72_18 : smI 72 18 = rI2 (.getfield 10) 21 6 := zT_a (k := 0) (i := 18) zT72_0 rfl
theorem m72_21 : smI 72 21 = rI3 (.getfield 157) 24 4 9 := zT_a (k := 0) (i := 21) zT72_0 rfl
theorem m72_24 : smI 72 24 = rI1 (.sipush 9999) 27 9999 := zT_a (k := 0) (i := 24) zT72_0 rfl
theorem m72_27 : smI 72 27 = rI0 ziI1 28 := zT_a (k := 0) (i := 27) zT72_0 rfl
theorem m72_28 : smI 72 28 = rI0 .isub 29 := zT_a (k := 0) (i := 28) zT72_0 rfl
theorem m72_29 : smI 72 29 = rI2 (.if_icmp .le 9) 32 38 := zT_a (k := 0) (i := 29) zT72_0 rfl
theorem m72_32 : smI 72 32 = rI0 ziA0 33 := zT_a (k := 32) (i := 0) zT72_1 rfl
theorem m72_33 : smI 72 33 = rI1 ziC3 34 3 := zT_a (k := 32) (i := 1) zT72_1 rfl
theorem m72_34 : smI 72 34 = rI4 (.invokevirtual 73) 37 20 55 1 := zT_a (k := 32) (i := 2) zT72_1 rfl
theorem m72_37 : smI 72 37 = rI0 .ireturn 38 := zT_a (k := 32) (i := 5) zT72_1 rfl
theorem m72_38 : smI 72 38 = rI0 ziC0 39 := zT_a (k := 32) (i := 6) zT72_1 rfl
theorem m72_39 : smI 72 39 = rI0 ziS2 40 := zT_a (k := 32) (i := 7) zT72_1 rfl
theorem m72_40 : smI 72 40 = rI0 ziI2 41 := zT_a (k := 32) (i := 8) zT72_1 rfl
theorem m72_41 : smI 72 41 = rI0 ziI1 42 := zT_a (k := 32) (i := 9) zT72_1 rfl
theorem m72_42 : smI 72 42 = rI2 (.if_icmp .ge 21) 45 63 := zT_a (k := 32) (i := 10) zT72_1 rfl
theorem m72_45 : smI 72 45 = rI0 ziA0 46 := zT_a (k := 32) (i := 13) zT72_1 rfl
theorem m72_46 : smI 72 46 = rI4 (.invokevirtual 168) 49 20 71 0 := zT_a (k := 32) (i := 14) zT72_1 rfl
theorem m72_49 : smI 72 49 = rI0 ziA0 50 := zT_a (k := 32) (i := 17) zT72_1 rfl
theorem m72_50 : smI 72 50 = rI2 (.getfield 10) 53 6 := zT_a (k := 32) (i := 18) zT72_1 rfl
theorem m72_53 : smI 72 53 = rI4 (.invokevirtual 171) 56 20 40 0 := zT_a (k := 32) (i := 21) zT72_1 rfl
theorem m72_56 : smI 72 56 = rI0 .pop 57 := zT_a (k := 32) (i := 24) zT72_1 rfl
theorem m72_57 : smI 72 57 = rI1 (.iinc 2 1) 60 1 := zT_a (k := 32) (i := 25) zT72_1 rfl
theorem m72_60 : smI 72 60 = rI2 (.goto (-20)) 63 40 := zT_a (k := 32) (i := 28) zT72_1 rfl
theorem m72_63 : smI 72 63 = rI0 ziA0 64 := zT_a (k := 32) (i := 31) zT72_1 rfl
theorem m72_64 : smI 72 64 = rI2 (.getfield 10) 67 6 := zT_l (k := 64) (i := 0) zT72_2 rfl
theorem m72_67 : smI 72 67 = rI4 (.invokevirtual 164) 70 20 45 0 := zT_l (k := 64) (i := 3) zT72_2 rfl
theorem m72_70 : smI 72 70 = rI0 .ireturn 71 := zT_l (k := 64) (i := 6) zT72_2 rfl
theorem mx_73 : mMx 73 = 1 := by decide +kernel
theorem cn_73 : mCn 73 = 6 := by decide +kernel
theorem rt_73 : mRt 73 = (some .int) := by decide +kernel
theorem tq_73 : allT.getD 73 [] = tb_73 := rfl
theorem m73_0 : smI 73 0 = rI0 ziA0 1 := sm_t tq_73 rfl
theorem m73_1 : smI 73 1 = rI2 (.getfield 10) 4 6 := sm_t tq_73 rfl
theorem m73_4 : smI 73 4 = rI4 (.invokevirtual 177) 7 20 36 0 := sm_t tq_73 rfl
theorem m73_7 : smI 73 7 = rI0 ziA0 8 := sm_t tq_73 rfl
theorem m73_8 : smI 73 8 = rI2 (.getfield 10) 11 6 := sm_t tq_73 rfl
theorem m73_11 : smI 73 11 = rI4 (.invokevirtual 180) 14 20 38 0 := sm_t tq_73 rfl
theorem m73_14 : smI 73 14 = rI0 .ireturn 15 := sm_t tq_73 rfl
theorem mx_74 : mMx 74 = 1 := by decide +kernel
theorem cn_74 : mCn 74 = 6 := by decide +kernel
theorem rt_74 : mRt 74 = (some (.object "LooksServed$Table")) := by decide +kernel
theorem tq_74 : allT.getD 74 [] = tb_74 := rfl
theorem m74_0 : smI 74 0 = rI0 ziA0 1 := sm_t tq_74 rfl
theorem m74_1 : smI 74 1 = rI3 (.getfield 16) 4 6 1 := sm_t tq_74 rfl
theorem m74_4 : smI 74 4 = rI0 ziA0 5 := sm_t tq_74 rfl
theorem m74_5 : smI 74 5 = rI2 (.getfield 10) 8 6 := sm_t tq_74 rfl
theorem m74_8 : smI 74 8 = rI4 (.invokevirtual 222) 11 20 31 1 := sm_t tq_74 rfl
theorem m74_11 : smI 74 11 = rI0 ziA0 12 := sm_t tq_74 rfl
theorem m74_12 : smI 74 12 = rI3 (.getfield 16) 15 6 1 := sm_t tq_74 rfl
theorem m74_15 : smI 74 15 = rI0 .areturn 16 := sm_t tq_74 rfl
theorem mx_75 : mMx 75 = 5 := by decide +kernel
theorem cn_75 : mCn 75 = 6 := by decide +kernel
theorem rt_75 : mRt 75 = (some .int) := by decide +kernel
theorem tq_75 : allT.getD 75 [] = tb_75 := rfl
theorem zT75_0 : zT 75 0 (tb_75_0 ++ (tb_75_1 ++ (tb_75_2 ++ (tb_75_3)))) := zT_0 tq_75
theorem zT75_1 : zT 75 32 (tb_75_1 ++ (tb_75_2 ++ (tb_75_3))) := zT_s zT75_0 (n := 32) (by decide +kernel) rfl
theorem zT75_2 : zT 75 64 (tb_75_2 ++ (tb_75_3)) := zT_s zT75_1 (n := 32) (by decide +kernel) rfl
theorem zT75_3 : zT 75 96 (tb_75_3) := zT_s zT75_2 (n := 32) (by decide +kernel) rfl
theorem m75_0 : smI 75 0 = rI0 ziI1 1 := zT_a (k := 0) (i := 0) zT75_0 rfl
theorem m75_1 : smI 75 1 = rI1 (.bipush 60) 3 60 := zT_a (k := 0) (i := 1) zT75_0 rfl
theorem m75_3 : smI 75 3 = rI3 (.invokestatic 69) 6 54 2 := zT_a (k := 0) (i := 3) zT75_0 rfl
theorem m75_6 : smI 75 6 = rI2 (.ifCond .eq 19) 9 25 := zT_a (k := 0) (i := 6) zT75_0 rfl
theorem m75_9 : smI 75 9 = rI0 ziA0 10 := zT_a (k := 0) (i := 9) zT75_0 rfl
theorem m75_10 : smI 75 10 = rI0 ziI2 11 := zT_a (k := 0) (i := 10) zT75_0 rfl
theorem m75_11 : smI 75 11 = rI4 (.invokevirtual 105) 14 20 60 1 := zT_a (k := 0) (i := 11) zT75_0 rfl
theorem m75_14 : smI 75 14 = rI2 (.ifCond .eq 11) 17 25 := zT_a (k := 0) (i := 14) zT75_0 rfl
theorem m75_17 : smI 75 17 = rI0 ziI3 18 := zT_a (k := 0) (i := 17) zT75_0 rfl
theorem m75_18 : smI 75 18 = rI1 ziC2 19 2 := zT_a (k := 0) (i := 18) zT75_0 rfl
theorem m75_19 : smI 75 19 = rI3 (.invokestatic 69) 22 54 2 := zT_a (k := 0) (i := 19) zT75_0 rfl
theorem m75_22 : smI 75 22 = rI2 (.ifCond .ne 9) 25 31 := zT_a (k := 0) (i := 22) zT75_0 rfl
theorem m75_25 : smI 75 25 = rI0 ziA0 26 := zT_a (k := 0) (i := 25) zT75_0 rfl
theorem m75_26 : smI 75 26 = rI1 ziC1 27 1 := zT_a (k := 0) (i := 26) zT75_0 rfl
theorem m75_27 : smI 75 27 = rI4 (.invokevirtual 73) 30 20 55 1 := zT_a (k := 0) (i := 27) zT75_0 rfl
theorem m75_30 : smI 75 30 = rI0 .ireturn 31 := zT_a (k := 0) (i := 30) zT75_0 rfl
theorem m75_31 : smI 75 31 = rI0 ziA0 32 := zT_a (k := 0) (i := 31) zT75_0 rfl
theorem m75_32 : smI 75 32 = rI4 (.invokevirtual 183) 35 20 74 0 := zT_a (k := 32) (i := 0) zT75_1 rfl
theorem m75_35 : smI 75 35 = rI0 (.astore 4) 37 := zT_a (k := 32) (i := 3) zT75_1 rfl
theorem m75_37 : smI 75 37 = rI0 (.aload 4) 39 := zT_a (k := 32) (i := 5) zT75_1 rfl
theorem m75_39 : smI 75 39 = rI0 ziI1 40 := zT_a (k := 32) (i := 7) zT75_1 rfl
theorem m75_40 : smI 75 40 = rI4 (.invokevirtual 160) 43 20 41 1 := zT_a (k := 32) (i := 8) zT75_1 rfl
theorem m75_43 : smI 75 43 = rI0 ziI3 44 := zT_a (k := 32) (i := 11) zT75_1 rfl
theorem m75_44 : smI 75 44 = rI0 (.lookupswitch 44 #[(0, 28), (1, 36)]) 72 := zT_a (k := 32) (i := 12) zT75_1 rfl
theorem m75_72 : smI 75 72 = rI0 (.aload 4) 74 := zT_a (k := 64) (i := 8) zT75_2 rfl
theorem m75_74 : smI 75 74 = rI3 (.getfield 92) 77 4 3 := zT_a (k := 64) (i := 10) zT75_2 rfl
theorem m75_77 : smI 75 77 = rI0 ziI2 78 := zT_a (k := 64) (i := 13) zT75_2 rfl
theorem m75_78 : smI 75 78 = rI0 .iaload 79 := zT_a (k := 64) (i := 14) zT75_2 rfl
theorem m75_79 : smI 75 79 = rI0 .ireturn 80 := zT_a (k := 64) (i := 15) zT75_2 rfl
theorem m75_80 : smI 75 80 = rI0 (.aload 4) 82 := zT_a (k := 64) (i := 16) zT75_2 rfl
theorem m75_82 : smI 75 82 = rI3 (.getfield 98) 85 4 5 := zT_a (k := 64) (i := 18) zT75_2 rfl
theorem m75_85 : smI 75 85 = rI0 ziI2 86 := zT_a (k := 64) (i := 21) zT75_2 rfl
theorem m75_86 : smI 75 86 = rI0 .iaload 87 := zT_a (k := 64) (i := 22) zT75_2 rfl
theorem m75_87 : smI 75 87 = rI0 .ireturn 88 := zT_a (k := 64) (i := 23) zT75_2 rfl
theorem m75_88 : smI 75 88 = rI0 (.aload 4) 90 := zT_a (k := 64) (i := 24) zT75_2 rfl
theorem m75_90 : smI 75 90 = rI3 (.getfield 101) 93 4 6 := zT_a (k := 64) (i := 26) zT75_2 rfl
theorem m75_93 : smI 75 93 = rI0 ziI2 94 := zT_a (k := 64) (i := 29) zT75_2 rfl
theorem m75_94 : smI 75 94 = rI0 .baload 95 := zT_a (k := 64) (i := 30) zT75_2 rfl
theorem m75_95 : smI 75 95 = rI2 (.ifCond .eq 7) 98 102 := zT_a (k := 64) (i := 31) zT75_2 rfl
theorem m75_98 : smI 75 98 = rI1 ziC1 99 1 := zT_l (k := 96) (i := 2) zT75_3 rfl
theorem m75_99 : smI 75 99 = rI2 (.goto 4) 102 103 := zT_l (k := 96) (i := 3) zT75_3 rfl
theorem m75_102 : smI 75 102 = rI0 ziC0 103 := zT_l (k := 96) (i := 6) zT75_3 rfl
theorem m75_103 : smI 75 103 = rI0 .ireturn 104 := zT_l (k := 96) (i := 7) zT75_3 rfl
theorem mx_76 : mMx 76 = 3 := by decide +kernel
theorem cn_76 : mCn 76 = 6 := by decide +kernel
theorem rt_76 : mRt 76 = (some .int) := by decide +kernel
theorem tq_76 : allT.getD 76 [] = tb_76 := rfl
theorem zT76_0 : zT 76 0 (tb_76_0 ++ (tb_76_1)) := zT_0 tq_76
theorem zT76_1 : zT 76 32 (tb_76_1) := zT_s zT76_0 (n := 32) (by decide +kernel) rfl
theorem m76_0 : smI 76 0 = rI0 ziA0 1 := zT_a (k := 0) (i := 0) zT76_0 rfl
theorem m76_1 : smI 76 1 = rI0 ziI1 2 := zT_a (k := 0) (i := 1) zT76_0 rfl
theorem m76_2 : smI 76 2 = rI4 (.invokevirtual 105) 5 20 60 1 := zT_a (k := 0) (i := 2) zT76_0 rfl
theorem m76_5 : smI 76 5 = rI2 (.ifCond .ne 9) 8 14 := zT_a (k := 0) (i := 5) zT76_0 rfl
theorem m76_8 : smI 76 8 = rI0 ziA0 9 := zT_a (k := 0) (i := 8) zT76_0 rfl
theorem m76_9 : smI 76 9 = rI1 ziC1 10 1 := zT_a (k := 0) (i := 9) zT76_0 rfl
theorem m76_10 : smI 76 10 = rI4 (.invokevirtual 73) 13 20 55 1 := zT_a (k := 0) (i := 10) zT76_0 rfl
theorem m76_13 : smI 76 13 = rI0 .ireturn 14 := zT_a (k := 0) (i := 13) zT76_0 rfl
theorem m76_14 : smI 76 14 = rI0 ziA0 15 := zT_a (k := 0) (i := 14) zT76_0 rfl
theorem m76_15 : smI 76 15 = rI4 (.invokevirtual 183) 18 20 74 0 := zT_a (k := 0) (i := 15) zT76_0 rfl
theorem m76_18 : smI 76 18 = rI0 ziI1 19 := zT_a (k := 0) (i := 18) zT76_0 rfl
theorem m76_19 : smI 76 19 = rI1 (.bipush 60) 21 60 := zT_a (k := 0) (i := 19) zT76_0 rfl
theorem m76_21 : smI 76 21 = rI4 (.invokevirtual 187) 24 20 42 2 := zT_a (k := 0) (i := 21) zT76_0 rfl
theorem m76_24 : smI 76 24 = rI0 ziS2 25 := zT_a (k := 0) (i := 24) zT76_0 rfl
theorem m76_25 : smI 76 25 = rI0 ziI2 26 := zT_a (k := 0) (i := 25) zT76_0 rfl
theorem m76_26 : smI 76 26 = rI2 (.ifCond .ne 11) 29 37 := zT_a (k := 0) (i := 26) zT76_0 rfl
theorem m76_29 : smI 76 29 = rI0 ziA0 30 := zT_a (k := 0) (i := 29) zT76_0 rfl
theorem m76_30 : smI 76 30 = rI1 ziC2 31 2 := zT_a (k := 0) (i := 30) zT76_0 rfl
theorem m76_31 : smI 76 31 = rI4 (.invokevirtual 73) 34 20 55 1 := zT_a (k := 0) (i := 31) zT76_0 rfl
theorem m76_34 : smI 76 34 = rI2 (.goto 4) 37 38 := zT_l (k := 32) (i := 2) zT76_1 rfl
theorem m76_37 : smI 76 37 = rI0 ziI2 38 := zT_l (k := 32) (i := 5) zT76_1 rfl
theorem m76_38 : smI 76 38 = rI0 .ireturn 39 := zT_l (k := 32) (i := 6) zT76_1 rfl
theorem mx_77 : mMx 77 = 4 := by decide +kernel
theorem cn_77 : mCn 77 = 6 := by decide +kernel
theorem rt_77 : mRt 77 = (some .int) := by decide +kernel
theorem tq_77 : allT.getD 77 [] = tb_77 := rfl
theorem zT77_0 : zT 77 0 (tb_77_0 ++ (tb_77_1)) := zT_0 tq_77
theorem zT77_1 : zT 77 32 (tb_77_1) := zT_s zT77_0 (n := 32) (by decide +kernel) rfl
theorem m77_0 : smI 77 0 = rI0 ziA0 1 := zT_a (k := 0) (i := 0) zT77_0 rfl
theorem m77_1 : smI 77 1 = rI4 (.invokevirtual 183) 4 20 74 0 := zT_a (k := 0) (i := 1) zT77_0 rfl
theorem m77_4 : smI 77 4 = rI0 (.astore_n 1) 5 := zT_a (k := 0) (i := 4) zT77_0 rfl
theorem m77_5 : smI 77 5 = rI0 ziA1 6 := zT_a (k := 0) (i := 5) zT77_0 rfl
theorem m77_6 : smI 77 6 = rI1 (.bipush 60) 8 60 := zT_a (k := 0) (i := 6) zT77_0 rfl
theorem m77_8 : smI 77 8 = rI4 (.invokevirtual 160) 11 20 41 1 := zT_a (k := 0) (i := 8) zT77_0 rfl
theorem m77_11 : smI 77 11 = rI0 ziC0 12 := zT_a (k := 0) (i := 11) zT77_0 rfl
theorem m77_12 : smI 77 12 = rI0 ziS2 13 := zT_a (k := 0) (i := 12) zT77_0 rfl
theorem m77_13 : smI 77 13 = rI0 ziC0 14 := zT_a (k := 0) (i := 13) zT77_0 rfl
theorem m77_14 : smI 77 14 = rI0 ziS3 15 := zT_a (k := 0) (i := 14) zT77_0 rfl
theorem m77_15 : smI 77 15 = rI0 ziI3 16 := zT_a (k := 0) (i := 15) zT77_0 rfl
theorem m77_16 : smI 77 16 = rI0 ziA0 17 := zT_a (k := 0) (i := 16) zT77_0 rfl
theorem m77_17 : smI 77 17 = rI2 (.getfield 10) 20 6 := zT_a (k := 0) (i := 17) zT77_0 rfl
theorem m77_20 : smI 77 20 = rI3 (.getfield 83) 23 4 10 := zT_a (k := 0) (i := 20) zT77_0 rfl
theorem m77_23 : smI 77 23 = rI2 (.if_icmp .ge 33) 26 56 := zT_a (k := 0) (i := 23) zT77_0 rfl
theorem m77_26 : smI 77 26 = rI0 ziA1 27 := zT_a (k := 0) (i := 26) zT77_0 rfl
theorem m77_27 : smI 77 27 = rI3 (.getfield 98) 30 4 5 := zT_a (k := 0) (i := 27) zT77_0 rfl
theorem m77_30 : smI 77 30 = rI0 ziI3 31 := zT_a (k := 0) (i := 30) zT77_0 rfl
theorem m77_31 : smI 77 31 = rI0 .iaload 32 := zT_a (k := 0) (i := 31) zT77_0 rfl
theorem m77_32 : smI 77 32 = rI0 ziA0 33 := zT_l (k := 32) (i := 0) zT77_1 rfl
theorem m77_33 : smI 77 33 = rI2 (.getfield 10) 36 6 := zT_l (k := 32) (i := 1) zT77_1 rfl
theorem m77_36 : smI 77 36 = rI3 (.getfield 98) 39 4 5 := zT_l (k := 32) (i := 4) zT77_1 rfl
theorem m77_39 : smI 77 39 = rI0 ziI3 40 := zT_l (k := 32) (i := 7) zT77_1 rfl
theorem m77_40 : smI 77 40 = rI0 .iaload 41 := zT_l (k := 32) (i := 8) zT77_1 rfl
theorem m77_41 : smI 77 41 = rI2 (.if_icmp .gt 9) 44 50 := zT_l (k := 32) (i := 9) zT77_1 rfl
theorem m77_44 : smI 77 44 = rI0 ziI2 45 := zT_l (k := 32) (i := 12) zT77_1 rfl
theorem m77_45 : smI 77 45 = rI1 ziC1 46 1 := zT_l (k := 32) (i := 13) zT77_1 rfl
theorem m77_46 : smI 77 46 = rI0 ziI3 47 := zT_l (k := 32) (i := 14) zT77_1 rfl
theorem m77_47 : smI 77 47 = rI0 .ishl 48 := zT_l (k := 32) (i := 15) zT77_1 rfl
theorem m77_48 : smI 77 48 = rI0 .ior 49 := zT_l (k := 32) (i := 16) zT77_1 rfl
theorem m77_49 : smI 77 49 = rI0 ziS2 50 := zT_l (k := 32) (i := 17) zT77_1 rfl
theorem m77_50 : smI 77 50 = rI1 (.iinc 3 1) 53 1 := zT_l (k := 32) (i := 18) zT77_1 rfl
theorem m77_53 : smI 77 53 = rI2 (.goto (-38)) 56 15 := zT_l (k := 32) (i := 21) zT77_1 rfl
theorem m77_56 : smI 77 56 = rI0 ziI2 57 := zT_l (k := 32) (i := 24) zT77_1 rfl
theorem m77_57 : smI 77 57 = rI0 .ireturn 58 := zT_l (k := 32) (i := 25) zT77_1 rfl
theorem mx_78 : mMx 78 = 4 := by decide +kernel
theorem cn_78 : mCn 78 = 6 := by decide +kernel
theorem rt_78 : mRt 78 = (some .int) := by decide +kernel
theorem tq_78 : allT.getD 78 [] = tb_78 := rfl
theorem zT78_0 : zT 78 0 (tb_78_0 ++ (tb_78_1)) := zT_0 tq_78
theorem zT78_1 : zT 78 32 (tb_78_1) := zT_s zT78_0 (n := 32) (by decide +kernel) rfl
theorem m78_0 : smI 78 0 = rI0 ziA0 1 := zT_a (k := 0) (i := 0) zT78_0 rfl
theorem m78_1 : smI 78 1 = rI0 ziI1 2 := zT_a (k := 0) (i := 1) zT78_0 rfl
theorem m78_2 : smI 78 2 = rI4 (.invokevirtual 105) 5 20 60 1 := zT_a (k := 0) (i := 2) zT78_0 rfl
theorem m78_5 : smI 78 5 = rI2 (.ifCond .eq 14) 8 19 := zT_a (k := 0) (i := 5) zT78_0 rfl
theorem m78_8 : smI 78 8 = rI0 ziI2 9 := zT_a (k := 0) (i := 8) zT78_0 rfl
theorem m78_9 : smI 78 9 = rI1 ziC1 10 1 := zT_a (k := 0) (i := 9) zT78_0 rfl
theorem m78_10 : smI 78 10 = rI2 (.if_icmp .lt 9) 13 19 := zT_a (k := 0) (i := 10) zT78_0 rfl
theorem m78_13 : smI 78 13 = rI0 ziI2 14 := zT_a (k := 0) (i := 13) zT78_0 rfl
theorem m78_14 : smI 78 14 = rI1 (.bipush 60) 16 60 := zT_a (k := 0) (i := 14) zT78_0 rfl
theorem m78_16 : smI 78 16 = rI2 (.if_icmp .le 9) 19 25 := zT_a (k := 0) (i := 16) zT78_0 rfl
theorem m78_19 : smI 78 19 = rI0 ziA0 20 := zT_a (k := 0) (i := 19) zT78_0 rfl
theorem m78_20 : smI 78 20 = rI1 ziC1 21 1 := zT_a (k := 0) (i := 20) zT78_0 rfl
theorem m78_21 : smI 78 21 = rI4 (.invokevirtual 73) 24 20 55 1 := zT_a (k := 0) (i := 21) zT78_0 rfl
theorem m78_24 : smI 78 24 = rI0 .ireturn 25 := zT_a (k := 0) (i := 24) zT78_0 rfl
theorem m78_25 : smI 78 25 = rI0 ziC0 26 := zT_a (k := 0) (i := 25) zT78_0 rfl
theorem m78_26 : smI 78 26 = rI0 ziS3 27 := zT_a (k := 0) (i := 26) zT78_0 rfl
theorem m78_27 : smI 78 27 = rI0 ziI3 28 := zT_a (k := 0) (i := 27) zT78_0 rfl
theorem m78_28 : smI 78 28 = rI1 (.bipush 10) 30 10 := zT_a (k := 0) (i := 28) zT78_0 rfl
theorem m78_30 : smI 78 30 = rI2 (.if_icmp .ge 24) 33 54 := zT_a (k := 0) (i := 30) zT78_0 rfl
theorem m78_33 : smI 78 33 = rI0 ziA0 34 := zT_l (k := 32) (i := 1) zT78_1 rfl
theorem m78_34 : smI 78 34 = rI4 (.invokevirtual 183) 37 20 74 0 := zT_l (k := 32) (i := 2) zT78_1 rfl
theorem m78_37 : smI 78 37 = rI0 ziI1 38 := zT_l (k := 32) (i := 5) zT78_1 rfl
theorem m78_38 : smI 78 38 = rI0 ziI2 39 := zT_l (k := 32) (i := 6) zT78_1 rfl
theorem m78_39 : smI 78 39 = rI0 ziI3 40 := zT_l (k := 32) (i := 7) zT78_1 rfl
theorem m78_40 : smI 78 40 = rI4 (.invokevirtual 191) 43 20 43 3 := zT_l (k := 32) (i := 8) zT78_1 rfl
theorem m78_43 : smI 78 43 = rI2 (.ifCond .eq 5) 46 48 := zT_l (k := 32) (i := 11) zT78_1 rfl
theorem m78_46 : smI 78 46 = rI0 ziI3 47 := zT_l (k := 32) (i := 14) zT78_1 rfl
theorem m78_47 : smI 78 47 = rI0 .ireturn 48 := zT_l (k := 32) (i := 15) zT78_1 rfl
theorem m78_48 : smI 78 48 = rI1 (.iinc 3 1) 51 1 := zT_l (k := 32) (i := 16) zT78_1 rfl
theorem m78_51 : smI 78 51 = rI2 (.goto (-24)) 54 27 := zT_l (k := 32) (i := 19) zT78_1 rfl
theorem m78_54 : smI 78 54 = rI0 ziA0 55 := zT_l (k := 32) (i := 22) zT78_1 rfl
theorem m78_55 : smI 78 55 = rI1 ziC2 56 2 := zT_l (k := 32) (i := 23) zT78_1 rfl
theorem m78_56 : smI 78 56 = rI4 (.invokevirtual 73) 59 20 55 1 := zT_l (k := 32) (i := 24) zT78_1 rfl
theorem m78_59 : smI 78 59 = rI0 .ireturn 60 := zT_l (k := 32) (i := 27) zT78_1 rfl
theorem mx_79 : mMx 79 = 4 := by decide +kernel
theorem cn_79 : mCn 79 = 6 := by decide +kernel
theorem rt_79 : mRt 79 = (some .boolean) := by decide +kernel
theorem tq_79 : allT.getD 79 [] = tb_79 := rfl
theorem zT79_0 : zT 79 0 (tb_79_0 ++ (tb_79_1)) := zT_0 tq_79
theorem zT79_1 : zT 79 32 (tb_79_1) := zT_s zT79_0 (n := 32) (by decide +kernel) rfl
theorem m79_0 : smI 79 0 = rI0 ziC0 1 := zT_a (k := 0) (i := 0) zT79_0 rfl
theorem m79_1 : smI 79 1 = rI0 ziS3 2 := zT_a (k := 0) (i := 1) zT79_0 rfl
theorem m79_2 : smI 79 2 = rI0 ziI3 3 := zT_a (k := 0) (i := 2) zT79_0 rfl
theorem m79_3 : smI 79 3 = rI0 ziA0 4 := zT_a (k := 0) (i := 3) zT79_0 rfl
theorem m79_4 : smI 79 4 = rI2 (.getfield 10) 7 6 := zT_a (k := 0) (i := 4) zT79_0 rfl
theorem m79_7 : smI 79 7 = rI3 (.getfield 83) 10 4 10 := zT_a (k := 0) (i := 7) zT79_0 rfl
theorem m79_10 : smI 79 10 = rI2 (.if_icmp .ge 37) 13 47 := zT_a (k := 0) (i := 10) zT79_0 rfl
theorem m79_13 : smI 79 13 = rI0 ziI2 14 := zT_a (k := 0) (i := 13) zT79_0 rfl
theorem m79_14 : smI 79 14 = rI0 ziI3 15 := zT_a (k := 0) (i := 14) zT79_0 rfl
theorem m79_15 : smI 79 15 = rI3 (.invokestatic 203) 18 52 2 := zT_a (k := 0) (i := 15) zT79_0 rfl
theorem m79_18 : smI 79 18 = rI2 (.ifCond .eq 23) 21 41 := zT_a (k := 0) (i := 18) zT79_0 rfl
theorem m79_21 : smI 79 21 = rI0 ziA1 22 := zT_a (k := 0) (i := 21) zT79_0 rfl
theorem m79_22 : smI 79 22 = rI3 (.getfield 98) 25 4 5 := zT_a (k := 0) (i := 22) zT79_0 rfl
theorem m79_25 : smI 79 25 = rI0 ziI3 26 := zT_a (k := 0) (i := 25) zT79_0 rfl
theorem m79_26 : smI 79 26 = rI0 .iaload 27 := zT_a (k := 0) (i := 26) zT79_0 rfl
theorem m79_27 : smI 79 27 = rI0 ziA0 28 := zT_a (k := 0) (i := 27) zT79_0 rfl
theorem m79_28 : smI 79 28 = rI2 (.getfield 10) 31 6 := zT_a (k := 0) (i := 28) zT79_0 rfl
theorem m79_31 : smI 79 31 = rI3 (.getfield 98) 34 4 5 := zT_a (k := 0) (i := 31) zT79_0 rfl
theorem m79_34 : smI 79 34 = rI0 ziI3 35 := zT_l (k := 32) (i := 2) zT79_1 rfl
theorem m79_35 : smI 79 35 = rI0 .iaload 36 := zT_l (k := 32) (i := 3) zT79_1 rfl
theorem m79_36 : smI 79 36 = rI2 (.if_icmp .gt 5) 39 41 := zT_l (k := 32) (i := 4) zT79_1 rfl
theorem m79_39 : smI 79 39 = rI0 ziC0 40 := zT_l (k := 32) (i := 7) zT79_1 rfl
theorem m79_40 : smI 79 40 = rI0 .ireturn 41 := zT_l (k := 32) (i := 8) zT79_1 rfl
theorem m79_41 : smI 79 41 = rI1 (.iinc 3 1) 44 1 := zT_l (k := 32) (i := 9) zT79_1 rfl
theorem m79_44 : smI 79 44 = rI2 (.goto (-42)) 47 2 := zT_l (k := 32) (i := 12) zT79_1 rfl
theorem m79_47 : smI 79 47 = rI1 ziC1 48 1 := zT_l (k := 32) (i := 15) zT79_1 rfl
theorem m79_48 : smI 79 48 = rI0 .ireturn 49 := zT_l (k := 32) (i := 16) zT79_1 rfl
theorem mx_80 : mMx 80 = 5 := by decide +kernel
theorem cn_80 : mCn 80 = 6 := by decide +kernel
theorem rt_80 : mRt 80 = (some .int) := by decide +kernel
theorem tq_80 : allT.getD 80 [] = tb_80 := rfl
theorem zT80_0 : zT 80 0 (tb_80_0 ++ (tb_80_1 ++ (tb_80_2))) := zT_0 tq_80
theorem zT80_1 : zT 80 32 (tb_80_1 ++ (tb_80_2)) := zT_s zT80_0 (n := 32) (by decide +kernel) rfl
theorem zT80_2 : zT 80 64 (tb_80_2) := zT_s zT80_1 (n := 32) (by decide +kernel) rfl
theorem m80_0 : smI 80 0 = rI0 ziI1 1 := zT_a (k := 0) (i := 0) zT80_0 rfl
theorem m80_1 : smI 80 1 = rI0 ziA0 2 := zT_a (k := 0) (i := 1) zT80_0 rfl
theorem m80_2 : smI 80 2 = rI2 (.getfield 10) 5 6 := zT_a (k := 0) (i := 2) zT80_0 rfl
theorem m80_5 : smI 80 5 = rI3 (.getfield 83) 8 4 10 := zT_a (k := 0) (i := 5) zT80_0 rfl
theorem m80_8 : smI 80 8 = rI0 .iushr 9 := zT_a (k := 0) (i := 8) zT80_0 rfl
theorem m80_9 : smI 80 9 = rI2 (.ifCond .ne 14) 12 23 := zT_a (k := 0) (i := 9) zT80_0 rfl
theorem m80_12 : smI 80 12 = rI0 ziI2 13 := zT_a (k := 0) (i := 12) zT80_0 rfl
theorem m80_13 : smI 80 13 = rI1 ziC1 14 1 := zT_a (k := 0) (i := 13) zT80_0 rfl
theorem m80_14 : smI 80 14 = rI2 (.if_icmp .lt 9) 17 23 := zT_a (k := 0) (i := 14) zT80_0 rfl
theorem m80_17 : smI 80 17 = rI0 ziI2 18 := zT_a (k := 0) (i := 17) zT80_0 rfl
theorem m80_18 : smI 80 18 = rI1 (.bipush 60) 20 60 := zT_a (k := 0) (i := 18) zT80_0 rfl
theorem m80_20 : smI 80 20 = rI2 (.if_icmp .le 9) 23 29 := zT_a (k := 0) (i := 20) zT80_0 rfl
theorem m80_23 : smI 80 23 = rI0 ziA0 24 := zT_a (k := 0) (i := 23) zT80_0 rfl
theorem m80_24 : smI 80 24 = rI1 ziC1 25 1 := zT_a (k := 0) (i := 24) zT80_0 rfl
theorem m80_25 : smI 80 25 = rI4 (.invokevirtual 73) 28 20 55 1 := zT_a (k := 0) (i := 25) zT80_0 rfl
theorem m80_28 : smI 80 28 = rI0 .ireturn 29 := zT_a (k := 0) (i := 28) zT80_0 rfl
theorem m80_29 : smI 80 29 = rI0 ziC0 30 := zT_a (k := 0) (i := 29) zT80_0 rfl
theorem m80_30 : smI 80 30 = rI0 ziS3 31 := zT_a (k := 0) (i := 30) zT80_0 rfl
theorem m80_31 : smI 80 31 = rI0 ziI3 32 := zT_a (k := 0) (i := 31) zT80_0 rfl
theorem m80_32 : smI 80 32 = rI1 (.bipush 10) 34 10 := zT_a (k := 32) (i := 0) zT80_1 rfl
theorem m80_34 : smI 80 34 = rI2 (.if_icmp .ge 40) 37 74 := zT_a (k := 32) (i := 2) zT80_1 rfl
theorem m80_37 : smI 80 37 = rI0 ziA0 38 := zT_a (k := 32) (i := 5) zT80_1 rfl
theorem m80_38 : smI 80 38 = rI4 (.invokevirtual 183) 41 20 74 0 := zT_a (k := 32) (i := 6) zT80_1 rfl
theorem m80_41 : smI 80 41 = rI0 (.astore 4) 43 := zT_a (k := 32) (i := 9) zT80_1 rfl
theorem m80_43 : smI 80 43 = rI0 (.aload 4) 45 := zT_a (k := 32) (i := 11) zT80_1 rfl
theorem m80_45 : smI 80 45 = rI0 ziI1 46 := zT_a (k := 32) (i := 13) zT80_1 rfl
theorem m80_46 : smI 80 46 = rI0 ziI3 47 := zT_a (k := 32) (i := 14) zT80_1 rfl
theorem m80_47 : smI 80 47 = rI4 (.invokevirtual 195) 50 20 44 2 := zT_a (k := 32) (i := 15) zT80_1 rfl
theorem m80_50 : smI 80 50 = rI0 (.aload 4) 52 := zT_a (k := 32) (i := 18) zT80_1 rfl
theorem m80_52 : smI 80 52 = rI0 ziI2 53 := zT_a (k := 32) (i := 20) zT80_1 rfl
theorem m80_53 : smI 80 53 = rI4 (.invokevirtual 160) 56 20 41 1 := zT_a (k := 32) (i := 21) zT80_1 rfl
theorem m80_56 : smI 80 56 = rI0 ziA0 57 := zT_a (k := 32) (i := 24) zT80_1 rfl
theorem m80_57 : smI 80 57 = rI0 (.aload 4) 59 := zT_a (k := 32) (i := 25) zT80_1 rfl
theorem m80_59 : smI 80 59 = rI0 ziI1 60 := zT_a (k := 32) (i := 27) zT80_1 rfl
theorem m80_60 : smI 80 60 = rI4 (.invokevirtual 199) 63 20 79 2 := zT_a (k := 32) (i := 28) zT80_1 rfl
theorem m80_63 : smI 80 63 = rI2 (.ifCond .eq 5) 66 68 := zT_a (k := 32) (i := 31) zT80_1 rfl
theorem m80_66 : smI 80 66 = rI0 ziI3 67 := zT_l (k := 64) (i := 2) zT80_2 rfl
theorem m80_67 : smI 80 67 = rI0 .ireturn 68 := zT_l (k := 64) (i := 3) zT80_2 rfl
theorem m80_68 : smI 80 68 = rI1 (.iinc 3 1) 71 1 := zT_l (k := 64) (i := 4) zT80_2 rfl
theorem m80_71 : smI 80 71 = rI2 (.goto (-40)) 74 31 := zT_l (k := 64) (i := 7) zT80_2 rfl
theorem m80_74 : smI 80 74 = rI0 ziA0 75 := zT_l (k := 64) (i := 10) zT80_2 rfl
theorem m80_75 : smI 80 75 = rI1 ziC2 76 2 := zT_l (k := 64) (i := 11) zT80_2 rfl
theorem m80_76 : smI 80 76 = rI4 (.invokevirtual 73) 79 20 55 1 := zT_l (k := 64) (i := 12) zT80_2 rfl
theorem m80_79 : smI 80 79 = rI0 .ireturn 80 := zT_l (k := 64) (i := 15) zT80_2 rfl
theorem mx_81 : mMx 81 = 5 := by decide +kernel
theorem cn_81 : mCn 81 = 6 := by decide +kernel
theorem rt_81 : mRt 81 = (some .int) := by decide +kernel
theorem tq_81 : allT.getD 81 [] = tb_81 := rfl
theorem zT81_0 : zT 81 0 (tb_81_0 ++ (tb_81_1)) := zT_0 tq_81
theorem zT81_1 : zT 81 32 (tb_81_1) := zT_s zT81_0 (n := 32) (by decide +kernel) rfl
theorem m81_0 : smI 81 0 = rI0 ziA0 1 := zT_a (k := 0) (i := 0) zT81_0 rfl
theorem m81_1 : smI 81 1 = rI4 (.invokevirtual 183) 4 20 74 0 := zT_a (k := 0) (i := 1) zT81_0 rfl
theorem m81_4 : smI 81 4 = rI0 (.astore_n 3) 5 := zT_a (k := 0) (i := 4) zT81_0 rfl
theorem m81_5 : smI 81 5 = rI0 ziA3 6 := zT_a (k := 0) (i := 5) zT81_0 rfl
theorem m81_6 : smI 81 6 = rI0 ziI2 7 := zT_a (k := 0) (i := 6) zT81_0 rfl
theorem m81_7 : smI 81 7 = rI3 (.putfield 80) 10 4 8 := zT_a (k := 0) (i := 7) zT81_0 rfl
theorem m81_10 : smI 81 10 = rI0 ziC0 11 := zT_a (k := 0) (i := 10) zT81_0 rfl
theorem m81_11 : smI 81 11 = rI0 (.istore 4) 13 := zT_a (k := 0) (i := 11) zT81_0 rfl
theorem m81_13 : smI 81 13 = rI0 (.iload 4) 15 := zT_a (k := 0) (i := 13) zT81_0 rfl
theorem m81_15 : smI 81 15 = rI0 ziA1 16 := zT_a (k := 0) (i := 15) zT81_0 rfl
theorem m81_16 : smI 81 16 = rI3 (.getfield 213) 19 3 1 := zT_a (k := 0) (i := 16) zT81_0 rfl
theorem m81_19 : smI 81 19 = rI2 (.if_icmp .ge 25) 22 44 := zT_a (k := 0) (i := 19) zT81_0 rfl
theorem m81_22 : smI 81 22 = rI0 ziA1 23 := zT_a (k := 0) (i := 22) zT81_0 rfl
theorem m81_23 : smI 81 23 = rI0 (.iload 4) 25 := zT_a (k := 0) (i := 23) zT81_0 rfl
theorem m81_25 : smI 81 25 = rI0 ziA3 26 := zT_a (k := 0) (i := 25) zT81_0 rfl
theorem m81_26 : smI 81 26 = rI4 (.invokevirtual 171) 29 20 40 0 := zT_a (k := 0) (i := 26) zT81_0 rfl
theorem m81_29 : smI 81 29 = rI4 (.invokevirtual 216) 32 20 29 2 := zT_a (k := 0) (i := 29) zT81_0 rfl
theorem m81_32 : smI 81 32 = rI2 (.ifCond .ne 6) 35 38 := zT_l (k := 32) (i := 0) zT81_1 rfl
theorem m81_35 : smI 81 35 = rI0 (.iload 4) 37 := zT_l (k := 32) (i := 3) zT81_1 rfl
theorem m81_37 : smI 81 37 = rI0 .ireturn 38 := zT_l (k := 32) (i := 5) zT81_1 rfl
theorem m81_38 : smI 81 38 = rI1 (.iinc 4 1) 41 1 := zT_l (k := 32) (i := 6) zT81_1 rfl
theorem m81_41 : smI 81 41 = rI2 (.goto (-28)) 44 13 := zT_l (k := 32) (i := 9) zT81_1 rfl
theorem m81_44 : smI 81 44 = rI0 ziA1 45 := zT_l (k := 32) (i := 12) zT81_1 rfl
theorem m81_45 : smI 81 45 = rI3 (.getfield 213) 48 3 1 := zT_l (k := 32) (i := 13) zT81_1 rfl
theorem m81_48 : smI 81 48 = rI0 .ireturn 49 := zT_l (k := 32) (i := 16) zT81_1 rfl
theorem mx_82 : mMx 82 = 6 := by decide +kernel
theorem cn_82 : mCn 82 = 6 := by decide +kernel
theorem rt_82 : mRt 82 = (some .int) := by decide +kernel
theorem tq_82 : allT.getD 82 [] = tb_82 := rfl
theorem zT82_0 : zT 82 0 (tb_82_0 ++ (tb_82_1 ++ (tb_82_2 ++ (tb_82_3)))) := zT_0 tq_82
theorem zT82_1 : zT 82 32 (tb_82_1 ++ (tb_82_2 ++ (tb_82_3))) := zT_s zT82_0 (n := 32) (by decide +kernel) rfl
theorem zT82_2 : zT 82 64 (tb_82_2 ++ (tb_82_3)) := zT_s zT82_1 (n := 32) (by decide +kernel) rfl
theorem zT82_3 : zT 82 96 (tb_82_3) := zT_s zT82_2 (n := 32) (by decide +kernel) rfl
theorem m82_0 : smI 82 0 = rI0 ziI1 1 := zT_a (k := 0) (i := 0) zT82_0 rfl
theorem m82_1 : smI 82 1 = rI1 ziC3 2 3 := zT_a (k := 0) (i := 1) zT82_0 rfl
theorem m82_2 : smI 82 2 = rI3 (.invokestatic 69) 5 54 2 := zT_a (k := 0) (i := 2) zT82_0 rfl
theorem m82_5 : smI 82 5 = rI2 (.ifCond .eq 11) 8 16 := zT_a (k := 0) (i := 5) zT82_0 rfl
theorem m82_8 : smI 82 8 = rI0 ziI2 9 := zT_a (k := 0) (i := 8) zT82_0 rfl
theorem m82_9 : smI 82 9 = rI1 ziC1 10 1 := zT_a (k := 0) (i := 9) zT82_0 rfl
theorem m82_10 : smI 82 10 = rI3 (.invokestatic 69) 13 54 2 := zT_a (k := 0) (i := 10) zT82_0 rfl
theorem m82_13 : smI 82 13 = rI2 (.ifCond .ne 9) 16 22 := zT_a (k := 0) (i := 13) zT82_0 rfl
theorem m82_16 : smI 82 16 = rI0 ziA0 17 := zT_a (k := 0) (i := 16) zT82_0 rfl
theorem m82_17 : smI 82 17 = rI1 ziC1 18 1 := zT_a (k := 0) (i := 17) zT82_0 rfl
theorem m82_18 : smI 82 18 = rI4 (.invokevirtual 73) 21 20 55 1 := zT_a (k := 0) (i := 18) zT82_0 rfl
theorem m82_21 : smI 82 21 = rI0 .ireturn 22 := zT_a (k := 0) (i := 21) zT82_0 rfl
theorem m82_22 : smI 82 22 = rI0 ziA0 23 := zT_a (k := 0) (i := 22) zT82_0 rfl
theorem m82_23 : smI 82 23 = rI3 (.getfield 62) 26 6 9 := zT_a (k := 0) (i := 23) zT82_0 rfl
theorem m82_26 : smI 82 26 = rI0 ziI1 27 := zT_a (k := 0) (i := 26) zT82_0 rfl
theorem m82_27 : smI 82 27 = rI0 .aaload 28 := zT_a (k := 0) (i := 27) zT82_0 rfl
theorem m82_28 : smI 82 28 = rI0 (.astore_n 3) 29 := zT_a (k := 0) (i := 28) zT82_0 rfl
theorem m82_29 : smI 82 29 = rI0 ziA3 30 := zT_a (k := 0) (i := 29) zT82_0 rfl
theorem m82_30 : smI 82 30 = rI2 (.getfield 206) 33 3 := zT_a (k := 0) (i := 30) zT82_0 rfl
theorem m82_33 : smI 82 33 = rI2 (.ifCond .ne 9) 36 42 := zT_a (k := 32) (i := 1) zT82_1 rfl
theorem m82_36 : smI 82 36 = rI0 ziA0 37 := zT_a (k := 32) (i := 4) zT82_1 rfl
theorem m82_37 : smI 82 37 = rI1 ziC2 38 2 := zT_a (k := 32) (i := 5) zT82_1 rfl
theorem m82_38 : smI 82 38 = rI4 (.invokevirtual 73) 41 20 55 1 := zT_a (k := 32) (i := 6) zT82_1 rfl
theorem m82_41 : smI 82 41 = rI0 .ireturn 42 := zT_a (k := 32) (i := 9) zT82_1 rfl
theorem m82_42 : smI 82 42 = rI0 ziI2 43 := zT_a (k := 32) (i := 10) zT82_1 rfl
theorem m82_43 : smI 82 43 = rI1 ziC1 44 1 := zT_a (k := 32) (i := 11) zT82_1 rfl
theorem m82_44 : smI 82 44 = rI2 (.if_icmp .ne 16) 47 60 := zT_a (k := 32) (i := 12) zT82_1 rfl
theorem m82_47 : smI 82 47 = rI0 ziA0 48 := zT_a (k := 32) (i := 15) zT82_1 rfl
theorem m82_48 : smI 82 48 = rI0 ziA3 49 := zT_a (k := 32) (i := 16) zT82_1 rfl
theorem m82_49 : smI 82 49 = rI0 ziA0 50 := zT_a (k := 32) (i := 17) zT82_1 rfl
theorem m82_50 : smI 82 50 = rI2 (.getfield 10) 53 6 := zT_a (k := 32) (i := 18) zT82_1 rfl
theorem m82_53 : smI 82 53 = rI3 (.getfield 80) 56 4 8 := zT_a (k := 32) (i := 21) zT82_1 rfl
theorem m82_56 : smI 82 56 = rI4 (.invokevirtual 209) 59 20 81 2 := zT_a (k := 32) (i := 24) zT82_1 rfl
theorem m82_59 : smI 82 59 = rI0 .ireturn 60 := zT_a (k := 32) (i := 27) zT82_1 rfl
theorem m82_60 : smI 82 60 = rI0 ziC0 61 := zT_a (k := 32) (i := 28) zT82_1 rfl
theorem m82_61 : smI 82 61 = rI0 (.istore 4) 63 := zT_a (k := 32) (i := 29) zT82_1 rfl
theorem m82_63 : smI 82 63 = rI1 ziC1 64 1 := zT_a (k := 32) (i := 31) zT82_1 rfl
theorem m82_64 : smI 82 64 = rI0 (.istore 5) 66 := zT_a (k := 64) (i := 0) zT82_2 rfl
theorem m82_66 : smI 82 66 = rI0 (.iload 5) 68 := zT_a (k := 64) (i := 2) zT82_2 rfl
theorem m82_68 : smI 82 68 = rI1 ziC4 69 4 := zT_a (k := 64) (i := 4) zT82_2 rfl
theorem m82_69 : smI 82 69 = rI2 (.if_icmp .gt 32) 72 101 := zT_a (k := 64) (i := 5) zT82_2 rfl
theorem m82_72 : smI 82 72 = rI0 ziA0 73 := zT_a (k := 64) (i := 8) zT82_2 rfl
theorem m82_73 : smI 82 73 = rI0 ziA3 74 := zT_a (k := 64) (i := 9) zT82_2 rfl
theorem m82_74 : smI 82 74 = rI0 (.iload 5) 76 := zT_a (k := 64) (i := 10) zT82_2 rfl
theorem m82_76 : smI 82 76 = rI4 (.invokevirtual 209) 79 20 81 2 := zT_a (k := 64) (i := 12) zT82_2 rfl
theorem m82_79 : smI 82 79 = rI0 ziA3 80 := zT_a (k := 64) (i := 15) zT82_2 rfl
theorem m82_80 : smI 82 80 = rI3 (.getfield 213) 83 3 1 := zT_a (k := 64) (i := 16) zT82_2 rfl
theorem m82_83 : smI 82 83 = rI2 (.if_icmp .ne 12) 86 95 := zT_a (k := 64) (i := 19) zT82_2 rfl
theorem m82_86 : smI 82 86 = rI0 (.iload 4) 88 := zT_a (k := 64) (i := 22) zT82_2 rfl
theorem m82_88 : smI 82 88 = rI1 ziC1 89 1 := zT_a (k := 64) (i := 24) zT82_2 rfl
theorem m82_89 : smI 82 89 = rI0 (.iload 5) 91 := zT_a (k := 64) (i := 25) zT82_2 rfl
theorem m82_91 : smI 82 91 = rI0 .ishl 92 := zT_a (k := 64) (i := 27) zT82_2 rfl
theorem m82_92 : smI 82 92 = rI0 .ior 93 := zT_a (k := 64) (i := 28) zT82_2 rfl
theorem m82_93 : smI 82 93 = rI0 (.istore 4) 95 := zT_a (k := 64) (i := 29) zT82_2 rfl
theorem m82_95 : smI 82 95 = rI1 (.iinc 5 1) 98 1 := zT_a (k := 64) (i := 31) zT82_2 rfl
theorem m82_98 : smI 82 98 = rI2 (.goto (-32)) 101 66 := zT_l (k := 96) (i := 2) zT82_3 rfl
theorem m82_101 : smI 82 101 = rI0 (.iload 4) 103 := zT_l (k := 96) (i := 5) zT82_3 rfl
theorem m82_103 : smI 82 103 = rI0 .ireturn 104 := zT_l (k := 96) (i := 7) zT82_3 rfl
theorem mx_83 : mMx 83 = 2 := by decide +kernel
theorem cn_83 : mCn 83 = 6 := by decide +kernel
theorem rt_83 : mRt 83 = (some .int) := by decide +kernel
theorem tq_83 : allT.getD 83 [] = tb_83 := rfl
theorem zT83_0 : zT 83 0 (tb_83_0 ++ (tb_83_1)) := zT_0 tq_83
theorem zT83_1 : zT 83 32 (tb_83_1) := zT_s zT83_0 (n := 32) (by decide +kernel) rfl
theorem m83_0 : smI 83 0 = rI0 ziA0 1 := zT_a (k := 0) (i := 0) zT83_0 rfl
theorem m83_1 : smI 83 1 = rI0 ziI1 2 := zT_a (k := 0) (i := 1) zT83_0 rfl
theorem m83_2 : smI 83 2 = rI4 (.invokevirtual 105) 5 20 60 1 := zT_a (k := 0) (i := 2) zT83_0 rfl
theorem m83_5 : smI 83 5 = rI2 (.ifCond .ne 9) 8 14 := zT_a (k := 0) (i := 5) zT83_0 rfl
theorem m83_8 : smI 83 8 = rI0 ziA0 9 := zT_a (k := 0) (i := 8) zT83_0 rfl
theorem m83_9 : smI 83 9 = rI1 ziC1 10 1 := zT_a (k := 0) (i := 9) zT83_0 rfl
theorem m83_10 : smI 83 10 = rI4 (.invokevirtual 73) 13 20 55 1 := zT_a (k := 0) (i := 10) zT83_0 rfl
theorem m83_13 : smI 83 13 = rI0 .ireturn 14 := zT_a (k := 0) (i := 13) zT83_0 rfl
theorem m83_14 : smI 83 14 = rI0 ziA0 15 := zT_a (k := 0) (i := 14) zT83_0 rfl
theorem m83_15 : smI 83 15 = rI2 (.getfield 10) 18 6 := zT_a (k := 0) (i := 15) zT83_0 rfl
theorem m83_18 : smI 83 18 = rI3 (.getfield 101) 21 4 6 := zT_a (k := 0) (i := 18) zT83_0 rfl
theorem m83_21 : smI 83 21 = rI0 ziI1 22 := zT_a (k := 0) (i := 21) zT83_0 rfl
theorem m83_22 : smI 83 22 = rI0 .baload 23 := zT_a (k := 0) (i := 22) zT83_0 rfl
theorem m83_23 : smI 83 23 = rI2 (.ifCond .eq 9) 26 32 := zT_a (k := 0) (i := 23) zT83_0 rfl
theorem m83_26 : smI 83 26 = rI0 ziA0 27 := zT_a (k := 0) (i := 26) zT83_0 rfl
theorem m83_27 : smI 83 27 = rI1 ziC3 28 3 := zT_a (k := 0) (i := 27) zT83_0 rfl
theorem m83_28 : smI 83 28 = rI4 (.invokevirtual 73) 31 20 55 1 := zT_a (k := 0) (i := 28) zT83_0 rfl
theorem m83_31 : smI 83 31 = rI0 .ireturn 32 := zT_a (k := 0) (i := 31) zT83_0 rfl
theorem m83_32 : smI 83 32 = rI0 ziA0 33 := zT_l (k := 32) (i := 0) zT83_1 rfl
theorem m83_33 : smI 83 33 = rI2 (.getfield 10) 36 6 := zT_l (k := 32) (i := 1) zT83_1 rfl
theorem m83_36 : smI 83 36 = rI4 (.invokevirtual 177) 39 20 36 0 := zT_l (k := 32) (i := 4) zT83_1 rfl
theorem m83_39 : smI 83 39 = rI0 ziA0 40 := zT_l (k := 32) (i := 7) zT83_1 rfl
theorem m83_40 : smI 83 40 = rI2 (.getfield 10) 43 6 := zT_l (k := 32) (i := 8) zT83_1 rfl
theorem m83_43 : smI 83 43 = rI0 ziI1 44 := zT_l (k := 32) (i := 11) zT83_1 rfl
theorem m83_44 : smI 83 44 = rI4 (.invokevirtual 219) 47 20 37 1 := zT_l (k := 32) (i := 12) zT83_1 rfl
theorem m83_47 : smI 83 47 = rI0 .ireturn 48 := zT_l (k := 32) (i := 15) zT83_1 rfl
theorem mx_84 : mMx 84 = 6 := by decide +kernel
theorem cn_84 : mCn 84 = 6 := by decide +kernel
theorem rt_84 : mRt 84 = (some .int) := by decide +kernel
theorem tq_84 : allT.getD 84 [] = tb_84 := rfl
theorem zT84_0 : zT 84 0 (tb_84_0 ++ (tb_84_1 ++ (tb_84_2 ++ (tb_84_3)))) := zT_0 tq_84
theorem zT84_1 : zT 84 32 (tb_84_1 ++ (tb_84_2 ++ (tb_84_3))) := zT_s zT84_0 (n := 32) (by decide +kernel) rfl
theorem zT84_2 : zT 84 64 (tb_84_2 ++ (tb_84_3)) := zT_s zT84_1 (n := 32) (by decide +kernel) rfl
theorem zT84_3 : zT 84 96 (tb_84_3) := zT_s zT84_2 (n := 32) (by decide +kernel) rfl
theorem m84_0 : smI 84 0 = rI0 ziA0 1 := zT_a (k := 0) (i := 0) zT84_0 rfl
theorem m84_1 : smI 84 1 = rI0 ziI1 2 := zT_a (k := 0) (i := 1) zT84_0 rfl
theorem m84_2 : smI 84 2 = rI4 (.invokevirtual 105) 5 20 60 1 := zT_a (k := 0) (i := 2) zT84_0 rfl
theorem m84_5 : smI 84 5 = rI2 (.ifCond .eq 12) 8 17 := zT_a (k := 0) (i := 5) zT84_0 rfl
theorem m84_8 : smI 84 8 = rI0 ziI2 9 := zT_a (k := 0) (i := 8) zT84_0 rfl
theorem m84_9 : smI 84 9 = rI1 (.bipush 60) 11 60 := zT_a (k := 0) (i := 9) zT84_0 rfl
theorem m84_11 : smI 84 11 = rI3 (.invokestatic 69) 14 54 2 := zT_a (k := 0) (i := 11) zT84_0 rfl
theorem m84_14 : smI 84 14 = rI2 (.ifCond .ne 9) 17 23 := zT_a (k := 0) (i := 14) zT84_0 rfl
theorem m84_17 : smI 84 17 = rI0 ziA0 18 := zT_a (k := 0) (i := 17) zT84_0 rfl
theorem m84_18 : smI 84 18 = rI1 ziC1 19 1 := zT_a (k := 0) (i := 18) zT84_0 rfl
theorem m84_19 : smI 84 19 = rI4 (.invokevirtual 73) 22 20 55 1 := zT_a (k := 0) (i := 19) zT84_0 rfl
theorem m84_22 : smI 84 22 = rI0 .ireturn 23 := zT_a (k := 0) (i := 22) zT84_0 rfl
theorem m84_23 : smI 84 23 = rI0 ziA0 24 := zT_a (k := 0) (i := 23) zT84_0 rfl
theorem m84_24 : smI 84 24 = rI4 (.invokevirtual 183) 27 20 74 0 := zT_a (k := 0) (i := 24) zT84_0 rfl
theorem m84_27 : smI 84 27 = rI0 (.astore_n 3) 28 := zT_a (k := 0) (i := 27) zT84_0 rfl
theorem m84_28 : smI 84 28 = rI0 ziA3 29 := zT_a (k := 0) (i := 28) zT84_0 rfl
theorem m84_29 : smI 84 29 = rI0 ziI2 30 := zT_a (k := 0) (i := 29) zT84_0 rfl
theorem m84_30 : smI 84 30 = rI4 (.invokevirtual 160) 33 20 41 1 := zT_a (k := 0) (i := 30) zT84_0 rfl
theorem m84_33 : smI 84 33 = rI0 ziA0 34 := zT_a (k := 32) (i := 1) zT84_1 rfl
theorem m84_34 : smI 84 34 = rI3 (.getfield 19) 37 6 2 := zT_a (k := 32) (i := 2) zT84_1 rfl
theorem m84_37 : smI 84 37 = rI0 ziA0 38 := zT_a (k := 32) (i := 5) zT84_1 rfl
theorem m84_38 : smI 84 38 = rI2 (.getfield 10) 41 6 := zT_a (k := 32) (i := 6) zT84_1 rfl
theorem m84_41 : smI 84 41 = rI4 (.invokevirtual 222) 44 20 31 1 := zT_a (k := 32) (i := 9) zT84_1 rfl
theorem m84_44 : smI 84 44 = rI0 ziA0 45 := zT_a (k := 32) (i := 12) zT84_1 rfl
theorem m84_45 : smI 84 45 = rI3 (.getfield 19) 48 6 2 := zT_a (k := 32) (i := 13) zT84_1 rfl
theorem m84_48 : smI 84 48 = rI3 (.getfield 95) 51 4 4 := zT_a (k := 32) (i := 16) zT84_1 rfl
theorem m84_51 : smI 84 51 = rI0 ziI1 52 := zT_a (k := 32) (i := 19) zT84_1 rfl
theorem m84_52 : smI 84 52 = rI0 ziC0 53 := zT_a (k := 32) (i := 20) zT84_1 rfl
theorem m84_53 : smI 84 53 = rI0 .iastore 54 := zT_a (k := 32) (i := 21) zT84_1 rfl
theorem m84_54 : smI 84 54 = rI0 ziA0 55 := zT_a (k := 32) (i := 22) zT84_1 rfl
theorem m84_55 : smI 84 55 = rI3 (.getfield 19) 58 6 2 := zT_a (k := 32) (i := 23) zT84_1 rfl
theorem m84_58 : smI 84 58 = rI0 ziI2 59 := zT_a (k := 32) (i := 26) zT84_1 rfl
theorem m84_59 : smI 84 59 = rI4 (.invokevirtual 160) 62 20 41 1 := zT_a (k := 32) (i := 27) zT84_1 rfl
theorem m84_62 : smI 84 62 = rI0 ziC0 63 := zT_a (k := 32) (i := 30) zT84_1 rfl
theorem m84_63 : smI 84 63 = rI0 (.istore 4) 65 := zT_a (k := 32) (i := 31) zT84_1 rfl
theorem m84_65 : smI 84 65 = rI0 ziC0 66 := zT_a (k := 64) (i := 1) zT84_2 rfl
theorem m84_66 : smI 84 66 = rI0 (.istore 5) 68 := zT_a (k := 64) (i := 2) zT84_2 rfl
theorem m84_68 : smI 84 68 = rI0 (.iload 5) 70 := zT_a (k := 64) (i := 4) zT84_2 rfl
theorem m84_70 : smI 84 70 = rI0 ziA0 71 := zT_a (k := 64) (i := 6) zT84_2 rfl
theorem m84_71 : smI 84 71 = rI2 (.getfield 10) 74 6 := zT_a (k := 64) (i := 7) zT84_2 rfl
theorem m84_74 : smI 84 74 = rI3 (.getfield 83) 77 4 10 := zT_a (k := 64) (i := 10) zT84_2 rfl
theorem m84_77 : smI 84 77 = rI2 (.if_icmp .ge 44) 80 121 := zT_a (k := 64) (i := 13) zT84_2 rfl
theorem m84_80 : smI 84 80 = rI0 (.iload 5) 82 := zT_a (k := 64) (i := 16) zT84_2 rfl
theorem m84_82 : smI 84 82 = rI0 ziI1 83 := zT_a (k := 64) (i := 18) zT84_2 rfl
theorem m84_83 : smI 84 83 = rI2 (.if_icmp .eq 32) 86 115 := zT_a (k := 64) (i := 19) zT84_2 rfl
theorem m84_86 : smI 84 86 = rI0 ziA0 87 := zT_a (k := 64) (i := 22) zT84_2 rfl
theorem m84_87 : smI 84 87 = rI3 (.getfield 19) 90 6 2 := zT_a (k := 64) (i := 23) zT84_2 rfl
theorem m84_90 : smI 84 90 = rI3 (.getfield 98) 93 4 5 := zT_a (k := 64) (i := 26) zT84_2 rfl
theorem m84_93 : smI 84 93 = rI0 (.iload 5) 95 := zT_a (k := 64) (i := 29) zT84_2 rfl
theorem m84_95 : smI 84 95 = rI0 .iaload 96 := zT_a (k := 64) (i := 31) zT84_2 rfl
theorem m84_96 : smI 84 96 = rI0 ziA3 97 := zT_l (k := 96) (i := 0) zT84_3 rfl
theorem m84_97 : smI 84 97 = rI3 (.getfield 98) 100 4 5 := zT_l (k := 96) (i := 1) zT84_3 rfl
theorem m84_100 : smI 84 100 = rI0 (.iload 5) 102 := zT_l (k := 96) (i := 4) zT84_3 rfl
theorem m84_102 : smI 84 102 = rI0 .iaload 103 := zT_l (k := 96) (i := 6) zT84_3 rfl
theorem m84_103 : smI 84 103 = rI2 (.if_icmp .le 12) 106 115 := zT_l (k := 96) (i := 7) zT84_3 rfl
theorem m84_106 : smI 84 106 = rI0 (.iload 4) 108 := zT_l (k := 96) (i := 10) zT84_3 rfl
theorem m84_108 : smI 84 108 = rI1 ziC1 109 1 := zT_l (k := 96) (i := 12) zT84_3 rfl
theorem m84_109 : smI 84 109 = rI0 (.iload 5) 111 := zT_l (k := 96) (i := 13) zT84_3 rfl
theorem m84_111 : smI 84 111 = rI0 .ishl 112 := zT_l (k := 96) (i := 15) zT84_3 rfl
theorem m84_112 : smI 84 112 = rI0 .ior 113 := zT_l (k := 96) (i := 16) zT84_3 rfl
theorem m84_113 : smI 84 113 = rI0 (.istore 4) 115 := zT_l (k := 96) (i := 17) zT84_3 rfl
theorem m84_115 : smI 84 115 = rI1 (.iinc 5 1) 118 1 := zT_l (k := 96) (i := 19) zT84_3 rfl
theorem m84_118 : smI 84 118 = rI2 (.goto (-50)) 121 68 := zT_l (k := 96) (i := 22) zT84_3 rfl
theorem m84_121 : smI 84 121 = rI0 (.iload 4) 123 := zT_l (k := 96) (i := 25) zT84_3 rfl
theorem m84_123 : smI 84 123 = rI0 .ireturn 124 := zT_l (k := 96) (i := 27) zT84_3 rfl
theorem mx_85 : mMx 85 = 6 := by decide +kernel
theorem cn_85 : mCn 85 = 6 := by decide +kernel
theorem rt_85 : mRt 85 = (some .int) := by decide +kernel
theorem tq_85 : allT.getD 85 [] = tb_85 := rfl
theorem zT85_0 : zT 85 0 (tb_85_0 ++ (tb_85_1 ++ (tb_85_2))) := zT_0 tq_85
theorem zT85_1 : zT 85 32 (tb_85_1 ++ (tb_85_2)) := zT_s zT85_0 (n := 32) (by decide +kernel) rfl
theorem zT85_2 : zT 85 64 (tb_85_2) := zT_s zT85_1 (n := 32) (by decide +kernel) rfl
theorem m85_0 : smI 85 0 = rI0 ziA0 1 := zT_a (k := 0) (i := 0) zT85_0 rfl
theorem m85_1 : smI 85 1 = rI0 ziI1 2 := zT_a (k := 0) (i := 1) zT85_0 rfl
theorem m85_2 : smI 85 2 = rI4 (.invokevirtual 105) 5 20 60 1 := zT_a (k := 0) (i := 2) zT85_0 rfl
theorem m85_5 : smI 85 5 = rI2 (.ifCond .eq 12) 8 17 := zT_a (k := 0) (i := 5) zT85_0 rfl
theorem m85_8 : smI 85 8 = rI0 ziI2 9 := zT_a (k := 0) (i := 8) zT85_0 rfl
theorem m85_9 : smI 85 9 = rI1 (.bipush 60) 11 60 := zT_a (k := 0) (i := 9) zT85_0 rfl
theorem m85_11 : smI 85 11 = rI3 (.invokestatic 69) 14 54 2 := zT_a (k := 0) (i := 11) zT85_0 rfl
theorem m85_14 : smI 85 14 = rI2 (.ifCond .ne 9) 17 23 := zT_a (k := 0) (i := 14) zT85_0 rfl
theorem m85_17 : smI 85 17 = rI0 ziA0 18 := zT_a (k := 0) (i := 17) zT85_0 rfl
theorem m85_18 : smI 85 18 = rI1 ziC1 19 1 := zT_a (k := 0) (i := 18) zT85_0 rfl
theorem m85_19 : smI 85 19 = rI4 (.invokevirtual 73) 22 20 55 1 := zT_a (k := 0) (i := 19) zT85_0 rfl
theorem m85_22 : smI 85 22 = rI0 .ireturn 23 := zT_a (k := 0) (i := 22) zT85_0 rfl
theorem m85_23 : smI 85 23 = rI0 ziA0 24 := zT_a (k := 0) (i := 23) zT85_0 rfl
theorem m85_24 : smI 85 24 = rI4 (.invokevirtual 183) 27 20 74 0 := zT_a (k := 0) (i := 24) zT85_0 rfl
theorem m85_27 : smI 85 27 = rI0 (.astore_n 3) 28 := zT_a (k := 0) (i := 27) zT85_0 rfl
theorem m85_28 : smI 85 28 = rI0 ziC0 29 := zT_a (k := 0) (i := 28) zT85_0 rfl
theorem m85_29 : smI 85 29 = rI0 (.istore 4) 31 := zT_a (k := 0) (i := 29) zT85_0 rfl
theorem m85_31 : smI 85 31 = rI0 ziC0 32 := zT_a (k := 0) (i := 31) zT85_0 rfl
theorem m85_32 : smI 85 32 = rI0 (.istore 5) 34 := zT_a (k := 32) (i := 0) zT85_1 rfl
theorem m85_34 : smI 85 34 = rI0 (.iload 5) 36 := zT_a (k := 32) (i := 2) zT85_1 rfl
theorem m85_36 : smI 85 36 = rI0 ziI2 37 := zT_a (k := 32) (i := 4) zT85_1 rfl
theorem m85_37 : smI 85 37 = rI2 (.if_icmp .ge 28) 40 65 := zT_a (k := 32) (i := 5) zT85_1 rfl
theorem m85_40 : smI 85 40 = rI0 ziA3 41 := zT_a (k := 32) (i := 8) zT85_1 rfl
theorem m85_41 : smI 85 41 = rI4 (.invokevirtual 171) 44 20 40 0 := zT_a (k := 32) (i := 9) zT85_1 rfl
theorem m85_44 : smI 85 44 = rI0 .pop 45 := zT_a (k := 32) (i := 12) zT85_1 rfl
theorem m85_45 : smI 85 45 = rI0 ziA3 46 := zT_a (k := 32) (i := 13) zT85_1 rfl
theorem m85_46 : smI 85 46 = rI3 (.getfield 92) 49 4 3 := zT_a (k := 32) (i := 14) zT85_1 rfl
theorem m85_49 : smI 85 49 = rI0 ziI1 50 := zT_a (k := 32) (i := 17) zT85_1 rfl
theorem m85_50 : smI 85 50 = rI0 .iaload 51 := zT_a (k := 32) (i := 18) zT85_1 rfl
theorem m85_51 : smI 85 51 = rI1 (.bipush 50) 53 50 := zT_a (k := 32) (i := 19) zT85_1 rfl
theorem m85_53 : smI 85 53 = rI2 (.if_icmp .lt 6) 56 59 := zT_a (k := 32) (i := 21) zT85_1 rfl
theorem m85_56 : smI 85 56 = rI1 (.iinc 4 1) 59 1 := zT_a (k := 32) (i := 24) zT85_1 rfl
theorem m85_59 : smI 85 59 = rI1 (.iinc 5 1) 62 1 := zT_a (k := 32) (i := 27) zT85_1 rfl
theorem m85_62 : smI 85 62 = rI2 (.goto (-28)) 65 34 := zT_a (k := 32) (i := 30) zT85_1 rfl
theorem m85_65 : smI 85 65 = rI0 (.iload 4) 67 := zT_l (k := 64) (i := 1) zT85_2 rfl
theorem m85_67 : smI 85 67 = rI0 .ireturn 68 := zT_l (k := 64) (i := 3) zT85_2 rfl
theorem mx_86 : mMx 86 = 5 := by decide +kernel
theorem cn_86 : mCn 86 = 6 := by decide +kernel
theorem rt_86 : mRt 86 = (some .int) := by decide +kernel
theorem tq_86 : allT.getD 86 [] = tb_86 := rfl
theorem zT86_0 : zT 86 0 (tb_86_0 ++ (tb_86_1 ++ (tb_86_2))) := zT_0 tq_86
theorem zT86_1 : zT 86 32 (tb_86_1 ++ (tb_86_2)) := zT_s zT86_0 (n := 32) (by decide +kernel) rfl
theorem zT86_2 : zT 86 64 (tb_86_2) := zT_s zT86_1 (n := 32) (by decide +kernel) rfl
theorem m86_0 : smI 86 0 = rI0 ziI1 1 := zT_a (k := 0) (i := 0) zT86_0 rfl
theorem m86_1 : smI 86 1 = rI1 ziC1 2 1 := zT_a (k := 0) (i := 1) zT86_0 rfl
theorem m86_2 : smI 86 2 = rI2 (.if_icmp .lt 18) 5 20 := zT_a (k := 0) (i := 2) zT86_0 rfl
theorem m86_5 : smI 86 5 = rI0 ziI1 6 := zT_a (k := 0) (i := 5) zT86_0 rfl
theorem m86_6 : smI 86 6 = rI1 (.bipush 99) 8 99 := zT_a (k := 0) (i := 6) zT86_0 rfl
theorem m86_8 : smI 86 8 = rI2 (.if_icmp .gt 12) 11 20 := zT_a (k := 0) (i := 8) zT86_0 rfl
theorem m86_11 : smI 86 11 = rI0 ziI2 12 := zT_a (k := 0) (i := 11) zT86_0 rfl
theorem m86_12 : smI 86 12 = rI1 (.bipush 60) 14 60 := zT_a (k := 0) (i := 12) zT86_0 rfl
theorem m86_14 : smI 86 14 = rI3 (.invokestatic 69) 17 54 2 := zT_a (k := 0) (i := 14) zT86_0 rfl
theorem m86_17 : smI 86 17 = rI2 (.ifCond .ne 9) 20 26 := zT_a (k := 0) (i := 17) zT86_0 rfl
theorem m86_20 : smI 86 20 = rI0 ziA0 21 := zT_a (k := 0) (i := 20) zT86_0 rfl
theorem m86_21 : smI 86 21 = rI1 ziC1 22 1 := zT_a (k := 0) (i := 21) zT86_0 rfl
theorem m86_22 : smI 86 22 = rI4 (.invokevirtual 73) 25 20 55 1 := zT_a (k := 0) (i := 22) zT86_0 rfl
theorem m86_25 : smI 86 25 = rI0 .ireturn 26 := zT_a (k := 0) (i := 25) zT86_0 rfl
theorem m86_26 : smI 86 26 = rI1 ziC1 27 1 := zT_a (k := 0) (i := 26) zT86_0 rfl
theorem m86_27 : smI 86 27 = rI0 ziS3 28 := zT_a (k := 0) (i := 27) zT86_0 rfl
theorem m86_28 : smI 86 28 = rI0 ziI3 29 := zT_a (k := 0) (i := 28) zT86_0 rfl
theorem m86_29 : smI 86 29 = rI1 ziC4 30 4 := zT_a (k := 0) (i := 29) zT86_0 rfl
theorem m86_30 : smI 86 30 = rI2 (.if_icmp .gt 38) 33 68 := zT_a (k := 0) (i := 30) zT86_0 rfl
theorem m86_33 : smI 86 33 = rI0 ziA0 34 := zT_a (k := 32) (i := 1) zT86_1 rfl
theorem m86_34 : smI 86 34 = rI4 (.invokevirtual 183) 37 20 74 0 := zT_a (k := 32) (i := 2) zT86_1 rfl
theorem m86_37 : smI 86 37 = rI0 (.astore 4) 39 := zT_a (k := 32) (i := 5) zT86_1 rfl
theorem m86_39 : smI 86 39 = rI0 (.aload 4) 41 := zT_a (k := 32) (i := 7) zT86_1 rfl
theorem m86_41 : smI 86 41 = rI0 ziI3 42 := zT_a (k := 32) (i := 9) zT86_1 rfl
theorem m86_42 : smI 86 42 = rI3 (.putfield 80) 45 4 8 := zT_a (k := 32) (i := 10) zT86_1 rfl
theorem m86_45 : smI 86 45 = rI0 (.aload 4) 47 := zT_a (k := 32) (i := 13) zT86_1 rfl
theorem m86_47 : smI 86 47 = rI0 ziI2 48 := zT_a (k := 32) (i := 15) zT86_1 rfl
theorem m86_48 : smI 86 48 = rI4 (.invokevirtual 160) 51 20 41 1 := zT_a (k := 32) (i := 16) zT86_1 rfl
theorem m86_51 : smI 86 51 = rI0 (.aload 4) 53 := zT_a (k := 32) (i := 19) zT86_1 rfl
theorem m86_53 : smI 86 53 = rI4 (.invokevirtual 226) 56 20 46 0 := zT_a (k := 32) (i := 21) zT86_1 rfl
theorem m86_56 : smI 86 56 = rI0 ziI1 57 := zT_a (k := 32) (i := 24) zT86_1 rfl
theorem m86_57 : smI 86 57 = rI2 (.if_icmp .ge 5) 60 62 := zT_a (k := 32) (i := 25) zT86_1 rfl
theorem m86_60 : smI 86 60 = rI0 ziI3 61 := zT_a (k := 32) (i := 28) zT86_1 rfl
theorem m86_61 : smI 86 61 = rI0 .ireturn 62 := zT_a (k := 32) (i := 29) zT86_1 rfl
theorem m86_62 : smI 86 62 = rI1 (.iinc 3 1) 65 1 := zT_a (k := 32) (i := 30) zT86_1 rfl
theorem m86_65 : smI 86 65 = rI2 (.goto (-37)) 68 28 := zT_l (k := 64) (i := 1) zT86_2 rfl
theorem m86_68 : smI 86 68 = rI0 ziA0 69 := zT_l (k := 64) (i := 4) zT86_2 rfl
theorem m86_69 : smI 86 69 = rI1 ziC2 70 2 := zT_l (k := 64) (i := 5) zT86_2 rfl
theorem m86_70 : smI 86 70 = rI4 (.invokevirtual 73) 73 20 55 1 := zT_l (k := 64) (i := 6) zT86_2 rfl
theorem m86_73 : smI 86 73 = rI0 .ireturn 74 := zT_l (k := 64) (i := 9) zT86_2 rfl
theorem mx_87 : mMx 87 = 3 := by decide +kernel
theorem cn_87 : mCn 87 = 6 := by decide +kernel
theorem rt_87 : mRt 87 = (some .int) := by decide +kernel
theorem tq_87 : allT.getD 87 [] = tb_87 := rfl
theorem zT87_0 : zT 87 0 (tb_87_0 ++ (tb_87_1)) := zT_0 tq_87
theorem zT87_1 : zT 87 32 (tb_87_1) := zT_s zT87_0 (n := 32) (by decide +kernel) rfl
theorem m87_0 : smI 87 0 = rI0 ziI1 1 := zT_a (k := 0) (i := 0) zT87_0 rfl
theorem m87_1 : smI 87 1 = rI1 (.bipush 60) 3 60 := zT_a (k := 0) (i := 1) zT87_0 rfl
theorem m87_3 : smI 87 3 = rI3 (.invokestatic 69) 6 54 2 := zT_a (k := 0) (i := 3) zT87_0 rfl
theorem m87_6 : smI 87 6 = rI2 (.ifCond .ne 9) 9 15 := zT_a (k := 0) (i := 6) zT87_0 rfl
theorem m87_9 : smI 87 9 = rI0 ziA0 10 := zT_a (k := 0) (i := 9) zT87_0 rfl
theorem m87_10 : smI 87 10 = rI1 ziC1 11 1 := zT_a (k := 0) (i := 10) zT87_0 rfl
theorem m87_11 : smI 87 11 = rI4 (.invokevirtual 73) 14 20 55 1 := zT_a (k := 0) (i := 11) zT87_0 rfl
theorem m87_14 : smI 87 14 = rI0 .ireturn 15 := zT_a (k := 0) (i := 14) zT87_0 rfl
theorem m87_15 : smI 87 15 = rI0 ziA0 16 := zT_a (k := 0) (i := 15) zT87_0 rfl
theorem m87_16 : smI 87 16 = rI4 (.invokevirtual 183) 19 20 74 0 := zT_a (k := 0) (i := 16) zT87_0 rfl
theorem m87_19 : smI 87 19 = rI0 (.astore_n 2) 20 := zT_a (k := 0) (i := 19) zT87_0 rfl
theorem m87_20 : smI 87 20 = rI0 ziA2 21 := zT_a (k := 0) (i := 20) zT87_0 rfl
theorem m87_21 : smI 87 21 = rI0 ziI1 22 := zT_a (k := 0) (i := 21) zT87_0 rfl
theorem m87_22 : smI 87 22 = rI4 (.invokevirtual 160) 25 20 41 1 := zT_a (k := 0) (i := 22) zT87_0 rfl
theorem m87_25 : smI 87 25 = rI0 ziA2 26 := zT_a (k := 0) (i := 25) zT87_0 rfl
theorem m87_26 : smI 87 26 = rI4 (.invokevirtual 229) 29 20 47 0 := zT_a (k := 0) (i := 26) zT87_0 rfl
theorem m87_29 : smI 87 29 = rI0 ziA0 30 := zT_a (k := 0) (i := 29) zT87_0 rfl
theorem m87_30 : smI 87 30 = rI2 (.getfield 10) 33 6 := zT_a (k := 0) (i := 30) zT87_0 rfl
theorem m87_33 : smI 87 33 = rI4 (.invokevirtual 229) 36 20 47 0 := zT_l (k := 32) (i := 1) zT87_1 rfl
theorem m87_36 : smI 87 36 = rI0 .isub 37 := zT_l (k := 32) (i := 4) zT87_1 rfl
theorem m87_37 : smI 87 37 = rI0 .ireturn 38 := zT_l (k := 32) (i := 5) zT87_1 rfl
theorem mx_88 : mMx 88 = 3 := by decide +kernel
theorem cn_88 : mCn 88 = 6 := by decide +kernel
theorem rt_88 : mRt 88 = (some .int) := by decide +kernel
theorem tq_88 : allT.getD 88 [] = tb_88 := rfl
theorem m88_0 : smI 88 0 = rI0 ziI1 1 := sm_t tq_88 rfl
theorem m88_1 : smI 88 1 = rI0 ziS2 2 := sm_t tq_88 rfl
theorem m88_2 : smI 88 2 = rI0 ziI2 3 := sm_t tq_88 rfl
theorem m88_3 : smI 88 3 = rI1 ziC1 4 1 := sm_t tq_88 rfl
theorem m88_4 : smI 88 4 = rI2 (.if_icmp .le 23) 7 27 := sm_t tq_88 rfl
theorem m88_7 : smI 88 7 = rI0 ziI0 8 := sm_t tq_88 rfl
theorem m88_8 : smI 88 8 = rI0 ziI2 9 := sm_t tq_88 rfl
theorem m88_9 : smI 88 9 = rI0 .irem 10 := sm_t tq_88 rfl
theorem m88_10 : smI 88 10 = rI2 (.ifCond .ne 11) 13 21 := sm_t tq_88 rfl
theorem m88_13 : smI 88 13 = rI0 ziI1 14 := sm_t tq_88 rfl
theorem m88_14 : smI 88 14 = rI0 ziI2 15 := sm_t tq_88 rfl
theorem m88_15 : smI 88 15 = rI0 .irem 16 := sm_t tq_88 rfl
theorem m88_16 : smI 88 16 = rI2 (.ifCond .ne 5) 19 21 := sm_t tq_88 rfl
theorem m88_19 : smI 88 19 = rI0 ziI2 20 := sm_t tq_88 rfl
theorem m88_20 : smI 88 20 = rI0 .ireturn 21 := sm_t tq_88 rfl
theorem m88_21 : smI 88 21 = rI1 (.iinc 2 (-1)) 24 (-1) := sm_t tq_88 rfl
theorem m88_24 : smI 88 24 = rI2 (.goto (-22)) 27 2 := sm_t tq_88 rfl
theorem m88_27 : smI 88 27 = rI1 ziC1 28 1 := sm_t tq_88 rfl
theorem m88_28 : smI 88 28 = rI0 .ireturn 29 := sm_t tq_88 rfl
theorem mx_89 : mMx 89 = 6 := by decide +kernel
theorem cn_89 : mCn 89 = 6 := by decide +kernel
theorem rt_89 : mRt 89 = (some .int) := by decide +kernel
theorem tq_89 : allT.getD 89 [] = tb_89 := rfl
theorem zT89_0 : zT 89 0 (tb_89_0 ++ (tb_89_1 ++ (tb_89_2))) := zT_0 tq_89
theorem zT89_1 : zT 89 32 (tb_89_1 ++ (tb_89_2)) := zT_s zT89_0 (n := 32) (by decide +kernel) rfl
theorem zT89_2 : zT 89 64 (tb_89_2) := zT_s zT89_1 (n := 32) (by decide +kernel) rfl
theorem m89_0 : smI 89 0 = rI0 ziA0 1 := zT_a (k := 0) (i := 0) zT89_0 rfl
theorem m89_1 : smI 89 1 = rI0 ziI1 2 := zT_a (k := 0) (i := 1) zT89_0 rfl
theorem m89_2 : smI 89 2 = rI4 (.invokevirtual 105) 5 20 60 1 := zT_a (k := 0) (i := 2) zT89_0 rfl
theorem m89_5 : smI 89 5 = rI2 (.ifCond .eq 20) 8 25 := zT_a (k := 0) (i := 5) zT89_0 rfl
theorem m89_8 : smI 89 8 = rI0 ziI2 9 := zT_a (k := 0) (i := 8) zT89_0 rfl
theorem m89_9 : smI 89 9 = rI1 (.bipush 60) 11 60 := zT_a (k := 0) (i := 9) zT89_0 rfl
theorem m89_11 : smI 89 11 = rI3 (.invokestatic 69) 14 54 2 := zT_a (k := 0) (i := 11) zT89_0 rfl
theorem m89_14 : smI 89 14 = rI2 (.ifCond .eq 11) 17 25 := zT_a (k := 0) (i := 14) zT89_0 rfl
theorem m89_17 : smI 89 17 = rI0 ziI3 18 := zT_a (k := 0) (i := 17) zT89_0 rfl
theorem m89_18 : smI 89 18 = rI1 ziC1 19 1 := zT_a (k := 0) (i := 18) zT89_0 rfl
theorem m89_19 : smI 89 19 = rI3 (.invokestatic 69) 22 54 2 := zT_a (k := 0) (i := 19) zT89_0 rfl
theorem m89_22 : smI 89 22 = rI2 (.ifCond .ne 9) 25 31 := zT_a (k := 0) (i := 22) zT89_0 rfl
theorem m89_25 : smI 89 25 = rI0 ziA0 26 := zT_a (k := 0) (i := 25) zT89_0 rfl
theorem m89_26 : smI 89 26 = rI1 ziC1 27 1 := zT_a (k := 0) (i := 26) zT89_0 rfl
theorem m89_27 : smI 89 27 = rI4 (.invokevirtual 73) 30 20 55 1 := zT_a (k := 0) (i := 27) zT89_0 rfl
theorem m89_30 : smI 89 30 = rI0 .ireturn 31 := zT_a (k := 0) (i := 30) zT89_0 rfl
theorem m89_31 : smI 89 31 = rI0 ziC0 32 := zT_a (k := 0) (i := 31) zT89_0 rfl
theorem m89_32 : smI 89 32 = rI0 (.istore 4) 34 := zT_a (k := 32) (i := 0) zT89_1 rfl
theorem m89_34 : smI 89 34 = rI0 ziC0 35 := zT_a (k := 32) (i := 2) zT89_1 rfl
theorem m89_35 : smI 89 35 = rI0 (.istore 5) 37 := zT_a (k := 32) (i := 3) zT89_1 rfl
theorem m89_37 : smI 89 37 = rI0 (.iload 5) 39 := zT_a (k := 32) (i := 5) zT89_1 rfl
theorem m89_39 : smI 89 39 = rI1 (.bipush 10) 41 10 := zT_a (k := 32) (i := 7) zT89_1 rfl
theorem m89_41 : smI 89 41 = rI2 (.if_icmp .ge 26) 44 67 := zT_a (k := 32) (i := 9) zT89_1 rfl
theorem m89_44 : smI 89 44 = rI0 ziA0 45 := zT_a (k := 32) (i := 12) zT89_1 rfl
theorem m89_45 : smI 89 45 = rI4 (.invokevirtual 183) 48 20 74 0 := zT_a (k := 32) (i := 13) zT89_1 rfl
theorem m89_48 : smI 89 48 = rI0 ziI1 49 := zT_a (k := 32) (i := 16) zT89_1 rfl
theorem m89_49 : smI 89 49 = rI0 ziI2 50 := zT_a (k := 32) (i := 17) zT89_1 rfl
theorem m89_50 : smI 89 50 = rI0 (.iload 5) 52 := zT_a (k := 32) (i := 18) zT89_1 rfl
theorem m89_52 : smI 89 52 = rI4 (.invokevirtual 191) 55 20 43 3 := zT_a (k := 32) (i := 20) zT89_1 rfl
theorem m89_55 : smI 89 55 = rI2 (.ifCond .eq 6) 58 61 := zT_a (k := 32) (i := 23) zT89_1 rfl
theorem m89_58 : smI 89 58 = rI1 (.iinc 4 1) 61 1 := zT_a (k := 32) (i := 26) zT89_1 rfl
theorem m89_61 : smI 89 61 = rI1 (.iinc 5 1) 64 1 := zT_a (k := 32) (i := 29) zT89_1 rfl
theorem m89_64 : smI 89 64 = rI2 (.goto (-27)) 67 37 := zT_l (k := 64) (i := 0) zT89_2 rfl
theorem m89_67 : smI 89 67 = rI0 (.iload 4) 69 := zT_l (k := 64) (i := 3) zT89_2 rfl
theorem m89_69 : smI 89 69 = rI1 (.bipush 10) 71 10 := zT_l (k := 64) (i := 5) zT89_2 rfl
theorem m89_71 : smI 89 71 = rI3 (.invokestatic 232) 74 88 2 := zT_l (k := 64) (i := 7) zT89_2 rfl
theorem m89_74 : smI 89 74 = rI0 (.istore 5) 76 := zT_l (k := 64) (i := 10) zT89_2 rfl
theorem m89_76 : smI 89 76 = rI0 ziI3 77 := zT_l (k := 64) (i := 12) zT89_2 rfl
theorem m89_77 : smI 89 77 = rI2 (.ifCond .ne 8) 80 85 := zT_l (k := 64) (i := 13) zT89_2 rfl
theorem m89_80 : smI 89 80 = rI0 (.iload 4) 82 := zT_l (k := 64) (i := 16) zT89_2 rfl
theorem m89_82 : smI 89 82 = rI2 (.goto 5) 85 87 := zT_l (k := 64) (i := 18) zT89_2 rfl
theorem m89_85 : smI 89 85 = rI1 (.bipush 10) 87 10 := zT_l (k := 64) (i := 21) zT89_2 rfl
theorem m89_87 : smI 89 87 = rI0 (.iload 5) 89 := zT_l (k := 64) (i := 23) zT89_2 rfl
theorem m89_89 : smI 89 89 = rI0 .idiv 90 := zT_l (k := 64) (i := 25) zT89_2 rfl
theorem m89_90 : smI 89 90 = rI0 .ireturn 91 := zT_l (k := 64) (i := 26) zT89_2 rfl
theorem mx_90 : mMx 90 = 3 := by decide +kernel
theorem cn_90 : mCn 90 = 6 := by decide +kernel
theorem rt_90 : mRt 90 = (some .int) := by decide +kernel
theorem tq_90 : allT.getD 90 [] = tb_90 := rfl
theorem m90_0 : smI 90 0 = rI0 ziA0 1 := sm_t tq_90 rfl
theorem m90_1 : smI 90 1 = rI3 (.getfield 28) 4 6 4 := sm_t tq_90 rfl
theorem m90_4 : smI 90 4 = rI0 (.getfield 235) 7 := sm_t tq_90 rfl
theorem m90_7 : smI 90 7 = rI0 ziS2 8 := sm_t tq_90 rfl
theorem m90_8 : smI 90 8 = rI0 ziA0 9 := sm_t tq_90 rfl
theorem m90_9 : smI 90 9 = rI3 (.getfield 28) 12 6 4 := sm_t tq_90 rfl
theorem m90_12 : smI 90 12 = rI0 ziI1 13 := sm_t tq_90 rfl
theorem m90_13 : smI 90 13 = rI0 (.putfield 235) 16 := sm_t tq_90 rfl
theorem m90_16 : smI 90 16 = rI0 ziI2 17 := sm_t tq_90 rfl
theorem m90_17 : smI 90 17 = rI0 .ireturn 18 := sm_t tq_90 rfl
theorem mx_91 : mMx 91 = 4 := by decide +kernel
theorem cn_91 : mCn 91 = 6 := by decide +kernel
theorem rt_91 : mRt 91 = (some .int) := by decide +kernel
theorem tq_91 : allT.getD 91 [] = tb_91 := rfl
theorem zT91_0 : zT 91 0 (tb_91_0 ++ (tb_91_1)) := zT_0 tq_91
theorem zT91_1 : zT 91 32 (tb_91_1) := zT_s zT91_0 (n := 32) (by decide +kernel) rfl
theorem m91_0 : smI 91 0 = rI0 ziI1 1 := zT_a (k := 0) (i := 0) zT91_0 rfl
theorem m91_1 : smI 91 1 = rI0 ziS2 2 := zT_a (k := 0) (i := 1) zT91_0 rfl
theorem m91_2 : smI 91 2 = rI0 ziC0 3 := zT_a (k := 0) (i := 2) zT91_0 rfl
theorem m91_3 : smI 91 3 = rI0 ziS3 4 := zT_a (k := 0) (i := 3) zT91_0 rfl
theorem m91_4 : smI 91 4 = rI0 ziI3 5 := zT_a (k := 0) (i := 4) zT91_0 rfl
theorem m91_5 : smI 91 5 = rI1 (.bipush 7) 7 7 := zT_a (k := 0) (i := 5) zT91_0 rfl
theorem m91_7 : smI 91 7 = rI2 (.if_icmp .ge 38) 10 45 := zT_a (k := 0) (i := 7) zT91_0 rfl
theorem m91_10 : smI 91 10 = rI0 ziI2 11 := zT_a (k := 0) (i := 10) zT91_0 rfl
theorem m91_11 : smI 91 11 = rI1 (.bipush 6) 13 6 := zT_a (k := 0) (i := 11) zT91_0 rfl
theorem m91_13 : smI 91 13 = rI3 (.invokestatic 69) 16 54 2 := zT_a (k := 0) (i := 13) zT91_0 rfl
theorem m91_16 : smI 91 16 = rI2 (.ifCond .eq 29) 19 45 := zT_a (k := 0) (i := 16) zT91_0 rfl
theorem m91_19 : smI 91 19 = rI2 (.getstatic 255) 22 2 := zT_a (k := 0) (i := 19) zT91_0 rfl
theorem m91_22 : smI 91 22 = rI1 ziC4 23 4 := zT_a (k := 0) (i := 22) zT91_0 rfl
theorem m91_23 : smI 91 23 = rI0 ziI2 24 := zT_a (k := 0) (i := 23) zT91_0 rfl
theorem m91_24 : smI 91 24 = rI0 .imul 25 := zT_a (k := 0) (i := 24) zT91_0 rfl
theorem m91_25 : smI 91 25 = rI0 ziI0 26 := zT_a (k := 0) (i := 25) zT91_0 rfl
theorem m91_26 : smI 91 26 = rI0 .iadd 27 := zT_a (k := 0) (i := 26) zT91_0 rfl
theorem m91_27 : smI 91 27 = rI0 .iaload 28 := zT_a (k := 0) (i := 27) zT91_0 rfl
theorem m91_28 : smI 91 28 = rI2 (.ifCond .eq 5) 31 33 := zT_a (k := 0) (i := 28) zT91_0 rfl
theorem m91_31 : smI 91 31 = rI0 ziI2 32 := zT_a (k := 0) (i := 31) zT91_0 rfl
theorem m91_32 : smI 91 32 = rI0 .ireturn 33 := zT_l (k := 32) (i := 0) zT91_1 rfl
theorem m91_33 : smI 91 33 = rI2 (.getstatic 118) 36 1 := zT_l (k := 32) (i := 1) zT91_1 rfl
theorem m91_36 : smI 91 36 = rI0 ziI2 37 := zT_l (k := 32) (i := 4) zT91_1 rfl
theorem m91_37 : smI 91 37 = rI0 .iaload 38 := zT_l (k := 32) (i := 5) zT91_1 rfl
theorem m91_38 : smI 91 38 = rI0 ziS2 39 := zT_l (k := 32) (i := 6) zT91_1 rfl
theorem m91_39 : smI 91 39 = rI1 (.iinc 3 1) 42 1 := zT_l (k := 32) (i := 7) zT91_1 rfl
theorem m91_42 : smI 91 42 = rI2 (.goto (-38)) 45 4 := zT_l (k := 32) (i := 10) zT91_1 rfl
theorem m91_45 : smI 91 45 = rI1 (.iconst (-1)) 46 (-1) := zT_l (k := 32) (i := 13) zT91_1 rfl
theorem m91_46 : smI 91 46 = rI0 .ireturn 47 := zT_l (k := 32) (i := 14) zT91_1 rfl
theorem mx_92 : mMx 92 = 10 := by decide +kernel
theorem cn_92 : mCn 92 = 6 := by decide +kernel
theorem rt_92 : mRt 92 = (some .int) := by decide +kernel
theorem tq_92 : allT.getD 92 [] = tb_92 := rfl
theorem zT92_0 : zT 92 0 (tb_92_0 ++ (tb_92_1 ++ (tb_92_2 ++ (tb_92_3 ++ (tb_92_4 ++ (tb_92_5 ++ (tb_92_6 ++ (tb_92_7 ++ (tb_92_8 ++ (tb_92_9 ++ (tb_92_10))))))))))) := zT_0 tq_92
theorem zT92_1 : zT 92 32 (tb_92_1 ++ (tb_92_2 ++ (tb_92_3 ++ (tb_92_4 ++ (tb_92_5 ++ (tb_92_6 ++ (tb_92_7 ++ (tb_92_8 ++ (tb_92_9 ++ (tb_92_10)))))))))) := zT_s zT92_0 (n := 32) (by decide +kernel) rfl
theorem zT92_2 : zT 92 64 (tb_92_2 ++ (tb_92_3 ++ (tb_92_4 ++ (tb_92_5 ++ (tb_92_6 ++ (tb_92_7 ++ (tb_92_8 ++ (tb_92_9 ++ (tb_92_10))))))))) := zT_s zT92_1 (n := 32) (by decide +kernel) rfl
theorem zT92_3 : zT 92 96 (tb_92_3 ++ (tb_92_4 ++ (tb_92_5 ++ (tb_92_6 ++ (tb_92_7 ++ (tb_92_8 ++ (tb_92_9 ++ (tb_92_10)))))))) := zT_s zT92_2 (n := 32) (by decide +kernel) rfl
theorem zT92_4 : zT 92 128 (tb_92_4 ++ (tb_92_5 ++ (tb_92_6 ++ (tb_92_7 ++ (tb_92_8 ++ (tb_92_9 ++ (tb_92_10))))))) := zT_s zT92_3 (n := 32) (by decide +kernel) rfl
theorem zT92_5 : zT 92 160 (tb_92_5 ++ (tb_92_6 ++ (tb_92_7 ++ (tb_92_8 ++ (tb_92_9 ++ (tb_92_10)))))) := zT_s zT92_4 (n := 32) (by decide +kernel) rfl
theorem zT92_6 : zT 92 192 (tb_92_6 ++ (tb_92_7 ++ (tb_92_8 ++ (tb_92_9 ++ (tb_92_10))))) := zT_s zT92_5 (n := 32) (by decide +kernel) rfl
theorem zT92_7 : zT 92 224 (tb_92_7 ++ (tb_92_8 ++ (tb_92_9 ++ (tb_92_10)))) := zT_s zT92_6 (n := 32) (by decide +kernel) rfl
theorem zT92_8 : zT 92 256 (tb_92_8 ++ (tb_92_9 ++ (tb_92_10))) := zT_s zT92_7 (n := 32) (by decide +kernel) rfl
theorem zT92_9 : zT 92 288 (tb_92_9 ++ (tb_92_10)) := zT_s zT92_8 (n := 32) (by decide +kernel) rfl
theorem zT92_10 : zT 92 320 (tb_92_10) := zT_s zT92_9 (n := 32) (by decide +kernel) rfl
theorem m92_0 : smI 92 0 = rI0 ziI1 1 := zT_a (k := 0) (i := 0) zT92_0 rfl
theorem m92_1 : smI 92 1 = rI0 ziI2 2 := zT_a (k := 0) (i := 1) zT92_0 rfl
theorem m92_2 : smI 92 2 = rI3 (.invokestatic 252) 5 91 2 := zT_a (k := 0) (i := 2) zT92_0 rfl
theorem m92_5 : smI 92 5 = rI0 (.istore 5) 7 := zT_a (k := 0) (i := 5) zT92_0 rfl
theorem m92_7 : smI 92 7 = rI0 (.iload 5) 9 := zT_a (k := 0) (i := 7) zT92_0 rfl
theorem m92_9 : smI 92 9 = rI2 (.ifCond .lt 10) 12 19 := zT_a (k := 0) (i := 9) zT92_0 rfl
theorem m92_12 : smI 92 12 = rI0 (.iload 4) 14 := zT_a (k := 0) (i := 12) zT92_0 rfl
theorem m92_14 : smI 92 14 = rI1 (.bipush 30) 16 30 := zT_a (k := 0) (i := 14) zT92_0 rfl
theorem m92_16 : smI 92 16 = rI2 (.if_icmp .le 5) 19 21 := zT_a (k := 0) (i := 16) zT92_0 rfl
theorem m92_19 : smI 92 19 = rI0 ziC0 20 := zT_a (k := 0) (i := 19) zT92_0 rfl
theorem m92_20 : smI 92 20 = rI0 .ireturn 21 := zT_a (k := 0) (i := 20) zT92_0 rfl
theorem m92_21 : smI 92 21 = rI2 (.getstatic 255) 24 2 := zT_a (k := 0) (i := 21) zT92_0 rfl
theorem m92_24 : smI 92 24 = rI1 ziC4 25 4 := zT_a (k := 0) (i := 24) zT92_0 rfl
theorem m92_25 : smI 92 25 = rI0 (.iload 5) 27 := zT_a (k := 0) (i := 25) zT92_0 rfl
theorem m92_27 : smI 92 27 = rI0 .imul 28 := zT_a (k := 0) (i := 27) zT92_0 rfl
theorem m92_28 : smI 92 28 = rI0 ziI1 29 := zT_a (k := 0) (i := 28) zT92_0 rfl
theorem m92_29 : smI 92 29 = rI0 .iadd 30 := zT_a (k := 0) (i := 29) zT92_0 rfl
theorem m92_30 : smI 92 30 = rI0 .iaload 31 := zT_a (k := 0) (i := 30) zT92_0 rfl
theorem m92_31 : smI 92 31 = rI0 (.istore 6) 33 := zT_a (k := 0) (i := 31) zT92_0 rfl
theorem m92_33 : smI 92 33 = rI0 ziA0 34 := zT_a (k := 32) (i := 1) zT92_1 rfl
theorem m92_34 : smI 92 34 = rI0 (.iload 6) 36 := zT_a (k := 32) (i := 2) zT92_1 rfl
theorem m92_36 : smI 92 36 = rI4 (.invokevirtual 258) 39 20 50 1 := zT_a (k := 32) (i := 4) zT92_1 rfl
theorem m92_39 : smI 92 39 = rI0 ziA0 40 := zT_a (k := 32) (i := 7) zT92_1 rfl
theorem m92_40 : smI 92 40 = rI3 (.getfield 243) 43 5 2 := zT_a (k := 32) (i := 8) zT92_1 rfl
theorem m92_43 : smI 92 43 = rI0 (.istore 7) 45 := zT_a (k := 32) (i := 11) zT92_1 rfl
theorem m92_45 : smI 92 45 = rI2 (.getstatic 118) 48 1 := zT_a (k := 32) (i := 13) zT92_1 rfl
theorem m92_48 : smI 92 48 = rI0 (.iload 5) 50 := zT_a (k := 32) (i := 16) zT92_1 rfl
theorem m92_50 : smI 92 50 = rI0 .iaload 51 := zT_a (k := 32) (i := 18) zT92_1 rfl
theorem m92_51 : smI 92 51 = rI0 (.istore 8) 53 := zT_a (k := 32) (i := 19) zT92_1 rfl
theorem m92_53 : smI 92 53 = rI0 (.iload 4) 55 := zT_a (k := 32) (i := 21) zT92_1 rfl
theorem m92_55 : smI 92 55 = rI1 ziC1 56 1 := zT_a (k := 32) (i := 23) zT92_1 rfl
theorem m92_56 : smI 92 56 = rI0 .iadd 57 := zT_a (k := 32) (i := 24) zT92_1 rfl
theorem m92_57 : smI 92 57 = rI0 (.istore 9) 59 := zT_a (k := 32) (i := 25) zT92_1 rfl
theorem m92_59 : smI 92 59 = rI0 (.iload 6) 61 := zT_a (k := 32) (i := 27) zT92_1 rfl
theorem m92_61 : smI 92 61 = rI0 (.lookupswitch 268 #[(10, 99), (11, 106), (12, 119), (13, 126), (20, 148), (30, 161), (40, 183), (50, 195), (60, 217), (70, 230), (71, 246)]) 160 := zT_a (k := 32) (i := 29) zT92_1 rfl
theorem m92_160 : smI 92 160 = rI0 ziI3 161 := zT_a (k := 160) (i := 0) zT92_5 rfl
theorem m92_161 : smI 92 161 = rI0 ziA0 162 := zT_a (k := 160) (i := 1) zT92_5 rfl
theorem m92_162 : smI 92 162 = rI2 (.getfield 238) 165 5 := zT_a (k := 160) (i := 2) zT92_5 rfl
theorem m92_165 : smI 92 165 = rI0 .iadd 166 := zT_a (k := 160) (i := 5) zT92_5 rfl
theorem m92_166 : smI 92 166 = rI0 .ireturn 167 := zT_a (k := 160) (i := 6) zT92_5 rfl
theorem m92_167 : smI 92 167 = rI0 ziA0 168 := zT_a (k := 160) (i := 7) zT92_5 rfl
theorem m92_168 : smI 92 168 = rI0 ziC0 169 := zT_a (k := 160) (i := 8) zT92_5 rfl
theorem m92_169 : smI 92 169 = rI0 (.iload 7) 171 := zT_a (k := 160) (i := 9) zT92_5 rfl
theorem m92_171 : smI 92 171 = rI0 ziI3 172 := zT_a (k := 160) (i := 11) zT92_5 rfl
theorem m92_172 : smI 92 172 = rI0 (.iload 9) 174 := zT_a (k := 160) (i := 12) zT92_5 rfl
theorem m92_174 : smI 92 174 = rI3 (.invokestatic 248) 177 92 5 := zT_a (k := 160) (i := 14) zT92_5 rfl
theorem m92_177 : smI 92 177 = rI1 ziC2 178 2 := zT_a (k := 160) (i := 17) zT92_5 rfl
theorem m92_178 : smI 92 178 = rI0 .imul 179 := zT_a (k := 160) (i := 18) zT92_5 rfl
theorem m92_179 : smI 92 179 = rI0 .ireturn 180 := zT_a (k := 160) (i := 19) zT92_5 rfl
theorem m92_180 : smI 92 180 = rI0 ziI3 181 := zT_a (k := 160) (i := 20) zT92_5 rfl
theorem m92_181 : smI 92 181 = rI0 ziA0 182 := zT_a (k := 160) (i := 21) zT92_5 rfl
theorem m92_182 : smI 92 182 = rI3 (.getfield 241) 185 5 1 := zT_a (k := 160) (i := 22) zT92_5 rfl
theorem m92_185 : smI 92 185 = rI0 .isub 186 := zT_a (k := 160) (i := 25) zT92_5 rfl
theorem m92_186 : smI 92 186 = rI0 .ireturn 187 := zT_a (k := 160) (i := 26) zT92_5 rfl
theorem m92_187 : smI 92 187 = rI0 ziA0 188 := zT_a (k := 160) (i := 27) zT92_5 rfl
theorem m92_188 : smI 92 188 = rI1 ziC1 189 1 := zT_a (k := 160) (i := 28) zT92_5 rfl
theorem m92_189 : smI 92 189 = rI0 (.iload 7) 191 := zT_a (k := 160) (i := 29) zT92_5 rfl
theorem m92_191 : smI 92 191 = rI0 ziI3 192 := zT_a (k := 160) (i := 31) zT92_5 rfl
theorem m92_192 : smI 92 192 = rI0 (.iload 9) 194 := zT_a (k := 192) (i := 0) zT92_6 rfl
theorem m92_194 : smI 92 194 = rI3 (.invokestatic 248) 197 92 5 := zT_a (k := 192) (i := 2) zT92_6 rfl
theorem m92_197 : smI 92 197 = rI0 ziA0 198 := zT_a (k := 192) (i := 5) zT92_6 rfl
theorem m92_198 : smI 92 198 = rI1 ziC2 199 2 := zT_a (k := 192) (i := 6) zT92_6 rfl
theorem m92_199 : smI 92 199 = rI0 (.iload 7) 201 := zT_a (k := 192) (i := 7) zT92_6 rfl
theorem m92_201 : smI 92 201 = rI0 ziI3 202 := zT_a (k := 192) (i := 9) zT92_6 rfl
theorem m92_202 : smI 92 202 = rI0 (.iload 9) 204 := zT_a (k := 192) (i := 10) zT92_6 rfl
theorem m92_204 : smI 92 204 = rI3 (.invokestatic 248) 207 92 5 := zT_a (k := 192) (i := 12) zT92_6 rfl
theorem m92_207 : smI 92 207 = rI0 .ixor 208 := zT_a (k := 192) (i := 15) zT92_6 rfl
theorem m92_208 : smI 92 208 = rI0 .ireturn 209 := zT_a (k := 192) (i := 16) zT92_6 rfl
theorem m92_209 : smI 92 209 = rI0 ziA0 210 := zT_a (k := 192) (i := 17) zT92_6 rfl
theorem m92_210 : smI 92 210 = rI0 ziC0 211 := zT_a (k := 192) (i := 18) zT92_6 rfl
theorem m92_211 : smI 92 211 = rI0 (.iload 8) 213 := zT_a (k := 192) (i := 19) zT92_6 rfl
theorem m92_213 : smI 92 213 = rI0 ziI3 214 := zT_a (k := 192) (i := 21) zT92_6 rfl
theorem m92_214 : smI 92 214 = rI0 (.iload 9) 216 := zT_a (k := 192) (i := 22) zT92_6 rfl
theorem m92_216 : smI 92 216 = rI3 (.invokestatic 248) 219 92 5 := zT_a (k := 192) (i := 24) zT92_6 rfl
theorem m92_219 : smI 92 219 = rI1 ziC3 220 3 := zT_a (k := 192) (i := 27) zT92_6 rfl
theorem m92_220 : smI 92 220 = rI0 .imul 221 := zT_a (k := 192) (i := 28) zT92_6 rfl
theorem m92_221 : smI 92 221 = rI0 .ireturn 222 := zT_a (k := 192) (i := 29) zT92_6 rfl
theorem m92_222 : smI 92 222 = rI0 ziA0 223 := zT_a (k := 192) (i := 30) zT92_6 rfl
theorem m92_223 : smI 92 223 = rI1 ziC1 224 1 := zT_a (k := 192) (i := 31) zT92_6 rfl
theorem m92_224 : smI 92 224 = rI0 (.iload 8) 226 := zT_a (k := 224) (i := 0) zT92_7 rfl
theorem m92_226 : smI 92 226 = rI0 ziI3 227 := zT_a (k := 224) (i := 2) zT92_7 rfl
theorem m92_227 : smI 92 227 = rI0 (.iload 9) 229 := zT_a (k := 224) (i := 3) zT92_7 rfl
theorem m92_229 : smI 92 229 = rI3 (.invokestatic 248) 232 92 5 := zT_a (k := 224) (i := 5) zT92_7 rfl
theorem m92_232 : smI 92 232 = rI0 ziA0 233 := zT_a (k := 224) (i := 8) zT92_7 rfl
theorem m92_233 : smI 92 233 = rI1 ziC2 234 2 := zT_a (k := 224) (i := 9) zT92_7 rfl
theorem m92_234 : smI 92 234 = rI0 (.iload 7) 236 := zT_a (k := 224) (i := 10) zT92_7 rfl
theorem m92_236 : smI 92 236 = rI1 ziC1 237 1 := zT_a (k := 224) (i := 12) zT92_7 rfl
theorem m92_237 : smI 92 237 = rI0 (.iload 9) 239 := zT_a (k := 224) (i := 13) zT92_7 rfl
theorem m92_239 : smI 92 239 = rI3 (.invokestatic 248) 242 92 5 := zT_a (k := 224) (i := 15) zT92_7 rfl
theorem m92_242 : smI 92 242 = rI0 .isub 243 := zT_a (k := 224) (i := 18) zT92_7 rfl
theorem m92_243 : smI 92 243 = rI0 .ireturn 244 := zT_a (k := 224) (i := 19) zT92_7 rfl
theorem m92_244 : smI 92 244 = rI0 ziA0 245 := zT_a (k := 224) (i := 20) zT92_7 rfl
theorem m92_245 : smI 92 245 = rI1 ziC2 246 2 := zT_a (k := 224) (i := 21) zT92_7 rfl
theorem m92_246 : smI 92 246 = rI0 (.iload 8) 248 := zT_a (k := 224) (i := 22) zT92_7 rfl
theorem m92_248 : smI 92 248 = rI0 ziI3 249 := zT_a (k := 224) (i := 24) zT92_7 rfl
theorem m92_249 : smI 92 249 = rI0 (.iload 9) 251 := zT_a (k := 224) (i := 25) zT92_7 rfl
theorem m92_251 : smI 92 251 = rI3 (.invokestatic 248) 254 92 5 := zT_a (k := 224) (i := 27) zT92_7 rfl
theorem m92_254 : smI 92 254 = rI0 .ineg 255 := zT_a (k := 224) (i := 30) zT92_7 rfl
theorem m92_255 : smI 92 255 = rI0 .ireturn 256 := zT_a (k := 224) (i := 31) zT92_7 rfl
theorem m92_256 : smI 92 256 = rI0 ziA0 257 := zT_a (k := 256) (i := 0) zT92_8 rfl
theorem m92_257 : smI 92 257 = rI1 ziC3 258 3 := zT_a (k := 256) (i := 1) zT92_8 rfl
theorem m92_258 : smI 92 258 = rI0 (.iload 8) 260 := zT_a (k := 256) (i := 2) zT92_8 rfl
theorem m92_260 : smI 92 260 = rI0 ziI3 261 := zT_a (k := 256) (i := 4) zT92_8 rfl
theorem m92_261 : smI 92 261 = rI0 (.iload 9) 263 := zT_a (k := 256) (i := 5) zT92_8 rfl
theorem m92_263 : smI 92 263 = rI3 (.invokestatic 248) 266 92 5 := zT_a (k := 256) (i := 7) zT92_8 rfl
theorem m92_266 : smI 92 266 = rI0 ziA0 267 := zT_a (k := 256) (i := 10) zT92_8 rfl
theorem m92_267 : smI 92 267 = rI0 ziC0 268 := zT_a (k := 256) (i := 11) zT92_8 rfl
theorem m92_268 : smI 92 268 = rI0 (.iload 7) 270 := zT_a (k := 256) (i := 12) zT92_8 rfl
theorem m92_270 : smI 92 270 = rI1 ziC2 271 2 := zT_a (k := 256) (i := 14) zT92_8 rfl
theorem m92_271 : smI 92 271 = rI0 (.iload 9) 273 := zT_a (k := 256) (i := 15) zT92_8 rfl
theorem m92_273 : smI 92 273 = rI3 (.invokestatic 248) 276 92 5 := zT_a (k := 256) (i := 17) zT92_8 rfl
theorem m92_276 : smI 92 276 = rI0 .isub 277 := zT_a (k := 256) (i := 20) zT92_8 rfl
theorem m92_277 : smI 92 277 = rI0 .ireturn 278 := zT_a (k := 256) (i := 21) zT92_8 rfl
theorem m92_278 : smI 92 278 = rI0 ziA0 279 := zT_a (k := 256) (i := 22) zT92_8 rfl
theorem m92_279 : smI 92 279 = rI1 ziC1 280 1 := zT_a (k := 256) (i := 23) zT92_8 rfl
theorem m92_280 : smI 92 280 = rI0 (.iload 8) 282 := zT_a (k := 256) (i := 24) zT92_8 rfl
theorem m92_282 : smI 92 282 = rI0 ziI3 283 := zT_a (k := 256) (i := 26) zT92_8 rfl
theorem m92_283 : smI 92 283 = rI1 ziC1 284 1 := zT_a (k := 256) (i := 27) zT92_8 rfl
theorem m92_284 : smI 92 284 = rI0 .iadd 285 := zT_a (k := 256) (i := 28) zT92_8 rfl
theorem m92_285 : smI 92 285 = rI0 (.iload 9) 287 := zT_a (k := 256) (i := 29) zT92_8 rfl
theorem m92_287 : smI 92 287 = rI3 (.invokestatic 248) 290 92 5 := zT_a (k := 256) (i := 31) zT92_8 rfl
theorem m92_290 : smI 92 290 = rI0 .ireturn 291 := zT_a (k := 288) (i := 2) zT92_9 rfl
theorem m92_291 : smI 92 291 = rI0 ziA0 292 := zT_a (k := 288) (i := 3) zT92_9 rfl
theorem m92_292 : smI 92 292 = rI1 ziC2 293 2 := zT_a (k := 288) (i := 4) zT92_9 rfl
theorem m92_293 : smI 92 293 = rI0 (.iload 8) 295 := zT_a (k := 288) (i := 5) zT92_9 rfl
theorem m92_295 : smI 92 295 = rI0 ziI3 296 := zT_a (k := 288) (i := 7) zT92_9 rfl
theorem m92_296 : smI 92 296 = rI0 (.iload 9) 298 := zT_a (k := 288) (i := 8) zT92_9 rfl
theorem m92_298 : smI 92 298 = rI3 (.invokestatic 248) 301 92 5 := zT_a (k := 288) (i := 10) zT92_9 rfl
theorem m92_301 : smI 92 301 = rI0 ziA0 302 := zT_a (k := 288) (i := 13) zT92_9 rfl
theorem m92_302 : smI 92 302 = rI2 (.getfield 238) 305 5 := zT_a (k := 288) (i := 14) zT92_9 rfl
theorem m92_305 : smI 92 305 = rI0 .ixor 306 := zT_a (k := 288) (i := 17) zT92_9 rfl
theorem m92_306 : smI 92 306 = rI0 .ireturn 307 := zT_a (k := 288) (i := 18) zT92_9 rfl
theorem m92_307 : smI 92 307 = rI0 ziA0 308 := zT_a (k := 288) (i := 19) zT92_9 rfl
theorem m92_308 : smI 92 308 = rI1 ziC1 309 1 := zT_a (k := 288) (i := 20) zT92_9 rfl
theorem m92_309 : smI 92 309 = rI0 (.iload 7) 311 := zT_a (k := 288) (i := 21) zT92_9 rfl
theorem m92_311 : smI 92 311 = rI0 ziI3 312 := zT_a (k := 288) (i := 23) zT92_9 rfl
theorem m92_312 : smI 92 312 = rI0 (.iload 9) 314 := zT_a (k := 288) (i := 24) zT92_9 rfl
theorem m92_314 : smI 92 314 = rI3 (.invokestatic 248) 317 92 5 := zT_a (k := 288) (i := 26) zT92_9 rfl
theorem m92_317 : smI 92 317 = rI0 ziA0 318 := zT_a (k := 288) (i := 29) zT92_9 rfl
theorem m92_318 : smI 92 318 = rI1 ziC3 319 3 := zT_a (k := 288) (i := 30) zT92_9 rfl
theorem m92_319 : smI 92 319 = rI0 (.iload 8) 321 := zT_a (k := 288) (i := 31) zT92_9 rfl
theorem m92_321 : smI 92 321 = rI0 ziI3 322 := zT_l (k := 320) (i := 1) zT92_10 rfl
theorem m92_322 : smI 92 322 = rI0 (.iload 9) 324 := zT_l (k := 320) (i := 2) zT92_10 rfl
theorem m92_324 : smI 92 324 = rI3 (.invokestatic 248) 327 92 5 := zT_l (k := 320) (i := 4) zT92_10 rfl
theorem m92_327 : smI 92 327 = rI0 .isub 328 := zT_l (k := 320) (i := 7) zT92_10 rfl
theorem m92_328 : smI 92 328 = rI0 .ireturn 329 := zT_l (k := 320) (i := 8) zT92_10 rfl
theorem m92_329 : smI 92 329 = rI0 ziC0 330 := zT_l (k := 320) (i := 9) zT92_10 rfl
theorem m92_330 : smI 92 330 = rI0 .ireturn 331 := zT_l (k := 320) (i := 10) zT92_10 rfl
theorem mx_93 : mMx 93 = 4 := by decide +kernel
theorem cn_93 : mCn 93 = 6 := by decide +kernel
theorem rt_93 : mRt 93 = (some .int) := by decide +kernel
theorem tq_93 : allT.getD 93 [] = tb_93 := rfl
theorem zT93_0 : zT 93 0 (tb_93_0 ++ (tb_93_1 ++ (tb_93_2))) := zT_0 tq_93
theorem zT93_1 : zT 93 32 (tb_93_1 ++ (tb_93_2)) := zT_s zT93_0 (n := 32) (by decide +kernel) rfl
theorem zT93_2 : zT 93 64 (tb_93_2) := zT_s zT93_1 (n := 32) (by decide +kernel) rfl
theorem m93_0 : smI 93 0 = rI0 ziA0 1 := zT_a (k := 0) (i := 0) zT93_0 rfl
theorem m93_1 : smI 93 1 = rI0 ziI1 2 := zT_a (k := 0) (i := 1) zT93_0 rfl
theorem m93_2 : smI 93 2 = rI4 (.invokevirtual 105) 5 20 60 1 := zT_a (k := 0) (i := 2) zT93_0 rfl
theorem m93_5 : smI 93 5 = rI2 (.ifCond .eq 11) 8 16 := zT_a (k := 0) (i := 5) zT93_0 rfl
theorem m93_8 : smI 93 8 = rI0 ziI2 9 := zT_a (k := 0) (i := 8) zT93_0 rfl
theorem m93_9 : smI 93 9 = rI1 ziC3 10 3 := zT_a (k := 0) (i := 9) zT93_0 rfl
theorem m93_10 : smI 93 10 = rI3 (.invokestatic 69) 13 54 2 := zT_a (k := 0) (i := 10) zT93_0 rfl
theorem m93_13 : smI 93 13 = rI2 (.ifCond .ne 9) 16 22 := zT_a (k := 0) (i := 13) zT93_0 rfl
theorem m93_16 : smI 93 16 = rI0 ziA0 17 := zT_a (k := 0) (i := 16) zT93_0 rfl
theorem m93_17 : smI 93 17 = rI1 ziC1 18 1 := zT_a (k := 0) (i := 17) zT93_0 rfl
theorem m93_18 : smI 93 18 = rI4 (.invokevirtual 73) 21 20 55 1 := zT_a (k := 0) (i := 18) zT93_0 rfl
theorem m93_21 : smI 93 21 = rI0 .ireturn 22 := zT_a (k := 0) (i := 21) zT93_0 rfl
theorem m93_22 : smI 93 22 = rI0 ziA0 23 := zT_a (k := 0) (i := 22) zT93_0 rfl
theorem m93_23 : smI 93 23 = rI3 (.getfield 55) 26 6 8 := zT_a (k := 0) (i := 23) zT93_0 rfl
theorem m93_26 : smI 93 26 = rI0 ziI1 27 := zT_a (k := 0) (i := 26) zT93_0 rfl
theorem m93_27 : smI 93 27 = rI2 (.putfield 238) 30 5 := zT_a (k := 0) (i := 27) zT93_0 rfl
theorem m93_30 : smI 93 30 = rI0 ziA0 31 := zT_a (k := 0) (i := 30) zT93_0 rfl
theorem m93_31 : smI 93 31 = rI3 (.getfield 55) 34 6 8 := zT_a (k := 0) (i := 31) zT93_0 rfl
theorem m93_34 : smI 93 34 = rI0 ziA0 35 := zT_a (k := 32) (i := 2) zT93_1 rfl
theorem m93_35 : smI 93 35 = rI2 (.getfield 10) 38 6 := zT_a (k := 32) (i := 3) zT93_1 rfl
theorem m93_38 : smI 93 38 = rI3 (.getfield 89) 41 4 2 := zT_a (k := 32) (i := 6) zT93_1 rfl
theorem m93_41 : smI 93 41 = rI0 ziI1 42 := zT_a (k := 32) (i := 9) zT93_1 rfl
theorem m93_42 : smI 93 42 = rI0 .iaload 43 := zT_a (k := 32) (i := 10) zT93_1 rfl
theorem m93_43 : smI 93 43 = rI3 (.putfield 241) 46 5 1 := zT_a (k := 32) (i := 11) zT93_1 rfl
theorem m93_46 : smI 93 46 = rI0 ziA0 47 := zT_a (k := 32) (i := 14) zT93_1 rfl
theorem m93_47 : smI 93 47 = rI3 (.getfield 55) 50 6 8 := zT_a (k := 32) (i := 15) zT93_1 rfl
theorem m93_50 : smI 93 50 = rI0 ziA0 51 := zT_a (k := 32) (i := 18) zT93_1 rfl
theorem m93_51 : smI 93 51 = rI2 (.getfield 10) 54 6 := zT_a (k := 32) (i := 19) zT93_1 rfl
theorem m93_54 : smI 93 54 = rI3 (.getfield 86) 57 4 1 := zT_a (k := 32) (i := 22) zT93_1 rfl
theorem m93_57 : smI 93 57 = rI0 ziI1 58 := zT_a (k := 32) (i := 25) zT93_1 rfl
theorem m93_58 : smI 93 58 = rI0 .iaload 59 := zT_a (k := 32) (i := 26) zT93_1 rfl
theorem m93_59 : smI 93 59 = rI3 (.putfield 243) 62 5 2 := zT_a (k := 32) (i := 27) zT93_1 rfl
theorem m93_62 : smI 93 62 = rI0 ziA0 63 := zT_a (k := 32) (i := 30) zT93_1 rfl
theorem m93_63 : smI 93 63 = rI3 (.getfield 55) 66 6 8 := zT_a (k := 32) (i := 31) zT93_1 rfl
theorem m93_66 : smI 93 66 = rI0 ziC0 67 := zT_l (k := 64) (i := 2) zT93_2 rfl
theorem m93_67 : smI 93 67 = rI3 (.putfield 245) 70 5 4 := zT_l (k := 64) (i := 3) zT93_2 rfl
theorem m93_70 : smI 93 70 = rI0 ziA0 71 := zT_l (k := 64) (i := 6) zT93_2 rfl
theorem m93_71 : smI 93 71 = rI3 (.getfield 55) 74 6 8 := zT_l (k := 64) (i := 7) zT93_2 rfl
theorem m93_74 : smI 93 74 = rI0 ziI2 75 := zT_l (k := 64) (i := 10) zT93_2 rfl
theorem m93_75 : smI 93 75 = rI0 ziA0 76 := zT_l (k := 64) (i := 11) zT93_2 rfl
theorem m93_76 : smI 93 76 = rI3 (.getfield 55) 79 6 8 := zT_l (k := 64) (i := 12) zT93_2 rfl
theorem m93_79 : smI 93 79 = rI3 (.getfield 243) 82 5 2 := zT_l (k := 64) (i := 15) zT93_2 rfl
theorem m93_82 : smI 93 82 = rI0 ziI3 83 := zT_l (k := 64) (i := 18) zT93_2 rfl
theorem m93_83 : smI 93 83 = rI0 ziC0 84 := zT_l (k := 64) (i := 19) zT93_2 rfl
theorem m93_84 : smI 93 84 = rI3 (.invokestatic 248) 87 92 5 := zT_l (k := 64) (i := 20) zT93_2 rfl
theorem m93_87 : smI 93 87 = rI0 .ireturn 88 := zT_l (k := 64) (i := 23) zT93_2 rfl
theorem mx_94 : mMx 94 = 2 := by decide +kernel
theorem cn_94 : mCn 94 = 6 := by decide +kernel
theorem rt_94 : mRt 94 = (some .int) := by decide +kernel
theorem tq_94 : allT.getD 94 [] = tb_94 := rfl
theorem m94_0 : smI 94 0 = rI0 ziI1 1 := sm_t tq_94 rfl
theorem m94_1 : smI 94 1 = rI2 (.ifCond .lt 14) 4 15 := sm_t tq_94 rfl
theorem m94_4 : smI 94 4 = rI0 ziI1 5 := sm_t tq_94 rfl
theorem m94_5 : smI 94 5 = rI0 ziA0 6 := sm_t tq_94 rfl
theorem m94_6 : smI 94 6 = rI3 (.getfield 55) 9 6 8 := sm_t tq_94 rfl
theorem m94_9 : smI 94 9 = rI3 (.getfield 245) 12 5 4 := sm_t tq_94 rfl
theorem m94_12 : smI 94 12 = rI2 (.if_icmp .lt 9) 15 21 := sm_t tq_94 rfl
theorem m94_15 : smI 94 15 = rI0 ziA0 16 := sm_t tq_94 rfl
theorem m94_16 : smI 94 16 = rI1 ziC2 17 2 := sm_t tq_94 rfl
theorem m94_17 : smI 94 17 = rI4 (.invokevirtual 73) 20 20 55 1 := sm_t tq_94 rfl
theorem m94_20 : smI 94 20 = rI0 .ireturn 21 := sm_t tq_94 rfl
theorem m94_21 : smI 94 21 = rI0 ziA0 22 := sm_t tq_94 rfl
theorem m94_22 : smI 94 22 = rI3 (.getfield 55) 25 6 8 := sm_t tq_94 rfl
theorem m94_25 : smI 94 25 = rI3 (.getfield 261) 28 5 3 := sm_t tq_94 rfl
theorem m94_28 : smI 94 28 = rI0 ziI1 29 := sm_t tq_94 rfl
theorem m94_29 : smI 94 29 = rI0 .iaload 30 := sm_t tq_94 rfl
theorem m94_30 : smI 94 30 = rI0 .ireturn 31 := sm_t tq_94 rfl
theorem mx_95 : mMx 95 = 4 := by decide +kernel
theorem cn_95 : mCn 95 = 6 := by decide +kernel
theorem rt_95 : mRt 95 = (some .int) := by decide +kernel
theorem tq_95 : allT.getD 95 [] = tb_95 := rfl
theorem zT95_0 : zT 95 0 (tb_95_0 ++ (tb_95_1 ++ (tb_95_2))) := zT_0 tq_95
theorem zT95_1 : zT 95 32 (tb_95_1 ++ (tb_95_2)) := zT_s zT95_0 (n := 32) (by decide +kernel) rfl
theorem zT95_2 : zT 95 64 (tb_95_2) := zT_s zT95_1 (n := 32) (by decide +kernel) rfl
theorem m95_0 : smI 95 0 = rI0 ziI1 1 := zT_a (k := 0) (i := 0) zT95_0 rfl
theorem m95_1 : smI 95 1 = rI1 ziC3 2 3 := zT_a (k := 0) (i := 1) zT95_0 rfl
theorem m95_2 : smI 95 2 = rI3 (.invokestatic 69) 5 54 2 := zT_a (k := 0) (i := 2) zT95_0 rfl
theorem m95_5 : smI 95 5 = rI2 (.ifCond .eq 25) 8 30 := zT_a (k := 0) (i := 5) zT95_0 rfl
theorem m95_8 : smI 95 8 = rI0 ziI2 9 := zT_a (k := 0) (i := 8) zT95_0 rfl
theorem m95_9 : smI 95 9 = rI2 (.ifCond .eq 27) 12 36 := zT_a (k := 0) (i := 9) zT95_0 rfl
theorem m95_12 : smI 95 12 = rI0 ziI2 13 := zT_a (k := 0) (i := 12) zT95_0 rfl
theorem m95_13 : smI 95 13 = rI1 (.bipush 8) 15 8 := zT_a (k := 0) (i := 13) zT95_0 rfl
theorem m95_15 : smI 95 15 = rI2 (.if_icmp .eq 21) 18 36 := zT_a (k := 0) (i := 15) zT95_0 rfl
theorem m95_18 : smI 95 18 = rI0 ziI2 19 := zT_a (k := 0) (i := 18) zT95_0 rfl
theorem m95_19 : smI 95 19 = rI1 (.bipush 16) 21 16 := zT_a (k := 0) (i := 19) zT95_0 rfl
theorem m95_21 : smI 95 21 = rI2 (.if_icmp .eq 15) 24 36 := zT_a (k := 0) (i := 21) zT95_0 rfl
theorem m95_24 : smI 95 24 = rI0 ziI2 25 := zT_a (k := 0) (i := 24) zT95_0 rfl
theorem m95_25 : smI 95 25 = rI1 (.bipush 32) 27 32 := zT_a (k := 0) (i := 25) zT95_0 rfl
theorem m95_27 : smI 95 27 = rI2 (.if_icmp .eq 9) 30 36 := zT_a (k := 0) (i := 27) zT95_0 rfl
theorem m95_30 : smI 95 30 = rI0 ziA0 31 := zT_a (k := 0) (i := 30) zT95_0 rfl
theorem m95_31 : smI 95 31 = rI1 ziC1 32 1 := zT_a (k := 0) (i := 31) zT95_0 rfl
theorem m95_32 : smI 95 32 = rI4 (.invokevirtual 73) 35 20 55 1 := zT_a (k := 32) (i := 0) zT95_1 rfl
theorem m95_35 : smI 95 35 = rI0 .ireturn 36 := zT_a (k := 32) (i := 3) zT95_1 rfl
theorem m95_36 : smI 95 36 = rI0 ziI2 37 := zT_a (k := 32) (i := 4) zT95_1 rfl
theorem m95_37 : smI 95 37 = rI2 (.ifCond .ne 16) 40 53 := zT_a (k := 32) (i := 5) zT95_1 rfl
theorem m95_40 : smI 95 40 = rI0 ziA0 41 := zT_a (k := 32) (i := 8) zT95_1 rfl
theorem m95_41 : smI 95 41 = rI3 (.getfield 62) 44 6 9 := zT_a (k := 32) (i := 9) zT95_1 rfl
theorem m95_44 : smI 95 44 = rI0 ziI1 45 := zT_a (k := 32) (i := 12) zT95_1 rfl
theorem m95_45 : smI 95 45 = rI0 .aaload 46 := zT_a (k := 32) (i := 13) zT95_1 rfl
theorem m95_46 : smI 95 46 = rI0 ziC0 47 := zT_a (k := 32) (i := 14) zT95_1 rfl
theorem m95_47 : smI 95 47 = rI0 ziC0 48 := zT_a (k := 32) (i := 15) zT95_1 rfl
theorem m95_48 : smI 95 48 = rI4 (.invokevirtual 264) 51 20 27 2 := zT_a (k := 32) (i := 16) zT95_1 rfl
theorem m95_51 : smI 95 51 = rI1 ziC1 52 1 := zT_a (k := 32) (i := 19) zT95_1 rfl
theorem m95_52 : smI 95 52 = rI0 .ireturn 53 := zT_a (k := 32) (i := 20) zT95_1 rfl
theorem m95_53 : smI 95 53 = rI0 ziI3 54 := zT_a (k := 32) (i := 21) zT95_1 rfl
theorem m95_54 : smI 95 54 = rI2 (.ifCond .ge 9) 57 63 := zT_a (k := 32) (i := 22) zT95_1 rfl
theorem m95_57 : smI 95 57 = rI0 ziA0 58 := zT_a (k := 32) (i := 25) zT95_1 rfl
theorem m95_58 : smI 95 58 = rI1 ziC3 59 3 := zT_a (k := 32) (i := 26) zT95_1 rfl
theorem m95_59 : smI 95 59 = rI4 (.invokevirtual 73) 62 20 55 1 := zT_a (k := 32) (i := 27) zT95_1 rfl
theorem m95_62 : smI 95 62 = rI0 .ireturn 63 := zT_a (k := 32) (i := 30) zT95_1 rfl
theorem m95_63 : smI 95 63 = rI0 ziI3 64 := zT_a (k := 32) (i := 31) zT95_1 rfl
theorem m95_64 : smI 95 64 = rI1 (.bipush 40) 66 40 := zT_l (k := 64) (i := 0) zT95_2 rfl
theorem m95_66 : smI 95 66 = rI2 (.if_icmp .le 9) 69 75 := zT_l (k := 64) (i := 2) zT95_2 rfl
theorem m95_69 : smI 95 69 = rI0 ziA0 70 := zT_l (k := 64) (i := 5) zT95_2 rfl
theorem m95_70 : smI 95 70 = rI1 ziC1 71 1 := zT_l (k := 64) (i := 6) zT95_2 rfl
theorem m95_71 : smI 95 71 = rI4 (.invokevirtual 73) 74 20 55 1 := zT_l (k := 64) (i := 7) zT95_2 rfl
theorem m95_74 : smI 95 74 = rI0 .ireturn 75 := zT_l (k := 64) (i := 10) zT95_2 rfl
theorem m95_75 : smI 95 75 = rI0 ziA0 76 := zT_l (k := 64) (i := 11) zT95_2 rfl
theorem m95_76 : smI 95 76 = rI3 (.getfield 62) 79 6 9 := zT_l (k := 64) (i := 12) zT95_2 rfl
theorem m95_79 : smI 95 79 = rI0 ziI1 80 := zT_l (k := 64) (i := 15) zT95_2 rfl
theorem m95_80 : smI 95 80 = rI0 .aaload 81 := zT_l (k := 64) (i := 16) zT95_2 rfl
theorem m95_81 : smI 95 81 = rI0 ziI2 82 := zT_l (k := 64) (i := 17) zT95_2 rfl
theorem m95_82 : smI 95 82 = rI0 ziI3 83 := zT_l (k := 64) (i := 18) zT95_2 rfl
theorem m95_83 : smI 95 83 = rI4 (.invokevirtual 264) 86 20 27 2 := zT_l (k := 64) (i := 19) zT95_2 rfl
theorem m95_86 : smI 95 86 = rI1 ziC1 87 1 := zT_l (k := 64) (i := 22) zT95_2 rfl
theorem m95_87 : smI 95 87 = rI0 .ireturn 88 := zT_l (k := 64) (i := 23) zT95_2 rfl
theorem mx_96 : mMx 96 = 5 := by decide +kernel
theorem cn_96 : mCn 96 = 6 := by decide +kernel
theorem rt_96 : mRt 96 = (some .int) := by decide +kernel
theorem tq_96 : allT.getD 96 [] = tb_96 := rfl
theorem zT96_0 : zT 96 0 (tb_96_0 ++ (tb_96_1 ++ (tb_96_2))) := zT_0 tq_96
theorem zT96_1 : zT 96 32 (tb_96_1 ++ (tb_96_2)) := zT_s zT96_0 (n := 32) (by decide +kernel) rfl
theorem zT96_2 : zT 96 64 (tb_96_2) := zT_s zT96_1 (n := 32) (by decide +kernel) rfl
theorem m96_0 : smI 96 0 = rI0 ziI1 1 := zT_a (k := 0) (i := 0) zT96_0 rfl
theorem m96_1 : smI 96 1 = rI1 ziC3 2 3 := zT_a (k := 0) (i := 1) zT96_0 rfl
theorem m96_2 : smI 96 2 = rI3 (.invokestatic 69) 5 54 2 := zT_a (k := 0) (i := 2) zT96_0 rfl
theorem m96_5 : smI 96 5 = rI2 (.ifCond .ne 9) 8 14 := zT_a (k := 0) (i := 5) zT96_0 rfl
theorem m96_8 : smI 96 8 = rI0 ziA0 9 := zT_a (k := 0) (i := 8) zT96_0 rfl
theorem m96_9 : smI 96 9 = rI1 ziC1 10 1 := zT_a (k := 0) (i := 9) zT96_0 rfl
theorem m96_10 : smI 96 10 = rI4 (.invokevirtual 73) 13 20 55 1 := zT_a (k := 0) (i := 10) zT96_0 rfl
theorem m96_13 : smI 96 13 = rI0 .ireturn 14 := zT_a (k := 0) (i := 13) zT96_0 rfl
theorem m96_14 : smI 96 14 = rI0 ziA0 15 := zT_a (k := 0) (i := 14) zT96_0 rfl
theorem m96_15 : smI 96 15 = rI3 (.getfield 62) 18 6 9 := zT_a (k := 0) (i := 15) zT96_0 rfl
theorem m96_18 : smI 96 18 = rI0 ziI1 19 := zT_a (k := 0) (i := 18) zT96_0 rfl
theorem m96_19 : smI 96 19 = rI0 .aaload 20 := zT_a (k := 0) (i := 19) zT96_0 rfl
theorem m96_20 : smI 96 20 = rI0 (.astore 4) 22 := zT_a (k := 0) (i := 20) zT96_0 rfl
theorem m96_22 : smI 96 22 = rI0 (.aload 4) 24 := zT_a (k := 0) (i := 22) zT96_0 rfl
theorem m96_24 : smI 96 24 = rI2 (.getfield 206) 27 3 := zT_a (k := 0) (i := 24) zT96_0 rfl
theorem m96_27 : smI 96 27 = rI2 (.ifCond .ne 9) 30 36 := zT_a (k := 0) (i := 27) zT96_0 rfl
theorem m96_30 : smI 96 30 = rI0 ziA0 31 := zT_a (k := 0) (i := 30) zT96_0 rfl
theorem m96_31 : smI 96 31 = rI1 ziC2 32 2 := zT_a (k := 0) (i := 31) zT96_0 rfl
theorem m96_32 : smI 96 32 = rI4 (.invokevirtual 73) 35 20 55 1 := zT_a (k := 32) (i := 0) zT96_1 rfl
theorem m96_35 : smI 96 35 = rI0 .ireturn 36 := zT_a (k := 32) (i := 3) zT96_1 rfl
theorem m96_36 : smI 96 36 = rI0 ziI2 37 := zT_a (k := 32) (i := 4) zT96_1 rfl
theorem m96_37 : smI 96 37 = rI2 (.ifCond .lt 12) 40 49 := zT_a (k := 32) (i := 5) zT96_1 rfl
theorem m96_40 : smI 96 40 = rI0 ziI2 41 := zT_a (k := 32) (i := 8) zT96_1 rfl
theorem m96_41 : smI 96 41 = rI0 (.aload 4) 43 := zT_a (k := 32) (i := 9) zT96_1 rfl
theorem m96_43 : smI 96 43 = rI3 (.getfield 213) 46 3 1 := zT_a (k := 32) (i := 11) zT96_1 rfl
theorem m96_46 : smI 96 46 = rI2 (.if_icmp .lt 9) 49 55 := zT_a (k := 32) (i := 14) zT96_1 rfl
theorem m96_49 : smI 96 49 = rI0 ziA0 50 := zT_a (k := 32) (i := 17) zT96_1 rfl
theorem m96_50 : smI 96 50 = rI1 ziC1 51 1 := zT_a (k := 32) (i := 18) zT96_1 rfl
theorem m96_51 : smI 96 51 = rI4 (.invokevirtual 73) 54 20 55 1 := zT_a (k := 32) (i := 19) zT96_1 rfl
theorem m96_54 : smI 96 54 = rI0 .ireturn 55 := zT_a (k := 32) (i := 22) zT96_1 rfl
theorem m96_55 : smI 96 55 = rI0 (.aload 4) 57 := zT_a (k := 32) (i := 23) zT96_1 rfl
theorem m96_57 : smI 96 57 = rI3 (.getfield 267) 60 3 2 := zT_a (k := 32) (i := 25) zT96_1 rfl
theorem m96_60 : smI 96 60 = rI0 ziI2 61 := zT_a (k := 32) (i := 28) zT96_1 rfl
theorem m96_61 : smI 96 61 = rI0 (.aload 4) 63 := zT_a (k := 32) (i := 29) zT96_1 rfl
theorem m96_63 : smI 96 63 = rI0 ziI3 64 := zT_a (k := 32) (i := 31) zT96_1 rfl
theorem m96_64 : smI 96 64 = rI4 (.invokevirtual 270) 67 20 28 1 := zT_l (k := 64) (i := 0) zT96_2 rfl
theorem m96_67 : smI 96 67 = rI0 .iastore 68 := zT_l (k := 64) (i := 3) zT96_2 rfl
theorem m96_68 : smI 96 68 = rI1 ziC1 69 1 := zT_l (k := 64) (i := 4) zT96_2 rfl
theorem m96_69 : smI 96 69 = rI0 .ireturn 70 := zT_l (k := 64) (i := 5) zT96_2 rfl
theorem mx_97 : mMx 97 = 8 := by decide +kernel
theorem cn_97 : mCn 97 = 6 := by decide +kernel
theorem rt_97 : mRt 97 = (some .int) := by decide +kernel
theorem tq_97 : allT.getD 97 [] = tb_97 := rfl
theorem zT97_0 : zT 97 0 (tb_97_0 ++ (tb_97_1 ++ (tb_97_2 ++ (tb_97_3 ++ (tb_97_4))))) := zT_0 tq_97
theorem zT97_1 : zT 97 32 (tb_97_1 ++ (tb_97_2 ++ (tb_97_3 ++ (tb_97_4)))) := zT_s zT97_0 (n := 32) (by decide +kernel) rfl
theorem zT97_2 : zT 97 64 (tb_97_2 ++ (tb_97_3 ++ (tb_97_4))) := zT_s zT97_1 (n := 32) (by decide +kernel) rfl
theorem zT97_3 : zT 97 96 (tb_97_3 ++ (tb_97_4)) := zT_s zT97_2 (n := 32) (by decide +kernel) rfl
theorem zT97_4 : zT 97 128 (tb_97_4) := zT_s zT97_3 (n := 32) (by decide +kernel) rfl
theorem m97_0 : smI 97 0 = rI0 ziI1 1 := zT_a (k := 0) (i := 0) zT97_0 rfl
theorem m97_1 : smI 97 1 = rI1 ziC3 2 3 := zT_a (k := 0) (i := 1) zT97_0 rfl
theorem m97_2 : smI 97 2 = rI3 (.invokestatic 69) 5 54 2 := zT_a (k := 0) (i := 2) zT97_0 rfl
theorem m97_5 : smI 97 5 = rI2 (.ifCond .eq 11) 8 16 := zT_a (k := 0) (i := 5) zT97_0 rfl
theorem m97_8 : smI 97 8 = rI0 ziI3 9 := zT_a (k := 0) (i := 8) zT97_0 rfl
theorem m97_9 : smI 97 9 = rI1 ziC3 10 3 := zT_a (k := 0) (i := 9) zT97_0 rfl
theorem m97_10 : smI 97 10 = rI3 (.invokestatic 69) 13 54 2 := zT_a (k := 0) (i := 10) zT97_0 rfl
theorem m97_13 : smI 97 13 = rI2 (.ifCond .ne 9) 16 22 := zT_a (k := 0) (i := 13) zT97_0 rfl
theorem m97_16 : smI 97 16 = rI0 ziA0 17 := zT_a (k := 0) (i := 16) zT97_0 rfl
theorem m97_17 : smI 97 17 = rI1 ziC1 18 1 := zT_a (k := 0) (i := 17) zT97_0 rfl
theorem m97_18 : smI 97 18 = rI4 (.invokevirtual 73) 21 20 55 1 := zT_a (k := 0) (i := 18) zT97_0 rfl
theorem m97_21 : smI 97 21 = rI0 .ireturn 22 := zT_a (k := 0) (i := 21) zT97_0 rfl
theorem m97_22 : smI 97 22 = rI0 ziA0 23 := zT_a (k := 0) (i := 22) zT97_0 rfl
theorem m97_23 : smI 97 23 = rI3 (.getfield 62) 26 6 9 := zT_a (k := 0) (i := 23) zT97_0 rfl
theorem m97_26 : smI 97 26 = rI0 ziI1 27 := zT_a (k := 0) (i := 26) zT97_0 rfl
theorem m97_27 : smI 97 27 = rI0 .aaload 28 := zT_a (k := 0) (i := 27) zT97_0 rfl
theorem m97_28 : smI 97 28 = rI0 (.astore 6) 30 := zT_a (k := 0) (i := 28) zT97_0 rfl
theorem m97_30 : smI 97 30 = rI0 ziA0 31 := zT_a (k := 0) (i := 30) zT97_0 rfl
theorem m97_31 : smI 97 31 = rI3 (.getfield 62) 34 6 9 := zT_a (k := 0) (i := 31) zT97_0 rfl
theorem m97_34 : smI 97 34 = rI0 ziI3 35 := zT_a (k := 32) (i := 2) zT97_1 rfl
theorem m97_35 : smI 97 35 = rI0 .aaload 36 := zT_a (k := 32) (i := 3) zT97_1 rfl
theorem m97_36 : smI 97 36 = rI0 (.astore 7) 38 := zT_a (k := 32) (i := 4) zT97_1 rfl
theorem m97_38 : smI 97 38 = rI0 (.aload 6) 40 := zT_a (k := 32) (i := 6) zT97_1 rfl
theorem m97_40 : smI 97 40 = rI2 (.getfield 206) 43 3 := zT_a (k := 32) (i := 8) zT97_1 rfl
theorem m97_43 : smI 97 43 = rI2 (.ifCond .eq 11) 46 54 := zT_a (k := 32) (i := 11) zT97_1 rfl
theorem m97_46 : smI 97 46 = rI0 (.aload 7) 48 := zT_a (k := 32) (i := 14) zT97_1 rfl
theorem m97_48 : smI 97 48 = rI2 (.getfield 206) 51 3 := zT_a (k := 32) (i := 16) zT97_1 rfl
theorem m97_51 : smI 97 51 = rI2 (.ifCond .ne 9) 54 60 := zT_a (k := 32) (i := 19) zT97_1 rfl
theorem m97_54 : smI 97 54 = rI0 ziA0 55 := zT_a (k := 32) (i := 22) zT97_1 rfl
theorem m97_55 : smI 97 55 = rI1 ziC2 56 2 := zT_a (k := 32) (i := 23) zT97_1 rfl
theorem m97_56 : smI 97 56 = rI4 (.invokevirtual 73) 59 20 55 1 := zT_a (k := 32) (i := 24) zT97_1 rfl
theorem m97_59 : smI 97 59 = rI0 .ireturn 60 := zT_a (k := 32) (i := 27) zT97_1 rfl
theorem m97_60 : smI 97 60 = rI0 (.aload 6) 62 := zT_a (k := 32) (i := 28) zT97_1 rfl
theorem m97_62 : smI 97 62 = rI2 (.getfield 206) 65 3 := zT_a (k := 32) (i := 30) zT97_1 rfl
theorem m97_65 : smI 97 65 = rI0 (.aload 7) 67 := zT_a (k := 64) (i := 1) zT97_2 rfl
theorem m97_67 : smI 97 67 = rI2 (.getfield 206) 70 3 := zT_a (k := 64) (i := 3) zT97_2 rfl
theorem m97_70 : smI 97 70 = rI2 (.if_icmp .eq 9) 73 79 := zT_a (k := 64) (i := 6) zT97_2 rfl
theorem m97_73 : smI 97 73 = rI0 ziA0 74 := zT_a (k := 64) (i := 9) zT97_2 rfl
theorem m97_74 : smI 97 74 = rI1 ziC5 75 5 := zT_a (k := 64) (i := 10) zT97_2 rfl
theorem m97_75 : smI 97 75 = rI4 (.invokevirtual 73) 78 20 55 1 := zT_a (k := 64) (i := 11) zT97_2 rfl
theorem m97_78 : smI 97 78 = rI0 .ireturn 79 := zT_a (k := 64) (i := 14) zT97_2 rfl
theorem m97_79 : smI 97 79 = rI0 (.iload 5) 81 := zT_a (k := 64) (i := 15) zT97_2 rfl
theorem m97_81 : smI 97 81 = rI2 (.ifCond .lt 37) 84 118 := zT_a (k := 64) (i := 17) zT97_2 rfl
theorem m97_84 : smI 97 84 = rI0 ziI2 85 := zT_a (k := 64) (i := 20) zT97_2 rfl
theorem m97_85 : smI 97 85 = rI2 (.ifCond .lt 33) 88 118 := zT_a (k := 64) (i := 21) zT97_2 rfl
theorem m97_88 : smI 97 88 = rI0 (.iload 4) 90 := zT_a (k := 64) (i := 24) zT97_2 rfl
theorem m97_90 : smI 97 90 = rI2 (.ifCond .lt 28) 93 118 := zT_a (k := 64) (i := 26) zT97_2 rfl
theorem m97_93 : smI 97 93 = rI0 ziI2 94 := zT_a (k := 64) (i := 29) zT97_2 rfl
theorem m97_94 : smI 97 94 = rI0 (.aload 6) 96 := zT_a (k := 64) (i := 30) zT97_2 rfl
theorem m97_96 : smI 97 96 = rI3 (.getfield 213) 99 3 1 := zT_a (k := 96) (i := 0) zT97_3 rfl
theorem m97_99 : smI 97 99 = rI0 (.iload 5) 101 := zT_a (k := 96) (i := 3) zT97_3 rfl
theorem m97_101 : smI 97 101 = rI0 .isub 102 := zT_a (k := 96) (i := 5) zT97_3 rfl
theorem m97_102 : smI 97 102 = rI2 (.if_icmp .gt 16) 105 118 := zT_a (k := 96) (i := 6) zT97_3 rfl
theorem m97_105 : smI 97 105 = rI0 (.iload 4) 107 := zT_a (k := 96) (i := 9) zT97_3 rfl
theorem m97_107 : smI 97 107 = rI0 (.aload 7) 109 := zT_a (k := 96) (i := 11) zT97_3 rfl
theorem m97_109 : smI 97 109 = rI3 (.getfield 213) 112 3 1 := zT_a (k := 96) (i := 13) zT97_3 rfl
theorem m97_112 : smI 97 112 = rI0 (.iload 5) 114 := zT_a (k := 96) (i := 16) zT97_3 rfl
theorem m97_114 : smI 97 114 = rI0 .isub 115 := zT_a (k := 96) (i := 18) zT97_3 rfl
theorem m97_115 : smI 97 115 = rI2 (.if_icmp .le 9) 118 124 := zT_a (k := 96) (i := 19) zT97_3 rfl
theorem m97_118 : smI 97 118 = rI0 ziA0 119 := zT_a (k := 96) (i := 22) zT97_3 rfl
theorem m97_119 : smI 97 119 = rI1 ziC1 120 1 := zT_a (k := 96) (i := 23) zT97_3 rfl
theorem m97_120 : smI 97 120 = rI4 (.invokevirtual 73) 123 20 55 1 := zT_a (k := 96) (i := 24) zT97_3 rfl
theorem m97_123 : smI 97 123 = rI0 .ireturn 124 := zT_a (k := 96) (i := 27) zT97_3 rfl
theorem m97_124 : smI 97 124 = rI0 (.aload 6) 126 := zT_a (k := 96) (i := 28) zT97_3 rfl
theorem m97_126 : smI 97 126 = rI3 (.getfield 267) 129 3 2 := zT_a (k := 96) (i := 30) zT97_3 rfl
theorem m97_129 : smI 97 129 = rI0 ziI2 130 := zT_l (k := 128) (i := 1) zT97_4 rfl
theorem m97_130 : smI 97 130 = rI0 (.aload 7) 132 := zT_l (k := 128) (i := 2) zT97_4 rfl
theorem m97_132 : smI 97 132 = rI3 (.getfield 267) 135 3 2 := zT_l (k := 128) (i := 4) zT97_4 rfl
theorem m97_135 : smI 97 135 = rI0 (.iload 4) 137 := zT_l (k := 128) (i := 7) zT97_4 rfl
theorem m97_137 : smI 97 137 = rI0 (.iload 5) 139 := zT_l (k := 128) (i := 9) zT97_4 rfl
theorem m97_139 : smI 97 139 = rI4 (.invokestatic 273) 142 4 0 5 := zT_l (k := 128) (i := 11) zT97_4 rfl
theorem m97_142 : smI 97 142 = rI0 (.iload 5) 144 := zT_l (k := 128) (i := 14) zT97_4 rfl
theorem m97_144 : smI 97 144 = rI0 .ireturn 145 := zT_l (k := 128) (i := 16) zT97_4 rfl
theorem mx_98 : mMx 98 = 5 := by decide +kernel
theorem cn_98 : mCn 98 = 6 := by decide +kernel
theorem rt_98 : mRt 98 = (some .int) := by decide +kernel
theorem tq_98 : allT.getD 98 [] = tb_98 := rfl
theorem zT98_0 : zT 98 0 (tb_98_0 ++ (tb_98_1 ++ (tb_98_2 ++ (tb_98_3)))) := zT_0 tq_98
theorem zT98_1 : zT 98 32 (tb_98_1 ++ (tb_98_2 ++ (tb_98_3))) := zT_s zT98_0 (n := 32) (by decide +kernel) rfl
theorem zT98_2 : zT 98 64 (tb_98_2 ++ (tb_98_3)) := zT_s zT98_1 (n := 32) (by decide +kernel) rfl
theorem zT98_3 : zT 98 96 (tb_98_3) := zT_s zT98_2 (n := 32) (by decide +kernel) rfl
theorem m98_0 : smI 98 0 = rI0 ziI1 1 := zT_a (k := 0) (i := 0) zT98_0 rfl
theorem m98_1 : smI 98 1 = rI1 ziC3 2 3 := zT_a (k := 0) (i := 1) zT98_0 rfl
theorem m98_2 : smI 98 2 = rI3 (.invokestatic 69) 5 54 2 := zT_a (k := 0) (i := 2) zT98_0 rfl
theorem m98_5 : smI 98 5 = rI2 (.ifCond .ne 9) 8 14 := zT_a (k := 0) (i := 5) zT98_0 rfl
theorem m98_8 : smI 98 8 = rI0 ziA0 9 := zT_a (k := 0) (i := 8) zT98_0 rfl
theorem m98_9 : smI 98 9 = rI1 ziC1 10 1 := zT_a (k := 0) (i := 9) zT98_0 rfl
theorem m98_10 : smI 98 10 = rI4 (.invokevirtual 73) 13 20 55 1 := zT_a (k := 0) (i := 10) zT98_0 rfl
theorem m98_13 : smI 98 13 = rI0 .ireturn 14 := zT_a (k := 0) (i := 13) zT98_0 rfl
theorem m98_14 : smI 98 14 = rI0 ziA0 15 := zT_a (k := 0) (i := 14) zT98_0 rfl
theorem m98_15 : smI 98 15 = rI3 (.getfield 62) 18 6 9 := zT_a (k := 0) (i := 15) zT98_0 rfl
theorem m98_18 : smI 98 18 = rI0 ziI1 19 := zT_a (k := 0) (i := 18) zT98_0 rfl
theorem m98_19 : smI 98 19 = rI0 .aaload 20 := zT_a (k := 0) (i := 19) zT98_0 rfl
theorem m98_20 : smI 98 20 = rI0 (.astore_n 2) 21 := zT_a (k := 0) (i := 20) zT98_0 rfl
theorem m98_21 : smI 98 21 = rI0 ziA2 22 := zT_a (k := 0) (i := 21) zT98_0 rfl
theorem m98_22 : smI 98 22 = rI2 (.getfield 206) 25 3 := zT_a (k := 0) (i := 22) zT98_0 rfl
theorem m98_25 : smI 98 25 = rI2 (.ifCond .ne 9) 28 34 := zT_a (k := 0) (i := 25) zT98_0 rfl
theorem m98_28 : smI 98 28 = rI0 ziA0 29 := zT_a (k := 0) (i := 28) zT98_0 rfl
theorem m98_29 : smI 98 29 = rI1 ziC2 30 2 := zT_a (k := 0) (i := 29) zT98_0 rfl
theorem m98_30 : smI 98 30 = rI4 (.invokevirtual 73) 33 20 55 1 := zT_a (k := 0) (i := 30) zT98_0 rfl
theorem m98_33 : smI 98 33 = rI0 .ireturn 34 := zT_a (k := 32) (i := 1) zT98_1 rfl
theorem m98_34 : smI 98 34 = rI0 ziA2 35 := zT_a (k := 32) (i := 2) zT98_1 rfl
theorem m98_35 : smI 98 35 = rI3 (.getfield 213) 38 3 1 := zT_a (k := 32) (i := 3) zT98_1 rfl
theorem m98_38 : smI 98 38 = rI0 ziA0 39 := zT_a (k := 32) (i := 6) zT98_1 rfl
theorem m98_39 : smI 98 39 = rI2 (.getfield 10) 42 6 := zT_a (k := 32) (i := 7) zT98_1 rfl
theorem m98_42 : smI 98 42 = rI3 (.getfield 83) 45 4 10 := zT_a (k := 32) (i := 10) zT98_1 rfl
theorem m98_45 : smI 98 45 = rI4 (.invokestatic 279) 48 3 0 2 := zT_a (k := 32) (i := 13) zT98_1 rfl
theorem m98_48 : smI 98 48 = rI0 ziS3 49 := zT_a (k := 32) (i := 16) zT98_1 rfl
theorem m98_49 : smI 98 49 = rI0 ziC0 50 := zT_a (k := 32) (i := 17) zT98_1 rfl
theorem m98_50 : smI 98 50 = rI0 (.istore 4) 52 := zT_a (k := 32) (i := 18) zT98_1 rfl
theorem m98_52 : smI 98 52 = rI0 (.iload 4) 54 := zT_a (k := 32) (i := 20) zT98_1 rfl
theorem m98_54 : smI 98 54 = rI0 ziI3 55 := zT_a (k := 32) (i := 22) zT98_1 rfl
theorem m98_55 : smI 98 55 = rI2 (.if_icmp .ge 44) 58 99 := zT_a (k := 32) (i := 23) zT98_1 rfl
theorem m98_58 : smI 98 58 = rI0 ziA2 59 := zT_a (k := 32) (i := 26) zT98_1 rfl
theorem m98_59 : smI 98 59 = rI3 (.getfield 267) 62 3 2 := zT_a (k := 32) (i := 27) zT98_1 rfl
theorem m98_62 : smI 98 62 = rI0 (.iload 4) 64 := zT_a (k := 32) (i := 30) zT98_1 rfl
theorem m98_64 : smI 98 64 = rI0 .iaload 65 := zT_a (k := 64) (i := 0) zT98_2 rfl
theorem m98_65 : smI 98 65 = rI1 (.bipush 9) 67 9 := zT_a (k := 64) (i := 1) zT98_2 rfl
theorem m98_67 : smI 98 67 = rI3 (.invokestatic 69) 70 54 2 := zT_a (k := 64) (i := 3) zT98_2 rfl
theorem m98_70 : smI 98 70 = rI2 (.ifCond .ne 6) 73 76 := zT_a (k := 64) (i := 6) zT98_2 rfl
theorem m98_73 : smI 98 73 = rI0 (.iload 4) 75 := zT_a (k := 64) (i := 9) zT98_2 rfl
theorem m98_75 : smI 98 75 = rI0 .ireturn 76 := zT_a (k := 64) (i := 11) zT98_2 rfl
theorem m98_76 : smI 98 76 = rI0 ziA0 77 := zT_a (k := 64) (i := 12) zT98_2 rfl
theorem m98_77 : smI 98 77 = rI2 (.getfield 10) 80 6 := zT_a (k := 64) (i := 13) zT98_2 rfl
theorem m98_80 : smI 98 80 = rI3 (.getfield 95) 83 4 4 := zT_a (k := 64) (i := 16) zT98_2 rfl
theorem m98_83 : smI 98 83 = rI0 (.iload 4) 85 := zT_a (k := 64) (i := 19) zT98_2 rfl
theorem m98_85 : smI 98 85 = rI0 ziA2 86 := zT_a (k := 64) (i := 21) zT98_2 rfl
theorem m98_86 : smI 98 86 = rI3 (.getfield 267) 89 3 2 := zT_a (k := 64) (i := 22) zT98_2 rfl
theorem m98_89 : smI 98 89 = rI0 (.iload 4) 91 := zT_a (k := 64) (i := 25) zT98_2 rfl
theorem m98_91 : smI 98 91 = rI0 .iaload 92 := zT_a (k := 64) (i := 27) zT98_2 rfl
theorem m98_92 : smI 98 92 = rI0 .iastore 93 := zT_a (k := 64) (i := 28) zT98_2 rfl
theorem m98_93 : smI 98 93 = rI1 (.iinc 4 1) 96 1 := zT_a (k := 64) (i := 29) zT98_2 rfl
theorem m98_96 : smI 98 96 = rI2 (.goto (-44)) 99 52 := zT_l (k := 96) (i := 0) zT98_3 rfl
theorem m98_99 : smI 98 99 = rI0 ziI3 100 := zT_l (k := 96) (i := 3) zT98_3 rfl
theorem m98_100 : smI 98 100 = rI0 .ireturn 101 := zT_l (k := 96) (i := 4) zT98_3 rfl
theorem mx_99 : mMx 99 = 5 := by decide +kernel
theorem cn_99 : mCn 99 = 6 := by decide +kernel
theorem rt_99 : mRt 99 = (some .int) := by decide +kernel
theorem tq_99 : allT.getD 99 [] = tb_99 := rfl
theorem zT99_0 : zT 99 0 (tb_99_0 ++ (tb_99_1 ++ (tb_99_2 ++ (tb_99_3)))) := zT_0 tq_99
theorem zT99_1 : zT 99 32 (tb_99_1 ++ (tb_99_2 ++ (tb_99_3))) := zT_s zT99_0 (n := 32) (by decide +kernel) rfl
theorem zT99_2 : zT 99 64 (tb_99_2 ++ (tb_99_3)) := zT_s zT99_1 (n := 32) (by decide +kernel) rfl
theorem zT99_3 : zT 99 96 (tb_99_3) := zT_s zT99_2 (n := 32) (by decide +kernel) rfl
theorem m99_0 : smI 99 0 = rI0 ziI1 1 := zT_a (k := 0) (i := 0) zT99_0 rfl
theorem m99_1 : smI 99 1 = rI1 ziC3 2 3 := zT_a (k := 0) (i := 1) zT99_0 rfl
theorem m99_2 : smI 99 2 = rI3 (.invokestatic 69) 5 54 2 := zT_a (k := 0) (i := 2) zT99_0 rfl
theorem m99_5 : smI 99 5 = rI2 (.ifCond .ne 9) 8 14 := zT_a (k := 0) (i := 5) zT99_0 rfl
theorem m99_8 : smI 99 8 = rI0 ziA0 9 := zT_a (k := 0) (i := 8) zT99_0 rfl
theorem m99_9 : smI 99 9 = rI1 ziC1 10 1 := zT_a (k := 0) (i := 9) zT99_0 rfl
theorem m99_10 : smI 99 10 = rI4 (.invokevirtual 73) 13 20 55 1 := zT_a (k := 0) (i := 10) zT99_0 rfl
theorem m99_13 : smI 99 13 = rI0 .ireturn 14 := zT_a (k := 0) (i := 13) zT99_0 rfl
theorem m99_14 : smI 99 14 = rI0 ziA0 15 := zT_a (k := 0) (i := 14) zT99_0 rfl
theorem m99_15 : smI 99 15 = rI3 (.getfield 62) 18 6 9 := zT_a (k := 0) (i := 15) zT99_0 rfl
theorem m99_18 : smI 99 18 = rI0 ziI1 19 := zT_a (k := 0) (i := 18) zT99_0 rfl
theorem m99_19 : smI 99 19 = rI0 .aaload 20 := zT_a (k := 0) (i := 19) zT99_0 rfl
theorem m99_20 : smI 99 20 = rI0 (.astore_n 2) 21 := zT_a (k := 0) (i := 20) zT99_0 rfl
theorem m99_21 : smI 99 21 = rI0 ziA2 22 := zT_a (k := 0) (i := 21) zT99_0 rfl
theorem m99_22 : smI 99 22 = rI2 (.getfield 206) 25 3 := zT_a (k := 0) (i := 22) zT99_0 rfl
theorem m99_25 : smI 99 25 = rI2 (.ifCond .ne 9) 28 34 := zT_a (k := 0) (i := 25) zT99_0 rfl
theorem m99_28 : smI 99 28 = rI0 ziA0 29 := zT_a (k := 0) (i := 28) zT99_0 rfl
theorem m99_29 : smI 99 29 = rI1 ziC2 30 2 := zT_a (k := 0) (i := 29) zT99_0 rfl
theorem m99_30 : smI 99 30 = rI4 (.invokevirtual 73) 33 20 55 1 := zT_a (k := 0) (i := 30) zT99_0 rfl
theorem m99_33 : smI 99 33 = rI0 .ireturn 34 := zT_a (k := 32) (i := 1) zT99_1 rfl
theorem m99_34 : smI 99 34 = rI0 ziA2 35 := zT_a (k := 32) (i := 2) zT99_1 rfl
theorem m99_35 : smI 99 35 = rI3 (.getfield 213) 38 3 1 := zT_a (k := 32) (i := 3) zT99_1 rfl
theorem m99_38 : smI 99 38 = rI0 ziA0 39 := zT_a (k := 32) (i := 6) zT99_1 rfl
theorem m99_39 : smI 99 39 = rI2 (.getfield 10) 42 6 := zT_a (k := 32) (i := 7) zT99_1 rfl
theorem m99_42 : smI 99 42 = rI3 (.getfield 83) 45 4 10 := zT_a (k := 32) (i := 10) zT99_1 rfl
theorem m99_45 : smI 99 45 = rI4 (.invokestatic 279) 48 3 0 2 := zT_a (k := 32) (i := 13) zT99_1 rfl
theorem m99_48 : smI 99 48 = rI0 ziS3 49 := zT_a (k := 32) (i := 16) zT99_1 rfl
theorem m99_49 : smI 99 49 = rI0 ziC0 50 := zT_a (k := 32) (i := 17) zT99_1 rfl
theorem m99_50 : smI 99 50 = rI0 (.istore 4) 52 := zT_a (k := 32) (i := 18) zT99_1 rfl
theorem m99_52 : smI 99 52 = rI0 (.iload 4) 54 := zT_a (k := 32) (i := 20) zT99_1 rfl
theorem m99_54 : smI 99 54 = rI0 ziI3 55 := zT_a (k := 32) (i := 22) zT99_1 rfl
theorem m99_55 : smI 99 55 = rI2 (.if_icmp .ge 30) 58 85 := zT_a (k := 32) (i := 23) zT99_1 rfl
theorem m99_58 : smI 99 58 = rI0 ziA2 59 := zT_a (k := 32) (i := 26) zT99_1 rfl
theorem m99_59 : smI 99 59 = rI0 (.iload 4) 61 := zT_a (k := 32) (i := 27) zT99_1 rfl
theorem m99_61 : smI 99 61 = rI0 ziA0 62 := zT_a (k := 32) (i := 29) zT99_1 rfl
theorem m99_62 : smI 99 62 = rI2 (.getfield 10) 65 6 := zT_a (k := 32) (i := 30) zT99_1 rfl
theorem m99_65 : smI 99 65 = rI0 (.iload 4) 67 := zT_a (k := 64) (i := 1) zT99_2 rfl
theorem m99_67 : smI 99 67 = rI4 (.invokevirtual 109) 70 20 34 1 := zT_a (k := 64) (i := 3) zT99_2 rfl
theorem m99_70 : smI 99 70 = rI4 (.invokevirtual 216) 73 20 29 2 := zT_a (k := 64) (i := 6) zT99_2 rfl
theorem m99_73 : smI 99 73 = rI2 (.ifCond .ne 6) 76 79 := zT_a (k := 64) (i := 9) zT99_2 rfl
theorem m99_76 : smI 99 76 = rI0 (.iload 4) 78 := zT_a (k := 64) (i := 12) zT99_2 rfl
theorem m99_78 : smI 99 78 = rI0 .ireturn 79 := zT_a (k := 64) (i := 14) zT99_2 rfl
theorem m99_79 : smI 99 79 = rI1 (.iinc 4 1) 82 1 := zT_a (k := 64) (i := 15) zT99_2 rfl
theorem m99_82 : smI 99 82 = rI2 (.goto (-30)) 85 52 := zT_a (k := 64) (i := 18) zT99_2 rfl
theorem m99_85 : smI 99 85 = rI0 ziA2 86 := zT_a (k := 64) (i := 21) zT99_2 rfl
theorem m99_86 : smI 99 86 = rI3 (.getfield 213) 89 3 1 := zT_a (k := 64) (i := 22) zT99_2 rfl
theorem m99_89 : smI 99 89 = rI0 ziA0 90 := zT_a (k := 64) (i := 25) zT99_2 rfl
theorem m99_90 : smI 99 90 = rI2 (.getfield 10) 93 6 := zT_a (k := 64) (i := 26) zT99_2 rfl
theorem m99_93 : smI 99 93 = rI3 (.getfield 83) 96 4 10 := zT_a (k := 64) (i := 29) zT99_2 rfl
theorem m99_96 : smI 99 96 = rI2 (.if_icmp .ne 7) 99 103 := zT_l (k := 96) (i := 0) zT99_3 rfl
theorem m99_99 : smI 99 99 = rI1 (.iconst (-1)) 100 (-1) := zT_l (k := 96) (i := 3) zT99_3 rfl
theorem m99_100 : smI 99 100 = rI2 (.goto 4) 103 104 := zT_l (k := 96) (i := 4) zT99_3 rfl
theorem m99_103 : smI 99 103 = rI0 ziI3 104 := zT_l (k := 96) (i := 7) zT99_3 rfl
theorem m99_104 : smI 99 104 = rI0 .ireturn 105 := zT_l (k := 96) (i := 8) zT99_3 rfl
theorem mx_100 : mMx 100 = 1 := by decide +kernel
theorem cn_100 : mCn 100 = 6 := by decide +kernel
theorem rt_100 : mRt 100 = (some .int) := by decide +kernel
theorem tq_100 : allT.getD 100 [] = tb_100 := rfl
theorem zT100_0 : zT 100 0 (tb_100_0 ++ (tb_100_1)) := zT_0 tq_100
theorem zT100_1 : zT 100 32 (tb_100_1) := zT_s zT100_0 (n := 32) (by decide +kernel) rfl
theorem m100_0 : smI 100 0 = rI0 ziA0 1 := zT_a (k := 0) (i := 0) zT100_0 rfl
theorem m100_1 : smI 100 1 = rI3 (.getfield 22) 4 6 3 := zT_a (k := 0) (i := 1) zT100_0 rfl
theorem m100_4 : smI 100 4 = rI0 ziA0 5 := zT_a (k := 0) (i := 4) zT100_0 rfl
theorem m100_5 : smI 100 5 = rI2 (.getfield 10) 8 6 := zT_a (k := 0) (i := 5) zT100_0 rfl
theorem m100_8 : smI 100 8 = rI4 (.invokevirtual 222) 11 20 31 1 := zT_a (k := 0) (i := 8) zT100_0 rfl
theorem m100_11 : smI 100 11 = rI0 ziA0 12 := zT_a (k := 0) (i := 11) zT100_0 rfl
theorem m100_12 : smI 100 12 = rI3 (.getfield 32) 15 6 5 := zT_a (k := 0) (i := 12) zT100_0 rfl
theorem m100_15 : smI 100 15 = rI0 ziA0 16 := zT_a (k := 0) (i := 15) zT100_0 rfl
theorem m100_16 : smI 100 16 = rI3 (.getfield 28) 19 6 4 := zT_a (k := 0) (i := 16) zT100_0 rfl
theorem m100_19 : smI 100 19 = rI4 (.invokevirtual 284) 22 20 11 1 := zT_a (k := 0) (i := 19) zT100_0 rfl
theorem m100_22 : smI 100 22 = rI0 ziA0 23 := zT_a (k := 0) (i := 22) zT100_0 rfl
theorem m100_23 : smI 100 23 = rI0 .dup 24 := zT_a (k := 0) (i := 23) zT100_0 rfl
theorem m100_24 : smI 100 24 = rI3 (.getfield 35) 27 6 6 := zT_a (k := 0) (i := 24) zT100_0 rfl
theorem m100_27 : smI 100 27 = rI1 ziC1 28 1 := zT_a (k := 0) (i := 27) zT100_0 rfl
theorem m100_28 : smI 100 28 = rI0 .iadd 29 := zT_a (k := 0) (i := 28) zT100_0 rfl
theorem m100_29 : smI 100 29 = rI3 (.putfield 35) 32 6 6 := zT_a (k := 0) (i := 29) zT100_0 rfl
theorem m100_32 : smI 100 32 = rI0 ziA0 33 := zT_l (k := 32) (i := 0) zT100_1 rfl
theorem m100_33 : smI 100 33 = rI3 (.getfield 35) 36 6 6 := zT_l (k := 32) (i := 1) zT100_1 rfl
theorem m100_36 : smI 100 36 = rI0 .ireturn 37 := zT_l (k := 32) (i := 4) zT100_1 rfl
theorem mx_101 : mMx 101 = 1 := by decide +kernel
theorem cn_101 : mCn 101 = 6 := by decide +kernel
theorem rt_101 : mRt 101 = (some .int) := by decide +kernel
theorem tq_101 : allT.getD 101 [] = tb_101 := rfl
theorem zT101_0 : zT 101 0 (tb_101_0 ++ (tb_101_1)) := zT_0 tq_101
theorem zT101_1 : zT 101 32 (tb_101_1) := zT_s zT101_0 (n := 32) (by decide +kernel) rfl
theorem m101_0 : smI 101 0 = rI0 ziA0 1 := zT_a (k := 0) (i := 0) zT101_0 rfl
theorem m101_1 : smI 101 1 = rI3 (.getfield 35) 4 6 6 := zT_a (k := 0) (i := 1) zT101_0 rfl
theorem m101_4 : smI 101 4 = rI2 (.ifCond .ne 9) 7 13 := zT_a (k := 0) (i := 4) zT101_0 rfl
theorem m101_7 : smI 101 7 = rI0 ziA0 8 := zT_a (k := 0) (i := 7) zT101_0 rfl
theorem m101_8 : smI 101 8 = rI1 ziC2 9 2 := zT_a (k := 0) (i := 8) zT101_0 rfl
theorem m101_9 : smI 101 9 = rI4 (.invokevirtual 73) 12 20 55 1 := zT_a (k := 0) (i := 9) zT101_0 rfl
theorem m101_12 : smI 101 12 = rI0 .ireturn 13 := zT_a (k := 0) (i := 12) zT101_0 rfl
theorem m101_13 : smI 101 13 = rI0 ziA0 14 := zT_a (k := 0) (i := 13) zT101_0 rfl
theorem m101_14 : smI 101 14 = rI2 (.getfield 10) 17 6 := zT_a (k := 0) (i := 14) zT101_0 rfl
theorem m101_17 : smI 101 17 = rI0 ziA0 18 := zT_a (k := 0) (i := 17) zT101_0 rfl
theorem m101_18 : smI 101 18 = rI3 (.getfield 22) 21 6 3 := zT_a (k := 0) (i := 18) zT101_0 rfl
theorem m101_21 : smI 101 21 = rI4 (.invokevirtual 222) 24 20 31 1 := zT_a (k := 0) (i := 21) zT101_0 rfl
theorem m101_24 : smI 101 24 = rI0 ziA0 25 := zT_a (k := 0) (i := 24) zT101_0 rfl
theorem m101_25 : smI 101 25 = rI3 (.getfield 28) 28 6 4 := zT_a (k := 0) (i := 25) zT101_0 rfl
theorem m101_28 : smI 101 28 = rI0 ziA0 29 := zT_a (k := 0) (i := 28) zT101_0 rfl
theorem m101_29 : smI 101 29 = rI3 (.getfield 32) 32 6 5 := zT_a (k := 0) (i := 29) zT101_0 rfl
theorem m101_32 : smI 101 32 = rI4 (.invokevirtual 284) 35 20 11 1 := zT_l (k := 32) (i := 0) zT101_1 rfl
theorem m101_35 : smI 101 35 = rI0 ziA0 36 := zT_l (k := 32) (i := 3) zT101_1 rfl
theorem m101_36 : smI 101 36 = rI2 (.getfield 10) 39 6 := zT_l (k := 32) (i := 4) zT101_1 rfl
theorem m101_39 : smI 101 39 = rI3 (.getfield 157) 42 4 9 := zT_l (k := 32) (i := 7) zT101_1 rfl
theorem m101_42 : smI 101 42 = rI0 .ireturn 43 := zT_l (k := 32) (i := 10) zT101_1 rfl
theorem mx_102 : mMx 102 = 2 := by decide +kernel
theorem cn_102 : mCn 102 = 6 := by decide +kernel
theorem rt_102 : mRt 102 = (some .int) := by decide +kernel
theorem tq_102 : allT.getD 102 [] = tb_102 := rfl
theorem zT102_0 : zT 102 0 (tb_102_0 ++ (tb_102_1)) := zT_0 tq_102
theorem zT102_1 : zT 102 32 (tb_102_1) := zT_s zT102_0 (n := 32) (by decide +kernel) rfl
theorem m102_0 : smI 102 0 = rI0 ziA0 1 := zT_a (k := 0) (i := 0) zT102_0 rfl
theorem m102_1 : smI 102 1 = rI3 (.getfield 28) 4 6 4 := zT_a (k := 0) (i := 1) zT102_0 rfl
theorem m102_4 : smI 102 4 = rI3 (.getfield 287) 7 0 4 := zT_a (k := 0) (i := 4) zT102_0 rfl
theorem m102_7 : smI 102 7 = rI1 (.bipush 20) 9 20 := zT_a (k := 0) (i := 7) zT102_0 rfl
theorem m102_9 : smI 102 9 = rI2 (.if_icmp .lt 9) 12 18 := zT_a (k := 0) (i := 9) zT102_0 rfl
theorem m102_12 : smI 102 12 = rI0 ziA0 13 := zT_a (k := 0) (i := 12) zT102_0 rfl
theorem m102_13 : smI 102 13 = rI1 ziC4 14 4 := zT_a (k := 0) (i := 13) zT102_0 rfl
theorem m102_14 : smI 102 14 = rI4 (.invokevirtual 73) 17 20 55 1 := zT_a (k := 0) (i := 14) zT102_0 rfl
theorem m102_17 : smI 102 17 = rI0 .ireturn 18 := zT_a (k := 0) (i := 17) zT102_0 rfl
theorem m102_18 : smI 102 18 = rI0 ziA0 19 := zT_a (k := 0) (i := 18) zT102_0 rfl
theorem m102_19 : smI 102 19 = rI3 (.getfield 28) 22 6 4 := zT_a (k := 0) (i := 19) zT102_0 rfl
theorem m102_22 : smI 102 22 = rI3 (.getfield 290) 25 0 3 := zT_a (k := 0) (i := 22) zT102_0 rfl
theorem m102_25 : smI 102 25 = rI0 ziA0 26 := zT_a (k := 0) (i := 25) zT102_0 rfl
theorem m102_26 : smI 102 26 = rI3 (.getfield 28) 29 6 4 := zT_a (k := 0) (i := 26) zT102_0 rfl
theorem m102_29 : smI 102 29 = rI3 (.getfield 287) 32 0 4 := zT_a (k := 0) (i := 29) zT102_0 rfl
theorem m102_32 : smI 102 32 = rI0 ziI1 33 := zT_l (k := 32) (i := 0) zT102_1 rfl
theorem m102_33 : smI 102 33 = rI0 .iastore 34 := zT_l (k := 32) (i := 1) zT102_1 rfl
theorem m102_34 : smI 102 34 = rI0 ziA0 35 := zT_l (k := 32) (i := 2) zT102_1 rfl
theorem m102_35 : smI 102 35 = rI3 (.getfield 28) 38 6 4 := zT_l (k := 32) (i := 3) zT102_1 rfl
theorem m102_38 : smI 102 38 = rI0 .dup 39 := zT_l (k := 32) (i := 6) zT102_1 rfl
theorem m102_39 : smI 102 39 = rI3 (.getfield 287) 42 0 4 := zT_l (k := 32) (i := 7) zT102_1 rfl
theorem m102_42 : smI 102 42 = rI1 ziC1 43 1 := zT_l (k := 32) (i := 10) zT102_1 rfl
theorem m102_43 : smI 102 43 = rI0 .iadd 44 := zT_l (k := 32) (i := 11) zT102_1 rfl
theorem m102_44 : smI 102 44 = rI3 (.putfield 287) 47 0 4 := zT_l (k := 32) (i := 12) zT102_1 rfl
theorem m102_47 : smI 102 47 = rI0 ziA0 48 := zT_l (k := 32) (i := 15) zT102_1 rfl
theorem m102_48 : smI 102 48 = rI3 (.getfield 28) 51 6 4 := zT_l (k := 32) (i := 16) zT102_1 rfl
theorem m102_51 : smI 102 51 = rI3 (.getfield 287) 54 0 4 := zT_l (k := 32) (i := 19) zT102_1 rfl
theorem m102_54 : smI 102 54 = rI0 .ireturn 55 := zT_l (k := 32) (i := 22) zT102_1 rfl
theorem mx_103 : mMx 103 = 4 := by decide +kernel
theorem cn_103 : mCn 103 = 6 := by decide +kernel
theorem rt_103 : mRt 103 = (some .int) := by decide +kernel
theorem tq_103 : allT.getD 103 [] = tb_103 := rfl
theorem zT103_0 : zT 103 0 (tb_103_0 ++ (tb_103_1)) := zT_0 tq_103
theorem zT103_1 : zT 103 32 (tb_103_1) := zT_s zT103_0 (n := 32) (by decide +kernel) rfl
theorem m103_0 : smI 103 0 = rI0 ziA0 1 := zT_a (k := 0) (i := 0) zT103_0 rfl
theorem m103_1 : smI 103 1 = rI3 (.getfield 28) 4 6 4 := zT_a (k := 0) (i := 1) zT103_0 rfl
theorem m103_4 : smI 103 4 = rI3 (.getfield 287) 7 0 4 := zT_a (k := 0) (i := 4) zT103_0 rfl
theorem m103_7 : smI 103 7 = rI0 ziS1 8 := zT_a (k := 0) (i := 7) zT103_0 rfl
theorem m103_8 : smI 103 8 = rI0 ziA0 9 := zT_a (k := 0) (i := 8) zT103_0 rfl
theorem m103_9 : smI 103 9 = rI3 (.getfield 28) 12 6 4 := zT_a (k := 0) (i := 9) zT103_0 rfl
theorem m103_12 : smI 103 12 = rI0 ziC0 13 := zT_a (k := 0) (i := 12) zT103_0 rfl
theorem m103_13 : smI 103 13 = rI3 (.putfield 287) 16 0 4 := zT_a (k := 0) (i := 13) zT103_0 rfl
theorem m103_16 : smI 103 16 = rI0 ziA0 17 := zT_a (k := 0) (i := 16) zT103_0 rfl
theorem m103_17 : smI 103 17 = rI4 (.invokevirtual 183) 20 20 74 0 := zT_a (k := 0) (i := 17) zT103_0 rfl
theorem m103_20 : smI 103 20 = rI0 (.astore_n 2) 21 := zT_a (k := 0) (i := 20) zT103_0 rfl
theorem m103_21 : smI 103 21 = rI0 ziC0 22 := zT_a (k := 0) (i := 21) zT103_0 rfl
theorem m103_22 : smI 103 22 = rI0 ziS3 23 := zT_a (k := 0) (i := 22) zT103_0 rfl
theorem m103_23 : smI 103 23 = rI0 ziI3 24 := zT_a (k := 0) (i := 23) zT103_0 rfl
theorem m103_24 : smI 103 24 = rI0 ziI1 25 := zT_a (k := 0) (i := 24) zT103_0 rfl
theorem m103_25 : smI 103 25 = rI2 (.if_icmp .ge 34) 28 59 := zT_a (k := 0) (i := 25) zT103_0 rfl
theorem m103_28 : smI 103 28 = rI0 ziA2 29 := zT_a (k := 0) (i := 28) zT103_0 rfl
theorem m103_29 : smI 103 29 = rI4 (.invokevirtual 171) 32 20 40 0 := zT_a (k := 0) (i := 29) zT103_0 rfl
theorem m103_32 : smI 103 32 = rI0 .pop 33 := zT_l (k := 32) (i := 0) zT103_1 rfl
theorem m103_33 : smI 103 33 = rI0 ziA2 34 := zT_l (k := 32) (i := 1) zT103_1 rfl
theorem m103_34 : smI 103 34 = rI4 (.invokevirtual 164) 37 20 45 0 := zT_l (k := 32) (i := 2) zT103_1 rfl
theorem m103_37 : smI 103 37 = rI0 ziA0 38 := zT_l (k := 32) (i := 5) zT103_1 rfl
theorem m103_38 : smI 103 38 = rI3 (.getfield 28) 41 6 4 := zT_l (k := 32) (i := 6) zT103_1 rfl
theorem m103_41 : smI 103 41 = rI3 (.getfield 290) 44 0 3 := zT_l (k := 32) (i := 9) zT103_1 rfl
theorem m103_44 : smI 103 44 = rI0 ziI3 45 := zT_l (k := 32) (i := 12) zT103_1 rfl
theorem m103_45 : smI 103 45 = rI0 .iaload 46 := zT_l (k := 32) (i := 13) zT103_1 rfl
theorem m103_46 : smI 103 46 = rI2 (.if_icmp .eq 7) 49 53 := zT_l (k := 32) (i := 14) zT103_1 rfl
theorem m103_49 : smI 103 49 = rI1 ziC1 50 1 := zT_l (k := 32) (i := 17) zT103_1 rfl
theorem m103_50 : smI 103 50 = rI0 ziI3 51 := zT_l (k := 32) (i := 18) zT103_1 rfl
theorem m103_51 : smI 103 51 = rI0 .iadd 52 := zT_l (k := 32) (i := 19) zT103_1 rfl
theorem m103_52 : smI 103 52 = rI0 .ireturn 53 := zT_l (k := 32) (i := 20) zT103_1 rfl
theorem m103_53 : smI 103 53 = rI1 (.iinc 3 1) 56 1 := zT_l (k := 32) (i := 21) zT103_1 rfl
theorem m103_56 : smI 103 56 = rI2 (.goto (-33)) 59 23 := zT_l (k := 32) (i := 24) zT103_1 rfl
theorem m103_59 : smI 103 59 = rI0 ziC0 60 := zT_l (k := 32) (i := 27) zT103_1 rfl
theorem m103_60 : smI 103 60 = rI0 .ireturn 61 := zT_l (k := 32) (i := 28) zT103_1 rfl
theorem mx_104 : mMx 104 = 2 := by decide +kernel
theorem cn_104 : mCn 104 = 6 := by decide +kernel
theorem rt_104 : mRt 104 = (some .int) := by decide +kernel
theorem tq_104 : allT.getD 104 [] = tb_104 := rfl
theorem zT104_0 : zT 104 0 (tb_104_0 ++ (tb_104_1 ++ (tb_104_2 ++ (tb_104_3 ++ (tb_104_4))))) := zT_0 tq_104
theorem zT104_1 : zT 104 32 (tb_104_1 ++ (tb_104_2 ++ (tb_104_3 ++ (tb_104_4)))) := zT_s zT104_0 (n := 32) (by decide +kernel) rfl
theorem zT104_2 : zT 104 64 (tb_104_2 ++ (tb_104_3 ++ (tb_104_4))) := zT_s zT104_1 (n := 32) (by decide +kernel) rfl
theorem zT104_3 : zT 104 96 (tb_104_3 ++ (tb_104_4)) := zT_s zT104_2 (n := 32) (by decide +kernel) rfl
theorem zT104_4 : zT 104 128 (tb_104_4) := zT_s zT104_3 (n := 32) (by decide +kernel) rfl
theorem m104_0 : smI 104 0 = rI0 ziI1 1 := zT_a (k := 0) (i := 0) zT104_0 rfl
theorem m104_1 : smI 104 1 = rI0 (.tableswitch 135 0 9 #[55, 63, 71, 79, 87, 95, 103, 111, 119, 127]) 56 := zT_a (k := 0) (i := 1) zT104_0 rfl
theorem m104_56 : smI 104 56 = rI0 ziA0 57 := zT_a (k := 32) (i := 24) zT104_1 rfl
theorem m104_57 : smI 104 57 = rI2 (.getfield 10) 60 6 := zT_a (k := 32) (i := 25) zT104_1 rfl
theorem m104_60 : smI 104 60 = rI3 (.getfield 83) 63 4 10 := zT_a (k := 32) (i := 28) zT104_1 rfl
theorem m104_63 : smI 104 63 = rI0 .ireturn 64 := zT_a (k := 32) (i := 31) zT104_1 rfl
theorem m104_64 : smI 104 64 = rI0 ziA0 65 := zT_a (k := 64) (i := 0) zT104_2 rfl
theorem m104_65 : smI 104 65 = rI2 (.getfield 10) 68 6 := zT_a (k := 64) (i := 1) zT104_2 rfl
theorem m104_68 : smI 104 68 = rI3 (.getfield 80) 71 4 8 := zT_a (k := 64) (i := 4) zT104_2 rfl
theorem m104_71 : smI 104 71 = rI0 .ireturn 72 := zT_a (k := 64) (i := 7) zT104_2 rfl
theorem m104_72 : smI 104 72 = rI0 ziA0 73 := zT_a (k := 64) (i := 8) zT104_2 rfl
theorem m104_73 : smI 104 73 = rI2 (.getfield 10) 76 6 := zT_a (k := 64) (i := 9) zT104_2 rfl
theorem m104_76 : smI 104 76 = rI3 (.getfield 157) 79 4 9 := zT_a (k := 64) (i := 12) zT104_2 rfl
theorem m104_79 : smI 104 79 = rI0 .ireturn 80 := zT_a (k := 64) (i := 15) zT104_2 rfl
theorem m104_80 : smI 104 80 = rI0 ziA0 81 := zT_a (k := 64) (i := 16) zT104_2 rfl
theorem m104_81 : smI 104 81 = rI2 (.getfield 10) 84 6 := zT_a (k := 64) (i := 17) zT104_2 rfl
theorem m104_84 : smI 104 84 = rI4 (.invokevirtual 164) 87 20 45 0 := zT_a (k := 64) (i := 20) zT104_2 rfl
theorem m104_87 : smI 104 87 = rI0 .ireturn 88 := zT_a (k := 64) (i := 23) zT104_2 rfl
theorem m104_88 : smI 104 88 = rI0 ziA0 89 := zT_a (k := 64) (i := 24) zT104_2 rfl
theorem m104_89 : smI 104 89 = rI2 (.getfield 10) 92 6 := zT_a (k := 64) (i := 25) zT104_2 rfl
theorem m104_92 : smI 104 92 = rI4 (.invokevirtual 229) 95 20 47 0 := zT_a (k := 64) (i := 28) zT104_2 rfl
theorem m104_95 : smI 104 95 = rI0 .ireturn 96 := zT_a (k := 64) (i := 31) zT104_2 rfl
theorem m104_96 : smI 104 96 = rI0 ziA0 97 := zT_a (k := 96) (i := 0) zT104_3 rfl
theorem m104_97 : smI 104 97 = rI2 (.getfield 10) 100 6 := zT_a (k := 96) (i := 1) zT104_3 rfl
theorem m104_100 : smI 104 100 = rI4 (.invokevirtual 293) 103 20 48 0 := zT_a (k := 96) (i := 4) zT104_3 rfl
theorem m104_103 : smI 104 103 = rI0 .ireturn 104 := zT_a (k := 96) (i := 7) zT104_3 rfl
theorem m104_104 : smI 104 104 = rI0 ziA0 105 := zT_a (k := 96) (i := 8) zT104_3 rfl
theorem m104_105 : smI 104 105 = rI3 (.getfield 28) 108 6 4 := zT_a (k := 96) (i := 9) zT104_3 rfl
theorem m104_108 : smI 104 108 = rI3 (.getfield 121) 111 0 2 := zT_a (k := 96) (i := 12) zT104_3 rfl
theorem m104_111 : smI 104 111 = rI0 .ireturn 112 := zT_a (k := 96) (i := 15) zT104_3 rfl
theorem m104_112 : smI 104 112 = rI0 ziA0 113 := zT_a (k := 96) (i := 16) zT104_3 rfl
theorem m104_113 : smI 104 113 = rI3 (.getfield 28) 116 6 4 := zT_a (k := 96) (i := 17) zT104_3 rfl
theorem m104_116 : smI 104 116 = rI3 (.getfield 287) 119 0 4 := zT_a (k := 96) (i := 20) zT104_3 rfl
theorem m104_119 : smI 104 119 = rI0 .ireturn 120 := zT_a (k := 96) (i := 23) zT104_3 rfl
theorem m104_120 : smI 104 120 = rI0 ziA0 121 := zT_a (k := 96) (i := 24) zT104_3 rfl
theorem m104_121 : smI 104 121 = rI3 (.getfield 55) 124 6 8 := zT_a (k := 96) (i := 25) zT104_3 rfl
theorem m104_124 : smI 104 124 = rI3 (.getfield 245) 127 5 4 := zT_a (k := 96) (i := 28) zT104_3 rfl
theorem m104_127 : smI 104 127 = rI0 .ireturn 128 := zT_a (k := 96) (i := 31) zT104_3 rfl
theorem m104_128 : smI 104 128 = rI0 ziA0 129 := zT_l (k := 128) (i := 0) zT104_4 rfl
theorem m104_129 : smI 104 129 = rI3 (.getfield 28) 132 6 4 := zT_l (k := 128) (i := 1) zT104_4 rfl
theorem m104_132 : smI 104 132 = rI0 (.getfield 235) 135 := zT_l (k := 128) (i := 4) zT104_4 rfl
theorem m104_135 : smI 104 135 = rI0 .ireturn 136 := zT_l (k := 128) (i := 7) zT104_4 rfl
theorem m104_136 : smI 104 136 = rI0 ziA0 137 := zT_l (k := 128) (i := 8) zT104_4 rfl
theorem m104_137 : smI 104 137 = rI1 ziC1 138 1 := zT_l (k := 128) (i := 9) zT104_4 rfl
theorem m104_138 : smI 104 138 = rI4 (.invokevirtual 73) 141 20 55 1 := zT_l (k := 128) (i := 10) zT104_4 rfl
theorem m104_141 : smI 104 141 = rI0 .ireturn 142 := zT_l (k := 128) (i := 13) zT104_4 rfl
theorem mx_105 : mMx 105 = 2 := by decide +kernel
theorem cn_105 : mCn 105 = 6 := by decide +kernel
theorem rt_105 : mRt 105 = (some .int) := by decide +kernel
theorem tq_105 : allT.getD 105 [] = tb_105 := rfl
theorem m105_0 : smI 105 0 = rI0 ziI1 1 := sm_t tq_105 rfl
theorem m105_1 : smI 105 1 = rI1 ziC1 2 1 := sm_t tq_105 rfl
theorem m105_2 : smI 105 2 = rI2 (.if_icmp .lt 8) 5 10 := sm_t tq_105 rfl
theorem m105_5 : smI 105 5 = rI0 ziI1 6 := sm_t tq_105 rfl
theorem m105_6 : smI 105 6 = rI1 ziC5 7 5 := sm_t tq_105 rfl
theorem m105_7 : smI 105 7 = rI2 (.if_icmp .le 9) 10 16 := sm_t tq_105 rfl
theorem m105_10 : smI 105 10 = rI0 ziA0 11 := sm_t tq_105 rfl
theorem m105_11 : smI 105 11 = rI1 ziC1 12 1 := sm_t tq_105 rfl
theorem m105_12 : smI 105 12 = rI4 (.invokevirtual 73) 15 20 55 1 := sm_t tq_105 rfl
theorem m105_15 : smI 105 15 = rI0 .ireturn 16 := sm_t tq_105 rfl
theorem m105_16 : smI 105 16 = rI0 ziA0 17 := sm_t tq_105 rfl
theorem m105_17 : smI 105 17 = rI3 (.getfield 66) 20 6 10 := sm_t tq_105 rfl
theorem m105_20 : smI 105 20 = rI0 ziI1 21 := sm_t tq_105 rfl
theorem m105_21 : smI 105 21 = rI0 .iaload 22 := sm_t tq_105 rfl
theorem m105_22 : smI 105 22 = rI0 .ireturn 23 := sm_t tq_105 rfl
theorem mx_106 : mMx 106 = 2 := by decide +kernel
theorem cn_106 : mCn 106 = 7 := by decide +kernel
theorem rt_106 : mRt 106 = none := by decide +kernel
theorem tq_106 : allT.getD 106 [] = tb_106 := rfl
theorem zT106_0 : zT 106 0 (tb_106_0 ++ (tb_106_1 ++ (tb_106_2 ++ (tb_106_3 ++ (tb_106_4))))) := zT_0 tq_106
theorem zT106_1 : zT 106 32 (tb_106_1 ++ (tb_106_2 ++ (tb_106_3 ++ (tb_106_4)))) := zT_s zT106_0 (n := 32) (by decide +kernel) rfl
theorem zT106_2 : zT 106 64 (tb_106_2 ++ (tb_106_3 ++ (tb_106_4))) := zT_s zT106_1 (n := 32) (by decide +kernel) rfl
theorem zT106_3 : zT 106 96 (tb_106_3 ++ (tb_106_4)) := zT_s zT106_2 (n := 32) (by decide +kernel) rfl
theorem zT106_4 : zT 106 128 (tb_106_4) := zT_s zT106_3 (n := 32) (by decide +kernel) rfl
theorem m106_0 : smI 106 0 = rI0 ziA0 1 := zT_a (k := 0) (i := 0) zT106_0 rfl
theorem m106_1 : smI 106 1 = rI4 (.invokespecial 1) 4 12 0 0 := zT_a (k := 0) (i := 1) zT106_0 rfl
theorem m106_4 : smI 106 4 = rI0 ziA0 5 := zT_a (k := 0) (i := 4) zT106_0 rfl
theorem m106_5 : smI 106 5 = rI1 (.sipush 234) 8 234 := zT_a (k := 0) (i := 5) zT106_0 rfl
theorem m106_8 : smI 106 8 = rI0 (.newarray .int) 10 := zT_a (k := 0) (i := 8) zT106_0 rfl
theorem m106_10 : smI 106 10 = rI2 (.putfield 7) 13 7 := zT_a (k := 0) (i := 10) zT106_0 rfl
theorem m106_13 : smI 106 13 = rI0 ziA0 14 := zT_a (k := 0) (i := 13) zT106_0 rfl
theorem m106_14 : smI 106 14 = rI1 (.sipush 234) 17 234 := zT_a (k := 0) (i := 14) zT106_0 rfl
theorem m106_17 : smI 106 17 = rI0 (.newarray .int) 19 := zT_a (k := 0) (i := 17) zT106_0 rfl
theorem m106_19 : smI 106 19 = rI3 (.putfield 13) 22 7 1 := zT_a (k := 0) (i := 19) zT106_0 rfl
theorem m106_22 : smI 106 22 = rI0 ziA0 23 := zT_a (k := 0) (i := 22) zT106_0 rfl
theorem m106_23 : smI 106 23 = rI1 (.sipush 234) 26 234 := zT_a (k := 0) (i := 23) zT106_0 rfl
theorem m106_26 : smI 106 26 = rI0 (.newarray .int) 28 := zT_a (k := 0) (i := 26) zT106_0 rfl
theorem m106_28 : smI 106 28 = rI3 (.putfield 16) 31 7 2 := zT_a (k := 0) (i := 28) zT106_0 rfl
theorem m106_31 : smI 106 31 = rI0 ziA0 32 := zT_a (k := 0) (i := 31) zT106_0 rfl
theorem m106_32 : smI 106 32 = rI1 (.sipush 234) 35 234 := zT_a (k := 32) (i := 0) zT106_1 rfl
theorem m106_35 : smI 106 35 = rI0 (.newarray .int) 37 := zT_a (k := 32) (i := 3) zT106_1 rfl
theorem m106_37 : smI 106 37 = rI3 (.putfield 19) 40 7 3 := zT_a (k := 32) (i := 5) zT106_1 rfl
theorem m106_40 : smI 106 40 = rI0 ziA0 41 := zT_a (k := 32) (i := 8) zT106_1 rfl
theorem m106_41 : smI 106 41 = rI1 (.bipush 6) 43 6 := zT_a (k := 32) (i := 9) zT106_1 rfl
theorem m106_43 : smI 106 43 = rI0 (.newarray .int) 45 := zT_a (k := 32) (i := 11) zT106_1 rfl
theorem m106_45 : smI 106 45 = rI3 (.putfield 22) 48 7 6 := zT_a (k := 32) (i := 13) zT106_1 rfl
theorem m106_48 : smI 106 48 = rI0 ziA0 49 := zT_a (k := 32) (i := 16) zT106_1 rfl
theorem m106_49 : smI 106 49 = rI1 ziC4 50 4 := zT_a (k := 32) (i := 17) zT106_1 rfl
theorem m106_50 : smI 106 50 = rI0 (.newarray .int) 52 := zT_a (k := 32) (i := 18) zT106_1 rfl
theorem m106_52 : smI 106 52 = rI3 (.putfield 25) 55 7 15 := zT_a (k := 32) (i := 20) zT106_1 rfl
theorem m106_55 : smI 106 55 = rI0 ziA0 56 := zT_a (k := 32) (i := 23) zT106_1 rfl
theorem m106_56 : smI 106 56 = rI1 ziC4 57 4 := zT_a (k := 32) (i := 24) zT106_1 rfl
theorem m106_57 : smI 106 57 = rI0 (.newarray .int) 59 := zT_a (k := 32) (i := 25) zT106_1 rfl
theorem m106_59 : smI 106 59 = rI3 (.putfield 28) 62 7 16 := zT_a (k := 32) (i := 27) zT106_1 rfl
theorem m106_62 : smI 106 62 = rI0 ziA0 63 := zT_a (k := 32) (i := 30) zT106_1 rfl
theorem m106_63 : smI 106 63 = rI1 (.sipush 160) 66 160 := zT_a (k := 32) (i := 31) zT106_1 rfl
theorem m106_66 : smI 106 66 = rI0 (.newarray .int) 68 := zT_a (k := 64) (i := 2) zT106_2 rfl
theorem m106_68 : smI 106 68 = rI3 (.putfield 31) 71 7 17 := zT_a (k := 64) (i := 4) zT106_2 rfl
theorem m106_71 : smI 106 71 = rI0 ziA0 72 := zT_a (k := 64) (i := 7) zT106_2 rfl
theorem m106_72 : smI 106 72 = rI1 (.bipush 40) 74 40 := zT_a (k := 64) (i := 8) zT106_2 rfl
theorem m106_74 : smI 106 74 = rI0 (.newarray .int) 76 := zT_a (k := 64) (i := 10) zT106_2 rfl
theorem m106_76 : smI 106 76 = rI3 (.putfield 34) 79 7 18 := zT_a (k := 64) (i := 12) zT106_2 rfl
theorem m106_79 : smI 106 79 = rI0 ziA0 80 := zT_a (k := 64) (i := 15) zT106_2 rfl
theorem m106_80 : smI 106 80 = rI1 (.bipush 8) 82 8 := zT_a (k := 64) (i := 16) zT106_2 rfl
theorem m106_82 : smI 106 82 = rI0 (.newarray .int) 84 := zT_a (k := 64) (i := 18) zT106_2 rfl
theorem m106_84 : smI 106 84 = rI3 (.putfield 37) 87 7 19 := zT_a (k := 64) (i := 20) zT106_2 rfl
theorem m106_87 : smI 106 87 = rI0 ziA0 88 := zT_a (k := 64) (i := 23) zT106_2 rfl
theorem m106_88 : smI 106 88 = rI1 (.bipush 40) 90 40 := zT_a (k := 64) (i := 24) zT106_2 rfl
theorem m106_90 : smI 106 90 = rI0 (.newarray .int) 92 := zT_a (k := 64) (i := 26) zT106_2 rfl
theorem m106_92 : smI 106 92 = rI3 (.putfield 40) 95 7 20 := zT_a (k := 64) (i := 28) zT106_2 rfl
theorem m106_95 : smI 106 95 = rI0 ziA0 96 := zT_a (k := 64) (i := 31) zT106_2 rfl
theorem m106_96 : smI 106 96 = rI2 (.getfield 7) 99 7 := zT_a (k := 96) (i := 0) zT106_3 rfl
theorem m106_99 : smI 106 99 = rI1 ziC1 100 1 := zT_a (k := 96) (i := 3) zT106_3 rfl
theorem m106_100 : smI 106 100 = rI1 ziC1 101 1 := zT_a (k := 96) (i := 4) zT106_3 rfl
theorem m106_101 : smI 106 101 = rI0 .iastore 102 := zT_a (k := 96) (i := 5) zT106_3 rfl
theorem m106_102 : smI 106 102 = rI0 ziA0 103 := zT_a (k := 96) (i := 6) zT106_3 rfl
theorem m106_103 : smI 106 103 = rI2 (.getfield 7) 106 7 := zT_a (k := 96) (i := 7) zT106_3 rfl
theorem m106_106 : smI 106 106 = rI1 (.bipush 7) 108 7 := zT_a (k := 96) (i := 10) zT106_3 rfl
theorem m106_108 : smI 106 108 = rI1 ziC1 109 1 := zT_a (k := 96) (i := 12) zT106_3 rfl
theorem m106_109 : smI 106 109 = rI0 .iastore 110 := zT_a (k := 96) (i := 13) zT106_3 rfl
theorem m106_110 : smI 106 110 = rI0 ziA0 111 := zT_a (k := 96) (i := 14) zT106_3 rfl
theorem m106_111 : smI 106 111 = rI2 (.getfield 7) 114 7 := zT_a (k := 96) (i := 15) zT106_3 rfl
theorem m106_114 : smI 106 114 = rI1 ziC5 115 5 := zT_a (k := 96) (i := 18) zT106_3 rfl
theorem m106_115 : smI 106 115 = rI1 (.iconst (-1)) 116 (-1) := zT_a (k := 96) (i := 19) zT106_3 rfl
theorem m106_116 : smI 106 116 = rI0 .iastore 117 := zT_a (k := 96) (i := 20) zT106_3 rfl
theorem m106_117 : smI 106 117 = rI0 ziA0 118 := zT_a (k := 96) (i := 21) zT106_3 rfl
theorem m106_118 : smI 106 118 = rI2 (.getfield 7) 121 7 := zT_a (k := 96) (i := 22) zT106_3 rfl
theorem m106_121 : smI 106 121 = rI1 (.bipush 6) 123 6 := zT_a (k := 96) (i := 25) zT106_3 rfl
theorem m106_123 : smI 106 123 = rI1 (.iconst (-1)) 124 (-1) := zT_a (k := 96) (i := 27) zT106_3 rfl
theorem m106_124 : smI 106 124 = rI0 .iastore 125 := zT_a (k := 96) (i := 28) zT106_3 rfl
theorem m106_125 : smI 106 125 = rI0 ziC0 126 := zT_a (k := 96) (i := 29) zT106_3 rfl
theorem m106_126 : smI 106 126 = rI0 ziS1 127 := zT_a (k := 96) (i := 30) zT106_3 rfl
theorem m106_127 : smI 106 127 = rI0 ziI1 128 := zT_a (k := 96) (i := 31) zT106_3 rfl
theorem m106_128 : smI 106 128 = rI1 (.bipush 8) 130 8 := zT_l (k := 128) (i := 0) zT106_4 rfl
theorem m106_130 : smI 106 130 = rI2 (.if_icmp .ge 19) 133 149 := zT_l (k := 128) (i := 2) zT106_4 rfl
theorem m106_133 : smI 106 133 = rI0 ziA0 134 := zT_l (k := 128) (i := 5) zT106_4 rfl
theorem m106_134 : smI 106 134 = rI2 (.getfield 7) 137 7 := zT_l (k := 128) (i := 6) zT106_4 rfl
theorem m106_137 : smI 106 137 = rI1 (.bipush 8) 139 8 := zT_l (k := 128) (i := 9) zT106_4 rfl
theorem m106_139 : smI 106 139 = rI0 ziI1 140 := zT_l (k := 128) (i := 11) zT106_4 rfl
theorem m106_140 : smI 106 140 = rI0 .iadd 141 := zT_l (k := 128) (i := 12) zT106_4 rfl
theorem m106_141 : smI 106 141 = rI1 ziC5 142 5 := zT_l (k := 128) (i := 13) zT106_4 rfl
theorem m106_142 : smI 106 142 = rI0 .iastore 143 := zT_l (k := 128) (i := 14) zT106_4 rfl
theorem m106_143 : smI 106 143 = rI1 (.iinc 1 1) 146 1 := zT_l (k := 128) (i := 15) zT106_4 rfl
theorem m106_146 : smI 106 146 = rI2 (.goto (-19)) 149 127 := zT_l (k := 128) (i := 18) zT106_4 rfl
theorem m106_149 : smI 106 149 = rI0 .return_ 150 := zT_l (k := 128) (i := 21) zT106_4 rfl
theorem mx_107 : mMx 107 = 3 := by decide +kernel
theorem cn_107 : mCn 107 = 7 := by decide +kernel
theorem rt_107 : mRt 107 = (some .boolean) := by decide +kernel
theorem tq_107 : allT.getD 107 [] = tb_107 := rfl
theorem m107_0 : smI 107 0 = rI0 ziI0 1 := sm_t tq_107 rfl
theorem m107_1 : smI 107 1 = rI0 ziI1 2 := sm_t tq_107 rfl
theorem m107_2 : smI 107 2 = rI2 (.if_icmp .lt 12) 5 14 := sm_t tq_107 rfl
theorem m107_5 : smI 107 5 = rI0 ziI0 6 := sm_t tq_107 rfl
theorem m107_6 : smI 107 6 = rI0 ziI2 7 := sm_t tq_107 rfl
theorem m107_7 : smI 107 7 = rI2 (.if_icmp .gt 7) 10 14 := sm_t tq_107 rfl
theorem m107_10 : smI 107 10 = rI1 ziC1 11 1 := sm_t tq_107 rfl
theorem m107_11 : smI 107 11 = rI2 (.goto 4) 14 15 := sm_t tq_107 rfl
theorem m107_14 : smI 107 14 = rI0 ziC0 15 := sm_t tq_107 rfl
theorem m107_15 : smI 107 15 = rI0 .ireturn 16 := sm_t tq_107 rfl
theorem mx_108 : mMx 108 = 2 := by decide +kernel
theorem cn_108 : mCn 108 = 7 := by decide +kernel
theorem rt_108 : mRt 108 = (some .int) := by decide +kernel
theorem tq_108 : allT.getD 108 [] = tb_108 := rfl
theorem m108_0 : smI 108 0 = rI0 ziA0 1 := sm_t tq_108 rfl
theorem m108_1 : smI 108 1 = rI3 (.getfield 22) 4 7 6 := sm_t tq_108 rfl
theorem m108_4 : smI 108 4 = rI1 (.ldc 43) 6 (-1000000000) := sm_t tq_108 rfl
theorem m108_6 : smI 108 6 = rI0 ziI1 7 := sm_t tq_108 rfl
theorem m108_7 : smI 108 7 = rI0 .isub 8 := sm_t tq_108 rfl
theorem m108_8 : smI 108 8 = rI0 .dup2 9 := sm_t tq_108 rfl
theorem m108_9 : smI 108 9 = rI0 .iaload 10 := sm_t tq_108 rfl
theorem m108_10 : smI 108 10 = rI1 ziC1 11 1 := sm_t tq_108 rfl
theorem m108_11 : smI 108 11 = rI0 .iadd 12 := sm_t tq_108 rfl
theorem m108_12 : smI 108 12 = rI0 .iastore 13 := sm_t tq_108 rfl
theorem m108_13 : smI 108 13 = rI0 ziI1 14 := sm_t tq_108 rfl
theorem m108_14 : smI 108 14 = rI0 .ireturn 15 := sm_t tq_108 rfl
theorem mx_109 : mMx 109 = 3 := by decide +kernel
theorem cn_109 : mCn 109 = 7 := by decide +kernel
theorem rt_109 : mRt 109 = (some .int) := by decide +kernel
theorem tq_109 : allT.getD 109 [] = tb_109 := rfl
theorem m109_0 : smI 109 0 = rI0 ziI0 1 := sm_t tq_109 rfl
theorem m109_1 : smI 109 1 = rI0 ziI1 2 := sm_t tq_109 rfl
theorem m109_2 : smI 109 2 = rI2 (.if_icmp .ge 7) 5 9 := sm_t tq_109 rfl
theorem m109_5 : smI 109 5 = rI0 ziI1 6 := sm_t tq_109 rfl
theorem m109_6 : smI 109 6 = rI2 (.goto 13) 9 19 := sm_t tq_109 rfl
theorem m109_9 : smI 109 9 = rI0 ziI0 10 := sm_t tq_109 rfl
theorem m109_10 : smI 109 10 = rI0 ziI2 11 := sm_t tq_109 rfl
theorem m109_11 : smI 109 11 = rI2 (.if_icmp .le 7) 14 18 := sm_t tq_109 rfl
theorem m109_14 : smI 109 14 = rI0 ziI2 15 := sm_t tq_109 rfl
theorem m109_15 : smI 109 15 = rI2 (.goto 4) 18 19 := sm_t tq_109 rfl
theorem m109_18 : smI 109 18 = rI0 ziI0 19 := sm_t tq_109 rfl
theorem m109_19 : smI 109 19 = rI0 .ireturn 20 := sm_t tq_109 rfl
theorem mx_110 : mMx 110 = 4 := by decide +kernel
theorem cn_110 : mCn 110 = 7 := by decide +kernel
theorem rt_110 : mRt 110 = none := by decide +kernel
theorem tq_110 : allT.getD 110 [] = tb_110 := rfl
theorem m110_0 : smI 110 0 = rI0 ziC0 1 := sm_t tq_110 rfl
theorem m110_1 : smI 110 1 = rI0 ziS3 2 := sm_t tq_110 rfl
theorem m110_2 : smI 110 2 = rI0 ziI3 3 := sm_t tq_110 rfl
theorem m110_3 : smI 110 3 = rI1 (.sipush 234) 6 234 := sm_t tq_110 rfl
theorem m110_6 : smI 110 6 = rI2 (.if_icmp .ge 15) 9 21 := sm_t tq_110 rfl
theorem m110_9 : smI 110 9 = rI0 ziA2 10 := sm_t tq_110 rfl
theorem m110_10 : smI 110 10 = rI0 ziI3 11 := sm_t tq_110 rfl
theorem m110_11 : smI 110 11 = rI0 ziA1 12 := sm_t tq_110 rfl
theorem m110_12 : smI 110 12 = rI0 ziI3 13 := sm_t tq_110 rfl
theorem m110_13 : smI 110 13 = rI0 .iaload 14 := sm_t tq_110 rfl
theorem m110_14 : smI 110 14 = rI0 .iastore 15 := sm_t tq_110 rfl
theorem m110_15 : smI 110 15 = rI1 (.iinc 3 1) 18 1 := sm_t tq_110 rfl
theorem m110_18 : smI 110 18 = rI2 (.goto (-16)) 21 2 := sm_t tq_110 rfl
theorem m110_21 : smI 110 21 = rI0 .return_ 22 := sm_t tq_110 rfl
theorem mx_111 : mMx 111 = 3 := by decide +kernel
theorem cn_111 : mCn 111 = 7 := by decide +kernel
theorem rt_111 : mRt 111 = (some .int) := by decide +kernel
theorem tq_111 : allT.getD 111 [] = tb_111 := rfl
theorem m111_0 : smI 111 0 = rI0 ziA0 1 := sm_t tq_111 rfl
theorem m111_1 : smI 111 1 = rI2 (.getfield 7) 4 7 := sm_t tq_111 rfl
theorem m111_4 : smI 111 4 = rI1 (.bipush 16) 6 16 := sm_t tq_111 rfl
theorem m111_6 : smI 111 6 = rI1 (.bipush 6) 8 6 := sm_t tq_111 rfl
theorem m111_8 : smI 111 8 = rI0 ziI1 9 := sm_t tq_111 rfl
theorem m111_9 : smI 111 9 = rI0 .imul 10 := sm_t tq_111 rfl
theorem m111_10 : smI 111 10 = rI0 .iadd 11 := sm_t tq_111 rfl
theorem m111_11 : smI 111 11 = rI0 ziI2 12 := sm_t tq_111 rfl
theorem m111_12 : smI 111 12 = rI0 .iadd 13 := sm_t tq_111 rfl
theorem m111_13 : smI 111 13 = rI0 .iaload 14 := sm_t tq_111 rfl
theorem m111_14 : smI 111 14 = rI0 .ireturn 15 := sm_t tq_111 rfl
theorem mx_112 : mMx 112 = 4 := by decide +kernel
theorem cn_112 : mCn 112 = 7 := by decide +kernel
theorem rt_112 : mRt 112 = none := by decide +kernel
theorem tq_112 : allT.getD 112 [] = tb_112 := rfl
theorem m112_0 : smI 112 0 = rI0 ziA0 1 := sm_t tq_112 rfl
theorem m112_1 : smI 112 1 = rI2 (.getfield 7) 4 7 := sm_t tq_112 rfl
theorem m112_4 : smI 112 4 = rI1 (.bipush 16) 6 16 := sm_t tq_112 rfl
theorem m112_6 : smI 112 6 = rI1 (.bipush 6) 8 6 := sm_t tq_112 rfl
theorem m112_8 : smI 112 8 = rI0 ziI1 9 := sm_t tq_112 rfl
theorem m112_9 : smI 112 9 = rI0 .imul 10 := sm_t tq_112 rfl
theorem m112_10 : smI 112 10 = rI0 .iadd 11 := sm_t tq_112 rfl
theorem m112_11 : smI 112 11 = rI0 ziI2 12 := sm_t tq_112 rfl
theorem m112_12 : smI 112 12 = rI0 .iadd 13 := sm_t tq_112 rfl
theorem m112_13 : smI 112 13 = rI0 ziI3 14 := sm_t tq_112 rfl
theorem m112_14 : smI 112 14 = rI0 .iastore 15 := sm_t tq_112 rfl
theorem m112_15 : smI 112 15 = rI0 .return_ 16 := sm_t tq_112 rfl
theorem mx_113 : mMx 113 = 2 := by decide +kernel
theorem cn_113 : mCn 113 = 7 := by decide +kernel
theorem rt_113 : mRt 113 = (some .boolean) := by decide +kernel
theorem tq_113 : allT.getD 113 [] = tb_113 := rfl
theorem m113_0 : smI 113 0 = rI0 ziI1 1 := sm_t tq_113 rfl
theorem m113_1 : smI 113 1 = rI0 ziC0 2 := sm_t tq_113 rfl
theorem m113_2 : smI 113 2 = rI0 ziA0 3 := sm_t tq_113 rfl
theorem m113_3 : smI 113 3 = rI2 (.getfield 7) 6 7 := sm_t tq_113 rfl
theorem m113_6 : smI 113 6 = rI1 ziC2 7 2 := sm_t tq_113 rfl
theorem m113_7 : smI 113 7 = rI0 .iaload 8 := sm_t tq_113 rfl
theorem m113_8 : smI 113 8 = rI1 ziC1 9 1 := sm_t tq_113 rfl
theorem m113_9 : smI 113 9 = rI0 .isub 10 := sm_t tq_113 rfl
theorem m113_10 : smI 113 10 = rI3 (.invokestatic 44) 13 107 3 := sm_t tq_113 rfl
theorem m113_13 : smI 113 13 = rI0 .ireturn 14 := sm_t tq_113 rfl
theorem mx_114 : mMx 114 = 4 := by decide +kernel
theorem cn_114 : mCn 114 = 7 := by decide +kernel
theorem rt_114 : mRt 114 = (some .int) := by decide +kernel
theorem tq_114 : allT.getD 114 [] = tb_114 := rfl
theorem m114_0 : smI 114 0 = rI0 ziA0 1 := sm_t tq_114 rfl
theorem m114_1 : smI 114 1 = rI2 (.getfield 7) 4 7 := sm_t tq_114 rfl
theorem m114_4 : smI 114 4 = rI0 ziI1 5 := sm_t tq_114 rfl
theorem m114_5 : smI 114 5 = rI0 .iaload 6 := sm_t tq_114 rfl
theorem m114_6 : smI 114 6 = rI0 ziS3 7 := sm_t tq_114 rfl
theorem m114_7 : smI 114 7 = rI0 ziA0 8 := sm_t tq_114 rfl
theorem m114_8 : smI 114 8 = rI2 (.getfield 7) 11 7 := sm_t tq_114 rfl
theorem m114_11 : smI 114 11 = rI0 ziI1 12 := sm_t tq_114 rfl
theorem m114_12 : smI 114 12 = rI0 ziI2 13 := sm_t tq_114 rfl
theorem m114_13 : smI 114 13 = rI0 .iastore 14 := sm_t tq_114 rfl
theorem m114_14 : smI 114 14 = rI0 ziI3 15 := sm_t tq_114 rfl
theorem m114_15 : smI 114 15 = rI0 .ireturn 16 := sm_t tq_114 rfl
theorem mx_115 : mMx 115 = 3 := by decide +kernel
theorem cn_115 : mCn 115 = 7 := by decide +kernel
theorem rt_115 : mRt 115 = (some .int) := by decide +kernel
theorem tq_115 : allT.getD 115 [] = tb_115 := rfl
theorem zT115_0 : zT 115 0 (tb_115_0 ++ (tb_115_1)) := zT_0 tq_115
theorem zT115_1 : zT 115 32 (tb_115_1) := zT_s zT115_0 (n := 32) (by decide +kernel) rfl
theorem m115_0 : smI 115 0 = rI0 ziI1 1 := zT_a (k := 0) (i := 0) zT115_0 rfl
theorem m115_1 : smI 115 1 = rI0 ziC0 2 := zT_a (k := 0) (i := 1) zT115_0 rfl
theorem m115_2 : smI 115 2 = rI1 (.bipush 7) 4 7 := zT_a (k := 0) (i := 2) zT115_0 rfl
theorem m115_4 : smI 115 4 = rI3 (.invokestatic 44) 7 107 3 := zT_a (k := 0) (i := 4) zT115_0 rfl
theorem m115_7 : smI 115 7 = rI2 (.ifCond .eq 25) 10 32 := zT_a (k := 0) (i := 7) zT115_0 rfl
theorem m115_10 : smI 115 10 = rI0 ziI2 11 := zT_a (k := 0) (i := 10) zT115_0 rfl
theorem m115_11 : smI 115 11 = rI0 ziC0 12 := zT_a (k := 0) (i := 11) zT115_0 rfl
theorem m115_12 : smI 115 12 = rI1 (.bipush 30) 14 30 := zT_a (k := 0) (i := 12) zT115_0 rfl
theorem m115_14 : smI 115 14 = rI3 (.invokestatic 44) 17 107 3 := zT_a (k := 0) (i := 14) zT115_0 rfl
theorem m115_17 : smI 115 17 = rI2 (.ifCond .eq 15) 20 32 := zT_a (k := 0) (i := 17) zT115_0 rfl
theorem m115_20 : smI 115 20 = rI0 ziA0 21 := zT_a (k := 0) (i := 20) zT115_0 rfl
theorem m115_21 : smI 115 21 = rI1 (.bipush 8) 23 8 := zT_a (k := 0) (i := 21) zT115_0 rfl
theorem m115_23 : smI 115 23 = rI0 ziI1 24 := zT_a (k := 0) (i := 23) zT115_0 rfl
theorem m115_24 : smI 115 24 = rI0 .iadd 25 := zT_a (k := 0) (i := 24) zT115_0 rfl
theorem m115_25 : smI 115 25 = rI0 ziI2 26 := zT_a (k := 0) (i := 25) zT115_0 rfl
theorem m115_26 : smI 115 26 = rI4 (.invokevirtual 48) 29 20 114 2 := zT_a (k := 0) (i := 26) zT115_0 rfl
theorem m115_29 : smI 115 29 = rI2 (.goto 9) 32 38 := zT_a (k := 0) (i := 29) zT115_0 rfl
theorem m115_32 : smI 115 32 = rI0 ziA0 33 := zT_l (k := 32) (i := 0) zT115_1 rfl
theorem m115_33 : smI 115 33 = rI1 (.ldc 52) 35 (-1000000001) := zT_l (k := 32) (i := 1) zT115_1 rfl
theorem m115_35 : smI 115 35 = rI4 (.invokevirtual 53) 38 20 108 1 := zT_l (k := 32) (i := 3) zT115_1 rfl
theorem m115_38 : smI 115 38 = rI0 .ireturn 39 := zT_l (k := 32) (i := 6) zT115_1 rfl
theorem mx_116 : mMx 116 = 2 := by decide +kernel
theorem cn_116 : mCn 116 = 7 := by decide +kernel
theorem rt_116 : mRt 116 = (some .int) := by decide +kernel
theorem tq_116 : allT.getD 116 [] = tb_116 := rfl
theorem m116_0 : smI 116 0 = rI0 ziI1 1 := sm_t tq_116 rfl
theorem m116_1 : smI 116 1 = rI0 ziC0 2 := sm_t tq_116 rfl
theorem m116_2 : smI 116 2 = rI1 (.bipush 7) 4 7 := sm_t tq_116 rfl
theorem m116_4 : smI 116 4 = rI3 (.invokestatic 44) 7 107 3 := sm_t tq_116 rfl
theorem m116_7 : smI 116 7 = rI2 (.ifCond .eq 15) 10 22 := sm_t tq_116 rfl
theorem m116_10 : smI 116 10 = rI0 ziA0 11 := sm_t tq_116 rfl
theorem m116_11 : smI 116 11 = rI2 (.getfield 7) 14 7 := sm_t tq_116 rfl
theorem m116_14 : smI 116 14 = rI1 (.bipush 8) 16 8 := sm_t tq_116 rfl
theorem m116_16 : smI 116 16 = rI0 ziI1 17 := sm_t tq_116 rfl
theorem m116_17 : smI 116 17 = rI0 .iadd 18 := sm_t tq_116 rfl
theorem m116_18 : smI 116 18 = rI0 .iaload 19 := sm_t tq_116 rfl
theorem m116_19 : smI 116 19 = rI2 (.goto 9) 22 28 := sm_t tq_116 rfl
theorem m116_22 : smI 116 22 = rI0 ziA0 23 := sm_t tq_116 rfl
theorem m116_23 : smI 116 23 = rI1 (.ldc 52) 25 (-1000000001) := sm_t tq_116 rfl
theorem m116_25 : smI 116 25 = rI4 (.invokevirtual 53) 28 20 108 1 := sm_t tq_116 rfl
theorem m116_28 : smI 116 28 = rI0 .ireturn 29 := sm_t tq_116 rfl
theorem mx_117 : mMx 117 = 2 := by decide +kernel
theorem cn_117 : mCn 117 = 7 := by decide +kernel
theorem rt_117 : mRt 117 = (some .int) := by decide +kernel
theorem tq_117 : allT.getD 117 [] = tb_117 := rfl
theorem m117_0 : smI 117 0 = rI0 ziI1 1 := sm_t tq_117 rfl
theorem m117_1 : smI 117 1 = rI1 ziC1 2 1 := sm_t tq_117 rfl
theorem m117_2 : smI 117 2 = rI1 ziC4 3 4 := sm_t tq_117 rfl
theorem m117_3 : smI 117 3 = rI3 (.invokestatic 44) 6 107 3 := sm_t tq_117 rfl
theorem m117_6 : smI 117 6 = rI2 (.ifCond .eq 13) 9 19 := sm_t tq_117 rfl
theorem m117_9 : smI 117 9 = rI0 ziA0 10 := sm_t tq_117 rfl
theorem m117_10 : smI 117 10 = rI1 (.bipush 7) 12 7 := sm_t tq_117 rfl
theorem m117_12 : smI 117 12 = rI0 ziI1 13 := sm_t tq_117 rfl
theorem m117_13 : smI 117 13 = rI4 (.invokevirtual 48) 16 20 114 2 := sm_t tq_117 rfl
theorem m117_16 : smI 117 16 = rI2 (.goto 9) 19 25 := sm_t tq_117 rfl
theorem m117_19 : smI 117 19 = rI0 ziA0 20 := sm_t tq_117 rfl
theorem m117_20 : smI 117 20 = rI1 (.ldc 52) 22 (-1000000001) := sm_t tq_117 rfl
theorem m117_22 : smI 117 22 = rI4 (.invokevirtual 53) 25 20 108 1 := sm_t tq_117 rfl
theorem m117_25 : smI 117 25 = rI0 .ireturn 26 := sm_t tq_117 rfl
theorem mx_118 : mMx 118 = 5 := by decide +kernel
theorem cn_118 : mCn 118 = 7 := by decide +kernel
theorem rt_118 : mRt 118 = (some .int) := by decide +kernel
theorem tq_118 : allT.getD 118 [] = tb_118 := rfl
theorem zT118_0 : zT 118 0 (tb_118_0 ++ (tb_118_1 ++ (tb_118_2 ++ (tb_118_3 ++ (tb_118_4))))) := zT_0 tq_118
theorem zT118_1 : zT 118 32 (tb_118_1 ++ (tb_118_2 ++ (tb_118_3 ++ (tb_118_4)))) := zT_s zT118_0 (n := 32) (by decide +kernel) rfl
theorem zT118_2 : zT 118 64 (tb_118_2 ++ (tb_118_3 ++ (tb_118_4))) := zT_s zT118_1 (n := 32) (by decide +kernel) rfl
theorem zT118_3 : zT 118 96 (tb_118_3 ++ (tb_118_4)) := zT_s zT118_2 (n := 32) (by decide +kernel) rfl
theorem zT118_4 : zT 118 128 (tb_118_4) := zT_s zT118_3 (n := 32) (by decide +kernel) rfl
theorem m118_0 : smI 118 0 = rI0 ziI1 1 := zT_a (k := 0) (i := 0) zT118_0 rfl
theorem m118_1 : smI 118 1 = rI0 ziC0 2 := zT_a (k := 0) (i := 1) zT118_0 rfl
theorem m118_2 : smI 118 2 = rI1 (.bipush 69) 4 69 := zT_a (k := 0) (i := 2) zT118_0 rfl
theorem m118_4 : smI 118 4 = rI3 (.invokestatic 44) 7 107 3 := zT_a (k := 0) (i := 4) zT118_0 rfl
theorem m118_7 : smI 118 7 = rI2 (.ifCond .eq 23) 10 30 := zT_a (k := 0) (i := 7) zT118_0 rfl
theorem m118_10 : smI 118 10 = rI0 ziI2 11 := zT_a (k := 0) (i := 10) zT118_0 rfl
theorem m118_11 : smI 118 11 = rI0 ziC0 12 := zT_a (k := 0) (i := 11) zT118_0 rfl
theorem m118_12 : smI 118 12 = rI1 (.bipush 99) 14 99 := zT_a (k := 0) (i := 12) zT118_0 rfl
theorem m118_14 : smI 118 14 = rI3 (.invokestatic 44) 17 107 3 := zT_a (k := 0) (i := 14) zT118_0 rfl
theorem m118_17 : smI 118 17 = rI2 (.ifCond .eq 13) 20 30 := zT_a (k := 0) (i := 17) zT118_0 rfl
theorem m118_20 : smI 118 20 = rI0 ziI3 21 := zT_a (k := 0) (i := 20) zT118_0 rfl
theorem m118_21 : smI 118 21 = rI0 ziC0 22 := zT_a (k := 0) (i := 21) zT118_0 rfl
theorem m118_22 : smI 118 22 = rI1 (.bipush 9) 24 9 := zT_a (k := 0) (i := 22) zT118_0 rfl
theorem m118_24 : smI 118 24 = rI3 (.invokestatic 44) 27 107 3 := zT_a (k := 0) (i := 24) zT118_0 rfl
theorem m118_27 : smI 118 27 = rI2 (.ifCond .ne 10) 30 37 := zT_a (k := 0) (i := 27) zT118_0 rfl
theorem m118_30 : smI 118 30 = rI0 ziA0 31 := zT_a (k := 0) (i := 30) zT118_0 rfl
theorem m118_31 : smI 118 31 = rI1 (.ldc 52) 33 (-1000000001) := zT_a (k := 0) (i := 31) zT118_0 rfl
theorem m118_33 : smI 118 33 = rI4 (.invokevirtual 53) 36 20 108 1 := zT_a (k := 32) (i := 1) zT118_1 rfl
theorem m118_36 : smI 118 36 = rI0 .ireturn 37 := zT_a (k := 32) (i := 4) zT118_1 rfl
theorem m118_37 : smI 118 37 = rI0 ziA0 38 := zT_a (k := 32) (i := 5) zT118_1 rfl
theorem m118_38 : smI 118 38 = rI2 (.getfield 7) 41 7 := zT_a (k := 32) (i := 6) zT118_1 rfl
theorem m118_41 : smI 118 41 = rI1 ziC2 42 2 := zT_a (k := 32) (i := 9) zT118_1 rfl
theorem m118_42 : smI 118 42 = rI0 .iaload 43 := zT_a (k := 32) (i := 10) zT118_1 rfl
theorem m118_43 : smI 118 43 = rI1 (.bipush 8) 45 8 := zT_a (k := 32) (i := 11) zT118_1 rfl
theorem m118_45 : smI 118 45 = rI2 (.if_icmp .ne 10) 48 55 := zT_a (k := 32) (i := 13) zT118_1 rfl
theorem m118_48 : smI 118 48 = rI0 ziA0 49 := zT_a (k := 32) (i := 16) zT118_1 rfl
theorem m118_49 : smI 118 49 = rI1 (.ldc 57) 51 (-1000000004) := zT_a (k := 32) (i := 17) zT118_1 rfl
theorem m118_51 : smI 118 51 = rI4 (.invokevirtual 53) 54 20 108 1 := zT_a (k := 32) (i := 19) zT118_1 rfl
theorem m118_54 : smI 118 54 = rI0 .ireturn 55 := zT_a (k := 32) (i := 22) zT118_1 rfl
theorem m118_55 : smI 118 55 = rI0 ziA0 56 := zT_a (k := 32) (i := 23) zT118_1 rfl
theorem m118_56 : smI 118 56 = rI2 (.getfield 7) 59 7 := zT_a (k := 32) (i := 24) zT118_1 rfl
theorem m118_59 : smI 118 59 = rI1 ziC2 60 2 := zT_a (k := 32) (i := 27) zT118_1 rfl
theorem m118_60 : smI 118 60 = rI0 .iaload 61 := zT_a (k := 32) (i := 28) zT118_1 rfl
theorem m118_61 : smI 118 61 = rI0 (.istore 4) 63 := zT_a (k := 32) (i := 29) zT118_1 rfl
theorem m118_63 : smI 118 63 = rI0 ziA0 64 := zT_a (k := 32) (i := 31) zT118_1 rfl
theorem m118_64 : smI 118 64 = rI0 (.iload 4) 66 := zT_a (k := 64) (i := 0) zT118_2 rfl
theorem m118_66 : smI 118 66 = rI0 ziC0 67 := zT_a (k := 64) (i := 2) zT118_2 rfl
theorem m118_67 : smI 118 67 = rI0 ziI1 68 := zT_a (k := 64) (i := 3) zT118_2 rfl
theorem m118_68 : smI 118 68 = rI1 (.bipush 10) 70 10 := zT_a (k := 64) (i := 4) zT118_2 rfl
theorem m118_70 : smI 118 70 = rI0 .idiv 71 := zT_a (k := 64) (i := 6) zT118_2 rfl
theorem m118_71 : smI 118 71 = rI4 (.invokevirtual 58) 74 20 112 3 := zT_a (k := 64) (i := 7) zT118_2 rfl
theorem m118_74 : smI 118 74 = rI0 ziA0 75 := zT_a (k := 64) (i := 10) zT118_2 rfl
theorem m118_75 : smI 118 75 = rI0 (.iload 4) 77 := zT_a (k := 64) (i := 11) zT118_2 rfl
theorem m118_77 : smI 118 77 = rI1 ziC1 78 1 := zT_a (k := 64) (i := 13) zT118_2 rfl
theorem m118_78 : smI 118 78 = rI0 ziI1 79 := zT_a (k := 64) (i := 14) zT118_2 rfl
theorem m118_79 : smI 118 79 = rI1 (.bipush 10) 81 10 := zT_a (k := 64) (i := 15) zT118_2 rfl
theorem m118_81 : smI 118 81 = rI0 .irem 82 := zT_a (k := 64) (i := 17) zT118_2 rfl
theorem m118_82 : smI 118 82 = rI4 (.invokevirtual 58) 85 20 112 3 := zT_a (k := 64) (i := 18) zT118_2 rfl
theorem m118_85 : smI 118 85 = rI0 ziA0 86 := zT_a (k := 64) (i := 21) zT118_2 rfl
theorem m118_86 : smI 118 86 = rI0 (.iload 4) 88 := zT_a (k := 64) (i := 22) zT118_2 rfl
theorem m118_88 : smI 118 88 = rI1 ziC2 89 2 := zT_a (k := 64) (i := 24) zT118_2 rfl
theorem m118_89 : smI 118 89 = rI0 ziI2 90 := zT_a (k := 64) (i := 25) zT118_2 rfl
theorem m118_90 : smI 118 90 = rI4 (.invokevirtual 58) 93 20 112 3 := zT_a (k := 64) (i := 26) zT118_2 rfl
theorem m118_93 : smI 118 93 = rI0 ziA0 94 := zT_a (k := 64) (i := 29) zT118_2 rfl
theorem m118_94 : smI 118 94 = rI0 (.iload 4) 96 := zT_a (k := 64) (i := 30) zT118_2 rfl
theorem m118_96 : smI 118 96 = rI1 ziC3 97 3 := zT_a (k := 96) (i := 0) zT118_3 rfl
theorem m118_97 : smI 118 97 = rI0 ziI3 98 := zT_a (k := 96) (i := 1) zT118_3 rfl
theorem m118_98 : smI 118 98 = rI4 (.invokevirtual 58) 101 20 112 3 := zT_a (k := 96) (i := 2) zT118_3 rfl
theorem m118_101 : smI 118 101 = rI0 ziA0 102 := zT_a (k := 96) (i := 5) zT118_3 rfl
theorem m118_102 : smI 118 102 = rI0 (.iload 4) 104 := zT_a (k := 96) (i := 6) zT118_3 rfl
theorem m118_104 : smI 118 104 = rI1 ziC4 105 4 := zT_a (k := 96) (i := 8) zT118_3 rfl
theorem m118_105 : smI 118 105 = rI0 ziC0 106 := zT_a (k := 96) (i := 9) zT118_3 rfl
theorem m118_106 : smI 118 106 = rI4 (.invokevirtual 58) 109 20 112 3 := zT_a (k := 96) (i := 10) zT118_3 rfl
theorem m118_109 : smI 118 109 = rI0 ziA0 110 := zT_a (k := 96) (i := 13) zT118_3 rfl
theorem m118_110 : smI 118 110 = rI0 (.iload 4) 112 := zT_a (k := 96) (i := 14) zT118_3 rfl
theorem m118_112 : smI 118 112 = rI1 ziC5 113 5 := zT_a (k := 96) (i := 16) zT118_3 rfl
theorem m118_113 : smI 118 113 = rI0 ziC0 114 := zT_a (k := 96) (i := 17) zT118_3 rfl
theorem m118_114 : smI 118 114 = rI4 (.invokevirtual 58) 117 20 112 3 := zT_a (k := 96) (i := 18) zT118_3 rfl
theorem m118_117 : smI 118 117 = rI0 ziA0 118 := zT_a (k := 96) (i := 21) zT118_3 rfl
theorem m118_118 : smI 118 118 = rI2 (.getfield 7) 121 7 := zT_a (k := 96) (i := 22) zT118_3 rfl
theorem m118_121 : smI 118 121 = rI1 ziC2 122 2 := zT_a (k := 96) (i := 25) zT118_3 rfl
theorem m118_122 : smI 118 122 = rI0 .dup2 123 := zT_a (k := 96) (i := 26) zT118_3 rfl
theorem m118_123 : smI 118 123 = rI0 .iaload 124 := zT_a (k := 96) (i := 27) zT118_3 rfl
theorem m118_124 : smI 118 124 = rI1 ziC1 125 1 := zT_a (k := 96) (i := 28) zT118_3 rfl
theorem m118_125 : smI 118 125 = rI0 .iadd 126 := zT_a (k := 96) (i := 29) zT118_3 rfl
theorem m118_126 : smI 118 126 = rI0 .iastore 127 := zT_a (k := 96) (i := 30) zT118_3 rfl
theorem m118_127 : smI 118 127 = rI0 (.iload 4) 129 := zT_a (k := 96) (i := 31) zT118_3 rfl
theorem m118_129 : smI 118 129 = rI0 .ireturn 130 := zT_l (k := 128) (i := 1) zT118_4 rfl
theorem mx_119 : mMx 119 = 2 := by decide +kernel
theorem cn_119 : mCn 119 = 7 := by decide +kernel
theorem rt_119 : mRt 119 = (some .int) := by decide +kernel
theorem tq_119 : allT.getD 119 [] = tb_119 := rfl
theorem m119_0 : smI 119 0 = rI0 ziI1 1 := sm_t tq_119 rfl
theorem m119_1 : smI 119 1 = rI0 ziA0 2 := sm_t tq_119 rfl
theorem m119_2 : smI 119 2 = rI3 (.getfield 76) 5 7 9 := sm_t tq_119 rfl
theorem m119_5 : smI 119 5 = rI2 (.if_icmp .ge 24) 8 29 := sm_t tq_119 rfl
theorem m119_8 : smI 119 8 = rI0 ziA0 9 := sm_t tq_119 rfl
theorem m119_9 : smI 119 9 = rI2 (.getfield 7) 12 7 := sm_t tq_119 rfl
theorem m119_12 : smI 119 12 = rI1 (.sipush 134) 15 134 := sm_t tq_119 rfl
theorem m119_15 : smI 119 15 = rI1 (.bipush 50) 17 50 := sm_t tq_119 rfl
theorem m119_17 : smI 119 17 = rI0 ziA0 18 := sm_t tq_119 rfl
theorem m119_18 : smI 119 18 = rI3 (.getfield 80) 21 7 7 := sm_t tq_119 rfl
theorem m119_21 : smI 119 21 = rI0 .imul 22 := sm_t tq_119 rfl
theorem m119_22 : smI 119 22 = rI0 .iadd 23 := sm_t tq_119 rfl
theorem m119_23 : smI 119 23 = rI0 ziI1 24 := sm_t tq_119 rfl
theorem m119_24 : smI 119 24 = rI0 .iadd 25 := sm_t tq_119 rfl
theorem m119_25 : smI 119 25 = rI0 .iaload 26 := sm_t tq_119 rfl
theorem m119_26 : smI 119 26 = rI2 (.goto 4) 29 30 := sm_t tq_119 rfl
theorem m119_29 : smI 119 29 = rI1 (.iconst (-1)) 30 (-1) := sm_t tq_119 rfl
theorem m119_30 : smI 119 30 = rI0 .ireturn 31 := sm_t tq_119 rfl
theorem mx_120 : mMx 120 = 1 := by decide +kernel
theorem cn_120 : mCn 120 = 7 := by decide +kernel
theorem rt_120 : mRt 120 = (some .boolean) := by decide +kernel
theorem tq_120 : allT.getD 120 [] = tb_120 := rfl
theorem m120_0 : smI 120 0 = rI0 ziI0 1 := sm_t tq_120 rfl
theorem m120_1 : smI 120 1 = rI1 (.bipush 48) 3 48 := sm_t tq_120 rfl
theorem m120_3 : smI 120 3 = rI1 (.bipush 57) 5 57 := sm_t tq_120 rfl
theorem m120_5 : smI 120 5 = rI3 (.invokestatic 44) 8 107 3 := sm_t tq_120 rfl
theorem m120_8 : smI 120 8 = rI0 .ireturn 9 := sm_t tq_120 rfl
theorem mx_121 : mMx 121 = 3 := by decide +kernel
theorem cn_121 : mCn 121 = 7 := by decide +kernel
theorem rt_121 : mRt 121 = (some .int) := by decide +kernel
theorem tq_121 : allT.getD 121 [] = tb_121 := rfl
theorem zT121_0 : zT 121 0 (tb_121_0 ++ (tb_121_1)) := zT_0 tq_121
theorem zT121_1 : zT 121 32 (tb_121_1) := zT_s zT121_0 (n := 32) (by decide +kernel) rfl
theorem m121_0 : smI 121 0 = rI0 ziC0 1 := zT_a (k := 0) (i := 0) zT121_0 rfl
theorem m121_1 : smI 121 1 = rI0 ziS1 2 := zT_a (k := 0) (i := 1) zT121_0 rfl
theorem m121_2 : smI 121 2 = rI0 ziC0 3 := zT_a (k := 0) (i := 2) zT121_0 rfl
theorem m121_3 : smI 121 3 = rI0 ziS2 4 := zT_a (k := 0) (i := 3) zT121_0 rfl
theorem m121_4 : smI 121 4 = rI0 ziI2 5 := zT_a (k := 0) (i := 4) zT121_0 rfl
theorem m121_5 : smI 121 5 = rI1 ziC4 6 4 := zT_a (k := 0) (i := 5) zT121_0 rfl
theorem m121_6 : smI 121 6 = rI2 (.if_icmp .ge 50) 9 56 := zT_a (k := 0) (i := 6) zT121_0 rfl
theorem m121_9 : smI 121 9 = rI0 ziA0 10 := zT_a (k := 0) (i := 9) zT121_0 rfl
theorem m121_10 : smI 121 10 = rI0 ziA0 11 := zT_a (k := 0) (i := 10) zT121_0 rfl
theorem m121_11 : smI 121 11 = rI3 (.getfield 87) 14 7 8 := zT_a (k := 0) (i := 11) zT121_0 rfl
theorem m121_14 : smI 121 14 = rI4 (.invokevirtual 90) 17 20 119 1 := zT_a (k := 0) (i := 14) zT121_0 rfl
theorem m121_17 : smI 121 17 = rI3 (.invokestatic 93) 20 120 1 := zT_a (k := 0) (i := 17) zT121_0 rfl
theorem m121_20 : smI 121 20 = rI2 (.ifCond .eq 36) 23 56 := zT_a (k := 0) (i := 20) zT121_0 rfl
theorem m121_23 : smI 121 23 = rI1 (.bipush 10) 25 10 := zT_a (k := 0) (i := 23) zT121_0 rfl
theorem m121_25 : smI 121 25 = rI0 ziI1 26 := zT_a (k := 0) (i := 25) zT121_0 rfl
theorem m121_26 : smI 121 26 = rI0 .imul 27 := zT_a (k := 0) (i := 26) zT121_0 rfl
theorem m121_27 : smI 121 27 = rI0 ziA0 28 := zT_a (k := 0) (i := 27) zT121_0 rfl
theorem m121_28 : smI 121 28 = rI0 ziA0 29 := zT_a (k := 0) (i := 28) zT121_0 rfl
theorem m121_29 : smI 121 29 = rI3 (.getfield 87) 32 7 8 := zT_a (k := 0) (i := 29) zT121_0 rfl
theorem m121_32 : smI 121 32 = rI4 (.invokevirtual 90) 35 20 119 1 := zT_l (k := 32) (i := 0) zT121_1 rfl
theorem m121_35 : smI 121 35 = rI0 .iadd 36 := zT_l (k := 32) (i := 3) zT121_1 rfl
theorem m121_36 : smI 121 36 = rI1 (.bipush 48) 38 48 := zT_l (k := 32) (i := 4) zT121_1 rfl
theorem m121_38 : smI 121 38 = rI0 .isub 39 := zT_l (k := 32) (i := 6) zT121_1 rfl
theorem m121_39 : smI 121 39 = rI0 ziS1 40 := zT_l (k := 32) (i := 7) zT121_1 rfl
theorem m121_40 : smI 121 40 = rI0 ziA0 41 := zT_l (k := 32) (i := 8) zT121_1 rfl
theorem m121_41 : smI 121 41 = rI0 .dup 42 := zT_l (k := 32) (i := 9) zT121_1 rfl
theorem m121_42 : smI 121 42 = rI3 (.getfield 87) 45 7 8 := zT_l (k := 32) (i := 10) zT121_1 rfl
theorem m121_45 : smI 121 45 = rI1 ziC1 46 1 := zT_l (k := 32) (i := 13) zT121_1 rfl
theorem m121_46 : smI 121 46 = rI0 .iadd 47 := zT_l (k := 32) (i := 14) zT121_1 rfl
theorem m121_47 : smI 121 47 = rI3 (.putfield 87) 50 7 8 := zT_l (k := 32) (i := 15) zT121_1 rfl
theorem m121_50 : smI 121 50 = rI1 (.iinc 2 1) 53 1 := zT_l (k := 32) (i := 18) zT121_1 rfl
theorem m121_53 : smI 121 53 = rI2 (.goto (-49)) 56 4 := zT_l (k := 32) (i := 21) zT121_1 rfl
theorem m121_56 : smI 121 56 = rI0 ziI1 57 := zT_l (k := 32) (i := 24) zT121_1 rfl
theorem m121_57 : smI 121 57 = rI0 .ireturn 58 := zT_l (k := 32) (i := 25) zT121_1 rfl
theorem mx_122 : mMx 122 = 1 := by decide +kernel
theorem cn_122 : mCn 122 = 7 := by decide +kernel
theorem rt_122 : mRt 122 = (some .int) := by decide +kernel
theorem tq_122 : allT.getD 122 [] = tb_122 := rfl
theorem m122_0 : smI 122 0 = rI0 ziA0 1 := sm_t tq_122 rfl
theorem m122_1 : smI 122 1 = rI0 ziC0 2 := sm_t tq_122 rfl
theorem m122_2 : smI 122 2 = rI3 (.putfield 83) 5 7 14 := sm_t tq_122 rfl
theorem m122_5 : smI 122 5 = rI0 ziC0 6 := sm_t tq_122 rfl
theorem m122_6 : smI 122 6 = rI0 .ireturn 7 := sm_t tq_122 rfl
theorem mx_123 : mMx 123 = 5 := by decide +kernel
theorem cn_123 : mCn 123 = 7 := by decide +kernel
theorem rt_123 : mRt 123 = (some .int) := by decide +kernel
theorem tq_123 : allT.getD 123 [] = tb_123 := rfl
theorem zT123_0 : zT 123 0 (tb_123_0 ++ (tb_123_1 ++ (tb_123_2 ++ (tb_123_3)))) := zT_0 tq_123
theorem zT123_1 : zT 123 32 (tb_123_1 ++ (tb_123_2 ++ (tb_123_3))) := zT_s zT123_0 (n := 32) (by decide +kernel) rfl
theorem zT123_2 : zT 123 64 (tb_123_2 ++ (tb_123_3)) := zT_s zT123_1 (n := 32) (by decide +kernel) rfl
theorem zT123_3 : zT 123 96 (tb_123_3) := zT_s zT123_2 (n := 32) (by decide +kernel) rfl
theorem m123_0 : smI 123 0 = rI0 ziI1 1 := zT_a (k := 0) (i := 0) zT123_0 rfl
theorem m123_1 : smI 123 1 = rI1 (.bipush 104) 3 104 := zT_a (k := 0) (i := 1) zT123_0 rfl
theorem m123_3 : smI 123 3 = rI2 (.if_icmp .ne 7) 6 10 := zT_a (k := 0) (i := 3) zT123_0 rfl
theorem m123_6 : smI 123 6 = rI1 ziC1 7 1 := zT_a (k := 0) (i := 6) zT123_0 rfl
theorem m123_7 : smI 123 7 = rI2 (.goto 4) 10 11 := zT_a (k := 0) (i := 7) zT123_0 rfl
theorem m123_10 : smI 123 10 = rI0 ziC0 11 := zT_a (k := 0) (i := 10) zT123_0 rfl
theorem m123_11 : smI 123 11 = rI0 ziS2 12 := zT_a (k := 0) (i := 11) zT123_0 rfl
theorem m123_12 : smI 123 12 = rI0 ziI1 13 := zT_a (k := 0) (i := 12) zT123_0 rfl
theorem m123_13 : smI 123 13 = rI0 ziA0 14 := zT_a (k := 0) (i := 13) zT123_0 rfl
theorem m123_14 : smI 123 14 = rI3 (.getfield 80) 17 7 7 := zT_a (k := 0) (i := 14) zT123_0 rfl
theorem m123_17 : smI 123 17 = rI2 (.ifCond .ne 8) 20 25 := zT_a (k := 0) (i := 17) zT123_0 rfl
theorem m123_20 : smI 123 20 = rI1 (.bipush 99) 22 99 := zT_a (k := 0) (i := 20) zT123_0 rfl
theorem m123_22 : smI 123 22 = rI2 (.goto 5) 25 27 := zT_a (k := 0) (i := 22) zT123_0 rfl
theorem m123_25 : smI 123 25 = rI1 (.bipush 102) 27 102 := zT_a (k := 0) (i := 25) zT123_0 rfl
theorem m123_27 : smI 123 27 = rI2 (.if_icmp .ne 7) 30 34 := zT_a (k := 0) (i := 27) zT123_0 rfl
theorem m123_30 : smI 123 30 = rI1 ziC1 31 1 := zT_a (k := 0) (i := 30) zT123_0 rfl
theorem m123_31 : smI 123 31 = rI2 (.goto 4) 34 35 := zT_a (k := 0) (i := 31) zT123_0 rfl
theorem m123_34 : smI 123 34 = rI0 ziC0 35 := zT_a (k := 32) (i := 2) zT123_1 rfl
theorem m123_35 : smI 123 35 = rI0 ziS3 36 := zT_a (k := 32) (i := 3) zT123_1 rfl
theorem m123_36 : smI 123 36 = rI0 ziI1 37 := zT_a (k := 32) (i := 4) zT123_1 rfl
theorem m123_37 : smI 123 37 = rI0 ziA0 38 := zT_a (k := 32) (i := 5) zT123_1 rfl
theorem m123_38 : smI 123 38 = rI3 (.getfield 80) 41 7 7 := zT_a (k := 32) (i := 6) zT123_1 rfl
theorem m123_41 : smI 123 41 = rI2 (.ifCond .ne 8) 44 49 := zT_a (k := 32) (i := 9) zT123_1 rfl
theorem m123_44 : smI 123 44 = rI1 (.bipush 115) 46 115 := zT_a (k := 32) (i := 12) zT123_1 rfl
theorem m123_46 : smI 123 46 = rI2 (.goto 5) 49 51 := zT_a (k := 32) (i := 14) zT123_1 rfl
theorem m123_49 : smI 123 49 = rI1 (.bipush 99) 51 99 := zT_a (k := 32) (i := 17) zT123_1 rfl
theorem m123_51 : smI 123 51 = rI2 (.if_icmp .ne 7) 54 58 := zT_a (k := 32) (i := 19) zT123_1 rfl
theorem m123_54 : smI 123 54 = rI1 ziC1 55 1 := zT_a (k := 32) (i := 22) zT123_1 rfl
theorem m123_55 : smI 123 55 = rI2 (.goto 4) 58 59 := zT_a (k := 32) (i := 23) zT123_1 rfl
theorem m123_58 : smI 123 58 = rI0 ziC0 59 := zT_a (k := 32) (i := 26) zT123_1 rfl
theorem m123_59 : smI 123 59 = rI0 (.istore 4) 61 := zT_a (k := 32) (i := 27) zT123_1 rfl
theorem m123_61 : smI 123 61 = rI0 ziI2 62 := zT_a (k := 32) (i := 29) zT123_1 rfl
theorem m123_62 : smI 123 62 = rI2 (.ifCond .ne 17) 65 79 := zT_a (k := 32) (i := 30) zT123_1 rfl
theorem m123_65 : smI 123 65 = rI0 ziI3 66 := zT_a (k := 64) (i := 1) zT123_2 rfl
theorem m123_66 : smI 123 66 = rI2 (.ifCond .ne 13) 69 79 := zT_a (k := 64) (i := 2) zT123_2 rfl
theorem m123_69 : smI 123 69 = rI0 (.iload 4) 71 := zT_a (k := 64) (i := 5) zT123_2 rfl
theorem m123_71 : smI 123 71 = rI2 (.ifCond .ne 8) 74 79 := zT_a (k := 64) (i := 7) zT123_2 rfl
theorem m123_74 : smI 123 74 = rI0 ziA0 75 := zT_a (k := 64) (i := 10) zT123_2 rfl
theorem m123_75 : smI 123 75 = rI4 (.invokevirtual 96) 78 20 122 0 := zT_a (k := 64) (i := 11) zT123_2 rfl
theorem m123_78 : smI 123 78 = rI0 .ireturn 79 := zT_a (k := 64) (i := 14) zT123_2 rfl
theorem m123_79 : smI 123 79 = rI0 ziA0 80 := zT_a (k := 64) (i := 15) zT123_2 rfl
theorem m123_80 : smI 123 80 = rI0 .dup 81 := zT_a (k := 64) (i := 16) zT123_2 rfl
theorem m123_81 : smI 123 81 = rI3 (.getfield 87) 84 7 8 := zT_a (k := 64) (i := 17) zT123_2 rfl
theorem m123_84 : smI 123 84 = rI1 ziC1 85 1 := zT_a (k := 64) (i := 20) zT123_2 rfl
theorem m123_85 : smI 123 85 = rI0 .iadd 86 := zT_a (k := 64) (i := 21) zT123_2 rfl
theorem m123_86 : smI 123 86 = rI3 (.putfield 87) 89 7 8 := zT_a (k := 64) (i := 22) zT123_2 rfl
theorem m123_89 : smI 123 89 = rI0 ziI2 90 := zT_a (k := 64) (i := 25) zT123_2 rfl
theorem m123_90 : smI 123 90 = rI2 (.ifCond .eq 10) 93 100 := zT_a (k := 64) (i := 26) zT123_2 rfl
theorem m123_93 : smI 123 93 = rI0 ziA0 94 := zT_a (k := 64) (i := 29) zT123_2 rfl
theorem m123_94 : smI 123 94 = rI3 (.getfield 100) 97 7 11 := zT_a (k := 64) (i := 30) zT123_2 rfl
theorem m123_97 : smI 123 97 = rI2 (.goto 18) 100 115 := zT_l (k := 96) (i := 1) zT123_3 rfl
theorem m123_100 : smI 123 100 = rI0 ziI3 101 := zT_l (k := 96) (i := 4) zT123_3 rfl
theorem m123_101 : smI 123 101 = rI2 (.ifCond .eq 10) 104 111 := zT_l (k := 96) (i := 5) zT123_3 rfl
theorem m123_104 : smI 123 104 = rI0 ziA0 105 := zT_l (k := 96) (i := 8) zT123_3 rfl
theorem m123_105 : smI 123 105 = rI3 (.getfield 103) 108 7 12 := zT_l (k := 96) (i := 9) zT123_3 rfl
theorem m123_108 : smI 123 108 = rI2 (.goto 7) 111 115 := zT_l (k := 96) (i := 12) zT123_3 rfl
theorem m123_111 : smI 123 111 = rI0 ziA0 112 := zT_l (k := 96) (i := 15) zT123_3 rfl
theorem m123_112 : smI 123 112 = rI3 (.getfield 106) 115 7 13 := zT_l (k := 96) (i := 16) zT123_3 rfl
theorem m123_115 : smI 123 115 = rI0 .ireturn 116 := zT_l (k := 96) (i := 19) zT123_3 rfl
theorem mx_124 : mMx 124 = 5 := by decide +kernel
theorem cn_124 : mCn 124 = 7 := by decide +kernel
theorem rt_124 : mRt 124 = (some .int) := by decide +kernel
theorem tq_124 : allT.getD 124 [] = tb_124 := rfl
theorem zT124_0 : zT 124 0 (tb_124_0 ++ (tb_124_1 ++ (tb_124_2 ++ (tb_124_3)))) := zT_0 tq_124
theorem zT124_1 : zT 124 32 (tb_124_1 ++ (tb_124_2 ++ (tb_124_3))) := zT_s zT124_0 (n := 32) (by decide +kernel) rfl
theorem zT124_2 : zT 124 64 (tb_124_2 ++ (tb_124_3)) := zT_s zT124_1 (n := 32) (by decide +kernel) rfl
theorem zT124_3 : zT 124 96 (tb_124_3) := zT_s zT124_2 (n := 32) (by decide +kernel) rfl
theorem m124_0 : smI 124 0 = rI0 ziA0 1 := zT_a (k := 0) (i := 0) zT124_0 rfl
theorem m124_1 : smI 124 1 = rI4 (.invokevirtual 127) 4 20 127 0 := zT_a (k := 0) (i := 1) zT124_0 rfl
theorem m124_4 : smI 124 4 = rI0 ziS1 5 := zT_a (k := 0) (i := 4) zT124_0 rfl
theorem m124_5 : smI 124 5 = rI0 ziA0 6 := zT_a (k := 0) (i := 5) zT124_0 rfl
theorem m124_6 : smI 124 6 = rI3 (.getfield 83) 9 7 14 := zT_a (k := 0) (i := 6) zT124_0 rfl
theorem m124_9 : smI 124 9 = rI2 (.ifCond .eq 14) 12 23 := zT_a (k := 0) (i := 9) zT124_0 rfl
theorem m124_12 : smI 124 12 = rI0 ziA0 13 := zT_a (k := 0) (i := 12) zT124_0 rfl
theorem m124_13 : smI 124 13 = rI0 ziA0 14 := zT_a (k := 0) (i := 13) zT124_0 rfl
theorem m124_14 : smI 124 14 = rI3 (.getfield 87) 17 7 8 := zT_a (k := 0) (i := 14) zT124_0 rfl
theorem m124_17 : smI 124 17 = rI4 (.invokevirtual 90) 20 20 119 1 := zT_a (k := 0) (i := 17) zT124_0 rfl
theorem m124_20 : smI 124 20 = rI2 (.goto 4) 23 24 := zT_a (k := 0) (i := 20) zT124_0 rfl
theorem m124_23 : smI 124 23 = rI1 (.iconst (-1)) 24 (-1) := zT_a (k := 0) (i := 23) zT124_0 rfl
theorem m124_24 : smI 124 24 = rI0 ziS2 25 := zT_a (k := 0) (i := 24) zT124_0 rfl
theorem m124_25 : smI 124 25 = rI0 ziI2 26 := zT_a (k := 0) (i := 25) zT124_0 rfl
theorem m124_26 : smI 124 26 = rI1 (.bipush 60) 28 60 := zT_a (k := 0) (i := 26) zT124_0 rfl
theorem m124_28 : smI 124 28 = rI2 (.if_icmp .eq 17) 31 45 := zT_a (k := 0) (i := 28) zT124_0 rfl
theorem m124_31 : smI 124 31 = rI0 ziI2 32 := zT_a (k := 0) (i := 31) zT124_0 rfl
theorem m124_32 : smI 124 32 = rI1 (.bipush 61) 34 61 := zT_a (k := 32) (i := 0) zT124_1 rfl
theorem m124_34 : smI 124 34 = rI2 (.if_icmp .eq 11) 37 45 := zT_a (k := 32) (i := 2) zT124_1 rfl
theorem m124_37 : smI 124 37 = rI0 ziI2 38 := zT_a (k := 32) (i := 5) zT124_1 rfl
theorem m124_38 : smI 124 38 = rI1 (.bipush 62) 40 62 := zT_a (k := 32) (i := 6) zT124_1 rfl
theorem m124_40 : smI 124 40 = rI2 (.if_icmp .eq 5) 43 45 := zT_a (k := 32) (i := 8) zT124_1 rfl
theorem m124_43 : smI 124 43 = rI0 ziI1 44 := zT_a (k := 32) (i := 11) zT124_1 rfl
theorem m124_44 : smI 124 44 = rI0 .ireturn 45 := zT_a (k := 32) (i := 12) zT124_1 rfl
theorem m124_45 : smI 124 45 = rI0 ziA0 46 := zT_a (k := 32) (i := 13) zT124_1 rfl
theorem m124_46 : smI 124 46 = rI0 .dup 47 := zT_a (k := 32) (i := 14) zT124_1 rfl
theorem m124_47 : smI 124 47 = rI3 (.getfield 87) 50 7 8 := zT_a (k := 32) (i := 15) zT124_1 rfl
theorem m124_50 : smI 124 50 = rI1 ziC1 51 1 := zT_a (k := 32) (i := 18) zT124_1 rfl
theorem m124_51 : smI 124 51 = rI0 .iadd 52 := zT_a (k := 32) (i := 19) zT124_1 rfl
theorem m124_52 : smI 124 52 = rI3 (.putfield 87) 55 7 8 := zT_a (k := 32) (i := 20) zT124_1 rfl
theorem m124_55 : smI 124 55 = rI0 ziA0 56 := zT_a (k := 32) (i := 23) zT124_1 rfl
theorem m124_56 : smI 124 56 = rI4 (.invokevirtual 127) 59 20 127 0 := zT_a (k := 32) (i := 24) zT124_1 rfl
theorem m124_59 : smI 124 59 = rI0 ziS3 60 := zT_a (k := 32) (i := 27) zT124_1 rfl
theorem m124_60 : smI 124 60 = rI0 ziI2 61 := zT_a (k := 32) (i := 28) zT124_1 rfl
theorem m124_61 : smI 124 61 = rI1 (.bipush 60) 63 60 := zT_a (k := 32) (i := 29) zT124_1 rfl
theorem m124_63 : smI 124 63 = rI2 (.if_icmp .ne 16) 66 79 := zT_a (k := 32) (i := 31) zT124_1 rfl
theorem m124_66 : smI 124 66 = rI0 ziI1 67 := zT_a (k := 64) (i := 2) zT124_2 rfl
theorem m124_67 : smI 124 67 = rI0 ziI3 68 := zT_a (k := 64) (i := 3) zT124_2 rfl
theorem m124_68 : smI 124 68 = rI2 (.if_icmp .ge 7) 71 75 := zT_a (k := 64) (i := 4) zT124_2 rfl
theorem m124_71 : smI 124 71 = rI1 ziC1 72 1 := zT_a (k := 64) (i := 7) zT124_2 rfl
theorem m124_72 : smI 124 72 = rI2 (.goto 36) 75 108 := zT_a (k := 64) (i := 8) zT124_2 rfl
theorem m124_75 : smI 124 75 = rI0 ziC0 76 := zT_a (k := 64) (i := 11) zT124_2 rfl
theorem m124_76 : smI 124 76 = rI2 (.goto 32) 79 108 := zT_a (k := 64) (i := 12) zT124_2 rfl
theorem m124_79 : smI 124 79 = rI0 ziI2 80 := zT_a (k := 64) (i := 15) zT124_2 rfl
theorem m124_80 : smI 124 80 = rI1 (.bipush 61) 82 61 := zT_a (k := 64) (i := 16) zT124_2 rfl
theorem m124_82 : smI 124 82 = rI2 (.if_icmp .ne 16) 85 98 := zT_a (k := 64) (i := 18) zT124_2 rfl
theorem m124_85 : smI 124 85 = rI0 ziI1 86 := zT_a (k := 64) (i := 21) zT124_2 rfl
theorem m124_86 : smI 124 86 = rI0 ziI3 87 := zT_a (k := 64) (i := 22) zT124_2 rfl
theorem m124_87 : smI 124 87 = rI2 (.if_icmp .ne 7) 90 94 := zT_a (k := 64) (i := 23) zT124_2 rfl
theorem m124_90 : smI 124 90 = rI1 ziC1 91 1 := zT_a (k := 64) (i := 26) zT124_2 rfl
theorem m124_91 : smI 124 91 = rI2 (.goto 17) 94 108 := zT_a (k := 64) (i := 27) zT124_2 rfl
theorem m124_94 : smI 124 94 = rI0 ziC0 95 := zT_a (k := 64) (i := 30) zT124_2 rfl
theorem m124_95 : smI 124 95 = rI2 (.goto 13) 98 108 := zT_a (k := 64) (i := 31) zT124_2 rfl
theorem m124_98 : smI 124 98 = rI0 ziI1 99 := zT_l (k := 96) (i := 2) zT124_3 rfl
theorem m124_99 : smI 124 99 = rI0 ziI3 100 := zT_l (k := 96) (i := 3) zT124_3 rfl
theorem m124_100 : smI 124 100 = rI2 (.if_icmp .le 7) 103 107 := zT_l (k := 96) (i := 4) zT124_3 rfl
theorem m124_103 : smI 124 103 = rI1 ziC1 104 1 := zT_l (k := 96) (i := 7) zT124_3 rfl
theorem m124_104 : smI 124 104 = rI2 (.goto 4) 107 108 := zT_l (k := 96) (i := 8) zT124_3 rfl
theorem m124_107 : smI 124 107 = rI0 ziC0 108 := zT_l (k := 96) (i := 11) zT124_3 rfl
theorem m124_108 : smI 124 108 = rI0 (.istore 4) 110 := zT_l (k := 96) (i := 12) zT124_3 rfl
theorem m124_110 : smI 124 110 = rI0 (.iload 4) 112 := zT_l (k := 96) (i := 14) zT124_3 rfl
theorem m124_112 : smI 124 112 = rI2 (.ifCond .eq 7) 115 119 := zT_l (k := 96) (i := 16) zT124_3 rfl
theorem m124_115 : smI 124 115 = rI1 ziC1 116 1 := zT_l (k := 96) (i := 19) zT124_3 rfl
theorem m124_116 : smI 124 116 = rI2 (.goto 4) 119 120 := zT_l (k := 96) (i := 20) zT124_3 rfl
theorem m124_119 : smI 124 119 = rI0 ziC0 120 := zT_l (k := 96) (i := 23) zT124_3 rfl
theorem m124_120 : smI 124 120 = rI0 .ireturn 121 := zT_l (k := 96) (i := 24) zT124_3 rfl
theorem mx_125 : mMx 125 = 3 := by decide +kernel
theorem cn_125 : mCn 125 = 7 := by decide +kernel
theorem rt_125 : mRt 125 = (some .int) := by decide +kernel
theorem tq_125 : allT.getD 125 [] = tb_125 := rfl
theorem zT125_0 : zT 125 0 (tb_125_0 ++ (tb_125_1 ++ (tb_125_2 ++ (tb_125_3 ++ (tb_125_4))))) := zT_0 tq_125
theorem zT125_1 : zT 125 32 (tb_125_1 ++ (tb_125_2 ++ (tb_125_3 ++ (tb_125_4)))) := zT_s zT125_0 (n := 32) (by decide +kernel) rfl
theorem zT125_2 : zT 125 64 (tb_125_2 ++ (tb_125_3 ++ (tb_125_4))) := zT_s zT125_1 (n := 32) (by decide +kernel) rfl
theorem zT125_3 : zT 125 96 (tb_125_3 ++ (tb_125_4)) := zT_s zT125_2 (n := 32) (by decide +kernel) rfl
theorem zT125_4 : zT 125 128 (tb_125_4) := zT_s zT125_3 (n := 32) (by decide +kernel) rfl
theorem m125_0 : smI 125 0 = rI0 ziA0 1 := zT_a (k := 0) (i := 0) zT125_0 rfl
theorem m125_1 : smI 125 1 = rI0 ziA0 2 := zT_a (k := 0) (i := 1) zT125_0 rfl
theorem m125_2 : smI 125 2 = rI3 (.getfield 87) 5 7 8 := zT_a (k := 0) (i := 2) zT125_0 rfl
theorem m125_5 : smI 125 5 = rI4 (.invokevirtual 90) 8 20 119 1 := zT_a (k := 0) (i := 5) zT125_0 rfl
theorem m125_8 : smI 125 8 = rI0 ziS1 9 := zT_a (k := 0) (i := 8) zT125_0 rfl
theorem m125_9 : smI 125 9 = rI0 ziI1 10 := zT_a (k := 0) (i := 9) zT125_0 rfl
theorem m125_10 : smI 125 10 = rI3 (.invokestatic 93) 13 120 1 := zT_a (k := 0) (i := 10) zT125_0 rfl
theorem m125_13 : smI 125 13 = rI2 (.ifCond .eq 8) 16 21 := zT_a (k := 0) (i := 13) zT125_0 rfl
theorem m125_16 : smI 125 16 = rI0 ziA0 17 := zT_a (k := 0) (i := 16) zT125_0 rfl
theorem m125_17 : smI 125 17 = rI4 (.invokevirtual 109) 20 20 121 0 := zT_a (k := 0) (i := 17) zT125_0 rfl
theorem m125_20 : smI 125 20 = rI0 .ireturn 21 := zT_a (k := 0) (i := 20) zT125_0 rfl
theorem m125_21 : smI 125 21 = rI0 ziI1 22 := zT_a (k := 0) (i := 21) zT125_0 rfl
theorem m125_22 : smI 125 22 = rI1 (.bipush 33) 24 33 := zT_a (k := 0) (i := 22) zT125_0 rfl
theorem m125_24 : smI 125 24 = rI2 (.if_icmp .eq 15) 27 39 := zT_a (k := 0) (i := 24) zT125_0 rfl
theorem m125_27 : smI 125 27 = rI0 ziI1 28 := zT_a (k := 0) (i := 27) zT125_0 rfl
theorem m125_28 : smI 125 28 = rI1 (.bipush 40) 30 40 := zT_a (k := 0) (i := 28) zT125_0 rfl
theorem m125_30 : smI 125 30 = rI2 (.if_icmp .eq 9) 33 39 := zT_a (k := 0) (i := 30) zT125_0 rfl
theorem m125_33 : smI 125 33 = rI0 ziA0 34 := zT_a (k := 32) (i := 1) zT125_1 rfl
theorem m125_34 : smI 125 34 = rI0 ziI1 35 := zT_a (k := 32) (i := 2) zT125_1 rfl
theorem m125_35 : smI 125 35 = rI4 (.invokevirtual 112) 38 20 123 1 := zT_a (k := 32) (i := 3) zT125_1 rfl
theorem m125_38 : smI 125 38 = rI0 .ireturn 39 := zT_a (k := 32) (i := 6) zT125_1 rfl
theorem m125_39 : smI 125 39 = rI0 ziA0 40 := zT_a (k := 32) (i := 7) zT125_1 rfl
theorem m125_40 : smI 125 40 = rI3 (.getfield 115) 43 7 10 := zT_a (k := 32) (i := 8) zT125_1 rfl
theorem m125_43 : smI 125 43 = rI1 ziC5 44 5 := zT_a (k := 32) (i := 11) zT125_1 rfl
theorem m125_44 : smI 125 44 = rI2 (.if_icmp .ne 8) 47 52 := zT_a (k := 32) (i := 12) zT125_1 rfl
theorem m125_47 : smI 125 47 = rI0 ziA0 48 := zT_a (k := 32) (i := 15) zT125_1 rfl
theorem m125_48 : smI 125 48 = rI4 (.invokevirtual 96) 51 20 122 0 := zT_a (k := 32) (i := 16) zT125_1 rfl
theorem m125_51 : smI 125 51 = rI0 .ireturn 52 := zT_a (k := 32) (i := 19) zT125_1 rfl
theorem m125_52 : smI 125 52 = rI0 ziA0 53 := zT_a (k := 32) (i := 20) zT125_1 rfl
theorem m125_53 : smI 125 53 = rI0 .dup 54 := zT_a (k := 32) (i := 21) zT125_1 rfl
theorem m125_54 : smI 125 54 = rI3 (.getfield 115) 57 7 10 := zT_a (k := 32) (i := 22) zT125_1 rfl
theorem m125_57 : smI 125 57 = rI1 ziC1 58 1 := zT_a (k := 32) (i := 25) zT125_1 rfl
theorem m125_58 : smI 125 58 = rI0 .iadd 59 := zT_a (k := 32) (i := 26) zT125_1 rfl
theorem m125_59 : smI 125 59 = rI3 (.putfield 115) 62 7 10 := zT_a (k := 32) (i := 27) zT125_1 rfl
theorem m125_62 : smI 125 62 = rI0 ziA0 63 := zT_a (k := 32) (i := 30) zT125_1 rfl
theorem m125_63 : smI 125 63 = rI0 .dup 64 := zT_a (k := 32) (i := 31) zT125_1 rfl
theorem m125_64 : smI 125 64 = rI3 (.getfield 87) 67 7 8 := zT_a (k := 64) (i := 0) zT125_2 rfl
theorem m125_67 : smI 125 67 = rI1 ziC1 68 1 := zT_a (k := 64) (i := 3) zT125_2 rfl
theorem m125_68 : smI 125 68 = rI0 .iadd 69 := zT_a (k := 64) (i := 4) zT125_2 rfl
theorem m125_69 : smI 125 69 = rI3 (.putfield 87) 72 7 8 := zT_a (k := 64) (i := 5) zT125_2 rfl
theorem m125_72 : smI 125 72 = rI0 ziI1 73 := zT_a (k := 64) (i := 8) zT125_2 rfl
theorem m125_73 : smI 125 73 = rI1 (.bipush 33) 75 33 := zT_a (k := 64) (i := 9) zT125_2 rfl
theorem m125_75 : smI 125 75 = rI2 (.if_icmp .ne 10) 78 85 := zT_a (k := 64) (i := 11) zT125_2 rfl
theorem m125_78 : smI 125 78 = rI0 ziA0 79 := zT_a (k := 64) (i := 14) zT125_2 rfl
theorem m125_79 : smI 125 79 = rI4 (.invokevirtual 118) 82 20 125 0 := zT_a (k := 64) (i := 15) zT125_2 rfl
theorem m125_82 : smI 125 82 = rI2 (.goto 7) 85 89 := zT_a (k := 64) (i := 18) zT125_2 rfl
theorem m125_85 : smI 125 85 = rI0 ziA0 86 := zT_a (k := 64) (i := 21) zT125_2 rfl
theorem m125_86 : smI 125 86 = rI4 (.invokevirtual 121) 89 20 128 0 := zT_a (k := 64) (i := 22) zT125_2 rfl
theorem m125_89 : smI 125 89 = rI0 ziS2 90 := zT_a (k := 64) (i := 25) zT125_2 rfl
theorem m125_90 : smI 125 90 = rI0 ziA0 91 := zT_a (k := 64) (i := 26) zT125_2 rfl
theorem m125_91 : smI 125 91 = rI0 .dup 92 := zT_a (k := 64) (i := 27) zT125_2 rfl
theorem m125_92 : smI 125 92 = rI3 (.getfield 115) 95 7 10 := zT_a (k := 64) (i := 28) zT125_2 rfl
theorem m125_95 : smI 125 95 = rI1 ziC1 96 1 := zT_a (k := 64) (i := 31) zT125_2 rfl
theorem m125_96 : smI 125 96 = rI0 .isub 97 := zT_a (k := 96) (i := 0) zT125_3 rfl
theorem m125_97 : smI 125 97 = rI3 (.putfield 115) 100 7 10 := zT_a (k := 96) (i := 1) zT125_3 rfl
theorem m125_100 : smI 125 100 = rI0 ziI1 101 := zT_a (k := 96) (i := 4) zT125_3 rfl
theorem m125_101 : smI 125 101 = rI1 (.bipush 33) 103 33 := zT_a (k := 96) (i := 5) zT125_3 rfl
theorem m125_103 : smI 125 103 = rI2 (.if_icmp .ne 13) 106 116 := zT_a (k := 96) (i := 7) zT125_3 rfl
theorem m125_106 : smI 125 106 = rI0 ziI2 107 := zT_a (k := 96) (i := 10) zT125_3 rfl
theorem m125_107 : smI 125 107 = rI2 (.ifCond .ne 7) 110 114 := zT_a (k := 96) (i := 11) zT125_3 rfl
theorem m125_110 : smI 125 110 = rI1 ziC1 111 1 := zT_a (k := 96) (i := 14) zT125_3 rfl
theorem m125_111 : smI 125 111 = rI2 (.goto 4) 114 115 := zT_a (k := 96) (i := 15) zT125_3 rfl
theorem m125_114 : smI 125 114 = rI0 ziC0 115 := zT_a (k := 96) (i := 18) zT125_3 rfl
theorem m125_115 : smI 125 115 = rI0 .ireturn 116 := zT_a (k := 96) (i := 19) zT125_3 rfl
theorem m125_116 : smI 125 116 = rI0 ziA0 117 := zT_a (k := 96) (i := 20) zT125_3 rfl
theorem m125_117 : smI 125 117 = rI3 (.getfield 83) 120 7 14 := zT_a (k := 96) (i := 21) zT125_3 rfl
theorem m125_120 : smI 125 120 = rI2 (.ifCond .eq 28) 123 148 := zT_a (k := 96) (i := 24) zT125_3 rfl
theorem m125_123 : smI 125 123 = rI0 ziA0 124 := zT_a (k := 96) (i := 27) zT125_3 rfl
theorem m125_124 : smI 125 124 = rI0 ziA0 125 := zT_a (k := 96) (i := 28) zT125_3 rfl
theorem m125_125 : smI 125 125 = rI3 (.getfield 87) 128 7 8 := zT_a (k := 96) (i := 29) zT125_3 rfl
theorem m125_128 : smI 125 128 = rI4 (.invokevirtual 90) 131 20 119 1 := zT_l (k := 128) (i := 0) zT125_4 rfl
theorem m125_131 : smI 125 131 = rI1 (.bipush 41) 133 41 := zT_l (k := 128) (i := 3) zT125_4 rfl
theorem m125_133 : smI 125 133 = rI2 (.if_icmp .ne 15) 136 148 := zT_l (k := 128) (i := 5) zT125_4 rfl
theorem m125_136 : smI 125 136 = rI0 ziA0 137 := zT_l (k := 128) (i := 8) zT125_4 rfl
theorem m125_137 : smI 125 137 = rI0 .dup 138 := zT_l (k := 128) (i := 9) zT125_4 rfl
theorem m125_138 : smI 125 138 = rI3 (.getfield 87) 141 7 8 := zT_l (k := 128) (i := 10) zT125_4 rfl
theorem m125_141 : smI 125 141 = rI1 ziC1 142 1 := zT_l (k := 128) (i := 13) zT125_4 rfl
theorem m125_142 : smI 125 142 = rI0 .iadd 143 := zT_l (k := 128) (i := 14) zT125_4 rfl
theorem m125_143 : smI 125 143 = rI3 (.putfield 87) 146 7 8 := zT_l (k := 128) (i := 15) zT125_4 rfl
theorem m125_146 : smI 125 146 = rI0 ziI2 147 := zT_l (k := 128) (i := 18) zT125_4 rfl
theorem m125_147 : smI 125 147 = rI0 .ireturn 148 := zT_l (k := 128) (i := 19) zT125_4 rfl
theorem m125_148 : smI 125 148 = rI0 ziA0 149 := zT_l (k := 128) (i := 20) zT125_4 rfl
theorem m125_149 : smI 125 149 = rI4 (.invokevirtual 96) 152 20 122 0 := zT_l (k := 128) (i := 21) zT125_4 rfl
theorem m125_152 : smI 125 152 = rI0 .ireturn 153 := zT_l (k := 128) (i := 24) zT125_4 rfl
theorem mx_126 : mMx 126 = 4 := by decide +kernel
theorem cn_126 : mCn 126 = 7 := by decide +kernel
theorem rt_126 : mRt 126 = (some .int) := by decide +kernel
theorem tq_126 : allT.getD 126 [] = tb_126 := rfl
theorem zT126_0 : zT 126 0 (tb_126_0 ++ (tb_126_1 ++ (tb_126_2 ++ (tb_126_3)))) := zT_0 tq_126
theorem zT126_1 : zT 126 32 (tb_126_1 ++ (tb_126_2 ++ (tb_126_3))) := zT_s zT126_0 (n := 32) (by decide +kernel) rfl
theorem zT126_2 : zT 126 64 (tb_126_2 ++ (tb_126_3)) := zT_s zT126_1 (n := 32) (by decide +kernel) rfl
theorem zT126_3 : zT 126 96 (tb_126_3) := zT_s zT126_2 (n := 32) (by decide +kernel) rfl
theorem m126_0 : smI 126 0 = rI0 ziA0 1 := zT_a (k := 0) (i := 0) zT126_0 rfl
theorem m126_1 : smI 126 1 = rI4 (.invokevirtual 118) 4 20 125 0 := zT_a (k := 0) (i := 1) zT126_0 rfl
theorem m126_4 : smI 126 4 = rI0 ziS1 5 := zT_a (k := 0) (i := 4) zT126_0 rfl
theorem m126_5 : smI 126 5 = rI0 ziA0 6 := zT_a (k := 0) (i := 5) zT126_0 rfl
theorem m126_6 : smI 126 6 = rI3 (.getfield 83) 9 7 14 := zT_a (k := 0) (i := 6) zT126_0 rfl
theorem m126_9 : smI 126 9 = rI2 (.ifCond .eq 105) 12 114 := zT_a (k := 0) (i := 9) zT126_0 rfl
theorem m126_12 : smI 126 12 = rI0 ziA0 13 := zT_a (k := 0) (i := 12) zT126_0 rfl
theorem m126_13 : smI 126 13 = rI0 ziA0 14 := zT_a (k := 0) (i := 13) zT126_0 rfl
theorem m126_14 : smI 126 14 = rI3 (.getfield 87) 17 7 8 := zT_a (k := 0) (i := 14) zT126_0 rfl
theorem m126_17 : smI 126 17 = rI4 (.invokevirtual 90) 20 20 119 1 := zT_a (k := 0) (i := 17) zT126_0 rfl
theorem m126_20 : smI 126 20 = rI1 (.bipush 42) 22 42 := zT_a (k := 0) (i := 20) zT126_0 rfl
theorem m126_22 : smI 126 22 = rI2 (.if_icmp .eq 29) 25 51 := zT_a (k := 0) (i := 22) zT126_0 rfl
theorem m126_25 : smI 126 25 = rI0 ziA0 26 := zT_a (k := 0) (i := 25) zT126_0 rfl
theorem m126_26 : smI 126 26 = rI0 ziA0 27 := zT_a (k := 0) (i := 26) zT126_0 rfl
theorem m126_27 : smI 126 27 = rI3 (.getfield 87) 30 7 8 := zT_a (k := 0) (i := 27) zT126_0 rfl
theorem m126_30 : smI 126 30 = rI4 (.invokevirtual 90) 33 20 119 1 := zT_a (k := 0) (i := 30) zT126_0 rfl
theorem m126_33 : smI 126 33 = rI1 (.bipush 47) 35 47 := zT_a (k := 32) (i := 1) zT126_1 rfl
theorem m126_35 : smI 126 35 = rI2 (.if_icmp .eq 16) 38 51 := zT_a (k := 32) (i := 3) zT126_1 rfl
theorem m126_38 : smI 126 38 = rI0 ziA0 39 := zT_a (k := 32) (i := 6) zT126_1 rfl
theorem m126_39 : smI 126 39 = rI0 ziA0 40 := zT_a (k := 32) (i := 7) zT126_1 rfl
theorem m126_40 : smI 126 40 = rI3 (.getfield 87) 43 7 8 := zT_a (k := 32) (i := 8) zT126_1 rfl
theorem m126_43 : smI 126 43 = rI4 (.invokevirtual 90) 46 20 119 1 := zT_a (k := 32) (i := 11) zT126_1 rfl
theorem m126_46 : smI 126 46 = rI1 (.bipush 37) 48 37 := zT_a (k := 32) (i := 14) zT126_1 rfl
theorem m126_48 : smI 126 48 = rI2 (.if_icmp .ne 66) 51 114 := zT_a (k := 32) (i := 16) zT126_1 rfl
theorem m126_51 : smI 126 51 = rI0 ziA0 52 := zT_a (k := 32) (i := 19) zT126_1 rfl
theorem m126_52 : smI 126 52 = rI0 ziA0 53 := zT_a (k := 32) (i := 20) zT126_1 rfl
theorem m126_53 : smI 126 53 = rI3 (.getfield 87) 56 7 8 := zT_a (k := 32) (i := 21) zT126_1 rfl
theorem m126_56 : smI 126 56 = rI4 (.invokevirtual 90) 59 20 119 1 := zT_a (k := 32) (i := 24) zT126_1 rfl
theorem m126_59 : smI 126 59 = rI0 ziS2 60 := zT_a (k := 32) (i := 27) zT126_1 rfl
theorem m126_60 : smI 126 60 = rI0 ziA0 61 := zT_a (k := 32) (i := 28) zT126_1 rfl
theorem m126_61 : smI 126 61 = rI0 .dup 62 := zT_a (k := 32) (i := 29) zT126_1 rfl
theorem m126_62 : smI 126 62 = rI3 (.getfield 87) 65 7 8 := zT_a (k := 32) (i := 30) zT126_1 rfl
theorem m126_65 : smI 126 65 = rI1 ziC1 66 1 := zT_a (k := 64) (i := 1) zT126_2 rfl
theorem m126_66 : smI 126 66 = rI0 .iadd 67 := zT_a (k := 64) (i := 2) zT126_2 rfl
theorem m126_67 : smI 126 67 = rI3 (.putfield 87) 70 7 8 := zT_a (k := 64) (i := 3) zT126_2 rfl
theorem m126_70 : smI 126 70 = rI0 ziA0 71 := zT_a (k := 64) (i := 6) zT126_2 rfl
theorem m126_71 : smI 126 71 = rI4 (.invokevirtual 118) 74 20 125 0 := zT_a (k := 64) (i := 7) zT126_2 rfl
theorem m126_74 : smI 126 74 = rI0 ziS3 75 := zT_a (k := 64) (i := 10) zT126_2 rfl
theorem m126_75 : smI 126 75 = rI0 ziI2 76 := zT_a (k := 64) (i := 11) zT126_2 rfl
theorem m126_76 : smI 126 76 = rI1 (.bipush 42) 78 42 := zT_a (k := 64) (i := 12) zT126_2 rfl
theorem m126_78 : smI 126 78 = rI2 (.if_icmp .ne 9) 81 87 := zT_a (k := 64) (i := 14) zT126_2 rfl
theorem m126_81 : smI 126 81 = rI0 ziI1 82 := zT_a (k := 64) (i := 17) zT126_2 rfl
theorem m126_82 : smI 126 82 = rI0 ziI3 83 := zT_a (k := 64) (i := 18) zT126_2 rfl
theorem m126_83 : smI 126 83 = rI0 .imul 84 := zT_a (k := 64) (i := 19) zT126_2 rfl
theorem m126_84 : smI 126 84 = rI2 (.goto 26) 87 110 := zT_a (k := 64) (i := 20) zT126_2 rfl
theorem m126_87 : smI 126 87 = rI0 ziI3 88 := zT_a (k := 64) (i := 23) zT126_2 rfl
theorem m126_88 : smI 126 88 = rI2 (.ifCond .ne 7) 91 95 := zT_a (k := 64) (i := 24) zT126_2 rfl
theorem m126_91 : smI 126 91 = rI0 ziC0 92 := zT_a (k := 64) (i := 27) zT126_2 rfl
theorem m126_92 : smI 126 92 = rI2 (.goto 18) 95 110 := zT_a (k := 64) (i := 28) zT126_2 rfl
theorem m126_95 : smI 126 95 = rI0 ziI2 96 := zT_a (k := 64) (i := 31) zT126_2 rfl
theorem m126_96 : smI 126 96 = rI1 (.bipush 47) 98 47 := zT_l (k := 96) (i := 0) zT126_3 rfl
theorem m126_98 : smI 126 98 = rI2 (.if_icmp .ne 9) 101 107 := zT_l (k := 96) (i := 2) zT126_3 rfl
theorem m126_101 : smI 126 101 = rI0 ziI1 102 := zT_l (k := 96) (i := 5) zT126_3 rfl
theorem m126_102 : smI 126 102 = rI0 ziI3 103 := zT_l (k := 96) (i := 6) zT126_3 rfl
theorem m126_103 : smI 126 103 = rI0 .idiv 104 := zT_l (k := 96) (i := 7) zT126_3 rfl
theorem m126_104 : smI 126 104 = rI2 (.goto 6) 107 110 := zT_l (k := 96) (i := 8) zT126_3 rfl
theorem m126_107 : smI 126 107 = rI0 ziI1 108 := zT_l (k := 96) (i := 11) zT126_3 rfl
theorem m126_108 : smI 126 108 = rI0 ziI3 109 := zT_l (k := 96) (i := 12) zT126_3 rfl
theorem m126_109 : smI 126 109 = rI0 .irem 110 := zT_l (k := 96) (i := 13) zT126_3 rfl
theorem m126_110 : smI 126 110 = rI0 ziS1 111 := zT_l (k := 96) (i := 14) zT126_3 rfl
theorem m126_111 : smI 126 111 = rI2 (.goto (-106)) 114 5 := zT_l (k := 96) (i := 15) zT126_3 rfl
theorem m126_114 : smI 126 114 = rI0 ziI1 115 := zT_l (k := 96) (i := 18) zT126_3 rfl
theorem m126_115 : smI 126 115 = rI0 .ireturn 116 := zT_l (k := 96) (i := 19) zT126_3 rfl
theorem mx_127 : mMx 127 = 4 := by decide +kernel
theorem cn_127 : mCn 127 = 7 := by decide +kernel
theorem rt_127 : mRt 127 = (some .int) := by decide +kernel
theorem tq_127 : allT.getD 127 [] = tb_127 := rfl
theorem zT127_0 : zT 127 0 (tb_127_0 ++ (tb_127_1 ++ (tb_127_2))) := zT_0 tq_127
theorem zT127_1 : zT 127 32 (tb_127_1 ++ (tb_127_2)) := zT_s zT127_0 (n := 32) (by decide +kernel) rfl
theorem zT127_2 : zT 127 64 (tb_127_2) := zT_s zT127_1 (n := 32) (by decide +kernel) rfl
theorem m127_0 : smI 127 0 = rI0 ziA0 1 := zT_a (k := 0) (i := 0) zT127_0 rfl
theorem m127_1 : smI 127 1 = rI4 (.invokevirtual 124) 4 20 126 0 := zT_a (k := 0) (i := 1) zT127_0 rfl
theorem m127_4 : smI 127 4 = rI0 ziS1 5 := zT_a (k := 0) (i := 4) zT127_0 rfl
theorem m127_5 : smI 127 5 = rI0 ziA0 6 := zT_a (k := 0) (i := 5) zT127_0 rfl
theorem m127_6 : smI 127 6 = rI3 (.getfield 83) 9 7 14 := zT_a (k := 0) (i := 6) zT127_0 rfl
theorem m127_9 : smI 127 9 = rI2 (.ifCond .eq 72) 12 81 := zT_a (k := 0) (i := 9) zT127_0 rfl
theorem m127_12 : smI 127 12 = rI0 ziA0 13 := zT_a (k := 0) (i := 12) zT127_0 rfl
theorem m127_13 : smI 127 13 = rI0 ziA0 14 := zT_a (k := 0) (i := 13) zT127_0 rfl
theorem m127_14 : smI 127 14 = rI3 (.getfield 87) 17 7 8 := zT_a (k := 0) (i := 14) zT127_0 rfl
theorem m127_17 : smI 127 17 = rI4 (.invokevirtual 90) 20 20 119 1 := zT_a (k := 0) (i := 17) zT127_0 rfl
theorem m127_20 : smI 127 20 = rI1 (.bipush 43) 22 43 := zT_a (k := 0) (i := 20) zT127_0 rfl
theorem m127_22 : smI 127 22 = rI2 (.if_icmp .eq 16) 25 38 := zT_a (k := 0) (i := 22) zT127_0 rfl
theorem m127_25 : smI 127 25 = rI0 ziA0 26 := zT_a (k := 0) (i := 25) zT127_0 rfl
theorem m127_26 : smI 127 26 = rI0 ziA0 27 := zT_a (k := 0) (i := 26) zT127_0 rfl
theorem m127_27 : smI 127 27 = rI3 (.getfield 87) 30 7 8 := zT_a (k := 0) (i := 27) zT127_0 rfl
theorem m127_30 : smI 127 30 = rI4 (.invokevirtual 90) 33 20 119 1 := zT_a (k := 0) (i := 30) zT127_0 rfl
theorem m127_33 : smI 127 33 = rI1 (.bipush 45) 35 45 := zT_a (k := 32) (i := 1) zT127_1 rfl
theorem m127_35 : smI 127 35 = rI2 (.if_icmp .ne 46) 38 81 := zT_a (k := 32) (i := 3) zT127_1 rfl
theorem m127_38 : smI 127 38 = rI0 ziA0 39 := zT_a (k := 32) (i := 6) zT127_1 rfl
theorem m127_39 : smI 127 39 = rI0 ziA0 40 := zT_a (k := 32) (i := 7) zT127_1 rfl
theorem m127_40 : smI 127 40 = rI3 (.getfield 87) 43 7 8 := zT_a (k := 32) (i := 8) zT127_1 rfl
theorem m127_43 : smI 127 43 = rI4 (.invokevirtual 90) 46 20 119 1 := zT_a (k := 32) (i := 11) zT127_1 rfl
theorem m127_46 : smI 127 46 = rI0 ziS2 47 := zT_a (k := 32) (i := 14) zT127_1 rfl
theorem m127_47 : smI 127 47 = rI0 ziA0 48 := zT_a (k := 32) (i := 15) zT127_1 rfl
theorem m127_48 : smI 127 48 = rI0 .dup 49 := zT_a (k := 32) (i := 16) zT127_1 rfl
theorem m127_49 : smI 127 49 = rI3 (.getfield 87) 52 7 8 := zT_a (k := 32) (i := 17) zT127_1 rfl
theorem m127_52 : smI 127 52 = rI1 ziC1 53 1 := zT_a (k := 32) (i := 20) zT127_1 rfl
theorem m127_53 : smI 127 53 = rI0 .iadd 54 := zT_a (k := 32) (i := 21) zT127_1 rfl
theorem m127_54 : smI 127 54 = rI3 (.putfield 87) 57 7 8 := zT_a (k := 32) (i := 22) zT127_1 rfl
theorem m127_57 : smI 127 57 = rI0 ziA0 58 := zT_a (k := 32) (i := 25) zT127_1 rfl
theorem m127_58 : smI 127 58 = rI4 (.invokevirtual 124) 61 20 126 0 := zT_a (k := 32) (i := 26) zT127_1 rfl
theorem m127_61 : smI 127 61 = rI0 ziS3 62 := zT_a (k := 32) (i := 29) zT127_1 rfl
theorem m127_62 : smI 127 62 = rI0 ziI2 63 := zT_a (k := 32) (i := 30) zT127_1 rfl
theorem m127_63 : smI 127 63 = rI1 (.bipush 43) 65 43 := zT_a (k := 32) (i := 31) zT127_1 rfl
theorem m127_65 : smI 127 65 = rI2 (.if_icmp .ne 9) 68 74 := zT_l (k := 64) (i := 1) zT127_2 rfl
theorem m127_68 : smI 127 68 = rI0 ziI1 69 := zT_l (k := 64) (i := 4) zT127_2 rfl
theorem m127_69 : smI 127 69 = rI0 ziI3 70 := zT_l (k := 64) (i := 5) zT127_2 rfl
theorem m127_70 : smI 127 70 = rI0 .iadd 71 := zT_l (k := 64) (i := 6) zT127_2 rfl
theorem m127_71 : smI 127 71 = rI2 (.goto 6) 74 77 := zT_l (k := 64) (i := 7) zT127_2 rfl
theorem m127_74 : smI 127 74 = rI0 ziI1 75 := zT_l (k := 64) (i := 10) zT127_2 rfl
theorem m127_75 : smI 127 75 = rI0 ziI3 76 := zT_l (k := 64) (i := 11) zT127_2 rfl
theorem m127_76 : smI 127 76 = rI0 .isub 77 := zT_l (k := 64) (i := 12) zT127_2 rfl
theorem m127_77 : smI 127 77 = rI0 ziS1 78 := zT_l (k := 64) (i := 13) zT127_2 rfl
theorem m127_78 : smI 127 78 = rI2 (.goto (-73)) 81 5 := zT_l (k := 64) (i := 14) zT127_2 rfl
theorem m127_81 : smI 127 81 = rI0 ziI1 82 := zT_l (k := 64) (i := 17) zT127_2 rfl
theorem m127_82 : smI 127 82 = rI0 .ireturn 83 := zT_l (k := 64) (i := 18) zT127_2 rfl
theorem mx_128 : mMx 128 = 3 := by decide +kernel
theorem cn_128 : mCn 128 = 7 := by decide +kernel
theorem rt_128 : mRt 128 = (some .int) := by decide +kernel
theorem tq_128 : allT.getD 128 [] = tb_128 := rfl
theorem zT128_0 : zT 128 0 (tb_128_0 ++ (tb_128_1)) := zT_0 tq_128
theorem zT128_1 : zT 128 32 (tb_128_1) := zT_s zT128_0 (n := 32) (by decide +kernel) rfl
theorem m128_0 : smI 128 0 = rI0 ziA0 1 := zT_a (k := 0) (i := 0) zT128_0 rfl
theorem m128_1 : smI 128 1 = rI4 (.invokevirtual 133) 4 20 129 0 := zT_a (k := 0) (i := 1) zT128_0 rfl
theorem m128_4 : smI 128 4 = rI0 ziS1 5 := zT_a (k := 0) (i := 4) zT128_0 rfl
theorem m128_5 : smI 128 5 = rI0 ziA0 6 := zT_a (k := 0) (i := 5) zT128_0 rfl
theorem m128_6 : smI 128 6 = rI3 (.getfield 83) 9 7 14 := zT_a (k := 0) (i := 6) zT128_0 rfl
theorem m128_9 : smI 128 9 = rI2 (.ifCond .eq 48) 12 57 := zT_a (k := 0) (i := 9) zT128_0 rfl
theorem m128_12 : smI 128 12 = rI0 ziA0 13 := zT_a (k := 0) (i := 12) zT128_0 rfl
theorem m128_13 : smI 128 13 = rI0 ziA0 14 := zT_a (k := 0) (i := 13) zT128_0 rfl
theorem m128_14 : smI 128 14 = rI3 (.getfield 87) 17 7 8 := zT_a (k := 0) (i := 14) zT128_0 rfl
theorem m128_17 : smI 128 17 = rI4 (.invokevirtual 90) 20 20 119 1 := zT_a (k := 0) (i := 17) zT128_0 rfl
theorem m128_20 : smI 128 20 = rI1 (.bipush 124) 22 124 := zT_a (k := 0) (i := 20) zT128_0 rfl
theorem m128_22 : smI 128 22 = rI2 (.if_icmp .ne 35) 25 57 := zT_a (k := 0) (i := 22) zT128_0 rfl
theorem m128_25 : smI 128 25 = rI0 ziA0 26 := zT_a (k := 0) (i := 25) zT128_0 rfl
theorem m128_26 : smI 128 26 = rI0 .dup 27 := zT_a (k := 0) (i := 26) zT128_0 rfl
theorem m128_27 : smI 128 27 = rI3 (.getfield 87) 30 7 8 := zT_a (k := 0) (i := 27) zT128_0 rfl
theorem m128_30 : smI 128 30 = rI1 ziC1 31 1 := zT_a (k := 0) (i := 30) zT128_0 rfl
theorem m128_31 : smI 128 31 = rI0 .iadd 32 := zT_a (k := 0) (i := 31) zT128_0 rfl
theorem m128_32 : smI 128 32 = rI3 (.putfield 87) 35 7 8 := zT_l (k := 32) (i := 0) zT128_1 rfl
theorem m128_35 : smI 128 35 = rI0 ziA0 36 := zT_l (k := 32) (i := 3) zT128_1 rfl
theorem m128_36 : smI 128 36 = rI4 (.invokevirtual 133) 39 20 129 0 := zT_l (k := 32) (i := 4) zT128_1 rfl
theorem m128_39 : smI 128 39 = rI0 ziS2 40 := zT_l (k := 32) (i := 7) zT128_1 rfl
theorem m128_40 : smI 128 40 = rI0 ziI1 41 := zT_l (k := 32) (i := 8) zT128_1 rfl
theorem m128_41 : smI 128 41 = rI2 (.ifCond .ne 7) 44 48 := zT_l (k := 32) (i := 9) zT128_1 rfl
theorem m128_44 : smI 128 44 = rI0 ziI2 45 := zT_l (k := 32) (i := 12) zT128_1 rfl
theorem m128_45 : smI 128 45 = rI2 (.ifCond .eq 7) 48 52 := zT_l (k := 32) (i := 13) zT128_1 rfl
theorem m128_48 : smI 128 48 = rI1 ziC1 49 1 := zT_l (k := 32) (i := 16) zT128_1 rfl
theorem m128_49 : smI 128 49 = rI2 (.goto 4) 52 53 := zT_l (k := 32) (i := 17) zT128_1 rfl
theorem m128_52 : smI 128 52 = rI0 ziC0 53 := zT_l (k := 32) (i := 20) zT128_1 rfl
theorem m128_53 : smI 128 53 = rI0 ziS1 54 := zT_l (k := 32) (i := 21) zT128_1 rfl
theorem m128_54 : smI 128 54 = rI2 (.goto (-49)) 57 5 := zT_l (k := 32) (i := 22) zT128_1 rfl
theorem m128_57 : smI 128 57 = rI0 ziI1 58 := zT_l (k := 32) (i := 25) zT128_1 rfl
theorem m128_58 : smI 128 58 = rI0 .ireturn 59 := zT_l (k := 32) (i := 26) zT128_1 rfl
theorem mx_129 : mMx 129 = 3 := by decide +kernel
theorem cn_129 : mCn 129 = 7 := by decide +kernel
theorem rt_129 : mRt 129 = (some .int) := by decide +kernel
theorem tq_129 : allT.getD 129 [] = tb_129 := rfl
theorem zT129_0 : zT 129 0 (tb_129_0 ++ (tb_129_1)) := zT_0 tq_129
theorem zT129_1 : zT 129 32 (tb_129_1) := zT_s zT129_0 (n := 32) (by decide +kernel) rfl
theorem m129_0 : smI 129 0 = rI0 ziA0 1 := zT_a (k := 0) (i := 0) zT129_0 rfl
theorem m129_1 : smI 129 1 = rI4 (.invokevirtual 130) 4 20 124 0 := zT_a (k := 0) (i := 1) zT129_0 rfl
theorem m129_4 : smI 129 4 = rI0 ziS1 5 := zT_a (k := 0) (i := 4) zT129_0 rfl
theorem m129_5 : smI 129 5 = rI0 ziA0 6 := zT_a (k := 0) (i := 5) zT129_0 rfl
theorem m129_6 : smI 129 6 = rI3 (.getfield 83) 9 7 14 := zT_a (k := 0) (i := 6) zT129_0 rfl
theorem m129_9 : smI 129 9 = rI2 (.ifCond .eq 48) 12 57 := zT_a (k := 0) (i := 9) zT129_0 rfl
theorem m129_12 : smI 129 12 = rI0 ziA0 13 := zT_a (k := 0) (i := 12) zT129_0 rfl
theorem m129_13 : smI 129 13 = rI0 ziA0 14 := zT_a (k := 0) (i := 13) zT129_0 rfl
theorem m129_14 : smI 129 14 = rI3 (.getfield 87) 17 7 8 := zT_a (k := 0) (i := 14) zT129_0 rfl
theorem m129_17 : smI 129 17 = rI4 (.invokevirtual 90) 20 20 119 1 := zT_a (k := 0) (i := 17) zT129_0 rfl
theorem m129_20 : smI 129 20 = rI1 (.bipush 38) 22 38 := zT_a (k := 0) (i := 20) zT129_0 rfl
theorem m129_22 : smI 129 22 = rI2 (.if_icmp .ne 35) 25 57 := zT_a (k := 0) (i := 22) zT129_0 rfl
theorem m129_25 : smI 129 25 = rI0 ziA0 26 := zT_a (k := 0) (i := 25) zT129_0 rfl
theorem m129_26 : smI 129 26 = rI0 .dup 27 := zT_a (k := 0) (i := 26) zT129_0 rfl
theorem m129_27 : smI 129 27 = rI3 (.getfield 87) 30 7 8 := zT_a (k := 0) (i := 27) zT129_0 rfl
theorem m129_30 : smI 129 30 = rI1 ziC1 31 1 := zT_a (k := 0) (i := 30) zT129_0 rfl
theorem m129_31 : smI 129 31 = rI0 .iadd 32 := zT_a (k := 0) (i := 31) zT129_0 rfl
theorem m129_32 : smI 129 32 = rI3 (.putfield 87) 35 7 8 := zT_l (k := 32) (i := 0) zT129_1 rfl
theorem m129_35 : smI 129 35 = rI0 ziA0 36 := zT_l (k := 32) (i := 3) zT129_1 rfl
theorem m129_36 : smI 129 36 = rI4 (.invokevirtual 130) 39 20 124 0 := zT_l (k := 32) (i := 4) zT129_1 rfl
theorem m129_39 : smI 129 39 = rI0 ziS2 40 := zT_l (k := 32) (i := 7) zT129_1 rfl
theorem m129_40 : smI 129 40 = rI0 ziI1 41 := zT_l (k := 32) (i := 8) zT129_1 rfl
theorem m129_41 : smI 129 41 = rI2 (.ifCond .eq 11) 44 52 := zT_l (k := 32) (i := 9) zT129_1 rfl
theorem m129_44 : smI 129 44 = rI0 ziI2 45 := zT_l (k := 32) (i := 12) zT129_1 rfl
theorem m129_45 : smI 129 45 = rI2 (.ifCond .eq 7) 48 52 := zT_l (k := 32) (i := 13) zT129_1 rfl
theorem m129_48 : smI 129 48 = rI1 ziC1 49 1 := zT_l (k := 32) (i := 16) zT129_1 rfl
theorem m129_49 : smI 129 49 = rI2 (.goto 4) 52 53 := zT_l (k := 32) (i := 17) zT129_1 rfl
theorem m129_52 : smI 129 52 = rI0 ziC0 53 := zT_l (k := 32) (i := 20) zT129_1 rfl
theorem m129_53 : smI 129 53 = rI0 ziS1 54 := zT_l (k := 32) (i := 21) zT129_1 rfl
theorem m129_54 : smI 129 54 = rI2 (.goto (-49)) 57 5 := zT_l (k := 32) (i := 22) zT129_1 rfl
theorem m129_57 : smI 129 57 = rI0 ziI1 58 := zT_l (k := 32) (i := 25) zT129_1 rfl
theorem m129_58 : smI 129 58 = rI0 .ireturn 59 := zT_l (k := 32) (i := 26) zT129_1 rfl
theorem mx_130 : mMx 130 = 6 := by decide +kernel
theorem cn_130 : mCn 130 = 7 := by decide +kernel
theorem rt_130 : mRt 130 = (some .int) := by decide +kernel
theorem tq_130 : allT.getD 130 [] = tb_130 := rfl
theorem zT130_0 : zT 130 0 (tb_130_0 ++ (tb_130_1 ++ (tb_130_2))) := zT_0 tq_130
theorem zT130_1 : zT 130 32 (tb_130_1 ++ (tb_130_2)) := zT_s zT130_0 (n := 32) (by decide +kernel) rfl
theorem zT130_2 : zT 130 64 (tb_130_2) := zT_s zT130_1 (n := 32) (by decide +kernel) rfl
theorem m130_0 : smI 130 0 = rI0 ziA0 1 := zT_a (k := 0) (i := 0) zT130_0 rfl
theorem m130_1 : smI 130 1 = rI0 ziI1 2 := zT_a (k := 0) (i := 1) zT130_0 rfl
theorem m130_2 : smI 130 2 = rI3 (.putfield 80) 5 7 7 := zT_a (k := 0) (i := 2) zT130_0 rfl
theorem m130_5 : smI 130 5 = rI0 ziA0 6 := zT_a (k := 0) (i := 5) zT130_0 rfl
theorem m130_6 : smI 130 6 = rI0 ziC0 7 := zT_a (k := 0) (i := 6) zT130_0 rfl
theorem m130_7 : smI 130 7 = rI3 (.putfield 87) 10 7 8 := zT_a (k := 0) (i := 7) zT130_0 rfl
theorem m130_10 : smI 130 10 = rI0 ziA0 11 := zT_a (k := 0) (i := 10) zT130_0 rfl
theorem m130_11 : smI 130 11 = rI0 ziA0 12 := zT_a (k := 0) (i := 11) zT130_0 rfl
theorem m130_12 : smI 130 12 = rI2 (.getfield 7) 15 7 := zT_a (k := 0) (i := 12) zT130_0 rfl
theorem m130_15 : smI 130 15 = rI1 ziC5 16 5 := zT_a (k := 0) (i := 15) zT130_0 rfl
theorem m130_16 : smI 130 16 = rI0 ziI1 17 := zT_a (k := 0) (i := 16) zT130_0 rfl
theorem m130_17 : smI 130 17 = rI0 .iadd 18 := zT_a (k := 0) (i := 17) zT130_0 rfl
theorem m130_18 : smI 130 18 = rI0 .iaload 19 := zT_a (k := 0) (i := 18) zT130_0 rfl
theorem m130_19 : smI 130 19 = rI3 (.putfield 76) 22 7 9 := zT_a (k := 0) (i := 19) zT130_0 rfl
theorem m130_22 : smI 130 22 = rI0 ziA0 23 := zT_a (k := 0) (i := 22) zT130_0 rfl
theorem m130_23 : smI 130 23 = rI0 ziC0 24 := zT_a (k := 0) (i := 23) zT130_0 rfl
theorem m130_24 : smI 130 24 = rI3 (.putfield 115) 27 7 10 := zT_a (k := 0) (i := 24) zT130_0 rfl
theorem m130_27 : smI 130 27 = rI0 ziA0 28 := zT_a (k := 0) (i := 27) zT130_0 rfl
theorem m130_28 : smI 130 28 = rI1 ziC1 29 1 := zT_a (k := 0) (i := 28) zT130_0 rfl
theorem m130_29 : smI 130 29 = rI3 (.putfield 83) 32 7 14 := zT_a (k := 0) (i := 29) zT130_0 rfl
theorem m130_32 : smI 130 32 = rI0 ziA0 33 := zT_a (k := 32) (i := 0) zT130_1 rfl
theorem m130_33 : smI 130 33 = rI0 ziI2 34 := zT_a (k := 32) (i := 1) zT130_1 rfl
theorem m130_34 : smI 130 34 = rI3 (.putfield 100) 37 7 11 := zT_a (k := 32) (i := 2) zT130_1 rfl
theorem m130_37 : smI 130 37 = rI0 ziA0 38 := zT_a (k := 32) (i := 5) zT130_1 rfl
theorem m130_38 : smI 130 38 = rI0 ziI3 39 := zT_a (k := 32) (i := 6) zT130_1 rfl
theorem m130_39 : smI 130 39 = rI3 (.putfield 103) 42 7 12 := zT_a (k := 32) (i := 7) zT130_1 rfl
theorem m130_42 : smI 130 42 = rI0 ziA0 43 := zT_a (k := 32) (i := 10) zT130_1 rfl
theorem m130_43 : smI 130 43 = rI0 (.iload 4) 45 := zT_a (k := 32) (i := 11) zT130_1 rfl
theorem m130_45 : smI 130 45 = rI3 (.putfield 106) 48 7 13 := zT_a (k := 32) (i := 13) zT130_1 rfl
theorem m130_48 : smI 130 48 = rI0 ziA0 49 := zT_a (k := 32) (i := 16) zT130_1 rfl
theorem m130_49 : smI 130 49 = rI4 (.invokevirtual 121) 52 20 128 0 := zT_a (k := 32) (i := 17) zT130_1 rfl
theorem m130_52 : smI 130 52 = rI0 (.istore 5) 54 := zT_a (k := 32) (i := 20) zT130_1 rfl
theorem m130_54 : smI 130 54 = rI0 ziA0 55 := zT_a (k := 32) (i := 22) zT130_1 rfl
theorem m130_55 : smI 130 55 = rI0 ziA0 56 := zT_a (k := 32) (i := 23) zT130_1 rfl
theorem m130_56 : smI 130 56 = rI3 (.getfield 83) 59 7 14 := zT_a (k := 32) (i := 24) zT130_1 rfl
theorem m130_59 : smI 130 59 = rI2 (.ifCond .eq 18) 62 77 := zT_a (k := 32) (i := 27) zT130_1 rfl
theorem m130_62 : smI 130 62 = rI0 ziA0 63 := zT_a (k := 32) (i := 30) zT130_1 rfl
theorem m130_63 : smI 130 63 = rI3 (.getfield 87) 66 7 8 := zT_a (k := 32) (i := 31) zT130_1 rfl
theorem m130_66 : smI 130 66 = rI0 ziA0 67 := zT_l (k := 64) (i := 2) zT130_2 rfl
theorem m130_67 : smI 130 67 = rI3 (.getfield 76) 70 7 9 := zT_l (k := 64) (i := 3) zT130_2 rfl
theorem m130_70 : smI 130 70 = rI2 (.if_icmp .ne 7) 73 77 := zT_l (k := 64) (i := 6) zT130_2 rfl
theorem m130_73 : smI 130 73 = rI1 ziC1 74 1 := zT_l (k := 64) (i := 9) zT130_2 rfl
theorem m130_74 : smI 130 74 = rI2 (.goto 4) 77 78 := zT_l (k := 64) (i := 10) zT130_2 rfl
theorem m130_77 : smI 130 77 = rI0 ziC0 78 := zT_l (k := 64) (i := 13) zT130_2 rfl
theorem m130_78 : smI 130 78 = rI3 (.putfield 83) 81 7 14 := zT_l (k := 64) (i := 14) zT130_2 rfl
theorem m130_81 : smI 130 81 = rI0 (.iload 5) 83 := zT_l (k := 64) (i := 17) zT130_2 rfl
theorem m130_83 : smI 130 83 = rI0 .ireturn 84 := zT_l (k := 64) (i := 19) zT130_2 rfl
theorem mx_131 : mMx 131 = 6 := by decide +kernel
theorem cn_131 : mCn 131 = 7 := by decide +kernel
theorem rt_131 : mRt 131 = (some .int) := by decide +kernel
theorem tq_131 : allT.getD 131 [] = tb_131 := rfl
theorem zT131_0 : zT 131 0 (tb_131_0 ++ (tb_131_1)) := zT_0 tq_131
theorem zT131_1 : zT 131 32 (tb_131_1) := zT_s zT131_0 (n := 32) (by decide +kernel) rfl
theorem m131_0 : smI 131 0 = rI0 ziI1 1 := zT_a (k := 0) (i := 0) zT131_0 rfl
theorem m131_1 : smI 131 1 = rI2 (.ifCond .ne 8) 4 9 := zT_a (k := 0) (i := 1) zT131_0 rfl
theorem m131_4 : smI 131 4 = rI1 (.bipush 99) 6 99 := zT_a (k := 0) (i := 4) zT131_0 rfl
theorem m131_6 : smI 131 6 = rI2 (.goto 4) 9 10 := zT_a (k := 0) (i := 6) zT131_0 rfl
theorem m131_9 : smI 131 9 = rI1 ziC1 10 1 := zT_a (k := 0) (i := 9) zT131_0 rfl
theorem m131_10 : smI 131 10 = rI0 (.istore 5) 12 := zT_a (k := 0) (i := 10) zT131_0 rfl
theorem m131_12 : smI 131 12 = rI0 ziA0 13 := zT_a (k := 0) (i := 12) zT131_0 rfl
theorem m131_13 : smI 131 13 = rI2 (.getfield 7) 16 7 := zT_a (k := 0) (i := 13) zT131_0 rfl
theorem m131_16 : smI 131 16 = rI1 ziC5 17 5 := zT_a (k := 0) (i := 16) zT131_0 rfl
theorem m131_17 : smI 131 17 = rI0 ziI1 18 := zT_a (k := 0) (i := 17) zT131_0 rfl
theorem m131_18 : smI 131 18 = rI0 .iadd 19 := zT_a (k := 0) (i := 18) zT131_0 rfl
theorem m131_19 : smI 131 19 = rI0 .iaload 20 := zT_a (k := 0) (i := 19) zT131_0 rfl
theorem m131_20 : smI 131 20 = rI2 (.ifCond .lt 19) 23 39 := zT_a (k := 0) (i := 20) zT131_0 rfl
theorem m131_23 : smI 131 23 = rI0 ziA0 24 := zT_a (k := 0) (i := 23) zT131_0 rfl
theorem m131_24 : smI 131 24 = rI0 ziI1 25 := zT_a (k := 0) (i := 24) zT131_0 rfl
theorem m131_25 : smI 131 25 = rI0 ziI2 26 := zT_a (k := 0) (i := 25) zT131_0 rfl
theorem m131_26 : smI 131 26 = rI0 ziI3 27 := zT_a (k := 0) (i := 26) zT131_0 rfl
theorem m131_27 : smI 131 27 = rI0 (.iload 4) 29 := zT_a (k := 0) (i := 27) zT131_0 rfl
theorem m131_29 : smI 131 29 = rI4 (.invokevirtual 136) 32 20 130 4 := zT_a (k := 0) (i := 29) zT131_0 rfl
theorem m131_32 : smI 131 32 = rI0 ziC0 33 := zT_l (k := 32) (i := 0) zT131_1 rfl
theorem m131_33 : smI 131 33 = rI0 (.iload 5) 35 := zT_l (k := 32) (i := 1) zT131_1 rfl
theorem m131_35 : smI 131 35 = rI3 (.invokestatic 140) 38 109 3 := zT_l (k := 32) (i := 3) zT131_1 rfl
theorem m131_38 : smI 131 38 = rI0 .ireturn 39 := zT_l (k := 32) (i := 6) zT131_1 rfl
theorem m131_39 : smI 131 39 = rI0 ziI1 40 := zT_l (k := 32) (i := 7) zT131_1 rfl
theorem m131_40 : smI 131 40 = rI2 (.ifCond .ne 21) 43 61 := zT_l (k := 32) (i := 8) zT131_1 rfl
theorem m131_43 : smI 131 43 = rI0 ziI3 44 := zT_l (k := 32) (i := 11) zT131_1 rfl
theorem m131_44 : smI 131 44 = rI1 (.bipush 9) 46 9 := zT_l (k := 32) (i := 12) zT131_1 rfl
theorem m131_46 : smI 131 46 = rI0 .iadd 47 := zT_l (k := 32) (i := 14) zT131_1 rfl
theorem m131_47 : smI 131 47 = rI0 ziI2 48 := zT_l (k := 32) (i := 15) zT131_1 rfl
theorem m131_48 : smI 131 48 = rI1 (.bipush 9) 50 9 := zT_l (k := 32) (i := 16) zT131_1 rfl
theorem m131_50 : smI 131 50 = rI0 .idiv 51 := zT_l (k := 32) (i := 18) zT131_1 rfl
theorem m131_51 : smI 131 51 = rI0 .isub 52 := zT_l (k := 32) (i := 19) zT131_1 rfl
theorem m131_52 : smI 131 52 = rI0 ziC0 53 := zT_l (k := 32) (i := 20) zT131_1 rfl
theorem m131_53 : smI 131 53 = rI0 (.iload 5) 55 := zT_l (k := 32) (i := 21) zT131_1 rfl
theorem m131_55 : smI 131 55 = rI3 (.invokestatic 140) 58 109 3 := zT_l (k := 32) (i := 23) zT131_1 rfl
theorem m131_58 : smI 131 58 = rI2 (.goto 4) 61 62 := zT_l (k := 32) (i := 26) zT131_1 rfl
theorem m131_61 : smI 131 61 = rI0 ziC0 62 := zT_l (k := 32) (i := 29) zT131_1 rfl
theorem m131_62 : smI 131 62 = rI0 .ireturn 63 := zT_l (k := 32) (i := 30) zT131_1 rfl
theorem mx_132 : mMx 132 = 5 := by decide +kernel
theorem cn_132 : mCn 132 = 7 := by decide +kernel
theorem rt_132 : mRt 132 = (some .int) := by decide +kernel
theorem tq_132 : allT.getD 132 [] = tb_132 := rfl
theorem zT132_0 : zT 132 0 (tb_132_0 ++ (tb_132_1 ++ (tb_132_2 ++ (tb_132_3 ++ (tb_132_4 ++ (tb_132_5)))))) := zT_0 tq_132
theorem zT132_1 : zT 132 32 (tb_132_1 ++ (tb_132_2 ++ (tb_132_3 ++ (tb_132_4 ++ (tb_132_5))))) := zT_s zT132_0 (n := 32) (by decide +kernel) rfl
theorem zT132_2 : zT 132 64 (tb_132_2 ++ (tb_132_3 ++ (tb_132_4 ++ (tb_132_5)))) := zT_s zT132_1 (n := 32) (by decide +kernel) rfl
theorem zT132_3 : zT 132 96 (tb_132_3 ++ (tb_132_4 ++ (tb_132_5))) := zT_s zT132_2 (n := 32) (by decide +kernel) rfl
theorem zT132_4 : zT 132 128 (tb_132_4 ++ (tb_132_5)) := zT_s zT132_3 (n := 32) (by decide +kernel) rfl
theorem zT132_5 : zT 132 160 (tb_132_5) := zT_s zT132_4 (n := 32) (by decide +kernel) rfl
theorem m132_0 : smI 132 0 = rI0 ziA0 1 := zT_a (k := 0) (i := 0) zT132_0 rfl
theorem m132_1 : smI 132 1 = rI0 ziI1 2 := zT_a (k := 0) (i := 1) zT132_0 rfl
theorem m132_2 : smI 132 2 = rI1 ziC2 3 2 := zT_a (k := 0) (i := 2) zT132_0 rfl
theorem m132_3 : smI 132 3 = rI4 (.invokevirtual 66) 6 20 111 2 := zT_a (k := 0) (i := 3) zT132_0 rfl
theorem m132_6 : smI 132 6 = rI0 ziS2 7 := zT_a (k := 0) (i := 6) zT132_0 rfl
theorem m132_7 : smI 132 7 = rI0 ziA0 8 := zT_a (k := 0) (i := 7) zT132_0 rfl
theorem m132_8 : smI 132 8 = rI0 ziI1 9 := zT_a (k := 0) (i := 8) zT132_0 rfl
theorem m132_9 : smI 132 9 = rI1 ziC3 10 3 := zT_a (k := 0) (i := 9) zT132_0 rfl
theorem m132_10 : smI 132 10 = rI4 (.invokevirtual 66) 13 20 111 2 := zT_a (k := 0) (i := 10) zT132_0 rfl
theorem m132_13 : smI 132 13 = rI0 ziS3 14 := zT_a (k := 0) (i := 13) zT132_0 rfl
theorem m132_14 : smI 132 14 = rI0 ziA0 15 := zT_a (k := 0) (i := 14) zT132_0 rfl
theorem m132_15 : smI 132 15 = rI0 ziC0 16 := zT_a (k := 0) (i := 15) zT132_0 rfl
theorem m132_16 : smI 132 16 = rI0 ziI2 17 := zT_a (k := 0) (i := 16) zT132_0 rfl
theorem m132_17 : smI 132 17 = rI0 ziA0 18 := zT_a (k := 0) (i := 17) zT132_0 rfl
theorem m132_18 : smI 132 18 = rI0 ziI1 19 := zT_a (k := 0) (i := 18) zT132_0 rfl
theorem m132_19 : smI 132 19 = rI1 ziC4 20 4 := zT_a (k := 0) (i := 19) zT132_0 rfl
theorem m132_20 : smI 132 20 = rI4 (.invokevirtual 66) 23 20 111 2 := zT_a (k := 0) (i := 20) zT132_0 rfl
theorem m132_23 : smI 132 23 = rI0 ziA0 24 := zT_a (k := 0) (i := 23) zT132_0 rfl
theorem m132_24 : smI 132 24 = rI2 (.getfield 7) 27 7 := zT_a (k := 0) (i := 24) zT132_0 rfl
theorem m132_27 : smI 132 27 = rI0 ziC0 28 := zT_a (k := 0) (i := 27) zT132_0 rfl
theorem m132_28 : smI 132 28 = rI0 .iaload 29 := zT_a (k := 0) (i := 28) zT132_0 rfl
theorem m132_29 : smI 132 29 = rI1 (.bipush 16) 31 16 := zT_a (k := 0) (i := 29) zT132_0 rfl
theorem m132_31 : smI 132 31 = rI0 .irem 32 := zT_a (k := 0) (i := 31) zT132_0 rfl
theorem m132_32 : smI 132 32 = rI4 (.invokevirtual 144) 35 20 131 4 := zT_a (k := 32) (i := 0) zT132_1 rfl
theorem m132_35 : smI 132 35 = rI0 (.istore 4) 37 := zT_a (k := 32) (i := 3) zT132_1 rfl
theorem m132_37 : smI 132 37 = rI0 ziA0 38 := zT_a (k := 32) (i := 5) zT132_1 rfl
theorem m132_38 : smI 132 38 = rI0 ziI1 39 := zT_a (k := 32) (i := 6) zT132_1 rfl
theorem m132_39 : smI 132 39 = rI0 ziC0 40 := zT_a (k := 32) (i := 7) zT132_1 rfl
theorem m132_40 : smI 132 40 = rI4 (.invokevirtual 66) 43 20 111 2 := zT_a (k := 32) (i := 8) zT132_1 rfl
theorem m132_43 : smI 132 43 = rI0 (.tableswitch 114 1 6 #[37, 64, 94, 49, 71, 103]) 80 := zT_a (k := 32) (i := 11) zT132_1 rfl
theorem m132_80 : smI 132 80 = rI0 (.iload 4) 82 := zT_a (k := 64) (i := 16) zT132_2 rfl
theorem m132_82 : smI 132 82 = rI0 ziI3 83 := zT_a (k := 64) (i := 18) zT132_2 rfl
theorem m132_83 : smI 132 83 = rI0 .iadd 84 := zT_a (k := 64) (i := 19) zT132_2 rfl
theorem m132_84 : smI 132 84 = rI0 ziA0 85 := zT_a (k := 64) (i := 20) zT132_2 rfl
theorem m132_85 : smI 132 85 = rI0 ziI1 86 := zT_a (k := 64) (i := 21) zT132_2 rfl
theorem m132_86 : smI 132 86 = rI1 ziC1 87 1 := zT_a (k := 64) (i := 22) zT132_2 rfl
theorem m132_87 : smI 132 87 = rI4 (.invokevirtual 66) 90 20 111 2 := zT_a (k := 64) (i := 23) zT132_2 rfl
theorem m132_90 : smI 132 90 = rI0 .iadd 91 := zT_a (k := 64) (i := 26) zT132_2 rfl
theorem m132_91 : smI 132 91 = rI0 .ireturn 92 := zT_a (k := 64) (i := 27) zT132_2 rfl
theorem m132_92 : smI 132 92 = rI0 (.iload 4) 94 := zT_a (k := 64) (i := 28) zT132_2 rfl
theorem m132_94 : smI 132 94 = rI0 ziI3 95 := zT_a (k := 64) (i := 30) zT132_2 rfl
theorem m132_95 : smI 132 95 = rI0 .iadd 96 := zT_a (k := 64) (i := 31) zT132_2 rfl
theorem m132_96 : smI 132 96 = rI0 ziA0 97 := zT_a (k := 96) (i := 0) zT132_3 rfl
theorem m132_97 : smI 132 97 = rI0 ziI1 98 := zT_a (k := 96) (i := 1) zT132_3 rfl
theorem m132_98 : smI 132 98 = rI1 ziC1 99 1 := zT_a (k := 96) (i := 2) zT132_3 rfl
theorem m132_99 : smI 132 99 = rI4 (.invokevirtual 66) 102 20 111 2 := zT_a (k := 96) (i := 3) zT132_3 rfl
theorem m132_102 : smI 132 102 = rI0 .iadd 103 := zT_a (k := 96) (i := 6) zT132_3 rfl
theorem m132_103 : smI 132 103 = rI1 (.bipush 20) 105 20 := zT_a (k := 96) (i := 7) zT132_3 rfl
theorem m132_105 : smI 132 105 = rI0 .isub 106 := zT_a (k := 96) (i := 9) zT132_3 rfl
theorem m132_106 : smI 132 106 = rI0 .ireturn 107 := zT_a (k := 96) (i := 10) zT132_3 rfl
theorem m132_107 : smI 132 107 = rI0 (.iload 4) 109 := zT_a (k := 96) (i := 11) zT132_3 rfl
theorem m132_109 : smI 132 109 = rI1 ziC2 110 2 := zT_a (k := 96) (i := 13) zT132_3 rfl
theorem m132_110 : smI 132 110 = rI0 .idiv 111 := zT_a (k := 96) (i := 14) zT132_3 rfl
theorem m132_111 : smI 132 111 = rI0 ziI3 112 := zT_a (k := 96) (i := 15) zT132_3 rfl
theorem m132_112 : smI 132 112 = rI0 .iadd 113 := zT_a (k := 96) (i := 16) zT132_3 rfl
theorem m132_113 : smI 132 113 = rI0 .ireturn 114 := zT_a (k := 96) (i := 17) zT132_3 rfl
theorem m132_114 : smI 132 114 = rI0 (.iload 4) 116 := zT_a (k := 96) (i := 18) zT132_3 rfl
theorem m132_116 : smI 132 116 = rI1 ziC2 117 2 := zT_a (k := 96) (i := 20) zT132_3 rfl
theorem m132_117 : smI 132 117 = rI0 .idiv 118 := zT_a (k := 96) (i := 21) zT132_3 rfl
theorem m132_118 : smI 132 118 = rI0 ziI3 119 := zT_a (k := 96) (i := 22) zT132_3 rfl
theorem m132_119 : smI 132 119 = rI0 .iadd 120 := zT_a (k := 96) (i := 23) zT132_3 rfl
theorem m132_120 : smI 132 120 = rI0 ziA0 121 := zT_a (k := 96) (i := 24) zT132_3 rfl
theorem m132_121 : smI 132 121 = rI0 ziI1 122 := zT_a (k := 96) (i := 25) zT132_3 rfl
theorem m132_122 : smI 132 122 = rI1 ziC4 123 4 := zT_a (k := 96) (i := 26) zT132_3 rfl
theorem m132_123 : smI 132 123 = rI4 (.invokevirtual 66) 126 20 111 2 := zT_a (k := 96) (i := 27) zT132_3 rfl
theorem m132_126 : smI 132 126 = rI2 (.ifCond .le 8) 129 134 := zT_a (k := 96) (i := 30) zT132_3 rfl
theorem m132_129 : smI 132 129 = rI1 (.bipush 9) 131 9 := zT_a (k := 128) (i := 1) zT132_4 rfl
theorem m132_131 : smI 132 131 = rI2 (.goto 4) 134 135 := zT_a (k := 128) (i := 3) zT132_4 rfl
theorem m132_134 : smI 132 134 = rI0 ziC0 135 := zT_a (k := 128) (i := 6) zT132_4 rfl
theorem m132_135 : smI 132 135 = rI0 .iadd 136 := zT_a (k := 128) (i := 7) zT132_4 rfl
theorem m132_136 : smI 132 136 = rI0 .ireturn 137 := zT_a (k := 128) (i := 8) zT132_4 rfl
theorem m132_137 : smI 132 137 = rI0 (.iload 4) 139 := zT_a (k := 128) (i := 9) zT132_4 rfl
theorem m132_139 : smI 132 139 = rI0 ziI3 140 := zT_a (k := 128) (i := 11) zT132_4 rfl
theorem m132_140 : smI 132 140 = rI0 .iadd 141 := zT_a (k := 128) (i := 12) zT132_4 rfl
theorem m132_141 : smI 132 141 = rI0 ziI2 142 := zT_a (k := 128) (i := 13) zT132_4 rfl
theorem m132_142 : smI 132 142 = rI1 ziC2 143 2 := zT_a (k := 128) (i := 14) zT132_4 rfl
theorem m132_143 : smI 132 143 = rI0 .idiv 144 := zT_a (k := 128) (i := 15) zT132_4 rfl
theorem m132_144 : smI 132 144 = rI0 .isub 145 := zT_a (k := 128) (i := 16) zT132_4 rfl
theorem m132_145 : smI 132 145 = rI0 .ireturn 146 := zT_a (k := 128) (i := 17) zT132_4 rfl
theorem m132_146 : smI 132 146 = rI0 (.iload 4) 148 := zT_a (k := 128) (i := 18) zT132_4 rfl
theorem m132_148 : smI 132 148 = rI1 ziC2 149 2 := zT_a (k := 128) (i := 20) zT132_4 rfl
theorem m132_149 : smI 132 149 = rI0 ziI3 150 := zT_a (k := 128) (i := 21) zT132_4 rfl
theorem m132_150 : smI 132 150 = rI0 .imul 151 := zT_a (k := 128) (i := 22) zT132_4 rfl
theorem m132_151 : smI 132 151 = rI0 .iadd 152 := zT_a (k := 128) (i := 23) zT132_4 rfl
theorem m132_152 : smI 132 152 = rI0 ziI2 153 := zT_a (k := 128) (i := 24) zT132_4 rfl
theorem m132_153 : smI 132 153 = rI1 ziC2 154 2 := zT_a (k := 128) (i := 25) zT132_4 rfl
theorem m132_154 : smI 132 154 = rI0 .idiv 155 := zT_a (k := 128) (i := 26) zT132_4 rfl
theorem m132_155 : smI 132 155 = rI0 .isub 156 := zT_a (k := 128) (i := 27) zT132_4 rfl
theorem m132_156 : smI 132 156 = rI0 .ireturn 157 := zT_a (k := 128) (i := 28) zT132_4 rfl
theorem m132_157 : smI 132 157 = rI0 (.iload 4) 159 := zT_a (k := 128) (i := 29) zT132_4 rfl
theorem m132_159 : smI 132 159 = rI0 ziI3 160 := zT_a (k := 128) (i := 31) zT132_4 rfl
theorem m132_160 : smI 132 160 = rI0 .iadd 161 := zT_l (k := 160) (i := 0) zT132_5 rfl
theorem m132_161 : smI 132 161 = rI0 .ireturn 162 := zT_l (k := 160) (i := 1) zT132_5 rfl
theorem mx_133 : mMx 133 = 3 := by decide +kernel
theorem cn_133 : mCn 133 = 7 := by decide +kernel
theorem rt_133 : mRt 133 = (some .int) := by decide +kernel
theorem tq_133 : allT.getD 133 [] = tb_133 := rfl
theorem zT133_0 : zT 133 0 (tb_133_0 ++ (tb_133_1)) := zT_0 tq_133
theorem zT133_1 : zT 133 32 (tb_133_1) := zT_s zT133_0 (n := 32) (by decide +kernel) rfl
theorem m133_0 : smI 133 0 = rI0 ziA0 1 := zT_a (k := 0) (i := 0) zT133_0 rfl
theorem m133_1 : smI 133 1 = rI0 ziI1 2 := zT_a (k := 0) (i := 1) zT133_0 rfl
theorem m133_2 : smI 133 2 = rI4 (.invokevirtual 62) 5 20 113 1 := zT_a (k := 0) (i := 2) zT133_0 rfl
theorem m133_5 : smI 133 5 = rI2 (.ifCond .eq 13) 8 18 := zT_a (k := 0) (i := 5) zT133_0 rfl
theorem m133_8 : smI 133 8 = rI0 ziI2 9 := zT_a (k := 0) (i := 8) zT133_0 rfl
theorem m133_9 : smI 133 9 = rI0 ziC0 10 := zT_a (k := 0) (i := 9) zT133_0 rfl
theorem m133_10 : smI 133 10 = rI1 (.bipush 6) 12 6 := zT_a (k := 0) (i := 10) zT133_0 rfl
theorem m133_12 : smI 133 12 = rI3 (.invokestatic 44) 15 107 3 := zT_a (k := 0) (i := 12) zT133_0 rfl
theorem m133_15 : smI 133 15 = rI2 (.ifCond .ne 10) 18 25 := zT_a (k := 0) (i := 15) zT133_0 rfl
theorem m133_18 : smI 133 18 = rI0 ziA0 19 := zT_a (k := 0) (i := 18) zT133_0 rfl
theorem m133_19 : smI 133 19 = rI1 (.ldc 52) 21 (-1000000001) := zT_a (k := 0) (i := 19) zT133_0 rfl
theorem m133_21 : smI 133 21 = rI4 (.invokevirtual 53) 24 20 108 1 := zT_a (k := 0) (i := 21) zT133_0 rfl
theorem m133_24 : smI 133 24 = rI0 .ireturn 25 := zT_a (k := 0) (i := 24) zT133_0 rfl
theorem m133_25 : smI 133 25 = rI0 ziI2 26 := zT_a (k := 0) (i := 25) zT133_0 rfl
theorem m133_26 : smI 133 26 = rI1 (.bipush 6) 28 6 := zT_a (k := 0) (i := 26) zT133_0 rfl
theorem m133_28 : smI 133 28 = rI2 (.if_icmp .ge 12) 31 40 := zT_a (k := 0) (i := 28) zT133_0 rfl
theorem m133_31 : smI 133 31 = rI0 ziA0 32 := zT_a (k := 0) (i := 31) zT133_0 rfl
theorem m133_32 : smI 133 32 = rI0 ziI1 33 := zT_l (k := 32) (i := 0) zT133_1 rfl
theorem m133_33 : smI 133 33 = rI0 ziI2 34 := zT_l (k := 32) (i := 1) zT133_1 rfl
theorem m133_34 : smI 133 34 = rI4 (.invokevirtual 66) 37 20 111 2 := zT_l (k := 32) (i := 2) zT133_1 rfl
theorem m133_37 : smI 133 37 = rI2 (.goto 8) 40 45 := zT_l (k := 32) (i := 5) zT133_1 rfl
theorem m133_40 : smI 133 40 = rI0 ziA0 41 := zT_l (k := 32) (i := 8) zT133_1 rfl
theorem m133_41 : smI 133 41 = rI0 ziI1 42 := zT_l (k := 32) (i := 9) zT133_1 rfl
theorem m133_42 : smI 133 42 = rI4 (.invokevirtual 69) 45 20 132 1 := zT_l (k := 32) (i := 10) zT133_1 rfl
theorem m133_45 : smI 133 45 = rI0 .ireturn 46 := zT_l (k := 32) (i := 13) zT133_1 rfl
theorem mx_134 : mMx 134 = 5 := by decide +kernel
theorem cn_134 : mCn 134 = 7 := by decide +kernel
theorem rt_134 : mRt 134 = (some .int) := by decide +kernel
theorem tq_134 : allT.getD 134 [] = tb_134 := rfl
theorem zT134_0 : zT 134 0 (tb_134_0 ++ (tb_134_1 ++ (tb_134_2))) := zT_0 tq_134
theorem zT134_1 : zT 134 32 (tb_134_1 ++ (tb_134_2)) := zT_s zT134_0 (n := 32) (by decide +kernel) rfl
theorem zT134_2 : zT 134 64 (tb_134_2) := zT_s zT134_1 (n := 32) (by decide +kernel) rfl
theorem m134_0 : smI 134 0 = rI0 ziI2 1 := zT_a (k := 0) (i := 0) zT134_0 rfl
theorem m134_1 : smI 134 1 = rI2 (.ifCond .eq 8) 4 9 := zT_a (k := 0) (i := 1) zT134_0 rfl
theorem m134_4 : smI 134 4 = rI0 ziI2 5 := zT_a (k := 0) (i := 4) zT134_0 rfl
theorem m134_5 : smI 134 5 = rI1 ziC2 6 2 := zT_a (k := 0) (i := 5) zT134_0 rfl
theorem m134_6 : smI 134 6 = rI2 (.if_icmp .ne 13) 9 19 := zT_a (k := 0) (i := 6) zT134_0 rfl
theorem m134_9 : smI 134 9 = rI0 ziI3 10 := zT_a (k := 0) (i := 9) zT134_0 rfl
theorem m134_10 : smI 134 10 = rI0 ziC0 11 := zT_a (k := 0) (i := 10) zT134_0 rfl
theorem m134_11 : smI 134 11 = rI1 (.bipush 99) 13 99 := zT_a (k := 0) (i := 11) zT134_0 rfl
theorem m134_13 : smI 134 13 = rI3 (.invokestatic 44) 16 107 3 := zT_a (k := 0) (i := 13) zT134_0 rfl
theorem m134_16 : smI 134 16 = rI2 (.goto 37) 19 53 := zT_a (k := 0) (i := 16) zT134_0 rfl
theorem m134_19 : smI 134 19 = rI0 ziI2 20 := zT_a (k := 0) (i := 19) zT134_0 rfl
theorem m134_20 : smI 134 20 = rI1 ziC1 21 1 := zT_a (k := 0) (i := 20) zT134_0 rfl
theorem m134_21 : smI 134 21 = rI2 (.if_icmp .ne 13) 24 34 := zT_a (k := 0) (i := 21) zT134_0 rfl
theorem m134_24 : smI 134 24 = rI0 ziI3 25 := zT_a (k := 0) (i := 24) zT134_0 rfl
theorem m134_25 : smI 134 25 = rI0 ziC0 26 := zT_a (k := 0) (i := 25) zT134_0 rfl
theorem m134_26 : smI 134 26 = rI1 (.bipush 9) 28 9 := zT_a (k := 0) (i := 26) zT134_0 rfl
theorem m134_28 : smI 134 28 = rI3 (.invokestatic 44) 31 107 3 := zT_a (k := 0) (i := 28) zT134_0 rfl
theorem m134_31 : smI 134 31 = rI2 (.goto 22) 34 53 := zT_a (k := 0) (i := 31) zT134_0 rfl
theorem m134_34 : smI 134 34 = rI0 ziI2 35 := zT_a (k := 32) (i := 2) zT134_1 rfl
theorem m134_35 : smI 134 35 = rI1 ziC3 36 3 := zT_a (k := 32) (i := 3) zT134_1 rfl
theorem m134_36 : smI 134 36 = rI2 (.if_icmp .ne 16) 39 52 := zT_a (k := 32) (i := 4) zT134_1 rfl
theorem m134_39 : smI 134 39 = rI0 ziI3 40 := zT_a (k := 32) (i := 7) zT134_1 rfl
theorem m134_40 : smI 134 40 = rI0 ziC0 41 := zT_a (k := 32) (i := 8) zT134_1 rfl
theorem m134_41 : smI 134 41 = rI1 ziC1 42 1 := zT_a (k := 32) (i := 9) zT134_1 rfl
theorem m134_42 : smI 134 42 = rI3 (.invokestatic 44) 45 107 3 := zT_a (k := 32) (i := 10) zT134_1 rfl
theorem m134_45 : smI 134 45 = rI2 (.ifCond .eq 7) 48 52 := zT_a (k := 32) (i := 13) zT134_1 rfl
theorem m134_48 : smI 134 48 = rI1 ziC1 49 1 := zT_a (k := 32) (i := 16) zT134_1 rfl
theorem m134_49 : smI 134 49 = rI2 (.goto 4) 52 53 := zT_a (k := 32) (i := 17) zT134_1 rfl
theorem m134_52 : smI 134 52 = rI0 ziC0 53 := zT_a (k := 32) (i := 20) zT134_1 rfl
theorem m134_53 : smI 134 53 = rI0 (.istore 4) 55 := zT_a (k := 32) (i := 21) zT134_1 rfl
theorem m134_55 : smI 134 55 = rI0 ziA0 56 := zT_a (k := 32) (i := 23) zT134_1 rfl
theorem m134_56 : smI 134 56 = rI0 ziI1 57 := zT_a (k := 32) (i := 24) zT134_1 rfl
theorem m134_57 : smI 134 57 = rI4 (.invokevirtual 62) 60 20 113 1 := zT_a (k := 32) (i := 25) zT134_1 rfl
theorem m134_60 : smI 134 60 = rI2 (.ifCond .eq 27) 63 87 := zT_a (k := 32) (i := 28) zT134_1 rfl
theorem m134_63 : smI 134 63 = rI0 (.iload 4) 65 := zT_a (k := 32) (i := 31) zT134_1 rfl
theorem m134_65 : smI 134 65 = rI2 (.ifCond .eq 22) 68 87 := zT_l (k := 64) (i := 1) zT134_2 rfl
theorem m134_68 : smI 134 68 = rI0 ziA0 69 := zT_l (k := 64) (i := 4) zT134_2 rfl
theorem m134_69 : smI 134 69 = rI1 (.bipush 16) 71 16 := zT_l (k := 64) (i := 5) zT134_2 rfl
theorem m134_71 : smI 134 71 = rI1 (.bipush 6) 73 6 := zT_l (k := 64) (i := 7) zT134_2 rfl
theorem m134_73 : smI 134 73 = rI0 ziI1 74 := zT_l (k := 64) (i := 9) zT134_2 rfl
theorem m134_74 : smI 134 74 = rI0 .imul 75 := zT_l (k := 64) (i := 10) zT134_2 rfl
theorem m134_75 : smI 134 75 = rI0 .iadd 76 := zT_l (k := 64) (i := 11) zT134_2 rfl
theorem m134_76 : smI 134 76 = rI1 ziC2 77 2 := zT_l (k := 64) (i := 12) zT134_2 rfl
theorem m134_77 : smI 134 77 = rI0 .iadd 78 := zT_l (k := 64) (i := 13) zT134_2 rfl
theorem m134_78 : smI 134 78 = rI0 ziI2 79 := zT_l (k := 64) (i := 14) zT134_2 rfl
theorem m134_79 : smI 134 79 = rI0 .iadd 80 := zT_l (k := 64) (i := 15) zT134_2 rfl
theorem m134_80 : smI 134 80 = rI0 ziI3 81 := zT_l (k := 64) (i := 16) zT134_2 rfl
theorem m134_81 : smI 134 81 = rI4 (.invokevirtual 48) 84 20 114 2 := zT_l (k := 64) (i := 17) zT134_2 rfl
theorem m134_84 : smI 134 84 = rI2 (.goto 9) 87 93 := zT_l (k := 64) (i := 20) zT134_2 rfl
theorem m134_87 : smI 134 87 = rI0 ziA0 88 := zT_l (k := 64) (i := 23) zT134_2 rfl
theorem m134_88 : smI 134 88 = rI1 (.ldc 52) 90 (-1000000001) := zT_l (k := 64) (i := 24) zT134_2 rfl
theorem m134_90 : smI 134 90 = rI4 (.invokevirtual 53) 93 20 108 1 := zT_l (k := 64) (i := 26) zT134_2 rfl
theorem m134_93 : smI 134 93 = rI0 .ireturn 94 := zT_l (k := 64) (i := 29) zT134_2 rfl
theorem mx_135 : mMx 135 = 3 := by decide +kernel
theorem cn_135 : mCn 135 = 7 := by decide +kernel
theorem rt_135 : mRt 135 = (some .int) := by decide +kernel
theorem tq_135 : allT.getD 135 [] = tb_135 := rfl
theorem zT135_0 : zT 135 0 (tb_135_0 ++ (tb_135_1)) := zT_0 tq_135
theorem zT135_1 : zT 135 32 (tb_135_1) := zT_s zT135_0 (n := 32) (by decide +kernel) rfl
theorem m135_0 : smI 135 0 = rI0 ziA0 1 := zT_a (k := 0) (i := 0) zT135_0 rfl
theorem m135_1 : smI 135 1 = rI0 ziI1 2 := zT_a (k := 0) (i := 1) zT135_0 rfl
theorem m135_2 : smI 135 2 = rI4 (.invokevirtual 62) 5 20 113 1 := zT_a (k := 0) (i := 2) zT135_0 rfl
theorem m135_5 : smI 135 5 = rI2 (.ifCond .eq 13) 8 18 := zT_a (k := 0) (i := 5) zT135_0 rfl
theorem m135_8 : smI 135 8 = rI0 ziI2 9 := zT_a (k := 0) (i := 8) zT135_0 rfl
theorem m135_9 : smI 135 9 = rI0 ziC0 10 := zT_a (k := 0) (i := 9) zT135_0 rfl
theorem m135_10 : smI 135 10 = rI1 (.bipush 69) 12 69 := zT_a (k := 0) (i := 10) zT135_0 rfl
theorem m135_12 : smI 135 12 = rI3 (.invokestatic 44) 15 107 3 := zT_a (k := 0) (i := 12) zT135_0 rfl
theorem m135_15 : smI 135 15 = rI2 (.ifCond .ne 10) 18 25 := zT_a (k := 0) (i := 15) zT135_0 rfl
theorem m135_18 : smI 135 18 = rI0 ziA0 19 := zT_a (k := 0) (i := 18) zT135_0 rfl
theorem m135_19 : smI 135 19 = rI1 (.ldc 52) 21 (-1000000001) := zT_a (k := 0) (i := 19) zT135_0 rfl
theorem m135_21 : smI 135 21 = rI4 (.invokevirtual 53) 24 20 108 1 := zT_a (k := 0) (i := 21) zT135_0 rfl
theorem m135_24 : smI 135 24 = rI0 .ireturn 25 := zT_a (k := 0) (i := 24) zT135_0 rfl
theorem m135_25 : smI 135 25 = rI0 ziA0 26 := zT_a (k := 0) (i := 25) zT135_0 rfl
theorem m135_26 : smI 135 26 = rI0 ziI1 27 := zT_a (k := 0) (i := 26) zT135_0 rfl
theorem m135_27 : smI 135 27 = rI1 ziC1 28 1 := zT_a (k := 0) (i := 27) zT135_0 rfl
theorem m135_28 : smI 135 28 = rI0 ziI2 29 := zT_a (k := 0) (i := 28) zT135_0 rfl
theorem m135_29 : smI 135 29 = rI1 (.bipush 10) 31 10 := zT_a (k := 0) (i := 29) zT135_0 rfl
theorem m135_31 : smI 135 31 = rI0 .irem 32 := zT_a (k := 0) (i := 31) zT135_0 rfl
theorem m135_32 : smI 135 32 = rI4 (.invokevirtual 58) 35 20 112 3 := zT_l (k := 32) (i := 0) zT135_1 rfl
theorem m135_35 : smI 135 35 = rI0 ziA0 36 := zT_l (k := 32) (i := 3) zT135_1 rfl
theorem m135_36 : smI 135 36 = rI1 (.bipush 16) 38 16 := zT_l (k := 32) (i := 4) zT135_1 rfl
theorem m135_38 : smI 135 38 = rI1 (.bipush 6) 40 6 := zT_l (k := 32) (i := 6) zT135_1 rfl
theorem m135_40 : smI 135 40 = rI0 ziI1 41 := zT_l (k := 32) (i := 8) zT135_1 rfl
theorem m135_41 : smI 135 41 = rI0 .imul 42 := zT_l (k := 32) (i := 9) zT135_1 rfl
theorem m135_42 : smI 135 42 = rI0 .iadd 43 := zT_l (k := 32) (i := 10) zT135_1 rfl
theorem m135_43 : smI 135 43 = rI0 ziI2 44 := zT_l (k := 32) (i := 11) zT135_1 rfl
theorem m135_44 : smI 135 44 = rI1 (.bipush 10) 46 10 := zT_l (k := 32) (i := 12) zT135_1 rfl
theorem m135_46 : smI 135 46 = rI0 .idiv 47 := zT_l (k := 32) (i := 14) zT135_1 rfl
theorem m135_47 : smI 135 47 = rI4 (.invokevirtual 48) 50 20 114 2 := zT_l (k := 32) (i := 15) zT135_1 rfl
theorem m135_50 : smI 135 50 = rI0 .ireturn 51 := zT_l (k := 32) (i := 18) zT135_1 rfl
theorem mx_136 : mMx 136 = 1 := by decide +kernel
theorem cn_136 : mCn 136 = 7 := by decide +kernel
theorem rt_136 : mRt 136 = (some .int) := by decide +kernel
theorem tq_136 : allT.getD 136 [] = tb_136 := rfl
theorem m136_0 : smI 136 0 = rI0 ziI0 1 := sm_t tq_136 rfl
theorem m136_1 : smI 136 1 = rI2 (.ifCond .ne 7) 4 8 := sm_t tq_136 rfl
theorem m136_4 : smI 136 4 = rI1 (.iconst (-1)) 5 (-1) := sm_t tq_136 rfl
theorem m136_5 : smI 136 5 = rI2 (.goto 15) 8 20 := sm_t tq_136 rfl
theorem m136_8 : smI 136 8 = rI0 ziI0 9 := sm_t tq_136 rfl
theorem m136_9 : smI 136 9 = rI1 ziC3 10 3 := sm_t tq_136 rfl
theorem m136_10 : smI 136 10 = rI2 (.if_icmp .le 9) 13 19 := sm_t tq_136 rfl
theorem m136_13 : smI 136 13 = rI0 ziI0 14 := sm_t tq_136 rfl
theorem m136_14 : smI 136 14 = rI1 ziC3 15 3 := sm_t tq_136 rfl
theorem m136_15 : smI 136 15 = rI0 .isub 16 := sm_t tq_136 rfl
theorem m136_16 : smI 136 16 = rI2 (.goto 4) 19 20 := sm_t tq_136 rfl
theorem m136_19 : smI 136 19 = rI0 ziC0 20 := sm_t tq_136 rfl
theorem m136_20 : smI 136 20 = rI0 .ireturn 21 := sm_t tq_136 rfl
theorem mx_137 : mMx 137 = 4 := by decide +kernel
theorem cn_137 : mCn 137 = 7 := by decide +kernel
theorem rt_137 : mRt 137 = (some .int) := by decide +kernel
theorem tq_137 : allT.getD 137 [] = tb_137 := rfl
theorem zT137_0 : zT 137 0 (tb_137_0 ++ (tb_137_1 ++ (tb_137_2))) := zT_0 tq_137
theorem zT137_1 : zT 137 32 (tb_137_1 ++ (tb_137_2)) := zT_s zT137_0 (n := 32) (by decide +kernel) rfl
theorem zT137_2 : zT 137 64 (tb_137_2) := zT_s zT137_1 (n := 32) (by decide +kernel) rfl
theorem m137_0 : smI 137 0 = rI0 ziA0 1 := zT_a (k := 0) (i := 0) zT137_0 rfl
theorem m137_1 : smI 137 1 = rI0 ziI1 2 := zT_a (k := 0) (i := 1) zT137_0 rfl
theorem m137_2 : smI 137 2 = rI4 (.invokevirtual 62) 5 20 113 1 := zT_a (k := 0) (i := 2) zT137_0 rfl
theorem m137_5 : smI 137 5 = rI2 (.ifCond .eq 13) 8 18 := zT_a (k := 0) (i := 5) zT137_0 rfl
theorem m137_8 : smI 137 8 = rI0 ziI2 9 := zT_a (k := 0) (i := 8) zT137_0 rfl
theorem m137_9 : smI 137 9 = rI0 ziC0 10 := zT_a (k := 0) (i := 9) zT137_0 rfl
theorem m137_10 : smI 137 10 = rI1 (.bipush 6) 12 6 := zT_a (k := 0) (i := 10) zT137_0 rfl
theorem m137_12 : smI 137 12 = rI3 (.invokestatic 44) 15 107 3 := zT_a (k := 0) (i := 12) zT137_0 rfl
theorem m137_15 : smI 137 15 = rI2 (.ifCond .ne 10) 18 25 := zT_a (k := 0) (i := 15) zT137_0 rfl
theorem m137_18 : smI 137 18 = rI0 ziA0 19 := zT_a (k := 0) (i := 18) zT137_0 rfl
theorem m137_19 : smI 137 19 = rI1 (.ldc 52) 21 (-1000000001) := zT_a (k := 0) (i := 19) zT137_0 rfl
theorem m137_21 : smI 137 21 = rI4 (.invokevirtual 53) 24 20 108 1 := zT_a (k := 0) (i := 21) zT137_0 rfl
theorem m137_24 : smI 137 24 = rI0 .ireturn 25 := zT_a (k := 0) (i := 24) zT137_0 rfl
theorem m137_25 : smI 137 25 = rI0 ziA0 26 := zT_a (k := 0) (i := 25) zT137_0 rfl
theorem m137_26 : smI 137 26 = rI0 ziI1 27 := zT_a (k := 0) (i := 26) zT137_0 rfl
theorem m137_27 : smI 137 27 = rI0 ziC0 28 := zT_a (k := 0) (i := 27) zT137_0 rfl
theorem m137_28 : smI 137 28 = rI4 (.invokevirtual 66) 31 20 111 2 := zT_a (k := 0) (i := 28) zT137_0 rfl
theorem m137_31 : smI 137 31 = rI0 ziS3 32 := zT_a (k := 0) (i := 31) zT137_0 rfl
theorem m137_32 : smI 137 32 = rI0 ziI3 33 := zT_a (k := 32) (i := 0) zT137_1 rfl
theorem m137_33 : smI 137 33 = rI2 (.ifCond .lt 16) 36 49 := zT_a (k := 32) (i := 1) zT137_1 rfl
theorem m137_36 : smI 137 36 = rI0 ziI3 37 := zT_a (k := 32) (i := 4) zT137_1 rfl
theorem m137_37 : smI 137 37 = rI0 ziI2 38 := zT_a (k := 32) (i := 5) zT137_1 rfl
theorem m137_38 : smI 137 38 = rI2 (.if_icmp .eq 11) 41 49 := zT_a (k := 32) (i := 6) zT137_1 rfl
theorem m137_41 : smI 137 41 = rI0 ziI3 42 := zT_a (k := 32) (i := 9) zT137_1 rfl
theorem m137_42 : smI 137 42 = rI3 (.invokestatic 72) 45 136 1 := zT_a (k := 32) (i := 10) zT137_1 rfl
theorem m137_45 : smI 137 45 = rI0 ziS3 46 := zT_a (k := 32) (i := 13) zT137_1 rfl
theorem m137_46 : smI 137 46 = rI2 (.goto (-14)) 49 32 := zT_a (k := 32) (i := 14) zT137_1 rfl
theorem m137_49 : smI 137 49 = rI0 ziI3 50 := zT_a (k := 32) (i := 17) zT137_1 rfl
theorem m137_50 : smI 137 50 = rI2 (.ifCond .ge 12) 53 62 := zT_a (k := 32) (i := 18) zT137_1 rfl
theorem m137_53 : smI 137 53 = rI0 ziA0 54 := zT_a (k := 32) (i := 21) zT137_1 rfl
theorem m137_54 : smI 137 54 = rI1 (.ldc 75) 56 (-1000000005) := zT_a (k := 32) (i := 22) zT137_1 rfl
theorem m137_56 : smI 137 56 = rI4 (.invokevirtual 53) 59 20 108 1 := zT_a (k := 32) (i := 24) zT137_1 rfl
theorem m137_59 : smI 137 59 = rI2 (.goto 9) 62 68 := zT_a (k := 32) (i := 27) zT137_1 rfl
theorem m137_62 : smI 137 62 = rI0 ziA0 63 := zT_a (k := 32) (i := 30) zT137_1 rfl
theorem m137_63 : smI 137 63 = rI0 ziI1 64 := zT_a (k := 32) (i := 31) zT137_1 rfl
theorem m137_64 : smI 137 64 = rI1 ziC1 65 1 := zT_l (k := 64) (i := 0) zT137_2 rfl
theorem m137_65 : smI 137 65 = rI4 (.invokevirtual 66) 68 20 111 2 := zT_l (k := 64) (i := 1) zT137_2 rfl
theorem m137_68 : smI 137 68 = rI0 .ireturn 69 := zT_l (k := 64) (i := 4) zT137_2 rfl
theorem mx_138 : mMx 138 = 5 := by decide +kernel
theorem cn_138 : mCn 138 = 7 := by decide +kernel
theorem rt_138 : mRt 138 = (some .int) := by decide +kernel
theorem tq_138 : allT.getD 138 [] = tb_138 := rfl
theorem m138_0 : smI 138 0 = rI0 ziI1 1 := sm_t tq_138 rfl
theorem m138_1 : smI 138 1 = rI0 ziC0 2 := sm_t tq_138 rfl
theorem m138_2 : smI 138 2 = rI1 ziC1 3 1 := sm_t tq_138 rfl
theorem m138_3 : smI 138 3 = rI3 (.invokestatic 44) 6 107 3 := sm_t tq_138 rfl
theorem m138_6 : smI 138 6 = rI2 (.ifCond .eq 15) 9 21 := sm_t tq_138 rfl
theorem m138_9 : smI 138 9 = rI0 ziA0 10 := sm_t tq_138 rfl
theorem m138_10 : smI 138 10 = rI0 ziI1 11 := sm_t tq_138 rfl
theorem m138_11 : smI 138 11 = rI0 ziI2 12 := sm_t tq_138 rfl
theorem m138_12 : smI 138 12 = rI0 ziI3 13 := sm_t tq_138 rfl
theorem m138_13 : smI 138 13 = rI0 (.iload 4) 15 := sm_t tq_138 rfl
theorem m138_15 : smI 138 15 = rI4 (.invokevirtual 144) 18 20 131 4 := sm_t tq_138 rfl
theorem m138_18 : smI 138 18 = rI2 (.goto 9) 21 27 := sm_t tq_138 rfl
theorem m138_21 : smI 138 21 = rI0 ziA0 22 := sm_t tq_138 rfl
theorem m138_22 : smI 138 22 = rI1 (.ldc 52) 24 (-1000000001) := sm_t tq_138 rfl
theorem m138_24 : smI 138 24 = rI4 (.invokevirtual 53) 27 20 108 1 := sm_t tq_138 rfl
theorem m138_27 : smI 138 27 = rI0 .ireturn 28 := sm_t tq_138 rfl
theorem mx_139 : mMx 139 = 5 := by decide +kernel
theorem cn_139 : mCn 139 = 7 := by decide +kernel
theorem rt_139 : mRt 139 = (some .int) := by decide +kernel
theorem tq_139 : allT.getD 139 [] = tb_139 := rfl
theorem zT139_0 : zT 139 0 (tb_139_0 ++ (tb_139_1 ++ (tb_139_2))) := zT_0 tq_139
theorem zT139_1 : zT 139 32 (tb_139_1 ++ (tb_139_2)) := zT_s zT139_0 (n := 32) (by decide +kernel) rfl
theorem zT139_2 : zT 139 64 (tb_139_2) := zT_s zT139_1 (n := 32) (by decide +kernel) rfl
theorem m139_0 : smI 139 0 = rI0 ziI3 1 := zT_a (k := 0) (i := 0) zT139_0 rfl
theorem m139_1 : smI 139 1 = rI1 ziC1 2 1 := zT_a (k := 0) (i := 1) zT139_0 rfl
theorem m139_2 : smI 139 2 = rI1 (.bipush 8) 4 8 := zT_a (k := 0) (i := 2) zT139_0 rfl
theorem m139_4 : smI 139 4 = rI3 (.invokestatic 44) 7 107 3 := zT_a (k := 0) (i := 4) zT139_0 rfl
theorem m139_7 : smI 139 7 = rI2 (.ifCond .ne 10) 10 17 := zT_a (k := 0) (i := 7) zT139_0 rfl
theorem m139_10 : smI 139 10 = rI0 ziA0 11 := zT_a (k := 0) (i := 10) zT139_0 rfl
theorem m139_11 : smI 139 11 = rI1 (.ldc 52) 13 (-1000000001) := zT_a (k := 0) (i := 11) zT139_0 rfl
theorem m139_13 : smI 139 13 = rI4 (.invokevirtual 53) 16 20 108 1 := zT_a (k := 0) (i := 13) zT139_0 rfl
theorem m139_16 : smI 139 16 = rI0 .ireturn 17 := zT_a (k := 0) (i := 16) zT139_0 rfl
theorem m139_17 : smI 139 17 = rI0 ziA0 18 := zT_a (k := 0) (i := 17) zT139_0 rfl
theorem m139_18 : smI 139 18 = rI2 (.getfield 7) 21 7 := zT_a (k := 0) (i := 18) zT139_0 rfl
theorem m139_21 : smI 139 21 = rI1 ziC3 22 3 := zT_a (k := 0) (i := 21) zT139_0 rfl
theorem m139_22 : smI 139 22 = rI0 .iaload 23 := zT_a (k := 0) (i := 22) zT139_0 rfl
theorem m139_23 : smI 139 23 = rI0 ziI3 24 := zT_a (k := 0) (i := 23) zT139_0 rfl
theorem m139_24 : smI 139 24 = rI0 .iadd 25 := zT_a (k := 0) (i := 24) zT139_0 rfl
theorem m139_25 : smI 139 25 = rI1 (.bipush 50) 27 50 := zT_a (k := 0) (i := 25) zT139_0 rfl
theorem m139_27 : smI 139 27 = rI2 (.if_icmp .le 10) 30 37 := zT_a (k := 0) (i := 27) zT139_0 rfl
theorem m139_30 : smI 139 30 = rI0 ziA0 31 := zT_a (k := 0) (i := 30) zT139_0 rfl
theorem m139_31 : smI 139 31 = rI1 (.ldc 57) 33 (-1000000004) := zT_a (k := 0) (i := 31) zT139_0 rfl
theorem m139_33 : smI 139 33 = rI4 (.invokevirtual 53) 36 20 108 1 := zT_a (k := 32) (i := 1) zT139_1 rfl
theorem m139_36 : smI 139 36 = rI0 .ireturn 37 := zT_a (k := 32) (i := 4) zT139_1 rfl
theorem m139_37 : smI 139 37 = rI0 ziC0 38 := zT_a (k := 32) (i := 5) zT139_1 rfl
theorem m139_38 : smI 139 38 = rI0 (.istore 4) 40 := zT_a (k := 32) (i := 6) zT139_1 rfl
theorem m139_40 : smI 139 40 = rI0 (.iload 4) 42 := zT_a (k := 32) (i := 8) zT139_1 rfl
theorem m139_42 : smI 139 42 = rI0 ziI3 43 := zT_a (k := 32) (i := 10) zT139_1 rfl
theorem m139_43 : smI 139 43 = rI2 (.if_icmp .ge 45) 46 88 := zT_a (k := 32) (i := 11) zT139_1 rfl
theorem m139_46 : smI 139 46 = rI0 ziA0 47 := zT_a (k := 32) (i := 14) zT139_1 rfl
theorem m139_47 : smI 139 47 = rI2 (.getfield 7) 50 7 := zT_a (k := 32) (i := 15) zT139_1 rfl
theorem m139_50 : smI 139 50 = rI1 (.bipush 64) 52 64 := zT_a (k := 32) (i := 18) zT139_1 rfl
theorem m139_52 : smI 139 52 = rI0 ziA0 53 := zT_a (k := 32) (i := 20) zT139_1 rfl
theorem m139_53 : smI 139 53 = rI2 (.getfield 7) 56 7 := zT_a (k := 32) (i := 21) zT139_1 rfl
theorem m139_56 : smI 139 56 = rI1 ziC3 57 3 := zT_a (k := 32) (i := 24) zT139_1 rfl
theorem m139_57 : smI 139 57 = rI0 .iaload 58 := zT_a (k := 32) (i := 25) zT139_1 rfl
theorem m139_58 : smI 139 58 = rI0 .iadd 59 := zT_a (k := 32) (i := 26) zT139_1 rfl
theorem m139_59 : smI 139 59 = rI0 (.lload_n 1) 60 := zT_a (k := 32) (i := 27) zT139_1 rfl
theorem m139_60 : smI 139 60 = rI1 (.bipush 8) 62 8 := zT_a (k := 32) (i := 28) zT139_1 rfl
theorem m139_62 : smI 139 62 = rI0 (.iload 4) 64 := zT_a (k := 32) (i := 30) zT139_1 rfl
theorem m139_64 : smI 139 64 = rI0 .imul 65 := zT_l (k := 64) (i := 0) zT139_2 rfl
theorem m139_65 : smI 139 65 = rI0 .lshr 66 := zT_l (k := 64) (i := 1) zT139_2 rfl
theorem m139_66 : smI 139 66 = rI2 (.ldc2_w 147) 69 255 := zT_l (k := 64) (i := 2) zT139_2 rfl
theorem m139_69 : smI 139 69 = rI0 .land 70 := zT_l (k := 64) (i := 5) zT139_2 rfl
theorem m139_70 : smI 139 70 = rI0 .l2i 71 := zT_l (k := 64) (i := 6) zT139_2 rfl
theorem m139_71 : smI 139 71 = rI0 .iastore 72 := zT_l (k := 64) (i := 7) zT139_2 rfl
theorem m139_72 : smI 139 72 = rI0 ziA0 73 := zT_l (k := 64) (i := 8) zT139_2 rfl
theorem m139_73 : smI 139 73 = rI2 (.getfield 7) 76 7 := zT_l (k := 64) (i := 9) zT139_2 rfl
theorem m139_76 : smI 139 76 = rI1 ziC3 77 3 := zT_l (k := 64) (i := 12) zT139_2 rfl
theorem m139_77 : smI 139 77 = rI0 .dup2 78 := zT_l (k := 64) (i := 13) zT139_2 rfl
theorem m139_78 : smI 139 78 = rI0 .iaload 79 := zT_l (k := 64) (i := 14) zT139_2 rfl
theorem m139_79 : smI 139 79 = rI1 ziC1 80 1 := zT_l (k := 64) (i := 15) zT139_2 rfl
theorem m139_80 : smI 139 80 = rI0 .iadd 81 := zT_l (k := 64) (i := 16) zT139_2 rfl
theorem m139_81 : smI 139 81 = rI0 .iastore 82 := zT_l (k := 64) (i := 17) zT139_2 rfl
theorem m139_82 : smI 139 82 = rI1 (.iinc 4 1) 85 1 := zT_l (k := 64) (i := 18) zT139_2 rfl
theorem m139_85 : smI 139 85 = rI2 (.goto (-45)) 88 40 := zT_l (k := 64) (i := 21) zT139_2 rfl
theorem m139_88 : smI 139 88 = rI0 ziA0 89 := zT_l (k := 64) (i := 24) zT139_2 rfl
theorem m139_89 : smI 139 89 = rI2 (.getfield 7) 92 7 := zT_l (k := 64) (i := 25) zT139_2 rfl
theorem m139_92 : smI 139 92 = rI1 ziC3 93 3 := zT_l (k := 64) (i := 28) zT139_2 rfl
theorem m139_93 : smI 139 93 = rI0 .iaload 94 := zT_l (k := 64) (i := 29) zT139_2 rfl
theorem m139_94 : smI 139 94 = rI0 .ireturn 95 := zT_l (k := 64) (i := 30) zT139_2 rfl
theorem mx_140 : mMx 140 = 5 := by decide +kernel
theorem cn_140 : mCn 140 = 7 := by decide +kernel
theorem rt_140 : mRt 140 = (some .int) := by decide +kernel
theorem tq_140 : allT.getD 140 [] = tb_140 := rfl
theorem zT140_0 : zT 140 0 (tb_140_0 ++ (tb_140_1 ++ (tb_140_2 ++ (tb_140_3 ++ (tb_140_4))))) := zT_0 tq_140
theorem zT140_1 : zT 140 32 (tb_140_1 ++ (tb_140_2 ++ (tb_140_3 ++ (tb_140_4)))) := zT_s zT140_0 (n := 32) (by decide +kernel) rfl
theorem zT140_2 : zT 140 64 (tb_140_2 ++ (tb_140_3 ++ (tb_140_4))) := zT_s zT140_1 (n := 32) (by decide +kernel) rfl
theorem zT140_3 : zT 140 96 (tb_140_3 ++ (tb_140_4)) := zT_s zT140_2 (n := 32) (by decide +kernel) rfl
theorem zT140_4 : zT 140 128 (tb_140_4) := zT_s zT140_3 (n := 32) (by decide +kernel) rfl
theorem m140_0 : smI 140 0 = rI0 ziI1 1 := zT_a (k := 0) (i := 0) zT140_0 rfl
theorem m140_1 : smI 140 1 = rI0 ziC0 2 := zT_a (k := 0) (i := 1) zT140_0 rfl
theorem m140_2 : smI 140 2 = rI1 ziC1 3 1 := zT_a (k := 0) (i := 2) zT140_0 rfl
theorem m140_3 : smI 140 3 = rI3 (.invokestatic 44) 6 107 3 := zT_a (k := 0) (i := 3) zT140_0 rfl
theorem m140_6 : smI 140 6 = rI2 (.ifCond .ne 10) 9 16 := zT_a (k := 0) (i := 6) zT140_0 rfl
theorem m140_9 : smI 140 9 = rI0 ziA0 10 := zT_a (k := 0) (i := 9) zT140_0 rfl
theorem m140_10 : smI 140 10 = rI1 (.ldc 52) 12 (-1000000001) := zT_a (k := 0) (i := 10) zT140_0 rfl
theorem m140_12 : smI 140 12 = rI4 (.invokevirtual 53) 15 20 108 1 := zT_a (k := 0) (i := 12) zT140_0 rfl
theorem m140_15 : smI 140 15 = rI0 .ireturn 16 := zT_a (k := 0) (i := 15) zT140_0 rfl
theorem m140_16 : smI 140 16 = rI0 ziA0 17 := zT_a (k := 0) (i := 16) zT140_0 rfl
theorem m140_17 : smI 140 17 = rI0 ziA0 18 := zT_a (k := 0) (i := 17) zT140_0 rfl
theorem m140_18 : smI 140 18 = rI2 (.getfield 7) 21 7 := zT_a (k := 0) (i := 18) zT140_0 rfl
theorem m140_21 : smI 140 21 = rI0 ziA0 22 := zT_a (k := 0) (i := 21) zT140_0 rfl
theorem m140_22 : smI 140 22 = rI3 (.getfield 19) 25 7 3 := zT_a (k := 0) (i := 22) zT140_0 rfl
theorem m140_25 : smI 140 25 = rI4 (.invokevirtual 149) 28 20 110 2 := zT_a (k := 0) (i := 25) zT140_0 rfl
theorem m140_28 : smI 140 28 = rI0 ziC0 29 := zT_a (k := 0) (i := 28) zT140_0 rfl
theorem m140_29 : smI 140 29 = rI0 ziS2 30 := zT_a (k := 0) (i := 29) zT140_0 rfl
theorem m140_30 : smI 140 30 = rI0 ziI2 31 := zT_a (k := 0) (i := 30) zT140_0 rfl
theorem m140_31 : smI 140 31 = rI1 (.bipush 50) 33 50 := zT_a (k := 0) (i := 31) zT140_0 rfl
theorem m140_33 : smI 140 33 = rI2 (.if_icmp .ge 33) 36 66 := zT_a (k := 32) (i := 1) zT140_1 rfl
theorem m140_36 : smI 140 36 = rI0 ziA0 37 := zT_a (k := 32) (i := 4) zT140_1 rfl
theorem m140_37 : smI 140 37 = rI2 (.getfield 7) 40 7 := zT_a (k := 32) (i := 5) zT140_1 rfl
theorem m140_40 : smI 140 40 = rI1 (.sipush 134) 43 134 := zT_a (k := 32) (i := 8) zT140_1 rfl
theorem m140_43 : smI 140 43 = rI1 (.bipush 50) 45 50 := zT_a (k := 32) (i := 11) zT140_1 rfl
theorem m140_45 : smI 140 45 = rI0 ziI1 46 := zT_a (k := 32) (i := 13) zT140_1 rfl
theorem m140_46 : smI 140 46 = rI0 .imul 47 := zT_a (k := 32) (i := 14) zT140_1 rfl
theorem m140_47 : smI 140 47 = rI0 .iadd 48 := zT_a (k := 32) (i := 15) zT140_1 rfl
theorem m140_48 : smI 140 48 = rI0 ziI2 49 := zT_a (k := 32) (i := 16) zT140_1 rfl
theorem m140_49 : smI 140 49 = rI0 .iadd 50 := zT_a (k := 32) (i := 17) zT140_1 rfl
theorem m140_50 : smI 140 50 = rI0 ziA0 51 := zT_a (k := 32) (i := 18) zT140_1 rfl
theorem m140_51 : smI 140 51 = rI2 (.getfield 7) 54 7 := zT_a (k := 32) (i := 19) zT140_1 rfl
theorem m140_54 : smI 140 54 = rI1 (.bipush 64) 56 64 := zT_a (k := 32) (i := 22) zT140_1 rfl
theorem m140_56 : smI 140 56 = rI0 ziI2 57 := zT_a (k := 32) (i := 24) zT140_1 rfl
theorem m140_57 : smI 140 57 = rI0 .iadd 58 := zT_a (k := 32) (i := 25) zT140_1 rfl
theorem m140_58 : smI 140 58 = rI0 .iaload 59 := zT_a (k := 32) (i := 26) zT140_1 rfl
theorem m140_59 : smI 140 59 = rI0 .iastore 60 := zT_a (k := 32) (i := 27) zT140_1 rfl
theorem m140_60 : smI 140 60 = rI1 (.iinc 2 1) 63 1 := zT_a (k := 32) (i := 28) zT140_1 rfl
theorem m140_63 : smI 140 63 = rI2 (.goto (-33)) 66 30 := zT_a (k := 32) (i := 31) zT140_1 rfl
theorem m140_66 : smI 140 66 = rI0 ziA0 67 := zT_a (k := 64) (i := 2) zT140_2 rfl
theorem m140_67 : smI 140 67 = rI2 (.getfield 7) 70 7 := zT_a (k := 64) (i := 3) zT140_2 rfl
theorem m140_70 : smI 140 70 = rI1 ziC5 71 5 := zT_a (k := 64) (i := 6) zT140_2 rfl
theorem m140_71 : smI 140 71 = rI0 ziI1 72 := zT_a (k := 64) (i := 7) zT140_2 rfl
theorem m140_72 : smI 140 72 = rI0 .iadd 73 := zT_a (k := 64) (i := 8) zT140_2 rfl
theorem m140_73 : smI 140 73 = rI0 ziA0 74 := zT_a (k := 64) (i := 9) zT140_2 rfl
theorem m140_74 : smI 140 74 = rI2 (.getfield 7) 77 7 := zT_a (k := 64) (i := 10) zT140_2 rfl
theorem m140_77 : smI 140 77 = rI1 ziC3 78 3 := zT_a (k := 64) (i := 13) zT140_2 rfl
theorem m140_78 : smI 140 78 = rI0 .iaload 79 := zT_a (k := 64) (i := 14) zT140_2 rfl
theorem m140_79 : smI 140 79 = rI0 .iastore 80 := zT_a (k := 64) (i := 15) zT140_2 rfl
theorem m140_80 : smI 140 80 = rI0 ziA0 81 := zT_a (k := 64) (i := 16) zT140_2 rfl
theorem m140_81 : smI 140 81 = rI0 ziI1 82 := zT_a (k := 64) (i := 17) zT140_2 rfl
theorem m140_82 : smI 140 82 = rI1 ziC1 83 1 := zT_a (k := 64) (i := 18) zT140_2 rfl
theorem m140_83 : smI 140 83 = rI1 ziC1 84 1 := zT_a (k := 64) (i := 19) zT140_2 rfl
theorem m140_84 : smI 140 84 = rI1 ziC1 85 1 := zT_a (k := 64) (i := 20) zT140_2 rfl
theorem m140_85 : smI 140 85 = rI4 (.invokevirtual 136) 88 20 130 4 := zT_a (k := 64) (i := 21) zT140_2 rfl
theorem m140_88 : smI 140 88 = rI0 ziS2 89 := zT_a (k := 64) (i := 24) zT140_2 rfl
theorem m140_89 : smI 140 89 = rI0 ziA0 90 := zT_a (k := 64) (i := 25) zT140_2 rfl
theorem m140_90 : smI 140 90 = rI3 (.getfield 83) 93 7 14 := zT_a (k := 64) (i := 26) zT140_2 rfl
theorem m140_93 : smI 140 93 = rI2 (.ifCond .eq 12) 96 105 := zT_a (k := 64) (i := 29) zT140_2 rfl
theorem m140_96 : smI 140 96 = rI0 ziI2 97 := zT_a (k := 96) (i := 0) zT140_3 rfl
theorem m140_97 : smI 140 97 = rI0 ziI2 98 := zT_a (k := 96) (i := 1) zT140_3 rfl
theorem m140_98 : smI 140 98 = rI2 (.if_icmp .ne 7) 101 105 := zT_a (k := 96) (i := 2) zT140_3 rfl
theorem m140_101 : smI 140 101 = rI1 ziC1 102 1 := zT_a (k := 96) (i := 5) zT140_3 rfl
theorem m140_102 : smI 140 102 = rI2 (.goto 4) 105 106 := zT_a (k := 96) (i := 6) zT140_3 rfl
theorem m140_105 : smI 140 105 = rI0 ziC0 106 := zT_a (k := 96) (i := 9) zT140_3 rfl
theorem m140_106 : smI 140 106 = rI0 ziS3 107 := zT_a (k := 96) (i := 10) zT140_3 rfl
theorem m140_107 : smI 140 107 = rI0 ziA0 108 := zT_a (k := 96) (i := 11) zT140_3 rfl
theorem m140_108 : smI 140 108 = rI3 (.getfield 87) 111 7 8 := zT_a (k := 96) (i := 12) zT140_3 rfl
theorem m140_111 : smI 140 111 = rI0 (.istore 4) 113 := zT_a (k := 96) (i := 15) zT140_3 rfl
theorem m140_113 : smI 140 113 = rI0 ziI3 114 := zT_a (k := 96) (i := 17) zT140_3 rfl
theorem m140_114 : smI 140 114 = rI2 (.ifCond .ne 15) 117 129 := zT_a (k := 96) (i := 18) zT140_3 rfl
theorem m140_117 : smI 140 117 = rI0 ziA0 118 := zT_a (k := 96) (i := 21) zT140_3 rfl
theorem m140_118 : smI 140 118 = rI0 ziA0 119 := zT_a (k := 96) (i := 22) zT140_3 rfl
theorem m140_119 : smI 140 119 = rI3 (.getfield 19) 122 7 3 := zT_a (k := 96) (i := 23) zT140_3 rfl
theorem m140_122 : smI 140 122 = rI0 ziA0 123 := zT_a (k := 96) (i := 26) zT140_3 rfl
theorem m140_123 : smI 140 123 = rI2 (.getfield 7) 126 7 := zT_a (k := 96) (i := 27) zT140_3 rfl
theorem m140_126 : smI 140 126 = rI4 (.invokevirtual 149) 129 20 110 2 := zT_a (k := 96) (i := 30) zT140_3 rfl
theorem m140_129 : smI 140 129 = rI0 ziA0 130 := zT_l (k := 128) (i := 1) zT140_4 rfl
theorem m140_130 : smI 140 130 = rI2 (.getfield 7) 133 7 := zT_l (k := 128) (i := 2) zT140_4 rfl
theorem m140_133 : smI 140 133 = rI1 ziC3 134 3 := zT_l (k := 128) (i := 5) zT140_4 rfl
theorem m140_134 : smI 140 134 = rI0 ziC0 135 := zT_l (k := 128) (i := 6) zT140_4 rfl
theorem m140_135 : smI 140 135 = rI0 .iastore 136 := zT_l (k := 128) (i := 7) zT140_4 rfl
theorem m140_136 : smI 140 136 = rI0 ziI3 137 := zT_l (k := 128) (i := 8) zT140_4 rfl
theorem m140_137 : smI 140 137 = rI2 (.ifCond .eq 7) 140 144 := zT_l (k := 128) (i := 9) zT140_4 rfl
theorem m140_140 : smI 140 140 = rI1 ziC1 141 1 := zT_l (k := 128) (i := 12) zT140_4 rfl
theorem m140_141 : smI 140 141 = rI2 (.goto 8) 144 149 := zT_l (k := 128) (i := 13) zT140_4 rfl
theorem m140_144 : smI 140 144 = rI1 (.bipush (-10)) 146 (-10) := zT_l (k := 128) (i := 16) zT140_4 rfl
theorem m140_146 : smI 140 146 = rI0 (.iload 4) 148 := zT_l (k := 128) (i := 18) zT140_4 rfl
theorem m140_148 : smI 140 148 = rI0 .isub 149 := zT_l (k := 128) (i := 20) zT140_4 rfl
theorem m140_149 : smI 140 149 = rI0 .ireturn 150 := zT_l (k := 128) (i := 21) zT140_4 rfl
theorem mx_141 : mMx 141 = 2 := by decide +kernel
theorem cn_141 : mCn 141 = 7 := by decide +kernel
theorem rt_141 : mRt 141 = (some .int) := by decide +kernel
theorem tq_141 : allT.getD 141 [] = tb_141 := rfl
theorem zT141_0 : zT 141 0 (tb_141_0 ++ (tb_141_1)) := zT_0 tq_141
theorem zT141_1 : zT 141 32 (tb_141_1) := zT_s zT141_0 (n := 32) (by decide +kernel) rfl
theorem m141_0 : smI 141 0 = rI0 ziA0 1 := zT_a (k := 0) (i := 0) zT141_0 rfl
theorem m141_1 : smI 141 1 = rI0 ziI1 2 := zT_a (k := 0) (i := 1) zT141_0 rfl
theorem m141_2 : smI 141 2 = rI0 ziC0 3 := zT_a (k := 0) (i := 2) zT141_0 rfl
theorem m141_3 : smI 141 3 = rI4 (.invokevirtual 66) 6 20 111 2 := zT_a (k := 0) (i := 3) zT141_0 rfl
theorem m141_6 : smI 141 6 = rI0 (.tableswitch 53 1 6 #[38, 40, 42, 38, 40, 42]) 44 := zT_a (k := 0) (i := 6) zT141_0 rfl
theorem m141_44 : smI 141 44 = rI0 ziC0 45 := zT_l (k := 32) (i := 12) zT141_1 rfl
theorem m141_45 : smI 141 45 = rI0 .ireturn 46 := zT_l (k := 32) (i := 13) zT141_1 rfl
theorem m141_46 : smI 141 46 = rI1 ziC2 47 2 := zT_l (k := 32) (i := 14) zT141_1 rfl
theorem m141_47 : smI 141 47 = rI0 .ireturn 48 := zT_l (k := 32) (i := 15) zT141_1 rfl
theorem m141_48 : smI 141 48 = rI1 ziC1 49 1 := zT_l (k := 32) (i := 16) zT141_1 rfl
theorem m141_49 : smI 141 49 = rI0 ziA0 50 := zT_l (k := 32) (i := 17) zT141_1 rfl
theorem m141_50 : smI 141 50 = rI0 ziI1 51 := zT_l (k := 32) (i := 18) zT141_1 rfl
theorem m141_51 : smI 141 51 = rI1 ziC1 52 1 := zT_l (k := 32) (i := 19) zT141_1 rfl
theorem m141_52 : smI 141 52 = rI4 (.invokevirtual 66) 55 20 111 2 := zT_l (k := 32) (i := 20) zT141_1 rfl
theorem m141_55 : smI 141 55 = rI1 ziC3 56 3 := zT_l (k := 32) (i := 23) zT141_1 rfl
theorem m141_56 : smI 141 56 = rI0 .irem 57 := zT_l (k := 32) (i := 24) zT141_1 rfl
theorem m141_57 : smI 141 57 = rI0 .iadd 58 := zT_l (k := 32) (i := 25) zT141_1 rfl
theorem m141_58 : smI 141 58 = rI0 .ireturn 59 := zT_l (k := 32) (i := 26) zT141_1 rfl
theorem m141_59 : smI 141 59 = rI1 ziC1 60 1 := zT_l (k := 32) (i := 27) zT141_1 rfl
theorem m141_60 : smI 141 60 = rI0 .ireturn 61 := zT_l (k := 32) (i := 28) zT141_1 rfl
theorem mx_142 : mMx 142 = 6 := by decide +kernel
theorem cn_142 : mCn 142 = 7 := by decide +kernel
theorem rt_142 : mRt 142 = (some .int) := by decide +kernel
theorem tq_142 : allT.getD 142 [] = tb_142 := rfl
theorem zT142_0 : zT 142 0 (tb_142_0 ++ (tb_142_1 ++ (tb_142_2))) := zT_0 tq_142
theorem zT142_1 : zT 142 32 (tb_142_1 ++ (tb_142_2)) := zT_s zT142_0 (n := 32) (by decide +kernel) rfl
theorem zT142_2 : zT 142 64 (tb_142_2) := zT_s zT142_1 (n := 32) (by decide +kernel) rfl
theorem m142_0 : smI 142 0 = rI0 ziA0 1 := zT_a (k := 0) (i := 0) zT142_0 rfl
theorem m142_1 : smI 142 1 = rI0 ziI1 2 := zT_a (k := 0) (i := 1) zT142_0 rfl
theorem m142_2 : smI 142 2 = rI4 (.invokevirtual 69) 5 20 132 1 := zT_a (k := 0) (i := 2) zT142_0 rfl
theorem m142_5 : smI 142 5 = rI0 ziS2 6 := zT_a (k := 0) (i := 5) zT142_0 rfl
theorem m142_6 : smI 142 6 = rI0 ziC0 7 := zT_a (k := 0) (i := 6) zT142_0 rfl
theorem m142_7 : smI 142 7 = rI0 ziS3 8 := zT_a (k := 0) (i := 7) zT142_0 rfl
theorem m142_8 : smI 142 8 = rI0 ziC0 9 := zT_a (k := 0) (i := 8) zT142_0 rfl
theorem m142_9 : smI 142 9 = rI0 (.istore 4) 11 := zT_a (k := 0) (i := 9) zT142_0 rfl
theorem m142_11 : smI 142 11 = rI0 (.iload 4) 13 := zT_a (k := 0) (i := 11) zT142_0 rfl
theorem m142_13 : smI 142 13 = rI0 ziA0 14 := zT_a (k := 0) (i := 13) zT142_0 rfl
theorem m142_14 : smI 142 14 = rI2 (.getfield 7) 17 7 := zT_a (k := 0) (i := 14) zT142_0 rfl
theorem m142_17 : smI 142 17 = rI1 ziC2 18 2 := zT_a (k := 0) (i := 17) zT142_0 rfl
theorem m142_18 : smI 142 18 = rI0 .iaload 19 := zT_a (k := 0) (i := 18) zT142_0 rfl
theorem m142_19 : smI 142 19 = rI2 (.if_icmp .ge 59) 22 78 := zT_a (k := 0) (i := 19) zT142_0 rfl
theorem m142_22 : smI 142 22 = rI0 ziA0 23 := zT_a (k := 0) (i := 22) zT142_0 rfl
theorem m142_23 : smI 142 23 = rI0 (.iload 4) 25 := zT_a (k := 0) (i := 23) zT142_0 rfl
theorem m142_25 : smI 142 25 = rI1 ziC5 26 5 := zT_a (k := 0) (i := 25) zT142_0 rfl
theorem m142_26 : smI 142 26 = rI4 (.invokevirtual 66) 29 20 111 2 := zT_a (k := 0) (i := 26) zT142_0 rfl
theorem m142_29 : smI 142 29 = rI2 (.ifCond .ne 43) 32 72 := zT_a (k := 0) (i := 29) zT142_0 rfl
theorem m142_32 : smI 142 32 = rI0 (.iload 4) 34 := zT_a (k := 32) (i := 0) zT142_1 rfl
theorem m142_34 : smI 142 34 = rI0 ziI1 35 := zT_a (k := 32) (i := 2) zT142_1 rfl
theorem m142_35 : smI 142 35 = rI2 (.if_icmp .eq 37) 38 72 := zT_a (k := 32) (i := 3) zT142_1 rfl
theorem m142_38 : smI 142 38 = rI0 ziA0 39 := zT_a (k := 32) (i := 6) zT142_1 rfl
theorem m142_39 : smI 142 39 = rI0 (.iload 4) 41 := zT_a (k := 32) (i := 7) zT142_1 rfl
theorem m142_41 : smI 142 41 = rI4 (.invokevirtual 69) 44 20 132 1 := zT_a (k := 32) (i := 9) zT142_1 rfl
theorem m142_44 : smI 142 44 = rI0 (.istore 5) 46 := zT_a (k := 32) (i := 12) zT142_1 rfl
theorem m142_46 : smI 142 46 = rI0 ziI3 47 := zT_a (k := 32) (i := 14) zT142_1 rfl
theorem m142_47 : smI 142 47 = rI0 (.iload 5) 49 := zT_a (k := 32) (i := 15) zT142_1 rfl
theorem m142_49 : smI 142 49 = rI0 ziI2 50 := zT_a (k := 32) (i := 17) zT142_1 rfl
theorem m142_50 : smI 142 50 = rI2 (.if_icmp .gt 15) 53 65 := zT_a (k := 32) (i := 18) zT142_1 rfl
theorem m142_53 : smI 142 53 = rI0 (.iload 5) 55 := zT_a (k := 32) (i := 21) zT142_1 rfl
theorem m142_55 : smI 142 55 = rI0 ziI2 56 := zT_a (k := 32) (i := 23) zT142_1 rfl
theorem m142_56 : smI 142 56 = rI2 (.if_icmp .ne 13) 59 69 := zT_a (k := 32) (i := 24) zT142_1 rfl
theorem m142_59 : smI 142 59 = rI0 (.iload 4) 61 := zT_a (k := 32) (i := 27) zT142_1 rfl
theorem m142_61 : smI 142 61 = rI0 ziI1 62 := zT_a (k := 32) (i := 29) zT142_1 rfl
theorem m142_62 : smI 142 62 = rI2 (.if_icmp .ge 7) 65 69 := zT_a (k := 32) (i := 30) zT142_1 rfl
theorem m142_65 : smI 142 65 = rI1 ziC1 66 1 := zT_l (k := 64) (i := 1) zT142_2 rfl
theorem m142_66 : smI 142 66 = rI2 (.goto 4) 69 70 := zT_l (k := 64) (i := 2) zT142_2 rfl
theorem m142_69 : smI 142 69 = rI0 ziC0 70 := zT_l (k := 64) (i := 5) zT142_2 rfl
theorem m142_70 : smI 142 70 = rI0 .iadd 71 := zT_l (k := 64) (i := 6) zT142_2 rfl
theorem m142_71 : smI 142 71 = rI0 ziS3 72 := zT_l (k := 64) (i := 7) zT142_2 rfl
theorem m142_72 : smI 142 72 = rI1 (.iinc 4 1) 75 1 := zT_l (k := 64) (i := 8) zT142_2 rfl
theorem m142_75 : smI 142 75 = rI2 (.goto (-64)) 78 11 := zT_l (k := 64) (i := 11) zT142_2 rfl
theorem m142_78 : smI 142 78 = rI0 ziI3 79 := zT_l (k := 64) (i := 14) zT142_2 rfl
theorem m142_79 : smI 142 79 = rI0 .ireturn 80 := zT_l (k := 64) (i := 15) zT142_2 rfl
theorem mx_143 : mMx 143 = 3 := by decide +kernel
theorem cn_143 : mCn 143 = 7 := by decide +kernel
theorem rt_143 : mRt 143 = (some .int) := by decide +kernel
theorem tq_143 : allT.getD 143 [] = tb_143 := rfl
theorem zT143_0 : zT 143 0 (tb_143_0 ++ (tb_143_1)) := zT_0 tq_143
theorem zT143_1 : zT 143 32 (tb_143_1) := zT_s zT143_0 (n := 32) (by decide +kernel) rfl
theorem m143_0 : smI 143 0 = rI0 ziC0 1 := zT_a (k := 0) (i := 0) zT143_0 rfl
theorem m143_1 : smI 143 1 = rI0 ziS1 2 := zT_a (k := 0) (i := 1) zT143_0 rfl
theorem m143_2 : smI 143 2 = rI0 ziC0 3 := zT_a (k := 0) (i := 2) zT143_0 rfl
theorem m143_3 : smI 143 3 = rI0 ziS2 4 := zT_a (k := 0) (i := 3) zT143_0 rfl
theorem m143_4 : smI 143 4 = rI0 ziI2 5 := zT_a (k := 0) (i := 4) zT143_0 rfl
theorem m143_5 : smI 143 5 = rI0 ziA0 6 := zT_a (k := 0) (i := 5) zT143_0 rfl
theorem m143_6 : smI 143 6 = rI2 (.getfield 7) 9 7 := zT_a (k := 0) (i := 6) zT143_0 rfl
theorem m143_9 : smI 143 9 = rI1 ziC2 10 2 := zT_a (k := 0) (i := 9) zT143_0 rfl
theorem m143_10 : smI 143 10 = rI0 .iaload 11 := zT_a (k := 0) (i := 10) zT143_0 rfl
theorem m143_11 : smI 143 11 = rI2 (.if_icmp .ge 43) 14 54 := zT_a (k := 0) (i := 11) zT143_0 rfl
theorem m143_14 : smI 143 14 = rI0 ziI1 15 := zT_a (k := 0) (i := 14) zT143_0 rfl
theorem m143_15 : smI 143 15 = rI0 ziA0 16 := zT_a (k := 0) (i := 15) zT143_0 rfl
theorem m143_16 : smI 143 16 = rI0 ziI2 17 := zT_a (k := 0) (i := 16) zT143_0 rfl
theorem m143_17 : smI 143 17 = rI1 ziC5 18 5 := zT_a (k := 0) (i := 17) zT143_0 rfl
theorem m143_18 : smI 143 18 = rI4 (.invokevirtual 66) 21 20 111 2 := zT_a (k := 0) (i := 18) zT143_0 rfl
theorem m143_21 : smI 143 21 = rI2 (.ifCond .ne 24) 24 45 := zT_a (k := 0) (i := 21) zT143_0 rfl
theorem m143_24 : smI 143 24 = rI0 ziA0 25 := zT_a (k := 0) (i := 24) zT143_0 rfl
theorem m143_25 : smI 143 25 = rI0 ziI2 26 := zT_a (k := 0) (i := 25) zT143_0 rfl
theorem m143_26 : smI 143 26 = rI4 (.invokevirtual 153) 29 20 142 1 := zT_a (k := 0) (i := 26) zT143_0 rfl
theorem m143_29 : smI 143 29 = rI0 ziA0 30 := zT_a (k := 0) (i := 29) zT143_0 rfl
theorem m143_30 : smI 143 30 = rI2 (.getfield 7) 33 7 := zT_a (k := 0) (i := 30) zT143_0 rfl
theorem m143_33 : smI 143 33 = rI1 (.bipush 7) 35 7 := zT_l (k := 32) (i := 1) zT143_1 rfl
theorem m143_35 : smI 143 35 = rI0 .iaload 36 := zT_l (k := 32) (i := 3) zT143_1 rfl
theorem m143_36 : smI 143 36 = rI2 (.if_icmp .ge 9) 39 45 := zT_l (k := 32) (i := 4) zT143_1 rfl
theorem m143_39 : smI 143 39 = rI1 ziC1 40 1 := zT_l (k := 32) (i := 7) zT143_1 rfl
theorem m143_40 : smI 143 40 = rI0 ziI2 41 := zT_l (k := 32) (i := 8) zT143_1 rfl
theorem m143_41 : smI 143 41 = rI0 .ishl 42 := zT_l (k := 32) (i := 9) zT143_1 rfl
theorem m143_42 : smI 143 42 = rI2 (.goto 4) 45 46 := zT_l (k := 32) (i := 10) zT143_1 rfl
theorem m143_45 : smI 143 45 = rI0 ziC0 46 := zT_l (k := 32) (i := 13) zT143_1 rfl
theorem m143_46 : smI 143 46 = rI0 .ior 47 := zT_l (k := 32) (i := 14) zT143_1 rfl
theorem m143_47 : smI 143 47 = rI0 ziS1 48 := zT_l (k := 32) (i := 15) zT143_1 rfl
theorem m143_48 : smI 143 48 = rI1 (.iinc 2 1) 51 1 := zT_l (k := 32) (i := 16) zT143_1 rfl
theorem m143_51 : smI 143 51 = rI2 (.goto (-47)) 54 4 := zT_l (k := 32) (i := 19) zT143_1 rfl
theorem m143_54 : smI 143 54 = rI0 ziI1 55 := zT_l (k := 32) (i := 22) zT143_1 rfl
theorem m143_55 : smI 143 55 = rI0 .ireturn 56 := zT_l (k := 32) (i := 23) zT143_1 rfl
theorem mx_144 : mMx 144 = 3 := by decide +kernel
theorem cn_144 : mCn 144 = 7 := by decide +kernel
theorem rt_144 : mRt 144 = none := by decide +kernel
theorem tq_144 : allT.getD 144 [] = tb_144 := rfl
theorem zT144_0 : zT 144 0 (tb_144_0 ++ (tb_144_1 ++ (tb_144_2 ++ (tb_144_3)))) := zT_0 tq_144
theorem zT144_1 : zT 144 32 (tb_144_1 ++ (tb_144_2 ++ (tb_144_3))) := zT_s zT144_0 (n := 32) (by decide +kernel) rfl
theorem zT144_2 : zT 144 64 (tb_144_2 ++ (tb_144_3)) := zT_s zT144_1 (n := 32) (by decide +kernel) rfl
theorem zT144_3 : zT 144 96 (tb_144_3) := zT_s zT144_2 (n := 32) (by decide +kernel) rfl
theorem m144_0 : smI 144 0 = rI0 ziI2 1 := zT_a (k := 0) (i := 0) zT144_0 rfl
theorem m144_1 : smI 144 1 = rI2 (.ifCond .eq 62) 4 63 := zT_a (k := 0) (i := 1) zT144_0 rfl
theorem m144_4 : smI 144 4 = rI0 ziA0 5 := zT_a (k := 0) (i := 4) zT144_0 rfl
theorem m144_5 : smI 144 5 = rI0 ziI1 6 := zT_a (k := 0) (i := 5) zT144_0 rfl
theorem m144_6 : smI 144 6 = rI1 ziC2 7 2 := zT_a (k := 0) (i := 6) zT144_0 rfl
theorem m144_7 : smI 144 7 = rI0 ziA0 8 := zT_a (k := 0) (i := 7) zT144_0 rfl
theorem m144_8 : smI 144 8 = rI0 ziI1 9 := zT_a (k := 0) (i := 8) zT144_0 rfl
theorem m144_9 : smI 144 9 = rI1 ziC2 10 2 := zT_a (k := 0) (i := 9) zT144_0 rfl
theorem m144_10 : smI 144 10 = rI4 (.invokevirtual 66) 13 20 111 2 := zT_a (k := 0) (i := 10) zT144_0 rfl
theorem m144_13 : smI 144 13 = rI0 ziA0 14 := zT_a (k := 0) (i := 13) zT144_0 rfl
theorem m144_14 : smI 144 14 = rI2 (.getfield 7) 17 7 := zT_a (k := 0) (i := 14) zT144_0 rfl
theorem m144_17 : smI 144 17 = rI1 (.bipush 8) 19 8 := zT_a (k := 0) (i := 17) zT144_0 rfl
theorem m144_19 : smI 144 19 = rI0 ziA0 20 := zT_a (k := 0) (i := 19) zT144_0 rfl
theorem m144_20 : smI 144 20 = rI0 ziI1 21 := zT_a (k := 0) (i := 20) zT144_0 rfl
theorem m144_21 : smI 144 21 = rI1 ziC4 22 4 := zT_a (k := 0) (i := 21) zT144_0 rfl
theorem m144_22 : smI 144 22 = rI4 (.invokevirtual 66) 25 20 111 2 := zT_a (k := 0) (i := 22) zT144_0 rfl
theorem m144_25 : smI 144 25 = rI1 (.bipush 8) 27 8 := zT_a (k := 0) (i := 25) zT144_0 rfl
theorem m144_27 : smI 144 27 = rI0 .irem 28 := zT_a (k := 0) (i := 27) zT144_0 rfl
theorem m144_28 : smI 144 28 = rI0 .iadd 29 := zT_a (k := 0) (i := 28) zT144_0 rfl
theorem m144_29 : smI 144 29 = rI0 .iaload 30 := zT_a (k := 0) (i := 29) zT144_0 rfl
theorem m144_30 : smI 144 30 = rI0 .isub 31 := zT_a (k := 0) (i := 30) zT144_0 rfl
theorem m144_31 : smI 144 31 = rI0 ziC0 32 := zT_a (k := 0) (i := 31) zT144_0 rfl
theorem m144_32 : smI 144 32 = rI1 (.bipush 99) 34 99 := zT_a (k := 32) (i := 0) zT144_1 rfl
theorem m144_34 : smI 144 34 = rI3 (.invokestatic 140) 37 109 3 := zT_a (k := 32) (i := 2) zT144_1 rfl
theorem m144_37 : smI 144 37 = rI4 (.invokevirtual 58) 40 20 112 3 := zT_a (k := 32) (i := 5) zT144_1 rfl
theorem m144_40 : smI 144 40 = rI0 ziA0 41 := zT_a (k := 32) (i := 8) zT144_1 rfl
theorem m144_41 : smI 144 41 = rI0 ziI1 42 := zT_a (k := 32) (i := 9) zT144_1 rfl
theorem m144_42 : smI 144 42 = rI1 ziC4 43 4 := zT_a (k := 32) (i := 10) zT144_1 rfl
theorem m144_43 : smI 144 43 = rI0 ziA0 44 := zT_a (k := 32) (i := 11) zT144_1 rfl
theorem m144_44 : smI 144 44 = rI0 ziI1 45 := zT_a (k := 32) (i := 12) zT144_1 rfl
theorem m144_45 : smI 144 45 = rI1 ziC4 46 4 := zT_a (k := 32) (i := 13) zT144_1 rfl
theorem m144_46 : smI 144 46 = rI4 (.invokevirtual 66) 49 20 111 2 := zT_a (k := 32) (i := 14) zT144_1 rfl
theorem m144_49 : smI 144 49 = rI1 ziC1 50 1 := zT_a (k := 32) (i := 17) zT144_1 rfl
theorem m144_50 : smI 144 50 = rI0 .iadd 51 := zT_a (k := 32) (i := 18) zT144_1 rfl
theorem m144_51 : smI 144 51 = rI0 ziC0 52 := zT_a (k := 32) (i := 19) zT144_1 rfl
theorem m144_52 : smI 144 52 = rI1 (.bipush 99) 54 99 := zT_a (k := 32) (i := 20) zT144_1 rfl
theorem m144_54 : smI 144 54 = rI3 (.invokestatic 140) 57 109 3 := zT_a (k := 32) (i := 22) zT144_1 rfl
theorem m144_57 : smI 144 57 = rI4 (.invokevirtual 58) 60 20 112 3 := zT_a (k := 32) (i := 25) zT144_1 rfl
theorem m144_60 : smI 144 60 = rI2 (.goto 27) 63 87 := zT_a (k := 32) (i := 28) zT144_1 rfl
theorem m144_63 : smI 144 63 = rI0 ziA0 64 := zT_a (k := 32) (i := 31) zT144_1 rfl
theorem m144_64 : smI 144 64 = rI0 ziI1 65 := zT_a (k := 64) (i := 0) zT144_2 rfl
theorem m144_65 : smI 144 65 = rI1 ziC2 66 2 := zT_a (k := 64) (i := 1) zT144_2 rfl
theorem m144_66 : smI 144 66 = rI0 ziA0 67 := zT_a (k := 64) (i := 2) zT144_2 rfl
theorem m144_67 : smI 144 67 = rI0 ziI1 68 := zT_a (k := 64) (i := 3) zT144_2 rfl
theorem m144_68 : smI 144 68 = rI1 ziC2 69 2 := zT_a (k := 64) (i := 4) zT144_2 rfl
theorem m144_69 : smI 144 69 = rI4 (.invokevirtual 66) 72 20 111 2 := zT_a (k := 64) (i := 5) zT144_2 rfl
theorem m144_72 : smI 144 72 = rI0 ziA0 73 := zT_a (k := 64) (i := 8) zT144_2 rfl
theorem m144_73 : smI 144 73 = rI0 ziI1 74 := zT_a (k := 64) (i := 9) zT144_2 rfl
theorem m144_74 : smI 144 74 = rI4 (.invokevirtual 163) 77 20 141 1 := zT_a (k := 64) (i := 10) zT144_2 rfl
theorem m144_77 : smI 144 77 = rI0 .iadd 78 := zT_a (k := 64) (i := 13) zT144_2 rfl
theorem m144_78 : smI 144 78 = rI0 ziC0 79 := zT_a (k := 64) (i := 14) zT144_2 rfl
theorem m144_79 : smI 144 79 = rI1 (.bipush 99) 81 99 := zT_a (k := 64) (i := 15) zT144_2 rfl
theorem m144_81 : smI 144 81 = rI3 (.invokestatic 140) 84 109 3 := zT_a (k := 64) (i := 17) zT144_2 rfl
theorem m144_84 : smI 144 84 = rI4 (.invokevirtual 58) 87 20 112 3 := zT_a (k := 64) (i := 20) zT144_2 rfl
theorem m144_87 : smI 144 87 = rI0 ziA0 88 := zT_a (k := 64) (i := 23) zT144_2 rfl
theorem m144_88 : smI 144 88 = rI0 ziI1 89 := zT_a (k := 64) (i := 24) zT144_2 rfl
theorem m144_89 : smI 144 89 = rI1 ziC5 90 5 := zT_a (k := 64) (i := 25) zT144_2 rfl
theorem m144_90 : smI 144 90 = rI0 ziA0 91 := zT_a (k := 64) (i := 26) zT144_2 rfl
theorem m144_91 : smI 144 91 = rI1 ziC1 92 1 := zT_a (k := 64) (i := 27) zT144_2 rfl
theorem m144_92 : smI 144 92 = rI0 ziA0 93 := zT_a (k := 64) (i := 28) zT144_2 rfl
theorem m144_93 : smI 144 93 = rI0 ziI1 94 := zT_a (k := 64) (i := 29) zT144_2 rfl
theorem m144_94 : smI 144 94 = rI1 ziC2 95 2 := zT_a (k := 64) (i := 30) zT144_2 rfl
theorem m144_95 : smI 144 95 = rI4 (.invokevirtual 66) 98 20 111 2 := zT_a (k := 64) (i := 31) zT144_2 rfl
theorem m144_98 : smI 144 98 = rI0 ziA0 99 := zT_l (k := 96) (i := 2) zT144_3 rfl
theorem m144_99 : smI 144 99 = rI0 ziI1 100 := zT_l (k := 96) (i := 3) zT144_3 rfl
theorem m144_100 : smI 144 100 = rI4 (.invokevirtual 69) 103 20 132 1 := zT_l (k := 96) (i := 4) zT144_3 rfl
theorem m144_103 : smI 144 103 = rI0 ziA0 104 := zT_l (k := 96) (i := 7) zT144_3 rfl
theorem m144_104 : smI 144 104 = rI0 ziI1 105 := zT_l (k := 96) (i := 8) zT144_3 rfl
theorem m144_105 : smI 144 105 = rI1 ziC4 106 4 := zT_l (k := 96) (i := 9) zT144_3 rfl
theorem m144_106 : smI 144 106 = rI4 (.invokevirtual 66) 109 20 111 2 := zT_l (k := 96) (i := 10) zT144_3 rfl
theorem m144_109 : smI 144 109 = rI4 (.invokevirtual 144) 112 20 131 4 := zT_l (k := 96) (i := 13) zT144_3 rfl
theorem m144_112 : smI 144 112 = rI2 (.ifCond .eq 7) 115 119 := zT_l (k := 96) (i := 16) zT144_3 rfl
theorem m144_115 : smI 144 115 = rI1 ziC1 116 1 := zT_l (k := 96) (i := 19) zT144_3 rfl
theorem m144_116 : smI 144 116 = rI2 (.goto 4) 119 120 := zT_l (k := 96) (i := 20) zT144_3 rfl
theorem m144_119 : smI 144 119 = rI0 ziC0 120 := zT_l (k := 96) (i := 23) zT144_3 rfl
theorem m144_120 : smI 144 120 = rI4 (.invokevirtual 58) 123 20 112 3 := zT_l (k := 96) (i := 24) zT144_3 rfl
theorem m144_123 : smI 144 123 = rI0 .return_ 124 := zT_l (k := 96) (i := 27) zT144_3 rfl
theorem mx_145 : mMx 145 = 3 := by decide +kernel
theorem cn_145 : mCn 145 = 7 := by decide +kernel
theorem rt_145 : mRt 145 = none := by decide +kernel
theorem tq_145 : allT.getD 145 [] = tb_145 := rfl
theorem zT145_0 : zT 145 0 (tb_145_0 ++ (tb_145_1)) := zT_0 tq_145
theorem zT145_1 : zT 145 32 (tb_145_1) := zT_s zT145_0 (n := 32) (by decide +kernel) rfl
theorem m145_0 : smI 145 0 = rI0 ziA0 1 := zT_a (k := 0) (i := 0) zT145_0 rfl
theorem m145_1 : smI 145 1 = rI4 (.invokevirtual 156) 4 20 143 0 := zT_a (k := 0) (i := 1) zT145_0 rfl
theorem m145_4 : smI 145 4 = rI0 ziS1 5 := zT_a (k := 0) (i := 4) zT145_0 rfl
theorem m145_5 : smI 145 5 = rI0 ziC0 6 := zT_a (k := 0) (i := 5) zT145_0 rfl
theorem m145_6 : smI 145 6 = rI0 ziS2 7 := zT_a (k := 0) (i := 6) zT145_0 rfl
theorem m145_7 : smI 145 7 = rI0 ziI2 8 := zT_a (k := 0) (i := 7) zT145_0 rfl
theorem m145_8 : smI 145 8 = rI0 ziA0 9 := zT_a (k := 0) (i := 8) zT145_0 rfl
theorem m145_9 : smI 145 9 = rI2 (.getfield 7) 12 7 := zT_a (k := 0) (i := 9) zT145_0 rfl
theorem m145_12 : smI 145 12 = rI1 ziC2 13 2 := zT_a (k := 0) (i := 12) zT145_0 rfl
theorem m145_13 : smI 145 13 = rI0 .iaload 14 := zT_a (k := 0) (i := 13) zT145_0 rfl
theorem m145_14 : smI 145 14 = rI2 (.if_icmp .ge 37) 17 51 := zT_a (k := 0) (i := 14) zT145_0 rfl
theorem m145_17 : smI 145 17 = rI0 ziA0 18 := zT_a (k := 0) (i := 17) zT145_0 rfl
theorem m145_18 : smI 145 18 = rI0 ziI2 19 := zT_a (k := 0) (i := 18) zT145_0 rfl
theorem m145_19 : smI 145 19 = rI1 ziC5 20 5 := zT_a (k := 0) (i := 19) zT145_0 rfl
theorem m145_20 : smI 145 20 = rI4 (.invokevirtual 66) 23 20 111 2 := zT_a (k := 0) (i := 20) zT145_0 rfl
theorem m145_23 : smI 145 23 = rI2 (.ifCond .ne 22) 26 45 := zT_a (k := 0) (i := 23) zT145_0 rfl
theorem m145_26 : smI 145 26 = rI0 ziA0 27 := zT_a (k := 0) (i := 26) zT145_0 rfl
theorem m145_27 : smI 145 27 = rI0 ziI2 28 := zT_a (k := 0) (i := 27) zT145_0 rfl
theorem m145_28 : smI 145 28 = rI0 ziI1 29 := zT_a (k := 0) (i := 28) zT145_0 rfl
theorem m145_29 : smI 145 29 = rI0 ziI2 30 := zT_a (k := 0) (i := 29) zT145_0 rfl
theorem m145_30 : smI 145 30 = rI0 .ishr 31 := zT_a (k := 0) (i := 30) zT145_0 rfl
theorem m145_31 : smI 145 31 = rI1 ziC1 32 1 := zT_a (k := 0) (i := 31) zT145_0 rfl
theorem m145_32 : smI 145 32 = rI0 .iand 33 := zT_l (k := 32) (i := 0) zT145_1 rfl
theorem m145_33 : smI 145 33 = rI1 ziC1 34 1 := zT_l (k := 32) (i := 1) zT145_1 rfl
theorem m145_34 : smI 145 34 = rI2 (.if_icmp .ne 7) 37 41 := zT_l (k := 32) (i := 2) zT145_1 rfl
theorem m145_37 : smI 145 37 = rI1 ziC1 38 1 := zT_l (k := 32) (i := 5) zT145_1 rfl
theorem m145_38 : smI 145 38 = rI2 (.goto 4) 41 42 := zT_l (k := 32) (i := 6) zT145_1 rfl
theorem m145_41 : smI 145 41 = rI0 ziC0 42 := zT_l (k := 32) (i := 9) zT145_1 rfl
theorem m145_42 : smI 145 42 = rI4 (.invokevirtual 159) 45 20 144 2 := zT_l (k := 32) (i := 10) zT145_1 rfl
theorem m145_45 : smI 145 45 = rI1 (.iinc 2 1) 48 1 := zT_l (k := 32) (i := 13) zT145_1 rfl
theorem m145_48 : smI 145 48 = rI2 (.goto (-41)) 51 7 := zT_l (k := 32) (i := 16) zT145_1 rfl
theorem m145_51 : smI 145 51 = rI0 ziA0 52 := zT_l (k := 32) (i := 19) zT145_1 rfl
theorem m145_52 : smI 145 52 = rI2 (.getfield 7) 55 7 := zT_l (k := 32) (i := 20) zT145_1 rfl
theorem m145_55 : smI 145 55 = rI0 ziC0 56 := zT_l (k := 32) (i := 23) zT145_1 rfl
theorem m145_56 : smI 145 56 = rI0 .dup2 57 := zT_l (k := 32) (i := 24) zT145_1 rfl
theorem m145_57 : smI 145 57 = rI0 .iaload 58 := zT_l (k := 32) (i := 25) zT145_1 rfl
theorem m145_58 : smI 145 58 = rI1 ziC1 59 1 := zT_l (k := 32) (i := 26) zT145_1 rfl
theorem m145_59 : smI 145 59 = rI0 .iadd 60 := zT_l (k := 32) (i := 27) zT145_1 rfl
theorem m145_60 : smI 145 60 = rI0 .iastore 61 := zT_l (k := 32) (i := 28) zT145_1 rfl
theorem m145_61 : smI 145 61 = rI0 .return_ 62 := zT_l (k := 32) (i := 29) zT145_1 rfl
theorem mx_146 : mMx 146 = 3 := by decide +kernel
theorem cn_146 : mCn 146 = 7 := by decide +kernel
theorem rt_146 : mRt 146 = none := by decide +kernel
theorem tq_146 : allT.getD 146 [] = tb_146 := rfl
theorem m146_0 : smI 146 0 = rI0 ziC0 1 := sm_t tq_146 rfl
theorem m146_1 : smI 146 1 = rI0 ziS2 2 := sm_t tq_146 rfl
theorem m146_2 : smI 146 2 = rI0 ziI2 3 := sm_t tq_146 rfl
theorem m146_3 : smI 146 3 = rI0 ziI1 4 := sm_t tq_146 rfl
theorem m146_4 : smI 146 4 = rI2 (.if_icmp .ge 13) 7 17 := sm_t tq_146 rfl
theorem m146_7 : smI 146 7 = rI0 ziA0 8 := sm_t tq_146 rfl
theorem m146_8 : smI 146 8 = rI4 (.invokevirtual 166) 11 20 145 0 := sm_t tq_146 rfl
theorem m146_11 : smI 146 11 = rI1 (.iinc 2 1) 14 1 := sm_t tq_146 rfl
theorem m146_14 : smI 146 14 = rI2 (.goto (-12)) 17 2 := sm_t tq_146 rfl
theorem m146_17 : smI 146 17 = rI0 .return_ 18 := sm_t tq_146 rfl
theorem mx_147 : mMx 147 = 4 := by decide +kernel
theorem cn_147 : mCn 147 = 7 := by decide +kernel
theorem rt_147 : mRt 147 = (some .int) := by decide +kernel
theorem tq_147 : allT.getD 147 [] = tb_147 := rfl
theorem m147_0 : smI 147 0 = rI0 ziC0 1 := sm_t tq_147 rfl
theorem m147_1 : smI 147 1 = rI0 ziS2 2 := sm_t tq_147 rfl
theorem m147_2 : smI 147 2 = rI0 ziC0 3 := sm_t tq_147 rfl
theorem m147_3 : smI 147 3 = rI0 ziS3 4 := sm_t tq_147 rfl
theorem m147_4 : smI 147 4 = rI0 ziI3 5 := sm_t tq_147 rfl
theorem m147_5 : smI 147 5 = rI0 ziA0 6 := sm_t tq_147 rfl
theorem m147_6 : smI 147 6 = rI2 (.getfield 7) 9 7 := sm_t tq_147 rfl
theorem m147_9 : smI 147 9 = rI1 ziC2 10 2 := sm_t tq_147 rfl
theorem m147_10 : smI 147 10 = rI0 .iaload 11 := sm_t tq_147 rfl
theorem m147_11 : smI 147 11 = rI2 (.if_icmp .ge 18) 14 29 := sm_t tq_147 rfl
theorem m147_14 : smI 147 14 = rI0 ziI2 15 := sm_t tq_147 rfl
theorem m147_15 : smI 147 15 = rI0 ziA0 16 := sm_t tq_147 rfl
theorem m147_16 : smI 147 16 = rI0 ziI3 17 := sm_t tq_147 rfl
theorem m147_17 : smI 147 17 = rI0 ziI1 18 := sm_t tq_147 rfl
theorem m147_18 : smI 147 18 = rI4 (.invokevirtual 66) 21 20 111 2 := sm_t tq_147 rfl
theorem m147_21 : smI 147 21 = rI0 .iadd 22 := sm_t tq_147 rfl
theorem m147_22 : smI 147 22 = rI0 ziS2 23 := sm_t tq_147 rfl
theorem m147_23 : smI 147 23 = rI1 (.iinc 3 1) 26 1 := sm_t tq_147 rfl
theorem m147_26 : smI 147 26 = rI2 (.goto (-22)) 29 4 := sm_t tq_147 rfl
theorem m147_29 : smI 147 29 = rI0 ziI2 30 := sm_t tq_147 rfl
theorem m147_30 : smI 147 30 = rI0 .ireturn 31 := sm_t tq_147 rfl
theorem mx_148 : mMx 148 = 2 := by decide +kernel
theorem cn_148 : mCn 148 = 7 := by decide +kernel
theorem rt_148 : mRt 148 = (some .int) := by decide +kernel
theorem tq_148 : allT.getD 148 [] = tb_148 := rfl
theorem zT148_0 : zT 148 0 (tb_148_0 ++ (tb_148_1)) := zT_0 tq_148
theorem zT148_1 : zT 148 32 (tb_148_1) := zT_s zT148_0 (n := 32) (by decide +kernel) rfl
theorem m148_0 : smI 148 0 = rI0 ziI1 1 := zT_a (k := 0) (i := 0) zT148_0 rfl
theorem m148_1 : smI 148 1 = rI1 ziC1 2 1 := zT_a (k := 0) (i := 1) zT148_0 rfl
theorem m148_2 : smI 148 2 = rI1 (.bipush 60) 4 60 := zT_a (k := 0) (i := 2) zT148_0 rfl
theorem m148_4 : smI 148 4 = rI3 (.invokestatic 44) 7 107 3 := zT_a (k := 0) (i := 4) zT148_0 rfl
theorem m148_7 : smI 148 7 = rI2 (.ifCond .ne 10) 10 17 := zT_a (k := 0) (i := 7) zT148_0 rfl
theorem m148_10 : smI 148 10 = rI0 ziA0 11 := zT_a (k := 0) (i := 10) zT148_0 rfl
theorem m148_11 : smI 148 11 = rI1 (.ldc 52) 13 (-1000000001) := zT_a (k := 0) (i := 11) zT148_0 rfl
theorem m148_13 : smI 148 13 = rI4 (.invokevirtual 53) 16 20 108 1 := zT_a (k := 0) (i := 13) zT148_0 rfl
theorem m148_16 : smI 148 16 = rI0 .ireturn 17 := zT_a (k := 0) (i := 16) zT148_0 rfl
theorem m148_17 : smI 148 17 = rI0 ziA0 18 := zT_a (k := 0) (i := 17) zT148_0 rfl
theorem m148_18 : smI 148 18 = rI2 (.getfield 7) 21 7 := zT_a (k := 0) (i := 18) zT148_0 rfl
theorem m148_21 : smI 148 21 = rI0 ziC0 22 := zT_a (k := 0) (i := 21) zT148_0 rfl
theorem m148_22 : smI 148 22 = rI0 .iaload 23 := zT_a (k := 0) (i := 22) zT148_0 rfl
theorem m148_23 : smI 148 23 = rI0 ziI1 24 := zT_a (k := 0) (i := 23) zT148_0 rfl
theorem m148_24 : smI 148 24 = rI0 .iadd 25 := zT_a (k := 0) (i := 24) zT148_0 rfl
theorem m148_25 : smI 148 25 = rI1 (.sipush 9999) 28 9999 := zT_a (k := 0) (i := 25) zT148_0 rfl
theorem m148_28 : smI 148 28 = rI2 (.if_icmp .le 10) 31 38 := zT_a (k := 0) (i := 28) zT148_0 rfl
theorem m148_31 : smI 148 31 = rI0 ziA0 32 := zT_a (k := 0) (i := 31) zT148_0 rfl
theorem m148_32 : smI 148 32 = rI1 (.ldc 169) 34 (-1000000003) := zT_l (k := 32) (i := 0) zT148_1 rfl
theorem m148_34 : smI 148 34 = rI4 (.invokevirtual 53) 37 20 108 1 := zT_l (k := 32) (i := 2) zT148_1 rfl
theorem m148_37 : smI 148 37 = rI0 .ireturn 38 := zT_l (k := 32) (i := 5) zT148_1 rfl
theorem m148_38 : smI 148 38 = rI0 ziA0 39 := zT_l (k := 32) (i := 6) zT148_1 rfl
theorem m148_39 : smI 148 39 = rI0 ziI1 40 := zT_l (k := 32) (i := 7) zT148_1 rfl
theorem m148_40 : smI 148 40 = rI4 (.invokevirtual 170) 43 20 146 1 := zT_l (k := 32) (i := 8) zT148_1 rfl
theorem m148_43 : smI 148 43 = rI0 ziA0 44 := zT_l (k := 32) (i := 11) zT148_1 rfl
theorem m148_44 : smI 148 44 = rI1 ziC2 45 2 := zT_l (k := 32) (i := 12) zT148_1 rfl
theorem m148_45 : smI 148 45 = rI4 (.invokevirtual 174) 48 20 147 1 := zT_l (k := 32) (i := 13) zT148_1 rfl
theorem m148_48 : smI 148 48 = rI0 .ireturn 49 := zT_l (k := 32) (i := 16) zT148_1 rfl
theorem mx_149 : mMx 149 = 1 := by decide +kernel
theorem cn_149 : mCn 149 = 7 := by decide +kernel
theorem rt_149 : mRt 149 = (some .int) := by decide +kernel
theorem tq_149 : allT.getD 149 [] = tb_149 := rfl
theorem m149_0 : smI 149 0 = rI0 ziA0 1 := sm_t tq_149 rfl
theorem m149_1 : smI 149 1 = rI2 (.getfield 7) 4 7 := sm_t tq_149 rfl
theorem m149_4 : smI 149 4 = rI1 ziC1 5 1 := sm_t tq_149 rfl
theorem m149_5 : smI 149 5 = rI0 ziA0 6 := sm_t tq_149 rfl
theorem m149_6 : smI 149 6 = rI2 (.getfield 7) 9 7 := sm_t tq_149 rfl
theorem m149_9 : smI 149 9 = rI1 ziC1 10 1 := sm_t tq_149 rfl
theorem m149_10 : smI 149 10 = rI0 .iaload 11 := sm_t tq_149 rfl
theorem m149_11 : smI 149 11 = rI1 (.ldc 177) 13 1103515245 := sm_t tq_149 rfl
theorem m149_13 : smI 149 13 = rI0 .imul 14 := sm_t tq_149 rfl
theorem m149_14 : smI 149 14 = rI1 (.sipush 12345) 17 12345 := sm_t tq_149 rfl
theorem m149_17 : smI 149 17 = rI0 .iadd 18 := sm_t tq_149 rfl
theorem m149_18 : smI 149 18 = rI0 .iastore 19 := sm_t tq_149 rfl
theorem m149_19 : smI 149 19 = rI0 ziA0 20 := sm_t tq_149 rfl
theorem m149_20 : smI 149 20 = rI2 (.getfield 7) 23 7 := sm_t tq_149 rfl
theorem m149_23 : smI 149 23 = rI1 ziC1 24 1 := sm_t tq_149 rfl
theorem m149_24 : smI 149 24 = rI0 .iaload 25 := sm_t tq_149 rfl
theorem m149_25 : smI 149 25 = rI1 (.bipush 8) 27 8 := sm_t tq_149 rfl
theorem m149_27 : smI 149 27 = rI0 .iushr 28 := sm_t tq_149 rfl
theorem m149_28 : smI 149 28 = rI0 .ireturn 29 := sm_t tq_149 rfl
theorem mx_150 : mMx 150 = 4 := by decide +kernel
theorem cn_150 : mCn 150 = 7 := by decide +kernel
theorem rt_150 : mRt 150 = (some .int) := by decide +kernel
theorem tq_150 : allT.getD 150 [] = tb_150 := rfl
theorem zT150_0 : zT 150 0 (tb_150_0 ++ (tb_150_1 ++ (tb_150_2))) := zT_0 tq_150
theorem zT150_1 : zT 150 32 (tb_150_1 ++ (tb_150_2)) := zT_s zT150_0 (n := 32) (by decide +kernel) rfl
theorem zT150_2 : zT 150 64 (tb_150_2) := zT_s zT150_1 (n := 32) (by decide +kernel) rfl
theorem m150_0 : smI 150 0 = rI0 ziI1 1 := zT_a (k := 0) (i := 0) zT150_0 rfl
theorem m150_1 : smI 150 1 = rI1 ziC1 2 1 := zT_a (k := 0) (i := 1) zT150_0 rfl
theorem m150_2 : smI 150 2 = rI1 (.bipush 40) 4 40 := zT_a (k := 0) (i := 2) zT150_0 rfl
theorem m150_4 : smI 150 4 = rI3 (.invokestatic 44) 7 107 3 := zT_a (k := 0) (i := 4) zT150_0 rfl
theorem m150_7 : smI 150 7 = rI2 (.ifCond .ne 10) 10 17 := zT_a (k := 0) (i := 7) zT150_0 rfl
theorem m150_10 : smI 150 10 = rI0 ziA0 11 := zT_a (k := 0) (i := 10) zT150_0 rfl
theorem m150_11 : smI 150 11 = rI1 (.ldc 52) 13 (-1000000001) := zT_a (k := 0) (i := 11) zT150_0 rfl
theorem m150_13 : smI 150 13 = rI4 (.invokevirtual 53) 16 20 108 1 := zT_a (k := 0) (i := 13) zT150_0 rfl
theorem m150_16 : smI 150 16 = rI0 .ireturn 17 := zT_a (k := 0) (i := 16) zT150_0 rfl
theorem m150_17 : smI 150 17 = rI0 ziA0 18 := zT_a (k := 0) (i := 17) zT150_0 rfl
theorem m150_18 : smI 150 18 = rI2 (.getfield 7) 21 7 := zT_a (k := 0) (i := 18) zT150_0 rfl
theorem m150_21 : smI 150 21 = rI0 ziC0 22 := zT_a (k := 0) (i := 21) zT150_0 rfl
theorem m150_22 : smI 150 22 = rI0 .iaload 23 := zT_a (k := 0) (i := 22) zT150_0 rfl
theorem m150_23 : smI 150 23 = rI0 ziI1 24 := zT_a (k := 0) (i := 23) zT150_0 rfl
theorem m150_24 : smI 150 24 = rI0 .iadd 25 := zT_a (k := 0) (i := 24) zT150_0 rfl
theorem m150_25 : smI 150 25 = rI1 (.sipush 9999) 28 9999 := zT_a (k := 0) (i := 25) zT150_0 rfl
theorem m150_28 : smI 150 28 = rI2 (.if_icmp .le 10) 31 38 := zT_a (k := 0) (i := 28) zT150_0 rfl
theorem m150_31 : smI 150 31 = rI0 ziA0 32 := zT_a (k := 0) (i := 31) zT150_0 rfl
theorem m150_32 : smI 150 32 = rI1 (.ldc 169) 34 (-1000000003) := zT_a (k := 32) (i := 0) zT150_1 rfl
theorem m150_34 : smI 150 34 = rI4 (.invokevirtual 53) 37 20 108 1 := zT_a (k := 32) (i := 2) zT150_1 rfl
theorem m150_37 : smI 150 37 = rI0 .ireturn 38 := zT_a (k := 32) (i := 5) zT150_1 rfl
theorem m150_38 : smI 150 38 = rI0 ziC0 39 := zT_a (k := 32) (i := 6) zT150_1 rfl
theorem m150_39 : smI 150 39 = rI0 ziS2 40 := zT_a (k := 32) (i := 7) zT150_1 rfl
theorem m150_40 : smI 150 40 = rI0 ziI2 41 := zT_a (k := 32) (i := 8) zT150_1 rfl
theorem m150_41 : smI 150 41 = rI0 ziI1 42 := zT_a (k := 32) (i := 9) zT150_1 rfl
theorem m150_42 : smI 150 42 = rI2 (.if_icmp .ge 47) 45 89 := zT_a (k := 32) (i := 10) zT150_1 rfl
theorem m150_45 : smI 150 45 = rI0 ziA0 46 := zT_a (k := 32) (i := 13) zT150_1 rfl
theorem m150_46 : smI 150 46 = rI4 (.invokevirtual 178) 49 20 149 0 := zT_a (k := 32) (i := 14) zT150_1 rfl
theorem m150_49 : smI 150 49 = rI0 ziS3 50 := zT_a (k := 32) (i := 17) zT150_1 rfl
theorem m150_50 : smI 150 50 = rI0 ziA0 51 := zT_a (k := 32) (i := 18) zT150_1 rfl
theorem m150_51 : smI 150 51 = rI2 (.getfield 7) 54 7 := zT_a (k := 32) (i := 19) zT150_1 rfl
theorem m150_54 : smI 150 54 = rI1 ziC2 55 2 := zT_a (k := 32) (i := 22) zT150_1 rfl
theorem m150_55 : smI 150 55 = rI0 .iaload 56 := zT_a (k := 32) (i := 23) zT150_1 rfl
theorem m150_56 : smI 150 56 = rI2 (.ifCond .le 23) 59 79 := zT_a (k := 32) (i := 24) zT150_1 rfl
theorem m150_59 : smI 150 59 = rI0 ziA0 60 := zT_a (k := 32) (i := 27) zT150_1 rfl
theorem m150_60 : smI 150 60 = rI0 ziI3 61 := zT_a (k := 32) (i := 28) zT150_1 rfl
theorem m150_61 : smI 150 61 = rI0 ziA0 62 := zT_a (k := 32) (i := 29) zT150_1 rfl
theorem m150_62 : smI 150 62 = rI2 (.getfield 7) 65 7 := zT_a (k := 32) (i := 30) zT150_1 rfl
theorem m150_65 : smI 150 65 = rI1 ziC2 66 2 := zT_l (k := 64) (i := 1) zT150_2 rfl
theorem m150_66 : smI 150 66 = rI0 .iaload 67 := zT_l (k := 64) (i := 2) zT150_2 rfl
theorem m150_67 : smI 150 67 = rI0 .irem 68 := zT_l (k := 64) (i := 3) zT150_2 rfl
theorem m150_68 : smI 150 68 = rI1 ziC3 69 3 := zT_l (k := 64) (i := 4) zT150_2 rfl
theorem m150_69 : smI 150 69 = rI0 ziI3 70 := zT_l (k := 64) (i := 5) zT150_2 rfl
theorem m150_70 : smI 150 70 = rI1 (.bipush 8) 72 8 := zT_l (k := 64) (i := 6) zT150_2 rfl
theorem m150_72 : smI 150 72 = rI0 .idiv 73 := zT_l (k := 64) (i := 8) zT150_2 rfl
theorem m150_73 : smI 150 73 = rI1 (.bipush 10) 75 10 := zT_l (k := 64) (i := 9) zT150_2 rfl
theorem m150_75 : smI 150 75 = rI0 .irem 76 := zT_l (k := 64) (i := 11) zT150_2 rfl
theorem m150_76 : smI 150 76 = rI4 (.invokevirtual 58) 79 20 112 3 := zT_l (k := 64) (i := 12) zT150_2 rfl
theorem m150_79 : smI 150 79 = rI0 ziA0 80 := zT_l (k := 64) (i := 15) zT150_2 rfl
theorem m150_80 : smI 150 80 = rI4 (.invokevirtual 166) 83 20 145 0 := zT_l (k := 64) (i := 16) zT150_2 rfl
theorem m150_83 : smI 150 83 = rI1 (.iinc 2 1) 86 1 := zT_l (k := 64) (i := 19) zT150_2 rfl
theorem m150_86 : smI 150 86 = rI2 (.goto (-46)) 89 40 := zT_l (k := 64) (i := 22) zT150_2 rfl
theorem m150_89 : smI 150 89 = rI0 ziA0 90 := zT_l (k := 64) (i := 25) zT150_2 rfl
theorem m150_90 : smI 150 90 = rI1 ziC2 91 2 := zT_l (k := 64) (i := 26) zT150_2 rfl
theorem m150_91 : smI 150 91 = rI4 (.invokevirtual 174) 94 20 147 1 := zT_l (k := 64) (i := 27) zT150_2 rfl
theorem m150_94 : smI 150 94 = rI0 .ireturn 95 := zT_l (k := 64) (i := 30) zT150_2 rfl
theorem mx_151 : mMx 151 = 1 := by decide +kernel
theorem cn_151 : mCn 151 = 7 := by decide +kernel
theorem rt_151 : mRt 151 = (some .int) := by decide +kernel
theorem tq_151 : allT.getD 151 [] = tb_151 := rfl
theorem m151_0 : smI 151 0 = rI0 ziA0 1 := sm_t tq_151 rfl
theorem m151_1 : smI 151 1 = rI4 (.invokevirtual 156) 4 20 143 0 := sm_t tq_151 rfl
theorem m151_4 : smI 151 4 = rI0 .ireturn 5 := sm_t tq_151 rfl
theorem mx_152 : mMx 152 = 5 := by decide +kernel
theorem cn_152 : mCn 152 = 7 := by decide +kernel
theorem rt_152 : mRt 152 = (some .int) := by decide +kernel
theorem tq_152 : allT.getD 152 [] = tb_152 := rfl
theorem zT152_0 : zT 152 0 (tb_152_0 ++ (tb_152_1 ++ (tb_152_2))) := zT_0 tq_152
theorem zT152_1 : zT 152 32 (tb_152_1 ++ (tb_152_2)) := zT_s zT152_0 (n := 32) (by decide +kernel) rfl
theorem zT152_2 : zT 152 64 (tb_152_2) := zT_s zT152_1 (n := 32) (by decide +kernel) rfl
theorem m152_0 : smI 152 0 = rI0 ziI1 1 := zT_a (k := 0) (i := 0) zT152_0 rfl
theorem m152_1 : smI 152 1 = rI0 ziC0 2 := zT_a (k := 0) (i := 1) zT152_0 rfl
theorem m152_2 : smI 152 2 = rI1 (.bipush 60) 4 60 := zT_a (k := 0) (i := 2) zT152_0 rfl
theorem m152_4 : smI 152 4 = rI3 (.invokestatic 44) 7 107 3 := zT_a (k := 0) (i := 4) zT152_0 rfl
theorem m152_7 : smI 152 7 = rI2 (.ifCond .eq 20) 10 27 := zT_a (k := 0) (i := 7) zT152_0 rfl
theorem m152_10 : smI 152 10 = rI0 ziA0 11 := zT_a (k := 0) (i := 10) zT152_0 rfl
theorem m152_11 : smI 152 11 = rI0 ziI2 12 := zT_a (k := 0) (i := 11) zT152_0 rfl
theorem m152_12 : smI 152 12 = rI4 (.invokevirtual 62) 15 20 113 1 := zT_a (k := 0) (i := 12) zT152_0 rfl
theorem m152_15 : smI 152 15 = rI2 (.ifCond .eq 12) 18 27 := zT_a (k := 0) (i := 15) zT152_0 rfl
theorem m152_18 : smI 152 18 = rI0 ziI3 19 := zT_a (k := 0) (i := 18) zT152_0 rfl
theorem m152_19 : smI 152 19 = rI0 ziC0 20 := zT_a (k := 0) (i := 19) zT152_0 rfl
theorem m152_20 : smI 152 20 = rI1 ziC2 21 2 := zT_a (k := 0) (i := 20) zT152_0 rfl
theorem m152_21 : smI 152 21 = rI3 (.invokestatic 44) 24 107 3 := zT_a (k := 0) (i := 21) zT152_0 rfl
theorem m152_24 : smI 152 24 = rI2 (.ifCond .ne 10) 27 34 := zT_a (k := 0) (i := 24) zT152_0 rfl
theorem m152_27 : smI 152 27 = rI0 ziA0 28 := zT_a (k := 0) (i := 27) zT152_0 rfl
theorem m152_28 : smI 152 28 = rI1 (.ldc 52) 30 (-1000000001) := zT_a (k := 0) (i := 28) zT152_0 rfl
theorem m152_30 : smI 152 30 = rI4 (.invokevirtual 53) 33 20 108 1 := zT_a (k := 0) (i := 30) zT152_0 rfl
theorem m152_33 : smI 152 33 = rI0 .ireturn 34 := zT_a (k := 32) (i := 1) zT152_1 rfl
theorem m152_34 : smI 152 34 = rI0 ziA0 35 := zT_a (k := 32) (i := 2) zT152_1 rfl
theorem m152_35 : smI 152 35 = rI0 ziA0 36 := zT_a (k := 32) (i := 3) zT152_1 rfl
theorem m152_36 : smI 152 36 = rI2 (.getfield 7) 39 7 := zT_a (k := 32) (i := 4) zT152_1 rfl
theorem m152_39 : smI 152 39 = rI0 ziA0 40 := zT_a (k := 32) (i := 7) zT152_1 rfl
theorem m152_40 : smI 152 40 = rI3 (.getfield 16) 43 7 2 := zT_a (k := 32) (i := 8) zT152_1 rfl
theorem m152_43 : smI 152 43 = rI4 (.invokevirtual 149) 46 20 110 2 := zT_a (k := 32) (i := 11) zT152_1 rfl
theorem m152_46 : smI 152 46 = rI0 ziA0 47 := zT_a (k := 32) (i := 14) zT152_1 rfl
theorem m152_47 : smI 152 47 = rI0 ziI1 48 := zT_a (k := 32) (i := 15) zT152_1 rfl
theorem m152_48 : smI 152 48 = rI4 (.invokevirtual 170) 51 20 146 1 := zT_a (k := 32) (i := 16) zT152_1 rfl
theorem m152_51 : smI 152 51 = rI0 ziA0 52 := zT_a (k := 32) (i := 19) zT152_1 rfl
theorem m152_52 : smI 152 52 = rI0 ziI2 53 := zT_a (k := 32) (i := 20) zT152_1 rfl
theorem m152_53 : smI 152 53 = rI0 ziI3 54 := zT_a (k := 32) (i := 21) zT152_1 rfl
theorem m152_54 : smI 152 54 = rI2 (.ifCond .ne 7) 57 61 := zT_a (k := 32) (i := 22) zT152_1 rfl
theorem m152_57 : smI 152 57 = rI1 ziC2 58 2 := zT_a (k := 32) (i := 25) zT152_1 rfl
theorem m152_58 : smI 152 58 = rI2 (.goto 13) 61 71 := zT_a (k := 32) (i := 26) zT152_1 rfl
theorem m152_61 : smI 152 61 = rI0 ziI3 62 := zT_a (k := 32) (i := 29) zT152_1 rfl
theorem m152_62 : smI 152 62 = rI1 ziC1 63 1 := zT_a (k := 32) (i := 30) zT152_1 rfl
theorem m152_63 : smI 152 63 = rI2 (.if_icmp .ne 7) 66 70 := zT_a (k := 32) (i := 31) zT152_1 rfl
theorem m152_66 : smI 152 66 = rI1 ziC4 67 4 := zT_l (k := 64) (i := 2) zT152_2 rfl
theorem m152_67 : smI 152 67 = rI2 (.goto 4) 70 71 := zT_l (k := 64) (i := 3) zT152_2 rfl
theorem m152_70 : smI 152 70 = rI1 ziC5 71 5 := zT_l (k := 64) (i := 6) zT152_2 rfl
theorem m152_71 : smI 152 71 = rI4 (.invokevirtual 66) 74 20 111 2 := zT_l (k := 64) (i := 7) zT152_2 rfl
theorem m152_74 : smI 152 74 = rI0 (.istore 4) 76 := zT_l (k := 64) (i := 10) zT152_2 rfl
theorem m152_76 : smI 152 76 = rI0 ziA0 77 := zT_l (k := 64) (i := 12) zT152_2 rfl
theorem m152_77 : smI 152 77 = rI0 ziA0 78 := zT_l (k := 64) (i := 13) zT152_2 rfl
theorem m152_78 : smI 152 78 = rI3 (.getfield 16) 81 7 2 := zT_l (k := 64) (i := 14) zT152_2 rfl
theorem m152_81 : smI 152 81 = rI0 ziA0 82 := zT_l (k := 64) (i := 17) zT152_2 rfl
theorem m152_82 : smI 152 82 = rI2 (.getfield 7) 85 7 := zT_l (k := 64) (i := 18) zT152_2 rfl
theorem m152_85 : smI 152 85 = rI4 (.invokevirtual 149) 88 20 110 2 := zT_l (k := 64) (i := 21) zT152_2 rfl
theorem m152_88 : smI 152 88 = rI0 (.iload 4) 90 := zT_l (k := 64) (i := 24) zT152_2 rfl
theorem m152_90 : smI 152 90 = rI0 .ireturn 91 := zT_l (k := 64) (i := 26) zT152_2 rfl
theorem mx_153 : mMx 153 = 4 := by decide +kernel
theorem cn_153 : mCn 153 = 7 := by decide +kernel
theorem rt_153 : mRt 153 = (some .int) := by decide +kernel
theorem tq_153 : allT.getD 153 [] = tb_153 := rfl
theorem zT153_0 : zT 153 0 (tb_153_0 ++ (tb_153_1 ++ (tb_153_2))) := zT_0 tq_153
theorem zT153_1 : zT 153 32 (tb_153_1 ++ (tb_153_2)) := zT_s zT153_0 (n := 32) (by decide +kernel) rfl
theorem zT153_2 : zT 153 64 (tb_153_2) := zT_s zT153_1 (n := 32) (by decide +kernel) rfl
theorem m153_0 : smI 153 0 = rI0 ziA0 1 := zT_a (k := 0) (i := 0) zT153_0 rfl
theorem m153_1 : smI 153 1 = rI0 ziI1 2 := zT_a (k := 0) (i := 1) zT153_0 rfl
theorem m153_2 : smI 153 2 = rI4 (.invokevirtual 62) 5 20 113 1 := zT_a (k := 0) (i := 2) zT153_0 rfl
theorem m153_5 : smI 153 5 = rI2 (.ifCond .ne 10) 8 15 := zT_a (k := 0) (i := 5) zT153_0 rfl
theorem m153_8 : smI 153 8 = rI0 ziA0 9 := zT_a (k := 0) (i := 8) zT153_0 rfl
theorem m153_9 : smI 153 9 = rI1 (.ldc 52) 11 (-1000000001) := zT_a (k := 0) (i := 9) zT153_0 rfl
theorem m153_11 : smI 153 11 = rI4 (.invokevirtual 53) 14 20 108 1 := zT_a (k := 0) (i := 11) zT153_0 rfl
theorem m153_14 : smI 153 14 = rI0 .ireturn 15 := zT_a (k := 0) (i := 14) zT153_0 rfl
theorem m153_15 : smI 153 15 = rI0 ziA0 16 := zT_a (k := 0) (i := 15) zT153_0 rfl
theorem m153_16 : smI 153 16 = rI0 ziI1 17 := zT_a (k := 0) (i := 16) zT153_0 rfl
theorem m153_17 : smI 153 17 = rI1 ziC4 18 4 := zT_a (k := 0) (i := 17) zT153_0 rfl
theorem m153_18 : smI 153 18 = rI4 (.invokevirtual 66) 21 20 111 2 := zT_a (k := 0) (i := 18) zT153_0 rfl
theorem m153_21 : smI 153 21 = rI0 ziS2 22 := zT_a (k := 0) (i := 21) zT153_0 rfl
theorem m153_22 : smI 153 22 = rI0 ziA0 23 := zT_a (k := 0) (i := 22) zT153_0 rfl
theorem m153_23 : smI 153 23 = rI0 ziA0 24 := zT_a (k := 0) (i := 23) zT153_0 rfl
theorem m153_24 : smI 153 24 = rI2 (.getfield 7) 27 7 := zT_a (k := 0) (i := 24) zT153_0 rfl
theorem m153_27 : smI 153 27 = rI0 ziA0 28 := zT_a (k := 0) (i := 27) zT153_0 rfl
theorem m153_28 : smI 153 28 = rI3 (.getfield 16) 31 7 2 := zT_a (k := 0) (i := 28) zT153_0 rfl
theorem m153_31 : smI 153 31 = rI4 (.invokevirtual 149) 34 20 110 2 := zT_a (k := 0) (i := 31) zT153_0 rfl
theorem m153_34 : smI 153 34 = rI0 ziC0 35 := zT_a (k := 32) (i := 2) zT153_1 rfl
theorem m153_35 : smI 153 35 = rI0 ziS3 36 := zT_a (k := 32) (i := 3) zT153_1 rfl
theorem m153_36 : smI 153 36 = rI0 ziI3 37 := zT_a (k := 32) (i := 4) zT153_1 rfl
theorem m153_37 : smI 153 37 = rI1 (.bipush 60) 39 60 := zT_a (k := 32) (i := 5) zT153_1 rfl
theorem m153_39 : smI 153 39 = rI2 (.if_icmp .gt 23) 42 62 := zT_a (k := 32) (i := 7) zT153_1 rfl
theorem m153_42 : smI 153 42 = rI0 ziA0 43 := zT_a (k := 32) (i := 10) zT153_1 rfl
theorem m153_43 : smI 153 43 = rI0 ziI1 44 := zT_a (k := 32) (i := 11) zT153_1 rfl
theorem m153_44 : smI 153 44 = rI1 ziC4 45 4 := zT_a (k := 32) (i := 12) zT153_1 rfl
theorem m153_45 : smI 153 45 = rI4 (.invokevirtual 66) 48 20 111 2 := zT_a (k := 32) (i := 13) zT153_1 rfl
theorem m153_48 : smI 153 48 = rI0 ziI2 49 := zT_a (k := 32) (i := 16) zT153_1 rfl
theorem m153_49 : smI 153 49 = rI2 (.if_icmp .ne 13) 52 62 := zT_a (k := 32) (i := 17) zT153_1 rfl
theorem m153_52 : smI 153 52 = rI0 ziA0 53 := zT_a (k := 32) (i := 20) zT153_1 rfl
theorem m153_53 : smI 153 53 = rI4 (.invokevirtual 166) 56 20 145 0 := zT_a (k := 32) (i := 21) zT153_1 rfl
theorem m153_56 : smI 153 56 = rI1 (.iinc 3 1) 59 1 := zT_a (k := 32) (i := 24) zT153_1 rfl
theorem m153_59 : smI 153 59 = rI2 (.goto (-23)) 62 36 := zT_a (k := 32) (i := 27) zT153_1 rfl
theorem m153_62 : smI 153 62 = rI0 ziA0 63 := zT_a (k := 32) (i := 30) zT153_1 rfl
theorem m153_63 : smI 153 63 = rI0 ziA0 64 := zT_a (k := 32) (i := 31) zT153_1 rfl
theorem m153_64 : smI 153 64 = rI3 (.getfield 16) 67 7 2 := zT_l (k := 64) (i := 0) zT153_2 rfl
theorem m153_67 : smI 153 67 = rI0 ziA0 68 := zT_l (k := 64) (i := 3) zT153_2 rfl
theorem m153_68 : smI 153 68 = rI2 (.getfield 7) 71 7 := zT_l (k := 64) (i := 4) zT153_2 rfl
theorem m153_71 : smI 153 71 = rI4 (.invokevirtual 149) 74 20 110 2 := zT_l (k := 64) (i := 7) zT153_2 rfl
theorem m153_74 : smI 153 74 = rI0 ziI3 75 := zT_l (k := 64) (i := 10) zT153_2 rfl
theorem m153_75 : smI 153 75 = rI1 (.bipush 60) 77 60 := zT_l (k := 64) (i := 11) zT153_2 rfl
theorem m153_77 : smI 153 77 = rI2 (.if_icmp .le 12) 80 89 := zT_l (k := 64) (i := 13) zT153_2 rfl
theorem m153_80 : smI 153 80 = rI0 ziA0 81 := zT_l (k := 64) (i := 16) zT153_2 rfl
theorem m153_81 : smI 153 81 = rI1 (.ldc 181) 83 (-1000000002) := zT_l (k := 64) (i := 17) zT153_2 rfl
theorem m153_83 : smI 153 83 = rI4 (.invokevirtual 53) 86 20 108 1 := zT_l (k := 64) (i := 19) zT153_2 rfl
theorem m153_86 : smI 153 86 = rI2 (.goto 4) 89 90 := zT_l (k := 64) (i := 22) zT153_2 rfl
theorem m153_89 : smI 153 89 = rI0 ziI3 90 := zT_l (k := 64) (i := 25) zT153_2 rfl
theorem m153_90 : smI 153 90 = rI0 .ireturn 91 := zT_l (k := 64) (i := 26) zT153_2 rfl
theorem mx_154 : mMx 154 = 4 := by decide +kernel
theorem cn_154 : mCn 154 = 7 := by decide +kernel
theorem rt_154 : mRt 154 = (some .int) := by decide +kernel
theorem tq_154 : allT.getD 154 [] = tb_154 := rfl
theorem zT154_0 : zT 154 0 (tb_154_0 ++ (tb_154_1)) := zT_0 tq_154
theorem zT154_1 : zT 154 32 (tb_154_1) := zT_s zT154_0 (n := 32) (by decide +kernel) rfl
theorem m154_0 : smI 154 0 = rI0 ziC0 1 := zT_a (k := 0) (i := 0) zT154_0 rfl
theorem m154_1 : smI 154 1 = rI0 ziS2 2 := zT_a (k := 0) (i := 1) zT154_0 rfl
theorem m154_2 : smI 154 2 = rI0 ziC0 3 := zT_a (k := 0) (i := 2) zT154_0 rfl
theorem m154_3 : smI 154 3 = rI0 ziS3 4 := zT_a (k := 0) (i := 3) zT154_0 rfl
theorem m154_4 : smI 154 4 = rI0 ziI3 5 := zT_a (k := 0) (i := 4) zT154_0 rfl
theorem m154_5 : smI 154 5 = rI0 ziA0 6 := zT_a (k := 0) (i := 5) zT154_0 rfl
theorem m154_6 : smI 154 6 = rI2 (.getfield 7) 9 7 := zT_a (k := 0) (i := 6) zT154_0 rfl
theorem m154_9 : smI 154 9 = rI1 ziC2 10 2 := zT_a (k := 0) (i := 9) zT154_0 rfl
theorem m154_10 : smI 154 10 = rI0 .iaload 11 := zT_a (k := 0) (i := 10) zT154_0 rfl
theorem m154_11 : smI 154 11 = rI2 (.if_icmp .ge 39) 14 50 := zT_a (k := 0) (i := 11) zT154_0 rfl
theorem m154_14 : smI 154 14 = rI0 ziI2 15 := zT_a (k := 0) (i := 14) zT154_0 rfl
theorem m154_15 : smI 154 15 = rI0 ziA0 16 := zT_a (k := 0) (i := 15) zT154_0 rfl
theorem m154_16 : smI 154 16 = rI0 ziI3 17 := zT_a (k := 0) (i := 16) zT154_0 rfl
theorem m154_17 : smI 154 17 = rI1 ziC4 18 4 := zT_a (k := 0) (i := 17) zT154_0 rfl
theorem m154_18 : smI 154 18 = rI4 (.invokevirtual 66) 21 20 111 2 := zT_a (k := 0) (i := 18) zT154_0 rfl
theorem m154_21 : smI 154 21 = rI0 ziA1 22 := zT_a (k := 0) (i := 21) zT154_0 rfl
theorem m154_22 : smI 154 22 = rI1 (.bipush 16) 24 16 := zT_a (k := 0) (i := 22) zT154_0 rfl
theorem m154_24 : smI 154 24 = rI1 (.bipush 6) 26 6 := zT_a (k := 0) (i := 24) zT154_0 rfl
theorem m154_26 : smI 154 26 = rI0 ziI3 27 := zT_a (k := 0) (i := 26) zT154_0 rfl
theorem m154_27 : smI 154 27 = rI0 .imul 28 := zT_a (k := 0) (i := 27) zT154_0 rfl
theorem m154_28 : smI 154 28 = rI0 .iadd 29 := zT_a (k := 0) (i := 28) zT154_0 rfl
theorem m154_29 : smI 154 29 = rI1 ziC4 30 4 := zT_a (k := 0) (i := 29) zT154_0 rfl
theorem m154_30 : smI 154 30 = rI0 .iadd 31 := zT_a (k := 0) (i := 30) zT154_0 rfl
theorem m154_31 : smI 154 31 = rI0 .iaload 32 := zT_a (k := 0) (i := 31) zT154_0 rfl
theorem m154_32 : smI 154 32 = rI2 (.if_icmp .le 9) 35 41 := zT_l (k := 32) (i := 0) zT154_1 rfl
theorem m154_35 : smI 154 35 = rI1 ziC1 36 1 := zT_l (k := 32) (i := 3) zT154_1 rfl
theorem m154_36 : smI 154 36 = rI0 ziI3 37 := zT_l (k := 32) (i := 4) zT154_1 rfl
theorem m154_37 : smI 154 37 = rI0 .ishl 38 := zT_l (k := 32) (i := 5) zT154_1 rfl
theorem m154_38 : smI 154 38 = rI2 (.goto 4) 41 42 := zT_l (k := 32) (i := 6) zT154_1 rfl
theorem m154_41 : smI 154 41 = rI0 ziC0 42 := zT_l (k := 32) (i := 9) zT154_1 rfl
theorem m154_42 : smI 154 42 = rI0 .ior 43 := zT_l (k := 32) (i := 10) zT154_1 rfl
theorem m154_43 : smI 154 43 = rI0 ziS2 44 := zT_l (k := 32) (i := 11) zT154_1 rfl
theorem m154_44 : smI 154 44 = rI1 (.iinc 3 1) 47 1 := zT_l (k := 32) (i := 12) zT154_1 rfl
theorem m154_47 : smI 154 47 = rI2 (.goto (-43)) 50 4 := zT_l (k := 32) (i := 15) zT154_1 rfl
theorem m154_50 : smI 154 50 = rI0 ziI2 51 := zT_l (k := 32) (i := 18) zT154_1 rfl
theorem m154_51 : smI 154 51 = rI0 .ireturn 52 := zT_l (k := 32) (i := 19) zT154_1 rfl
theorem mx_155 : mMx 155 = 5 := by decide +kernel
theorem cn_155 : mCn 155 = 7 := by decide +kernel
theorem rt_155 : mRt 155 = (some .int) := by decide +kernel
theorem tq_155 : allT.getD 155 [] = tb_155 := rfl
theorem zT155_0 : zT 155 0 (tb_155_0 ++ (tb_155_1 ++ (tb_155_2))) := zT_0 tq_155
theorem zT155_1 : zT 155 32 (tb_155_1 ++ (tb_155_2)) := zT_s zT155_0 (n := 32) (by decide +kernel) rfl
theorem zT155_2 : zT 155 64 (tb_155_2) := zT_s zT155_1 (n := 32) (by decide +kernel) rfl
theorem m155_0 : smI 155 0 = rI0 ziA0 1 := zT_a (k := 0) (i := 0) zT155_0 rfl
theorem m155_1 : smI 155 1 = rI0 ziA0 2 := zT_a (k := 0) (i := 1) zT155_0 rfl
theorem m155_2 : smI 155 2 = rI2 (.getfield 7) 5 7 := zT_a (k := 0) (i := 2) zT155_0 rfl
theorem m155_5 : smI 155 5 = rI0 ziA0 6 := zT_a (k := 0) (i := 5) zT155_0 rfl
theorem m155_6 : smI 155 6 = rI3 (.getfield 16) 9 7 2 := zT_a (k := 0) (i := 6) zT155_0 rfl
theorem m155_9 : smI 155 9 = rI4 (.invokevirtual 149) 12 20 110 2 := zT_a (k := 0) (i := 9) zT155_0 rfl
theorem m155_12 : smI 155 12 = rI0 ziC0 13 := zT_a (k := 0) (i := 12) zT155_0 rfl
theorem m155_13 : smI 155 13 = rI0 (.istore 4) 15 := zT_a (k := 0) (i := 13) zT155_0 rfl
theorem m155_15 : smI 155 15 = rI0 (.iload 4) 17 := zT_a (k := 0) (i := 15) zT155_0 rfl
theorem m155_17 : smI 155 17 = rI0 ziA0 18 := zT_a (k := 0) (i := 17) zT155_0 rfl
theorem m155_18 : smI 155 18 = rI2 (.getfield 7) 21 7 := zT_a (k := 0) (i := 18) zT155_0 rfl
theorem m155_21 : smI 155 21 = rI1 ziC2 22 2 := zT_a (k := 0) (i := 21) zT155_0 rfl
theorem m155_22 : smI 155 22 = rI0 .iaload 23 := zT_a (k := 0) (i := 22) zT155_0 rfl
theorem m155_23 : smI 155 23 = rI2 (.if_icmp .ge 41) 26 64 := zT_a (k := 0) (i := 23) zT155_0 rfl
theorem m155_26 : smI 155 26 = rI0 ziA0 27 := zT_a (k := 0) (i := 26) zT155_0 rfl
theorem m155_27 : smI 155 27 = rI0 (.iload 4) 29 := zT_a (k := 0) (i := 27) zT155_0 rfl
theorem m155_29 : smI 155 29 = rI1 ziC3 30 3 := zT_a (k := 0) (i := 29) zT155_0 rfl
theorem m155_30 : smI 155 30 = rI0 ziI2 31 := zT_a (k := 0) (i := 30) zT155_0 rfl
theorem m155_31 : smI 155 31 = rI2 (.ifCond .lt 17) 34 48 := zT_a (k := 0) (i := 31) zT155_0 rfl
theorem m155_34 : smI 155 34 = rI0 ziI1 35 := zT_a (k := 32) (i := 2) zT155_1 rfl
theorem m155_35 : smI 155 35 = rI0 (.iload 4) 37 := zT_a (k := 32) (i := 3) zT155_1 rfl
theorem m155_37 : smI 155 37 = rI0 .ishr 38 := zT_a (k := 32) (i := 5) zT155_1 rfl
theorem m155_38 : smI 155 38 = rI1 ziC1 39 1 := zT_a (k := 32) (i := 6) zT155_1 rfl
theorem m155_39 : smI 155 39 = rI0 .iand 40 := zT_a (k := 32) (i := 7) zT155_1 rfl
theorem m155_40 : smI 155 40 = rI1 ziC1 41 1 := zT_a (k := 32) (i := 8) zT155_1 rfl
theorem m155_41 : smI 155 41 = rI2 (.if_icmp .ne 7) 44 48 := zT_a (k := 32) (i := 9) zT155_1 rfl
theorem m155_44 : smI 155 44 = rI0 ziI2 45 := zT_a (k := 32) (i := 12) zT155_1 rfl
theorem m155_45 : smI 155 45 = rI2 (.goto 10) 48 55 := zT_a (k := 32) (i := 13) zT155_1 rfl
theorem m155_48 : smI 155 48 = rI0 ziA0 49 := zT_a (k := 32) (i := 16) zT155_1 rfl
theorem m155_49 : smI 155 49 = rI0 (.iload 4) 51 := zT_a (k := 32) (i := 17) zT155_1 rfl
theorem m155_51 : smI 155 51 = rI1 ziC3 52 3 := zT_a (k := 32) (i := 19) zT155_1 rfl
theorem m155_52 : smI 155 52 = rI4 (.invokevirtual 66) 55 20 111 2 := zT_a (k := 32) (i := 20) zT155_1 rfl
theorem m155_55 : smI 155 55 = rI4 (.invokevirtual 58) 58 20 112 3 := zT_a (k := 32) (i := 23) zT155_1 rfl
theorem m155_58 : smI 155 58 = rI1 (.iinc 4 1) 61 1 := zT_a (k := 32) (i := 26) zT155_1 rfl
theorem m155_61 : smI 155 61 = rI2 (.goto (-46)) 64 15 := zT_a (k := 32) (i := 29) zT155_1 rfl
theorem m155_64 : smI 155 64 = rI0 ziA0 65 := zT_l (k := 64) (i := 0) zT155_2 rfl
theorem m155_65 : smI 155 65 = rI0 ziI3 66 := zT_l (k := 64) (i := 1) zT155_2 rfl
theorem m155_66 : smI 155 66 = rI4 (.invokevirtual 170) 69 20 146 1 := zT_l (k := 64) (i := 2) zT155_2 rfl
theorem m155_69 : smI 155 69 = rI0 ziA0 70 := zT_l (k := 64) (i := 5) zT155_2 rfl
theorem m155_70 : smI 155 70 = rI0 ziA0 71 := zT_l (k := 64) (i := 6) zT155_2 rfl
theorem m155_71 : smI 155 71 = rI3 (.getfield 16) 74 7 2 := zT_l (k := 64) (i := 7) zT155_2 rfl
theorem m155_74 : smI 155 74 = rI4 (.invokevirtual 182) 77 20 154 1 := zT_l (k := 64) (i := 10) zT155_2 rfl
theorem m155_77 : smI 155 77 = rI0 (.istore 4) 79 := zT_l (k := 64) (i := 13) zT155_2 rfl
theorem m155_79 : smI 155 79 = rI0 ziA0 80 := zT_l (k := 64) (i := 15) zT155_2 rfl
theorem m155_80 : smI 155 80 = rI0 ziA0 81 := zT_l (k := 64) (i := 16) zT155_2 rfl
theorem m155_81 : smI 155 81 = rI3 (.getfield 16) 84 7 2 := zT_l (k := 64) (i := 17) zT155_2 rfl
theorem m155_84 : smI 155 84 = rI0 ziA0 85 := zT_l (k := 64) (i := 20) zT155_2 rfl
theorem m155_85 : smI 155 85 = rI2 (.getfield 7) 88 7 := zT_l (k := 64) (i := 21) zT155_2 rfl
theorem m155_88 : smI 155 88 = rI4 (.invokevirtual 149) 91 20 110 2 := zT_l (k := 64) (i := 24) zT155_2 rfl
theorem m155_91 : smI 155 91 = rI0 (.iload 4) 93 := zT_l (k := 64) (i := 27) zT155_2 rfl
theorem m155_93 : smI 155 93 = rI0 .ireturn 94 := zT_l (k := 64) (i := 29) zT155_2 rfl
theorem mx_156 : mMx 156 = 1 := by decide +kernel
theorem cn_156 : mCn 156 = 7 := by decide +kernel
theorem rt_156 : mRt 156 = (some .int) := by decide +kernel
theorem tq_156 : allT.getD 156 [] = tb_156 := rfl
theorem m156_0 : smI 156 0 = rI1 ziC1 1 1 := sm_t tq_156 rfl
theorem m156_1 : smI 156 1 = rI0 ziA0 2 := sm_t tq_156 rfl
theorem m156_2 : smI 156 2 = rI2 (.getfield 7) 5 7 := sm_t tq_156 rfl
theorem m156_5 : smI 156 5 = rI1 ziC2 6 2 := sm_t tq_156 rfl
theorem m156_6 : smI 156 6 = rI0 .iaload 7 := sm_t tq_156 rfl
theorem m156_7 : smI 156 7 = rI0 .ishl 8 := sm_t tq_156 rfl
theorem m156_8 : smI 156 8 = rI1 ziC1 9 1 := sm_t tq_156 rfl
theorem m156_9 : smI 156 9 = rI0 .isub 10 := sm_t tq_156 rfl
theorem m156_10 : smI 156 10 = rI0 ziA0 11 := sm_t tq_156 rfl
theorem m156_11 : smI 156 11 = rI0 ziC0 12 := sm_t tq_156 rfl
theorem m156_12 : smI 156 12 = rI1 (.iconst (-1)) 13 (-1) := sm_t tq_156 rfl
theorem m156_13 : smI 156 13 = rI1 (.bipush 60) 15 60 := sm_t tq_156 rfl
theorem m156_15 : smI 156 15 = rI4 (.invokevirtual 186) 18 20 155 3 := sm_t tq_156 rfl
theorem m156_18 : smI 156 18 = rI1 (.iconst (-1)) 19 (-1) := sm_t tq_156 rfl
theorem m156_19 : smI 156 19 = rI0 .ixor 20 := sm_t tq_156 rfl
theorem m156_20 : smI 156 20 = rI0 .iand 21 := sm_t tq_156 rfl
theorem m156_21 : smI 156 21 = rI0 .ireturn 22 := sm_t tq_156 rfl
theorem mx_157 : mMx 157 = 4 := by decide +kernel
theorem cn_157 : mCn 157 = 7 := by decide +kernel
theorem rt_157 : mRt 157 = (some .int) := by decide +kernel
theorem tq_157 : allT.getD 157 [] = tb_157 := rfl
theorem zT157_0 : zT 157 0 (tb_157_0 ++ (tb_157_1)) := zT_0 tq_157
theorem zT157_1 : zT 157 32 (tb_157_1) := zT_s zT157_0 (n := 32) (by decide +kernel) rfl
theorem m157_0 : smI 157 0 = rI0 ziC0 1 := zT_a (k := 0) (i := 0) zT157_0 rfl
theorem m157_1 : smI 157 1 = rI0 ziS3 2 := zT_a (k := 0) (i := 1) zT157_0 rfl
theorem m157_2 : smI 157 2 = rI0 ziI3 3 := zT_a (k := 0) (i := 2) zT157_0 rfl
theorem m157_3 : smI 157 3 = rI1 (.bipush 9) 5 9 := zT_a (k := 0) (i := 3) zT157_0 rfl
theorem m157_5 : smI 157 5 = rI2 (.if_icmp .gt 23) 8 28 := zT_a (k := 0) (i := 5) zT157_0 rfl
theorem m157_8 : smI 157 8 = rI0 ziI1 9 := zT_a (k := 0) (i := 8) zT157_0 rfl
theorem m157_9 : smI 157 9 = rI0 ziA0 10 := zT_a (k := 0) (i := 9) zT157_0 rfl
theorem m157_10 : smI 157 10 = rI0 ziI1 11 := zT_a (k := 0) (i := 10) zT157_0 rfl
theorem m157_11 : smI 157 11 = rI0 ziI3 12 := zT_a (k := 0) (i := 11) zT157_0 rfl
theorem m157_12 : smI 157 12 = rI0 ziI2 13 := zT_a (k := 0) (i := 12) zT157_0 rfl
theorem m157_13 : smI 157 13 = rI4 (.invokevirtual 186) 16 20 155 3 := zT_a (k := 0) (i := 13) zT157_0 rfl
theorem m157_16 : smI 157 16 = rI1 (.iconst (-1)) 17 (-1) := zT_a (k := 0) (i := 16) zT157_0 rfl
theorem m157_17 : smI 157 17 = rI0 .ixor 18 := zT_a (k := 0) (i := 17) zT157_0 rfl
theorem m157_18 : smI 157 18 = rI0 .iand 19 := zT_a (k := 0) (i := 18) zT157_0 rfl
theorem m157_19 : smI 157 19 = rI2 (.ifCond .eq 9) 22 28 := zT_a (k := 0) (i := 19) zT157_0 rfl
theorem m157_22 : smI 157 22 = rI1 (.iinc 3 1) 25 1 := zT_a (k := 0) (i := 22) zT157_0 rfl
theorem m157_25 : smI 157 25 = rI2 (.goto (-23)) 28 2 := zT_a (k := 0) (i := 25) zT157_0 rfl
theorem m157_28 : smI 157 28 = rI0 ziI3 29 := zT_a (k := 0) (i := 28) zT157_0 rfl
theorem m157_29 : smI 157 29 = rI1 (.bipush 9) 31 9 := zT_a (k := 0) (i := 29) zT157_0 rfl
theorem m157_31 : smI 157 31 = rI2 (.if_icmp .le 7) 34 38 := zT_a (k := 0) (i := 31) zT157_0 rfl
theorem m157_34 : smI 157 34 = rI1 (.iconst (-1)) 35 (-1) := zT_l (k := 32) (i := 2) zT157_1 rfl
theorem m157_35 : smI 157 35 = rI2 (.goto 4) 38 39 := zT_l (k := 32) (i := 3) zT157_1 rfl
theorem m157_38 : smI 157 38 = rI0 ziI3 39 := zT_l (k := 32) (i := 6) zT157_1 rfl
theorem m157_39 : smI 157 39 = rI0 .ireturn 40 := zT_l (k := 32) (i := 7) zT157_1 rfl
theorem mx_158 : mMx 158 = 4 := by decide +kernel
theorem cn_158 : mCn 158 = 7 := by decide +kernel
theorem rt_158 : mRt 158 = (some .int) := by decide +kernel
theorem tq_158 : allT.getD 158 [] = tb_158 := rfl
theorem zT158_0 : zT 158 0 (tb_158_0 ++ (tb_158_1)) := zT_0 tq_158
theorem zT158_1 : zT 158 32 (tb_158_1) := zT_s zT158_0 (n := 32) (by decide +kernel) rfl
theorem m158_0 : smI 158 0 = rI0 ziA0 1 := zT_a (k := 0) (i := 0) zT158_0 rfl
theorem m158_1 : smI 158 1 = rI0 ziI1 2 := zT_a (k := 0) (i := 1) zT158_0 rfl
theorem m158_2 : smI 158 2 = rI4 (.invokevirtual 62) 5 20 113 1 := zT_a (k := 0) (i := 2) zT158_0 rfl
theorem m158_5 : smI 158 5 = rI2 (.ifCond .eq 13) 8 18 := zT_a (k := 0) (i := 5) zT158_0 rfl
theorem m158_8 : smI 158 8 = rI0 ziI2 9 := zT_a (k := 0) (i := 8) zT158_0 rfl
theorem m158_9 : smI 158 9 = rI1 ziC1 10 1 := zT_a (k := 0) (i := 9) zT158_0 rfl
theorem m158_10 : smI 158 10 = rI1 (.bipush 60) 12 60 := zT_a (k := 0) (i := 10) zT158_0 rfl
theorem m158_12 : smI 158 12 = rI3 (.invokestatic 44) 15 107 3 := zT_a (k := 0) (i := 12) zT158_0 rfl
theorem m158_15 : smI 158 15 = rI2 (.ifCond .ne 10) 18 25 := zT_a (k := 0) (i := 15) zT158_0 rfl
theorem m158_18 : smI 158 18 = rI0 ziA0 19 := zT_a (k := 0) (i := 18) zT158_0 rfl
theorem m158_19 : smI 158 19 = rI1 (.ldc 52) 21 (-1000000001) := zT_a (k := 0) (i := 19) zT158_0 rfl
theorem m158_21 : smI 158 21 = rI4 (.invokevirtual 53) 24 20 108 1 := zT_a (k := 0) (i := 21) zT158_0 rfl
theorem m158_24 : smI 158 24 = rI0 .ireturn 25 := zT_a (k := 0) (i := 24) zT158_0 rfl
theorem m158_25 : smI 158 25 = rI0 ziA0 26 := zT_a (k := 0) (i := 25) zT158_0 rfl
theorem m158_26 : smI 158 26 = rI1 ziC1 27 1 := zT_a (k := 0) (i := 26) zT158_0 rfl
theorem m158_27 : smI 158 27 = rI0 ziI1 28 := zT_a (k := 0) (i := 27) zT158_0 rfl
theorem m158_28 : smI 158 28 = rI0 .ishl 29 := zT_a (k := 0) (i := 28) zT158_0 rfl
theorem m158_29 : smI 158 29 = rI0 ziI2 30 := zT_a (k := 0) (i := 29) zT158_0 rfl
theorem m158_30 : smI 158 30 = rI4 (.invokevirtual 189) 33 20 157 2 := zT_a (k := 0) (i := 30) zT158_0 rfl
theorem m158_33 : smI 158 33 = rI0 ziS3 34 := zT_l (k := 32) (i := 1) zT158_1 rfl
theorem m158_34 : smI 158 34 = rI0 ziI3 35 := zT_l (k := 32) (i := 2) zT158_1 rfl
theorem m158_35 : smI 158 35 = rI2 (.ifCond .ge 12) 38 47 := zT_l (k := 32) (i := 3) zT158_1 rfl
theorem m158_38 : smI 158 38 = rI0 ziA0 39 := zT_l (k := 32) (i := 6) zT158_1 rfl
theorem m158_39 : smI 158 39 = rI1 (.ldc 181) 41 (-1000000002) := zT_l (k := 32) (i := 7) zT158_1 rfl
theorem m158_41 : smI 158 41 = rI4 (.invokevirtual 53) 44 20 108 1 := zT_l (k := 32) (i := 9) zT158_1 rfl
theorem m158_44 : smI 158 44 = rI2 (.goto 4) 47 48 := zT_l (k := 32) (i := 12) zT158_1 rfl
theorem m158_47 : smI 158 47 = rI0 ziI3 48 := zT_l (k := 32) (i := 15) zT158_1 rfl
theorem m158_48 : smI 158 48 = rI0 .ireturn 49 := zT_l (k := 32) (i := 16) zT158_1 rfl
theorem mx_159 : mMx 159 = 4 := by decide +kernel
theorem cn_159 : mCn 159 = 7 := by decide +kernel
theorem rt_159 : mRt 159 = (some .int) := by decide +kernel
theorem tq_159 : allT.getD 159 [] = tb_159 := rfl
theorem zT159_0 : zT 159 0 (tb_159_0 ++ (tb_159_1)) := zT_0 tq_159
theorem zT159_1 : zT 159 32 (tb_159_1) := zT_s zT159_0 (n := 32) (by decide +kernel) rfl
theorem m159_0 : smI 159 0 = rI0 ziI1 1 := zT_a (k := 0) (i := 0) zT159_0 rfl
theorem m159_1 : smI 159 1 = rI0 ziC0 2 := zT_a (k := 0) (i := 1) zT159_0 rfl
theorem m159_2 : smI 159 2 = rI1 ziC1 3 1 := zT_a (k := 0) (i := 2) zT159_0 rfl
theorem m159_3 : smI 159 3 = rI0 ziA0 4 := zT_a (k := 0) (i := 3) zT159_0 rfl
theorem m159_4 : smI 159 4 = rI2 (.getfield 7) 7 7 := zT_a (k := 0) (i := 4) zT159_0 rfl
theorem m159_7 : smI 159 7 = rI1 ziC2 8 2 := zT_a (k := 0) (i := 7) zT159_0 rfl
theorem m159_8 : smI 159 8 = rI0 .iaload 9 := zT_a (k := 0) (i := 8) zT159_0 rfl
theorem m159_9 : smI 159 9 = rI0 .ishl 10 := zT_a (k := 0) (i := 9) zT159_0 rfl
theorem m159_10 : smI 159 10 = rI1 ziC1 11 1 := zT_a (k := 0) (i := 10) zT159_0 rfl
theorem m159_11 : smI 159 11 = rI0 .isub 12 := zT_a (k := 0) (i := 11) zT159_0 rfl
theorem m159_12 : smI 159 12 = rI3 (.invokestatic 44) 15 107 3 := zT_a (k := 0) (i := 12) zT159_0 rfl
theorem m159_15 : smI 159 15 = rI2 (.ifCond .eq 13) 18 28 := zT_a (k := 0) (i := 15) zT159_0 rfl
theorem m159_18 : smI 159 18 = rI0 ziI2 19 := zT_a (k := 0) (i := 18) zT159_0 rfl
theorem m159_19 : smI 159 19 = rI1 ziC1 20 1 := zT_a (k := 0) (i := 19) zT159_0 rfl
theorem m159_20 : smI 159 20 = rI1 (.bipush 60) 22 60 := zT_a (k := 0) (i := 20) zT159_0 rfl
theorem m159_22 : smI 159 22 = rI3 (.invokestatic 44) 25 107 3 := zT_a (k := 0) (i := 22) zT159_0 rfl
theorem m159_25 : smI 159 25 = rI2 (.ifCond .ne 10) 28 35 := zT_a (k := 0) (i := 25) zT159_0 rfl
theorem m159_28 : smI 159 28 = rI0 ziA0 29 := zT_a (k := 0) (i := 28) zT159_0 rfl
theorem m159_29 : smI 159 29 = rI1 (.ldc 52) 31 (-1000000001) := zT_a (k := 0) (i := 29) zT159_0 rfl
theorem m159_31 : smI 159 31 = rI4 (.invokevirtual 53) 34 20 108 1 := zT_a (k := 0) (i := 31) zT159_0 rfl
theorem m159_34 : smI 159 34 = rI0 .ireturn 35 := zT_l (k := 32) (i := 2) zT159_1 rfl
theorem m159_35 : smI 159 35 = rI0 ziA0 36 := zT_l (k := 32) (i := 3) zT159_1 rfl
theorem m159_36 : smI 159 36 = rI0 ziI1 37 := zT_l (k := 32) (i := 4) zT159_1 rfl
theorem m159_37 : smI 159 37 = rI0 ziI2 38 := zT_l (k := 32) (i := 5) zT159_1 rfl
theorem m159_38 : smI 159 38 = rI4 (.invokevirtual 189) 41 20 157 2 := zT_l (k := 32) (i := 6) zT159_1 rfl
theorem m159_41 : smI 159 41 = rI0 ziS3 42 := zT_l (k := 32) (i := 9) zT159_1 rfl
theorem m159_42 : smI 159 42 = rI0 ziI3 43 := zT_l (k := 32) (i := 10) zT159_1 rfl
theorem m159_43 : smI 159 43 = rI2 (.ifCond .ge 12) 46 55 := zT_l (k := 32) (i := 11) zT159_1 rfl
theorem m159_46 : smI 159 46 = rI0 ziA0 47 := zT_l (k := 32) (i := 14) zT159_1 rfl
theorem m159_47 : smI 159 47 = rI1 (.ldc 181) 49 (-1000000002) := zT_l (k := 32) (i := 15) zT159_1 rfl
theorem m159_49 : smI 159 49 = rI4 (.invokevirtual 53) 52 20 108 1 := zT_l (k := 32) (i := 17) zT159_1 rfl
theorem m159_52 : smI 159 52 = rI2 (.goto 4) 55 56 := zT_l (k := 32) (i := 20) zT159_1 rfl
theorem m159_55 : smI 159 55 = rI0 ziI3 56 := zT_l (k := 32) (i := 23) zT159_1 rfl
theorem m159_56 : smI 159 56 = rI0 .ireturn 57 := zT_l (k := 32) (i := 24) zT159_1 rfl
theorem mx_160 : mMx 160 = 1 := by decide +kernel
theorem cn_160 : mCn 160 = 7 := by decide +kernel
theorem rt_160 : mRt 160 = (some .boolean) := by decide +kernel
theorem tq_160 : allT.getD 160 [] = tb_160 := rfl
theorem m160_0 : smI 160 0 = rI0 ziI0 1 := sm_t tq_160 rfl
theorem m160_1 : smI 160 1 = rI0 ziC0 2 := sm_t tq_160 rfl
theorem m160_2 : smI 160 2 = rI1 ziC3 3 3 := sm_t tq_160 rfl
theorem m160_3 : smI 160 3 = rI3 (.invokestatic 44) 6 107 3 := sm_t tq_160 rfl
theorem m160_6 : smI 160 6 = rI0 .ireturn 7 := sm_t tq_160 rfl
theorem mx_161 : mMx 161 = 3 := by decide +kernel
theorem cn_161 : mCn 161 = 7 := by decide +kernel
theorem rt_161 : mRt 161 = (some .int) := by decide +kernel
theorem tq_161 : allT.getD 161 [] = tb_161 := rfl
theorem zT161_0 : zT 161 0 (tb_161_0 ++ (tb_161_1 ++ (tb_161_2))) := zT_0 tq_161
theorem zT161_1 : zT 161 32 (tb_161_1 ++ (tb_161_2)) := zT_s zT161_0 (n := 32) (by decide +kernel) rfl
theorem zT161_2 : zT 161 64 (tb_161_2) := zT_s zT161_1 (n := 32) (by decide +kernel) rfl
theorem m161_0 : smI 161 0 = rI0 ziC0 1 := zT_a (k := 0) (i := 0) zT161_0 rfl
theorem m161_1 : smI 161 1 = rI0 ziS2 2 := zT_a (k := 0) (i := 1) zT161_0 rfl
theorem m161_2 : smI 161 2 = rI0 ziA0 3 := zT_a (k := 0) (i := 2) zT161_0 rfl
theorem m161_3 : smI 161 3 = rI0 ziA0 4 := zT_a (k := 0) (i := 3) zT161_0 rfl
theorem m161_4 : smI 161 4 = rI2 (.getfield 7) 7 7 := zT_a (k := 0) (i := 4) zT161_0 rfl
theorem m161_7 : smI 161 7 = rI0 ziA0 8 := zT_a (k := 0) (i := 7) zT161_0 rfl
theorem m161_8 : smI 161 8 = rI3 (.getfield 16) 11 7 2 := zT_a (k := 0) (i := 8) zT161_0 rfl
theorem m161_11 : smI 161 11 = rI4 (.invokevirtual 149) 14 20 110 2 := zT_a (k := 0) (i := 11) zT161_0 rfl
theorem m161_14 : smI 161 14 = rI0 ziI2 15 := zT_a (k := 0) (i := 14) zT161_0 rfl
theorem m161_15 : smI 161 15 = rI0 ziA0 16 := zT_a (k := 0) (i := 15) zT161_0 rfl
theorem m161_16 : smI 161 16 = rI3 (.getfield 28) 19 7 16 := zT_a (k := 0) (i := 16) zT161_0 rfl
theorem m161_19 : smI 161 19 = rI0 ziI1 20 := zT_a (k := 0) (i := 19) zT161_0 rfl
theorem m161_20 : smI 161 20 = rI0 .iaload 21 := zT_a (k := 0) (i := 20) zT161_0 rfl
theorem m161_21 : smI 161 21 = rI2 (.if_icmp .ge 31) 24 52 := zT_a (k := 0) (i := 21) zT161_0 rfl
theorem m161_24 : smI 161 24 = rI0 ziA0 25 := zT_a (k := 0) (i := 24) zT161_0 rfl
theorem m161_25 : smI 161 25 = rI4 (.invokevirtual 156) 28 20 143 0 := zT_a (k := 0) (i := 25) zT161_0 rfl
theorem m161_28 : smI 161 28 = rI0 ziA0 29 := zT_a (k := 0) (i := 28) zT161_0 rfl
theorem m161_29 : smI 161 29 = rI3 (.getfield 31) 32 7 17 := zT_a (k := 0) (i := 29) zT161_0 rfl
theorem m161_32 : smI 161 32 = rI1 (.bipush 40) 34 40 := zT_a (k := 32) (i := 0) zT161_1 rfl
theorem m161_34 : smI 161 34 = rI0 ziI1 35 := zT_a (k := 32) (i := 2) zT161_1 rfl
theorem m161_35 : smI 161 35 = rI0 .imul 36 := zT_a (k := 32) (i := 3) zT161_1 rfl
theorem m161_36 : smI 161 36 = rI0 ziI2 37 := zT_a (k := 32) (i := 4) zT161_1 rfl
theorem m161_37 : smI 161 37 = rI0 .iadd 38 := zT_a (k := 32) (i := 5) zT161_1 rfl
theorem m161_38 : smI 161 38 = rI0 .iaload 39 := zT_a (k := 32) (i := 6) zT161_1 rfl
theorem m161_39 : smI 161 39 = rI2 (.if_icmp .ne 13) 42 52 := zT_a (k := 32) (i := 7) zT161_1 rfl
theorem m161_42 : smI 161 42 = rI0 ziA0 43 := zT_a (k := 32) (i := 10) zT161_1 rfl
theorem m161_43 : smI 161 43 = rI4 (.invokevirtual 166) 46 20 145 0 := zT_a (k := 32) (i := 11) zT161_1 rfl
theorem m161_46 : smI 161 46 = rI1 (.iinc 2 1) 49 1 := zT_a (k := 32) (i := 14) zT161_1 rfl
theorem m161_49 : smI 161 49 = rI2 (.goto (-35)) 52 14 := zT_a (k := 32) (i := 17) zT161_1 rfl
theorem m161_52 : smI 161 52 = rI0 ziA0 53 := zT_a (k := 32) (i := 20) zT161_1 rfl
theorem m161_53 : smI 161 53 = rI0 ziA0 54 := zT_a (k := 32) (i := 21) zT161_1 rfl
theorem m161_54 : smI 161 54 = rI3 (.getfield 16) 57 7 2 := zT_a (k := 32) (i := 22) zT161_1 rfl
theorem m161_57 : smI 161 57 = rI0 ziA0 58 := zT_a (k := 32) (i := 25) zT161_1 rfl
theorem m161_58 : smI 161 58 = rI2 (.getfield 7) 61 7 := zT_a (k := 32) (i := 26) zT161_1 rfl
theorem m161_61 : smI 161 61 = rI4 (.invokevirtual 149) 64 20 110 2 := zT_a (k := 32) (i := 29) zT161_1 rfl
theorem m161_64 : smI 161 64 = rI0 ziI2 65 := zT_l (k := 64) (i := 0) zT161_2 rfl
theorem m161_65 : smI 161 65 = rI0 .ireturn 66 := zT_l (k := 64) (i := 1) zT161_2 rfl
theorem mx_162 : mMx 162 = 6 := by decide +kernel
theorem cn_162 : mCn 162 = 7 := by decide +kernel
theorem rt_162 : mRt 162 = (some .int) := by decide +kernel
theorem tq_162 : allT.getD 162 [] = tb_162 := rfl
theorem zT162_0 : zT 162 0 (tb_162_0 ++ (tb_162_1 ++ (tb_162_2 ++ (tb_162_3)))) := zT_0 tq_162
theorem zT162_1 : zT 162 32 (tb_162_1 ++ (tb_162_2 ++ (tb_162_3))) := zT_s zT162_0 (n := 32) (by decide +kernel) rfl
theorem zT162_2 : zT 162 64 (tb_162_2 ++ (tb_162_3)) := zT_s zT162_1 (n := 32) (by decide +kernel) rfl
theorem zT162_3 : zT 162 96 (tb_162_3) := zT_s zT162_2 (n := 32) (by decide +kernel) rfl
theorem m162_0 : smI 162 0 = rI0 ziI1 1 := zT_a (k := 0) (i := 0) zT162_0 rfl
theorem m162_1 : smI 162 1 = rI3 (.invokestatic 192) 4 160 1 := zT_a (k := 0) (i := 1) zT162_0 rfl
theorem m162_4 : smI 162 4 = rI2 (.ifCond .eq 12) 7 16 := zT_a (k := 0) (i := 4) zT162_0 rfl
theorem m162_7 : smI 162 7 = rI0 ziI2 8 := zT_a (k := 0) (i := 7) zT162_0 rfl
theorem m162_8 : smI 162 8 = rI0 ziC0 9 := zT_a (k := 0) (i := 8) zT162_0 rfl
theorem m162_9 : smI 162 9 = rI1 ziC1 10 1 := zT_a (k := 0) (i := 9) zT162_0 rfl
theorem m162_10 : smI 162 10 = rI3 (.invokestatic 44) 13 107 3 := zT_a (k := 0) (i := 10) zT162_0 rfl
theorem m162_13 : smI 162 13 = rI2 (.ifCond .ne 10) 16 23 := zT_a (k := 0) (i := 13) zT162_0 rfl
theorem m162_16 : smI 162 16 = rI0 ziA0 17 := zT_a (k := 0) (i := 16) zT162_0 rfl
theorem m162_17 : smI 162 17 = rI1 (.ldc 52) 19 (-1000000001) := zT_a (k := 0) (i := 17) zT162_0 rfl
theorem m162_19 : smI 162 19 = rI4 (.invokevirtual 53) 22 20 108 1 := zT_a (k := 0) (i := 19) zT162_0 rfl
theorem m162_22 : smI 162 22 = rI0 .ireturn 23 := zT_a (k := 0) (i := 22) zT162_0 rfl
theorem m162_23 : smI 162 23 = rI0 ziA0 24 := zT_a (k := 0) (i := 23) zT162_0 rfl
theorem m162_24 : smI 162 24 = rI3 (.getfield 25) 27 7 15 := zT_a (k := 0) (i := 24) zT162_0 rfl
theorem m162_27 : smI 162 27 = rI0 ziI1 28 := zT_a (k := 0) (i := 27) zT162_0 rfl
theorem m162_28 : smI 162 28 = rI0 .iaload 29 := zT_a (k := 0) (i := 28) zT162_0 rfl
theorem m162_29 : smI 162 29 = rI2 (.ifCond .ne 10) 32 39 := zT_a (k := 0) (i := 29) zT162_0 rfl
theorem m162_32 : smI 162 32 = rI0 ziA0 33 := zT_a (k := 32) (i := 0) zT162_1 rfl
theorem m162_33 : smI 162 33 = rI1 (.ldc 181) 35 (-1000000002) := zT_a (k := 32) (i := 1) zT162_1 rfl
theorem m162_35 : smI 162 35 = rI4 (.invokevirtual 53) 38 20 108 1 := zT_a (k := 32) (i := 3) zT162_1 rfl
theorem m162_38 : smI 162 38 = rI0 .ireturn 39 := zT_a (k := 32) (i := 6) zT162_1 rfl
theorem m162_39 : smI 162 39 = rI0 ziI2 40 := zT_a (k := 32) (i := 7) zT162_1 rfl
theorem m162_40 : smI 162 40 = rI1 ziC1 41 1 := zT_a (k := 32) (i := 8) zT162_1 rfl
theorem m162_41 : smI 162 41 = rI2 (.if_icmp .ne 9) 44 50 := zT_a (k := 32) (i := 9) zT162_1 rfl
theorem m162_44 : smI 162 44 = rI0 ziA0 45 := zT_a (k := 32) (i := 12) zT162_1 rfl
theorem m162_45 : smI 162 45 = rI0 ziI1 46 := zT_a (k := 32) (i := 13) zT162_1 rfl
theorem m162_46 : smI 162 46 = rI4 (.invokevirtual 195) 49 20 161 1 := zT_a (k := 32) (i := 14) zT162_1 rfl
theorem m162_49 : smI 162 49 = rI0 .ireturn 50 := zT_a (k := 32) (i := 17) zT162_1 rfl
theorem m162_50 : smI 162 50 = rI0 ziA0 51 := zT_a (k := 32) (i := 18) zT162_1 rfl
theorem m162_51 : smI 162 51 = rI2 (.getfield 7) 54 7 := zT_a (k := 32) (i := 19) zT162_1 rfl
theorem m162_54 : smI 162 54 = rI1 (.bipush 7) 56 7 := zT_a (k := 32) (i := 22) zT162_1 rfl
theorem m162_56 : smI 162 56 = rI0 .iaload 57 := zT_a (k := 32) (i := 24) zT162_1 rfl
theorem m162_57 : smI 162 57 = rI0 ziS3 58 := zT_a (k := 32) (i := 25) zT162_1 rfl
theorem m162_58 : smI 162 58 = rI0 ziC0 59 := zT_a (k := 32) (i := 26) zT162_1 rfl
theorem m162_59 : smI 162 59 = rI0 (.istore 4) 61 := zT_a (k := 32) (i := 27) zT162_1 rfl
theorem m162_61 : smI 162 61 = rI1 ziC1 62 1 := zT_a (k := 32) (i := 29) zT162_1 rfl
theorem m162_62 : smI 162 62 = rI0 (.istore 5) 64 := zT_a (k := 32) (i := 30) zT162_1 rfl
theorem m162_64 : smI 162 64 = rI0 (.iload 5) 66 := zT_a (k := 64) (i := 0) zT162_2 rfl
theorem m162_66 : smI 162 66 = rI1 ziC4 67 4 := zT_a (k := 64) (i := 2) zT162_2 rfl
theorem m162_67 : smI 162 67 = rI2 (.if_icmp .gt 45) 70 112 := zT_a (k := 64) (i := 3) zT162_2 rfl
theorem m162_70 : smI 162 70 = rI0 ziA0 71 := zT_a (k := 64) (i := 6) zT162_2 rfl
theorem m162_71 : smI 162 71 = rI2 (.getfield 7) 74 7 := zT_a (k := 64) (i := 7) zT162_2 rfl
theorem m162_74 : smI 162 74 = rI1 (.bipush 7) 76 7 := zT_a (k := 64) (i := 10) zT162_2 rfl
theorem m162_76 : smI 162 76 = rI0 (.iload 5) 78 := zT_a (k := 64) (i := 12) zT162_2 rfl
theorem m162_78 : smI 162 78 = rI0 .iastore 79 := zT_a (k := 64) (i := 14) zT162_2 rfl
theorem m162_79 : smI 162 79 = rI0 (.iload 4) 81 := zT_a (k := 64) (i := 15) zT162_2 rfl
theorem m162_81 : smI 162 81 = rI0 ziA0 82 := zT_a (k := 64) (i := 17) zT162_2 rfl
theorem m162_82 : smI 162 82 = rI0 ziI1 83 := zT_a (k := 64) (i := 18) zT162_2 rfl
theorem m162_83 : smI 162 83 = rI4 (.invokevirtual 195) 86 20 161 1 := zT_a (k := 64) (i := 19) zT162_2 rfl
theorem m162_86 : smI 162 86 = rI0 ziA0 87 := zT_a (k := 64) (i := 22) zT162_2 rfl
theorem m162_87 : smI 162 87 = rI3 (.getfield 28) 90 7 16 := zT_a (k := 64) (i := 23) zT162_2 rfl
theorem m162_90 : smI 162 90 = rI0 ziI1 91 := zT_a (k := 64) (i := 26) zT162_2 rfl
theorem m162_91 : smI 162 91 = rI0 .iaload 92 := zT_a (k := 64) (i := 27) zT162_2 rfl
theorem m162_92 : smI 162 92 = rI2 (.if_icmp .ne 10) 95 102 := zT_a (k := 64) (i := 28) zT162_2 rfl
theorem m162_95 : smI 162 95 = rI1 ziC1 96 1 := zT_a (k := 64) (i := 31) zT162_2 rfl
theorem m162_96 : smI 162 96 = rI0 (.iload 5) 98 := zT_l (k := 96) (i := 0) zT162_3 rfl
theorem m162_98 : smI 162 98 = rI0 .ishl 99 := zT_l (k := 96) (i := 2) zT162_3 rfl
theorem m162_99 : smI 162 99 = rI2 (.goto 4) 102 103 := zT_l (k := 96) (i := 3) zT162_3 rfl
theorem m162_102 : smI 162 102 = rI0 ziC0 103 := zT_l (k := 96) (i := 6) zT162_3 rfl
theorem m162_103 : smI 162 103 = rI0 .ior 104 := zT_l (k := 96) (i := 7) zT162_3 rfl
theorem m162_104 : smI 162 104 = rI0 (.istore 4) 106 := zT_l (k := 96) (i := 8) zT162_3 rfl
theorem m162_106 : smI 162 106 = rI1 (.iinc 5 1) 109 1 := zT_l (k := 96) (i := 10) zT162_3 rfl
theorem m162_109 : smI 162 109 = rI2 (.goto (-45)) 112 64 := zT_l (k := 96) (i := 13) zT162_3 rfl
theorem m162_112 : smI 162 112 = rI0 ziA0 113 := zT_l (k := 96) (i := 16) zT162_3 rfl
theorem m162_113 : smI 162 113 = rI2 (.getfield 7) 116 7 := zT_l (k := 96) (i := 17) zT162_3 rfl
theorem m162_116 : smI 162 116 = rI1 (.bipush 7) 118 7 := zT_l (k := 96) (i := 20) zT162_3 rfl
theorem m162_118 : smI 162 118 = rI0 ziI3 119 := zT_l (k := 96) (i := 22) zT162_3 rfl
theorem m162_119 : smI 162 119 = rI0 .iastore 120 := zT_l (k := 96) (i := 23) zT162_3 rfl
theorem m162_120 : smI 162 120 = rI0 (.iload 4) 122 := zT_l (k := 96) (i := 24) zT162_3 rfl
theorem m162_122 : smI 162 122 = rI0 .ireturn 123 := zT_l (k := 96) (i := 26) zT162_3 rfl
theorem mx_163 : mMx 163 = 2 := by decide +kernel
theorem cn_163 : mCn 163 = 7 := by decide +kernel
theorem rt_163 : mRt 163 = (some .int) := by decide +kernel
theorem tq_163 : allT.getD 163 [] = tb_163 := rfl
theorem zT163_0 : zT 163 0 (tb_163_0 ++ (tb_163_1)) := zT_0 tq_163
theorem zT163_1 : zT 163 32 (tb_163_1) := zT_s zT163_0 (n := 32) (by decide +kernel) rfl
theorem m163_0 : smI 163 0 = rI0 ziA0 1 := zT_a (k := 0) (i := 0) zT163_0 rfl
theorem m163_1 : smI 163 1 = rI0 ziI1 2 := zT_a (k := 0) (i := 1) zT163_0 rfl
theorem m163_2 : smI 163 2 = rI4 (.invokevirtual 62) 5 20 113 1 := zT_a (k := 0) (i := 2) zT163_0 rfl
theorem m163_5 : smI 163 5 = rI2 (.ifCond .ne 10) 8 15 := zT_a (k := 0) (i := 5) zT163_0 rfl
theorem m163_8 : smI 163 8 = rI0 ziA0 9 := zT_a (k := 0) (i := 8) zT163_0 rfl
theorem m163_9 : smI 163 9 = rI1 (.ldc 52) 11 (-1000000001) := zT_a (k := 0) (i := 9) zT163_0 rfl
theorem m163_11 : smI 163 11 = rI4 (.invokevirtual 53) 14 20 108 1 := zT_a (k := 0) (i := 11) zT163_0 rfl
theorem m163_14 : smI 163 14 = rI0 .ireturn 15 := zT_a (k := 0) (i := 14) zT163_0 rfl
theorem m163_15 : smI 163 15 = rI0 ziA0 16 := zT_a (k := 0) (i := 15) zT163_0 rfl
theorem m163_16 : smI 163 16 = rI0 ziI1 17 := zT_a (k := 0) (i := 16) zT163_0 rfl
theorem m163_17 : smI 163 17 = rI1 ziC5 18 5 := zT_a (k := 0) (i := 17) zT163_0 rfl
theorem m163_18 : smI 163 18 = rI4 (.invokevirtual 66) 21 20 111 2 := zT_a (k := 0) (i := 18) zT163_0 rfl
theorem m163_21 : smI 163 21 = rI1 ziC1 22 1 := zT_a (k := 0) (i := 21) zT163_0 rfl
theorem m163_22 : smI 163 22 = rI2 (.if_icmp .ne 12) 25 34 := zT_a (k := 0) (i := 22) zT163_0 rfl
theorem m163_25 : smI 163 25 = rI0 ziA0 26 := zT_a (k := 0) (i := 25) zT163_0 rfl
theorem m163_26 : smI 163 26 = rI1 (.ldc 169) 28 (-1000000003) := zT_a (k := 0) (i := 26) zT163_0 rfl
theorem m163_28 : smI 163 28 = rI4 (.invokevirtual 53) 31 20 108 1 := zT_a (k := 0) (i := 28) zT163_0 rfl
theorem m163_31 : smI 163 31 = rI2 (.goto 8) 34 39 := zT_a (k := 0) (i := 31) zT163_0 rfl
theorem m163_34 : smI 163 34 = rI0 ziA0 35 := zT_l (k := 32) (i := 2) zT163_1 rfl
theorem m163_35 : smI 163 35 = rI0 ziI1 36 := zT_l (k := 32) (i := 3) zT163_1 rfl
theorem m163_36 : smI 163 36 = rI4 (.invokevirtual 153) 39 20 142 1 := zT_l (k := 32) (i := 4) zT163_1 rfl
theorem m163_39 : smI 163 39 = rI0 .ireturn 40 := zT_l (k := 32) (i := 7) zT163_1 rfl
theorem mx_164 : mMx 164 = 5 := by decide +kernel
theorem cn_164 : mCn 164 = 7 := by decide +kernel
theorem rt_164 : mRt 164 = (some .int) := by decide +kernel
theorem tq_164 : allT.getD 164 [] = tb_164 := rfl
theorem zT164_0 : zT 164 0 (tb_164_0 ++ (tb_164_1 ++ (tb_164_2 ++ (tb_164_3 ++ (tb_164_4 ++ (tb_164_5)))))) := zT_0 tq_164
theorem zT164_1 : zT 164 32 (tb_164_1 ++ (tb_164_2 ++ (tb_164_3 ++ (tb_164_4 ++ (tb_164_5))))) := zT_s zT164_0 (n := 32) (by decide +kernel) rfl
theorem zT164_2 : zT 164 64 (tb_164_2 ++ (tb_164_3 ++ (tb_164_4 ++ (tb_164_5)))) := zT_s zT164_1 (n := 32) (by decide +kernel) rfl
theorem zT164_3 : zT 164 96 (tb_164_3 ++ (tb_164_4 ++ (tb_164_5))) := zT_s zT164_2 (n := 32) (by decide +kernel) rfl
theorem zT164_4 : zT 164 128 (tb_164_4 ++ (tb_164_5)) := zT_s zT164_3 (n := 32) (by decide +kernel) rfl
theorem zT164_5 : zT 164 160 (tb_164_5) := zT_s zT164_4 (n := 32) (by decide +kernel) rfl
theorem m164_0 : smI 164 0 = rI0 ziA0 1 := zT_a (k := 0) (i := 0) zT164_0 rfl
theorem m164_1 : smI 164 1 = rI0 ziI1 2 := zT_a (k := 0) (i := 1) zT164_0 rfl
theorem m164_2 : smI 164 2 = rI4 (.invokevirtual 62) 5 20 113 1 := zT_a (k := 0) (i := 2) zT164_0 rfl
theorem m164_5 : smI 164 5 = rI2 (.ifCond .eq 13) 8 18 := zT_a (k := 0) (i := 5) zT164_0 rfl
theorem m164_8 : smI 164 8 = rI0 ziI2 9 := zT_a (k := 0) (i := 8) zT164_0 rfl
theorem m164_9 : smI 164 9 = rI0 ziC0 10 := zT_a (k := 0) (i := 9) zT164_0 rfl
theorem m164_10 : smI 164 10 = rI1 (.bipush 60) 12 60 := zT_a (k := 0) (i := 10) zT164_0 rfl
theorem m164_12 : smI 164 12 = rI3 (.invokestatic 44) 15 107 3 := zT_a (k := 0) (i := 12) zT164_0 rfl
theorem m164_15 : smI 164 15 = rI2 (.ifCond .ne 10) 18 25 := zT_a (k := 0) (i := 15) zT164_0 rfl
theorem m164_18 : smI 164 18 = rI0 ziA0 19 := zT_a (k := 0) (i := 18) zT164_0 rfl
theorem m164_19 : smI 164 19 = rI1 (.ldc 52) 21 (-1000000001) := zT_a (k := 0) (i := 19) zT164_0 rfl
theorem m164_21 : smI 164 21 = rI4 (.invokevirtual 53) 24 20 108 1 := zT_a (k := 0) (i := 21) zT164_0 rfl
theorem m164_24 : smI 164 24 = rI0 .ireturn 25 := zT_a (k := 0) (i := 24) zT164_0 rfl
theorem m164_25 : smI 164 25 = rI0 ziA0 26 := zT_a (k := 0) (i := 25) zT164_0 rfl
theorem m164_26 : smI 164 26 = rI0 ziA0 27 := zT_a (k := 0) (i := 26) zT164_0 rfl
theorem m164_27 : smI 164 27 = rI2 (.getfield 7) 30 7 := zT_a (k := 0) (i := 27) zT164_0 rfl
theorem m164_30 : smI 164 30 = rI0 ziA0 31 := zT_a (k := 0) (i := 30) zT164_0 rfl
theorem m164_31 : smI 164 31 = rI3 (.getfield 16) 34 7 2 := zT_a (k := 0) (i := 31) zT164_0 rfl
theorem m164_34 : smI 164 34 = rI4 (.invokevirtual 149) 37 20 110 2 := zT_a (k := 32) (i := 2) zT164_1 rfl
theorem m164_37 : smI 164 37 = rI0 ziA0 38 := zT_a (k := 32) (i := 5) zT164_1 rfl
theorem m164_38 : smI 164 38 = rI0 ziI2 39 := zT_a (k := 32) (i := 6) zT164_1 rfl
theorem m164_39 : smI 164 39 = rI4 (.invokevirtual 170) 42 20 146 1 := zT_a (k := 32) (i := 7) zT164_1 rfl
theorem m164_42 : smI 164 42 = rI0 ziC0 43 := zT_a (k := 32) (i := 10) zT164_1 rfl
theorem m164_43 : smI 164 43 = rI0 ziS3 44 := zT_a (k := 32) (i := 11) zT164_1 rfl
theorem m164_44 : smI 164 44 = rI0 ziI3 45 := zT_a (k := 32) (i := 12) zT164_1 rfl
theorem m164_45 : smI 164 45 = rI0 ziA0 46 := zT_a (k := 32) (i := 13) zT164_1 rfl
theorem m164_46 : smI 164 46 = rI2 (.getfield 7) 49 7 := zT_a (k := 32) (i := 14) zT164_1 rfl
theorem m164_49 : smI 164 49 = rI1 ziC2 50 2 := zT_a (k := 32) (i := 17) zT164_1 rfl
theorem m164_50 : smI 164 50 = rI0 .iaload 51 := zT_a (k := 32) (i := 18) zT164_1 rfl
theorem m164_51 : smI 164 51 = rI2 (.if_icmp .ge 21) 54 72 := zT_a (k := 32) (i := 19) zT164_1 rfl
theorem m164_54 : smI 164 54 = rI0 ziA0 55 := zT_a (k := 32) (i := 22) zT164_1 rfl
theorem m164_55 : smI 164 55 = rI3 (.getfield 37) 58 7 19 := zT_a (k := 32) (i := 23) zT164_1 rfl
theorem m164_58 : smI 164 58 = rI0 ziI3 59 := zT_a (k := 32) (i := 26) zT164_1 rfl
theorem m164_59 : smI 164 59 = rI0 ziA0 60 := zT_a (k := 32) (i := 27) zT164_1 rfl
theorem m164_60 : smI 164 60 = rI0 ziI3 61 := zT_a (k := 32) (i := 28) zT164_1 rfl
theorem m164_61 : smI 164 61 = rI1 ziC4 62 4 := zT_a (k := 32) (i := 29) zT164_1 rfl
theorem m164_62 : smI 164 62 = rI4 (.invokevirtual 66) 65 20 111 2 := zT_a (k := 32) (i := 30) zT164_1 rfl
theorem m164_65 : smI 164 65 = rI0 .iastore 66 := zT_a (k := 64) (i := 1) zT164_2 rfl
theorem m164_66 : smI 164 66 = rI1 (.iinc 3 1) 69 1 := zT_a (k := 64) (i := 2) zT164_2 rfl
theorem m164_69 : smI 164 69 = rI2 (.goto (-25)) 72 44 := zT_a (k := 64) (i := 5) zT164_2 rfl
theorem m164_72 : smI 164 72 = rI0 ziA0 73 := zT_a (k := 64) (i := 8) zT164_2 rfl
theorem m164_73 : smI 164 73 = rI0 ziA0 74 := zT_a (k := 64) (i := 9) zT164_2 rfl
theorem m164_74 : smI 164 74 = rI3 (.getfield 16) 77 7 2 := zT_a (k := 64) (i := 10) zT164_2 rfl
theorem m164_77 : smI 164 77 = rI0 ziA0 78 := zT_a (k := 64) (i := 13) zT164_2 rfl
theorem m164_78 : smI 164 78 = rI2 (.getfield 7) 81 7 := zT_a (k := 64) (i := 14) zT164_2 rfl
theorem m164_81 : smI 164 81 = rI4 (.invokevirtual 149) 84 20 110 2 := zT_a (k := 64) (i := 17) zT164_2 rfl
theorem m164_84 : smI 164 84 = rI0 ziA0 85 := zT_a (k := 64) (i := 20) zT164_2 rfl
theorem m164_85 : smI 164 85 = rI0 ziI1 86 := zT_a (k := 64) (i := 21) zT164_2 rfl
theorem m164_86 : smI 164 86 = rI1 ziC3 87 3 := zT_a (k := 64) (i := 22) zT164_2 rfl
theorem m164_87 : smI 164 87 = rI0 ziC0 88 := zT_a (k := 64) (i := 23) zT164_2 rfl
theorem m164_88 : smI 164 88 = rI4 (.invokevirtual 58) 91 20 112 3 := zT_a (k := 64) (i := 24) zT164_2 rfl
theorem m164_91 : smI 164 91 = rI0 ziA0 92 := zT_a (k := 64) (i := 27) zT164_2 rfl
theorem m164_92 : smI 164 92 = rI0 ziI2 93 := zT_a (k := 64) (i := 28) zT164_2 rfl
theorem m164_93 : smI 164 93 = rI4 (.invokevirtual 170) 96 20 146 1 := zT_a (k := 64) (i := 29) zT164_2 rfl
theorem m164_96 : smI 164 96 = rI0 ziC0 97 := zT_a (k := 96) (i := 0) zT164_3 rfl
theorem m164_97 : smI 164 97 = rI0 ziS3 98 := zT_a (k := 96) (i := 1) zT164_3 rfl
theorem m164_98 : smI 164 98 = rI0 ziC0 99 := zT_a (k := 96) (i := 2) zT164_3 rfl
theorem m164_99 : smI 164 99 = rI0 (.istore 4) 101 := zT_a (k := 96) (i := 3) zT164_3 rfl
theorem m164_101 : smI 164 101 = rI0 (.iload 4) 103 := zT_a (k := 96) (i := 5) zT164_3 rfl
theorem m164_103 : smI 164 103 = rI0 ziA0 104 := zT_a (k := 96) (i := 7) zT164_3 rfl
theorem m164_104 : smI 164 104 = rI2 (.getfield 7) 107 7 := zT_a (k := 96) (i := 8) zT164_3 rfl
theorem m164_107 : smI 164 107 = rI1 ziC2 108 2 := zT_a (k := 96) (i := 11) zT164_3 rfl
theorem m164_108 : smI 164 108 = rI0 .iaload 109 := zT_a (k := 96) (i := 12) zT164_3 rfl
theorem m164_109 : smI 164 109 = rI2 (.if_icmp .ge 43) 112 152 := zT_a (k := 96) (i := 13) zT164_3 rfl
theorem m164_112 : smI 164 112 = rI0 ziI3 113 := zT_a (k := 96) (i := 16) zT164_3 rfl
theorem m164_113 : smI 164 113 = rI0 (.iload 4) 115 := zT_a (k := 96) (i := 17) zT164_3 rfl
theorem m164_115 : smI 164 115 = rI0 ziI1 116 := zT_a (k := 96) (i := 19) zT164_3 rfl
theorem m164_116 : smI 164 116 = rI2 (.if_icmp .eq 27) 119 143 := zT_a (k := 96) (i := 20) zT164_3 rfl
theorem m164_119 : smI 164 119 = rI0 ziA0 120 := zT_a (k := 96) (i := 23) zT164_3 rfl
theorem m164_120 : smI 164 120 = rI0 (.iload 4) 122 := zT_a (k := 96) (i := 24) zT164_3 rfl
theorem m164_122 : smI 164 122 = rI1 ziC4 123 4 := zT_a (k := 96) (i := 26) zT164_3 rfl
theorem m164_123 : smI 164 123 = rI4 (.invokevirtual 66) 126 20 111 2 := zT_a (k := 96) (i := 27) zT164_3 rfl
theorem m164_126 : smI 164 126 = rI0 ziA0 127 := zT_a (k := 96) (i := 30) zT164_3 rfl
theorem m164_127 : smI 164 127 = rI3 (.getfield 37) 130 7 19 := zT_a (k := 96) (i := 31) zT164_3 rfl
theorem m164_130 : smI 164 130 = rI0 (.iload 4) 132 := zT_a (k := 128) (i := 2) zT164_4 rfl
theorem m164_132 : smI 164 132 = rI0 .iaload 133 := zT_a (k := 128) (i := 4) zT164_4 rfl
theorem m164_133 : smI 164 133 = rI2 (.if_icmp .le 10) 136 143 := zT_a (k := 128) (i := 5) zT164_4 rfl
theorem m164_136 : smI 164 136 = rI1 ziC1 137 1 := zT_a (k := 128) (i := 8) zT164_4 rfl
theorem m164_137 : smI 164 137 = rI0 (.iload 4) 139 := zT_a (k := 128) (i := 9) zT164_4 rfl
theorem m164_139 : smI 164 139 = rI0 .ishl 140 := zT_a (k := 128) (i := 11) zT164_4 rfl
theorem m164_140 : smI 164 140 = rI2 (.goto 4) 143 144 := zT_a (k := 128) (i := 12) zT164_4 rfl
theorem m164_143 : smI 164 143 = rI0 ziC0 144 := zT_a (k := 128) (i := 15) zT164_4 rfl
theorem m164_144 : smI 164 144 = rI0 .ior 145 := zT_a (k := 128) (i := 16) zT164_4 rfl
theorem m164_145 : smI 164 145 = rI0 ziS3 146 := zT_a (k := 128) (i := 17) zT164_4 rfl
theorem m164_146 : smI 164 146 = rI1 (.iinc 4 1) 149 1 := zT_a (k := 128) (i := 18) zT164_4 rfl
theorem m164_149 : smI 164 149 = rI2 (.goto (-48)) 152 101 := zT_a (k := 128) (i := 21) zT164_4 rfl
theorem m164_152 : smI 164 152 = rI0 ziA0 153 := zT_a (k := 128) (i := 24) zT164_4 rfl
theorem m164_153 : smI 164 153 = rI0 ziA0 154 := zT_a (k := 128) (i := 25) zT164_4 rfl
theorem m164_154 : smI 164 154 = rI3 (.getfield 16) 157 7 2 := zT_a (k := 128) (i := 26) zT164_4 rfl
theorem m164_157 : smI 164 157 = rI0 ziA0 158 := zT_a (k := 128) (i := 29) zT164_4 rfl
theorem m164_158 : smI 164 158 = rI2 (.getfield 7) 161 7 := zT_a (k := 128) (i := 30) zT164_4 rfl
theorem m164_161 : smI 164 161 = rI4 (.invokevirtual 149) 164 20 110 2 := zT_l (k := 160) (i := 1) zT164_5 rfl
theorem m164_164 : smI 164 164 = rI0 ziI3 165 := zT_l (k := 160) (i := 4) zT164_5 rfl
theorem m164_165 : smI 164 165 = rI0 .ireturn 166 := zT_l (k := 160) (i := 5) zT164_5 rfl
theorem mx_165 : mMx 165 = 5 := by decide +kernel
theorem cn_165 : mCn 165 = 7 := by decide +kernel
theorem rt_165 : mRt 165 = (some .int) := by decide +kernel
theorem tq_165 : allT.getD 165 [] = tb_165 := rfl
theorem zT165_0 : zT 165 0 (tb_165_0 ++ (tb_165_1 ++ (tb_165_2))) := zT_0 tq_165
theorem zT165_1 : zT 165 32 (tb_165_1 ++ (tb_165_2)) := zT_s zT165_0 (n := 32) (by decide +kernel) rfl
theorem zT165_2 : zT 165 64 (tb_165_2) := zT_s zT165_1 (n := 32) (by decide +kernel) rfl
theorem m165_0 : smI 165 0 = rI0 ziA0 1 := zT_a (k := 0) (i := 0) zT165_0 rfl
theorem m165_1 : smI 165 1 = rI0 ziI1 2 := zT_a (k := 0) (i := 1) zT165_0 rfl
theorem m165_2 : smI 165 2 = rI4 (.invokevirtual 62) 5 20 113 1 := zT_a (k := 0) (i := 2) zT165_0 rfl
theorem m165_5 : smI 165 5 = rI2 (.ifCond .eq 13) 8 18 := zT_a (k := 0) (i := 5) zT165_0 rfl
theorem m165_8 : smI 165 8 = rI0 ziI2 9 := zT_a (k := 0) (i := 8) zT165_0 rfl
theorem m165_9 : smI 165 9 = rI0 ziC0 10 := zT_a (k := 0) (i := 9) zT165_0 rfl
theorem m165_10 : smI 165 10 = rI1 (.bipush 60) 12 60 := zT_a (k := 0) (i := 10) zT165_0 rfl
theorem m165_12 : smI 165 12 = rI3 (.invokestatic 44) 15 107 3 := zT_a (k := 0) (i := 12) zT165_0 rfl
theorem m165_15 : smI 165 15 = rI2 (.ifCond .ne 10) 18 25 := zT_a (k := 0) (i := 15) zT165_0 rfl
theorem m165_18 : smI 165 18 = rI0 ziA0 19 := zT_a (k := 0) (i := 18) zT165_0 rfl
theorem m165_19 : smI 165 19 = rI1 (.ldc 52) 21 (-1000000001) := zT_a (k := 0) (i := 19) zT165_0 rfl
theorem m165_21 : smI 165 21 = rI4 (.invokevirtual 53) 24 20 108 1 := zT_a (k := 0) (i := 21) zT165_0 rfl
theorem m165_24 : smI 165 24 = rI0 .ireturn 25 := zT_a (k := 0) (i := 24) zT165_0 rfl
theorem m165_25 : smI 165 25 = rI0 ziC0 26 := zT_a (k := 0) (i := 25) zT165_0 rfl
theorem m165_26 : smI 165 26 = rI0 ziS3 27 := zT_a (k := 0) (i := 26) zT165_0 rfl
theorem m165_27 : smI 165 27 = rI0 ziA0 28 := zT_a (k := 0) (i := 27) zT165_0 rfl
theorem m165_28 : smI 165 28 = rI0 ziA0 29 := zT_a (k := 0) (i := 28) zT165_0 rfl
theorem m165_29 : smI 165 29 = rI2 (.getfield 7) 32 7 := zT_a (k := 0) (i := 29) zT165_0 rfl
theorem m165_32 : smI 165 32 = rI0 ziA0 33 := zT_a (k := 32) (i := 0) zT165_1 rfl
theorem m165_33 : smI 165 33 = rI3 (.getfield 16) 36 7 2 := zT_a (k := 32) (i := 1) zT165_1 rfl
theorem m165_36 : smI 165 36 = rI4 (.invokevirtual 149) 39 20 110 2 := zT_a (k := 32) (i := 4) zT165_1 rfl
theorem m165_39 : smI 165 39 = rI0 ziC0 40 := zT_a (k := 32) (i := 7) zT165_1 rfl
theorem m165_40 : smI 165 40 = rI0 (.istore 4) 42 := zT_a (k := 32) (i := 8) zT165_1 rfl
theorem m165_42 : smI 165 42 = rI0 (.iload 4) 44 := zT_a (k := 32) (i := 10) zT165_1 rfl
theorem m165_44 : smI 165 44 = rI0 ziI2 45 := zT_a (k := 32) (i := 12) zT165_1 rfl
theorem m165_45 : smI 165 45 = rI2 (.if_icmp .ge 32) 48 77 := zT_a (k := 32) (i := 13) zT165_1 rfl
theorem m165_48 : smI 165 48 = rI0 ziA0 49 := zT_a (k := 32) (i := 16) zT165_1 rfl
theorem m165_49 : smI 165 49 = rI4 (.invokevirtual 166) 52 20 145 0 := zT_a (k := 32) (i := 17) zT165_1 rfl
theorem m165_52 : smI 165 52 = rI0 ziI3 53 := zT_a (k := 32) (i := 20) zT165_1 rfl
theorem m165_53 : smI 165 53 = rI0 ziA0 54 := zT_a (k := 32) (i := 21) zT165_1 rfl
theorem m165_54 : smI 165 54 = rI0 ziI1 55 := zT_a (k := 32) (i := 22) zT165_1 rfl
theorem m165_55 : smI 165 55 = rI1 ziC2 56 2 := zT_a (k := 32) (i := 23) zT165_1 rfl
theorem m165_56 : smI 165 56 = rI4 (.invokevirtual 66) 59 20 111 2 := zT_a (k := 32) (i := 24) zT165_1 rfl
theorem m165_59 : smI 165 59 = rI1 (.bipush 50) 61 50 := zT_a (k := 32) (i := 27) zT165_1 rfl
theorem m165_61 : smI 165 61 = rI2 (.if_icmp .lt 7) 64 68 := zT_a (k := 32) (i := 29) zT165_1 rfl
theorem m165_64 : smI 165 64 = rI1 ziC1 65 1 := zT_l (k := 64) (i := 0) zT165_2 rfl
theorem m165_65 : smI 165 65 = rI2 (.goto 4) 68 69 := zT_l (k := 64) (i := 1) zT165_2 rfl
theorem m165_68 : smI 165 68 = rI0 ziC0 69 := zT_l (k := 64) (i := 4) zT165_2 rfl
theorem m165_69 : smI 165 69 = rI0 .iadd 70 := zT_l (k := 64) (i := 5) zT165_2 rfl
theorem m165_70 : smI 165 70 = rI0 ziS3 71 := zT_l (k := 64) (i := 6) zT165_2 rfl
theorem m165_71 : smI 165 71 = rI1 (.iinc 4 1) 74 1 := zT_l (k := 64) (i := 7) zT165_2 rfl
theorem m165_74 : smI 165 74 = rI2 (.goto (-32)) 77 42 := zT_l (k := 64) (i := 10) zT165_2 rfl
theorem m165_77 : smI 165 77 = rI0 ziA0 78 := zT_l (k := 64) (i := 13) zT165_2 rfl
theorem m165_78 : smI 165 78 = rI0 ziA0 79 := zT_l (k := 64) (i := 14) zT165_2 rfl
theorem m165_79 : smI 165 79 = rI3 (.getfield 16) 82 7 2 := zT_l (k := 64) (i := 15) zT165_2 rfl
theorem m165_82 : smI 165 82 = rI0 ziA0 83 := zT_l (k := 64) (i := 18) zT165_2 rfl
theorem m165_83 : smI 165 83 = rI2 (.getfield 7) 86 7 := zT_l (k := 64) (i := 19) zT165_2 rfl
theorem m165_86 : smI 165 86 = rI4 (.invokevirtual 149) 89 20 110 2 := zT_l (k := 64) (i := 22) zT165_2 rfl
theorem m165_89 : smI 165 89 = rI0 ziI3 90 := zT_l (k := 64) (i := 25) zT165_2 rfl
theorem m165_90 : smI 165 90 = rI0 .ireturn 91 := zT_l (k := 64) (i := 26) zT165_2 rfl
theorem mx_166 : mMx 166 = 6 := by decide +kernel
theorem cn_166 : mCn 166 = 7 := by decide +kernel
theorem rt_166 : mRt 166 = (some .int) := by decide +kernel
theorem tq_166 : allT.getD 166 [] = tb_166 := rfl
theorem zT166_0 : zT 166 0 (tb_166_0 ++ (tb_166_1 ++ (tb_166_2 ++ (tb_166_3 ++ (tb_166_4))))) := zT_0 tq_166
theorem zT166_1 : zT 166 32 (tb_166_1 ++ (tb_166_2 ++ (tb_166_3 ++ (tb_166_4)))) := zT_s zT166_0 (n := 32) (by decide +kernel) rfl
theorem zT166_2 : zT 166 64 (tb_166_2 ++ (tb_166_3 ++ (tb_166_4))) := zT_s zT166_1 (n := 32) (by decide +kernel) rfl
theorem zT166_3 : zT 166 96 (tb_166_3 ++ (tb_166_4)) := zT_s zT166_2 (n := 32) (by decide +kernel) rfl
theorem zT166_4 : zT 166 128 (tb_166_4) := zT_s zT166_3 (n := 32) (by decide +kernel) rfl
theorem m166_0 : smI 166 0 = rI0 ziI1 1 := zT_a (k := 0) (i := 0) zT166_0 rfl
theorem m166_1 : smI 166 1 = rI1 ziC1 2 1 := zT_a (k := 0) (i := 1) zT166_0 rfl
theorem m166_2 : smI 166 2 = rI1 (.bipush 99) 4 99 := zT_a (k := 0) (i := 2) zT166_0 rfl
theorem m166_4 : smI 166 4 = rI3 (.invokestatic 44) 7 107 3 := zT_a (k := 0) (i := 4) zT166_0 rfl
theorem m166_7 : smI 166 7 = rI2 (.ifCond .eq 13) 10 20 := zT_a (k := 0) (i := 7) zT166_0 rfl
theorem m166_10 : smI 166 10 = rI0 ziI2 11 := zT_a (k := 0) (i := 10) zT166_0 rfl
theorem m166_11 : smI 166 11 = rI0 ziC0 12 := zT_a (k := 0) (i := 11) zT166_0 rfl
theorem m166_12 : smI 166 12 = rI1 (.bipush 60) 14 60 := zT_a (k := 0) (i := 12) zT166_0 rfl
theorem m166_14 : smI 166 14 = rI3 (.invokestatic 44) 17 107 3 := zT_a (k := 0) (i := 14) zT166_0 rfl
theorem m166_17 : smI 166 17 = rI2 (.ifCond .ne 10) 20 27 := zT_a (k := 0) (i := 17) zT166_0 rfl
theorem m166_20 : smI 166 20 = rI0 ziA0 21 := zT_a (k := 0) (i := 20) zT166_0 rfl
theorem m166_21 : smI 166 21 = rI1 (.ldc 52) 23 (-1000000001) := zT_a (k := 0) (i := 21) zT166_0 rfl
theorem m166_23 : smI 166 23 = rI4 (.invokevirtual 53) 26 20 108 1 := zT_a (k := 0) (i := 23) zT166_0 rfl
theorem m166_26 : smI 166 26 = rI0 .ireturn 27 := zT_a (k := 0) (i := 26) zT166_0 rfl
theorem m166_27 : smI 166 27 = rI0 ziC0 28 := zT_a (k := 0) (i := 27) zT166_0 rfl
theorem m166_28 : smI 166 28 = rI0 ziS3 29 := zT_a (k := 0) (i := 28) zT166_0 rfl
theorem m166_29 : smI 166 29 = rI0 ziC0 30 := zT_a (k := 0) (i := 29) zT166_0 rfl
theorem m166_30 : smI 166 30 = rI0 (.istore 4) 32 := zT_a (k := 0) (i := 30) zT166_0 rfl
theorem m166_32 : smI 166 32 = rI0 ziA0 33 := zT_a (k := 32) (i := 0) zT166_1 rfl
theorem m166_33 : smI 166 33 = rI0 ziA0 34 := zT_a (k := 32) (i := 1) zT166_1 rfl
theorem m166_34 : smI 166 34 = rI2 (.getfield 7) 37 7 := zT_a (k := 32) (i := 2) zT166_1 rfl
theorem m166_37 : smI 166 37 = rI0 ziA0 38 := zT_a (k := 32) (i := 5) zT166_1 rfl
theorem m166_38 : smI 166 38 = rI3 (.getfield 16) 41 7 2 := zT_a (k := 32) (i := 6) zT166_1 rfl
theorem m166_41 : smI 166 41 = rI4 (.invokevirtual 149) 44 20 110 2 := zT_a (k := 32) (i := 9) zT166_1 rfl
theorem m166_44 : smI 166 44 = rI0 ziI3 45 := zT_a (k := 32) (i := 12) zT166_1 rfl
theorem m166_45 : smI 166 45 = rI1 ziC4 46 4 := zT_a (k := 32) (i := 13) zT166_1 rfl
theorem m166_46 : smI 166 46 = rI2 (.if_icmp .ge 85) 49 131 := zT_a (k := 32) (i := 14) zT166_1 rfl
theorem m166_49 : smI 166 49 = rI0 (.iload 4) 51 := zT_a (k := 32) (i := 17) zT166_1 rfl
theorem m166_51 : smI 166 51 = rI2 (.ifCond .ne 80) 54 131 := zT_a (k := 32) (i := 19) zT166_1 rfl
theorem m166_54 : smI 166 54 = rI1 (.iinc 3 1) 57 1 := zT_a (k := 32) (i := 22) zT166_1 rfl
theorem m166_57 : smI 166 57 = rI0 ziA0 58 := zT_a (k := 32) (i := 25) zT166_1 rfl
theorem m166_58 : smI 166 58 = rI2 (.getfield 7) 61 7 := zT_a (k := 32) (i := 26) zT166_1 rfl
theorem m166_61 : smI 166 61 = rI1 (.bipush 7) 63 7 := zT_a (k := 32) (i := 29) zT166_1 rfl
theorem m166_63 : smI 166 63 = rI0 ziI3 64 := zT_a (k := 32) (i := 31) zT166_1 rfl
theorem m166_64 : smI 166 64 = rI0 .iastore 65 := zT_a (k := 64) (i := 0) zT166_2 rfl
theorem m166_65 : smI 166 65 = rI0 ziA0 66 := zT_a (k := 64) (i := 1) zT166_2 rfl
theorem m166_66 : smI 166 66 = rI0 ziI2 67 := zT_a (k := 64) (i := 2) zT166_2 rfl
theorem m166_67 : smI 166 67 = rI4 (.invokevirtual 170) 70 20 146 1 := zT_a (k := 64) (i := 3) zT166_2 rfl
theorem m166_70 : smI 166 70 = rI1 ziC1 71 1 := zT_a (k := 64) (i := 6) zT166_2 rfl
theorem m166_71 : smI 166 71 = rI0 (.istore 4) 73 := zT_a (k := 64) (i := 7) zT166_2 rfl
theorem m166_73 : smI 166 73 = rI0 ziC0 74 := zT_a (k := 64) (i := 9) zT166_2 rfl
theorem m166_74 : smI 166 74 = rI0 (.istore 5) 76 := zT_a (k := 64) (i := 10) zT166_2 rfl
theorem m166_76 : smI 166 76 = rI0 (.iload 5) 78 := zT_a (k := 64) (i := 12) zT166_2 rfl
theorem m166_78 : smI 166 78 = rI0 ziA0 79 := zT_a (k := 64) (i := 14) zT166_2 rfl
theorem m166_79 : smI 166 79 = rI2 (.getfield 7) 82 7 := zT_a (k := 64) (i := 15) zT166_2 rfl
theorem m166_82 : smI 166 82 = rI1 ziC2 83 2 := zT_a (k := 64) (i := 18) zT166_2 rfl
theorem m166_83 : smI 166 83 = rI0 .iaload 84 := zT_a (k := 64) (i := 19) zT166_2 rfl
theorem m166_84 : smI 166 84 = rI2 (.if_icmp .ge 32) 87 116 := zT_a (k := 64) (i := 20) zT166_2 rfl
theorem m166_87 : smI 166 87 = rI0 (.iload 4) 89 := zT_a (k := 64) (i := 23) zT166_2 rfl
theorem m166_89 : smI 166 89 = rI2 (.ifCond .eq 18) 92 107 := zT_a (k := 64) (i := 25) zT166_2 rfl
theorem m166_92 : smI 166 92 = rI0 ziA0 93 := zT_a (k := 64) (i := 28) zT166_2 rfl
theorem m166_93 : smI 166 93 = rI0 (.iload 5) 95 := zT_a (k := 64) (i := 29) zT166_2 rfl
theorem m166_95 : smI 166 95 = rI1 ziC2 96 2 := zT_a (k := 64) (i := 31) zT166_2 rfl
theorem m166_96 : smI 166 96 = rI4 (.invokevirtual 66) 99 20 111 2 := zT_a (k := 96) (i := 0) zT166_3 rfl
theorem m166_99 : smI 166 99 = rI0 ziI1 100 := zT_a (k := 96) (i := 3) zT166_3 rfl
theorem m166_100 : smI 166 100 = rI2 (.if_icmp .ge 7) 103 107 := zT_a (k := 96) (i := 4) zT166_3 rfl
theorem m166_103 : smI 166 103 = rI1 ziC1 104 1 := zT_a (k := 96) (i := 7) zT166_3 rfl
theorem m166_104 : smI 166 104 = rI2 (.goto 4) 107 108 := zT_a (k := 96) (i := 8) zT166_3 rfl
theorem m166_107 : smI 166 107 = rI0 ziC0 108 := zT_a (k := 96) (i := 11) zT166_3 rfl
theorem m166_108 : smI 166 108 = rI0 (.istore 4) 110 := zT_a (k := 96) (i := 12) zT166_3 rfl
theorem m166_110 : smI 166 110 = rI1 (.iinc 5 1) 113 1 := zT_a (k := 96) (i := 14) zT166_3 rfl
theorem m166_113 : smI 166 113 = rI2 (.goto (-37)) 116 76 := zT_a (k := 96) (i := 17) zT166_3 rfl
theorem m166_116 : smI 166 116 = rI0 ziA0 117 := zT_a (k := 96) (i := 20) zT166_3 rfl
theorem m166_117 : smI 166 117 = rI0 ziA0 118 := zT_a (k := 96) (i := 21) zT166_3 rfl
theorem m166_118 : smI 166 118 = rI3 (.getfield 16) 121 7 2 := zT_a (k := 96) (i := 22) zT166_3 rfl
theorem m166_121 : smI 166 121 = rI0 ziA0 122 := zT_a (k := 96) (i := 25) zT166_3 rfl
theorem m166_122 : smI 166 122 = rI2 (.getfield 7) 125 7 := zT_a (k := 96) (i := 26) zT166_3 rfl
theorem m166_125 : smI 166 125 = rI4 (.invokevirtual 149) 128 20 110 2 := zT_a (k := 96) (i := 29) zT166_3 rfl
theorem m166_128 : smI 166 128 = rI2 (.goto (-84)) 131 44 := zT_l (k := 128) (i := 0) zT166_4 rfl
theorem m166_131 : smI 166 131 = rI0 (.iload 4) 133 := zT_l (k := 128) (i := 3) zT166_4 rfl
theorem m166_133 : smI 166 133 = rI2 (.ifCond .eq 7) 136 140 := zT_l (k := 128) (i := 5) zT166_4 rfl
theorem m166_136 : smI 166 136 = rI0 ziI3 137 := zT_l (k := 128) (i := 8) zT166_4 rfl
theorem m166_137 : smI 166 137 = rI2 (.goto 9) 140 146 := zT_l (k := 128) (i := 9) zT166_4 rfl
theorem m166_140 : smI 166 140 = rI0 ziA0 141 := zT_l (k := 128) (i := 12) zT166_4 rfl
theorem m166_141 : smI 166 141 = rI1 (.ldc 181) 143 (-1000000002) := zT_l (k := 128) (i := 13) zT166_4 rfl
theorem m166_143 : smI 166 143 = rI4 (.invokevirtual 53) 146 20 108 1 := zT_l (k := 128) (i := 15) zT166_4 rfl
theorem m166_146 : smI 166 146 = rI0 .ireturn 147 := zT_l (k := 128) (i := 18) zT166_4 rfl
theorem mx_167 : mMx 167 = 4 := by decide +kernel
theorem cn_167 : mCn 167 = 7 := by decide +kernel
theorem rt_167 : mRt 167 = (some .int) := by decide +kernel
theorem tq_167 : allT.getD 167 [] = tb_167 := rfl
theorem zT167_0 : zT 167 0 (tb_167_0 ++ (tb_167_1)) := zT_0 tq_167
theorem zT167_1 : zT 167 32 (tb_167_1) := zT_s zT167_0 (n := 32) (by decide +kernel) rfl
theorem m167_0 : smI 167 0 = rI0 ziI1 1 := zT_a (k := 0) (i := 0) zT167_0 rfl
theorem m167_1 : smI 167 1 = rI0 ziC0 2 := zT_a (k := 0) (i := 1) zT167_0 rfl
theorem m167_2 : smI 167 2 = rI1 (.bipush 60) 4 60 := zT_a (k := 0) (i := 2) zT167_0 rfl
theorem m167_4 : smI 167 4 = rI3 (.invokestatic 44) 7 107 3 := zT_a (k := 0) (i := 4) zT167_0 rfl
theorem m167_7 : smI 167 7 = rI2 (.ifCond .ne 10) 10 17 := zT_a (k := 0) (i := 7) zT167_0 rfl
theorem m167_10 : smI 167 10 = rI0 ziA0 11 := zT_a (k := 0) (i := 10) zT167_0 rfl
theorem m167_11 : smI 167 11 = rI1 (.ldc 52) 13 (-1000000001) := zT_a (k := 0) (i := 11) zT167_0 rfl
theorem m167_13 : smI 167 13 = rI4 (.invokevirtual 53) 16 20 108 1 := zT_a (k := 0) (i := 13) zT167_0 rfl
theorem m167_16 : smI 167 16 = rI0 .ireturn 17 := zT_a (k := 0) (i := 16) zT167_0 rfl
theorem m167_17 : smI 167 17 = rI0 ziA0 18 := zT_a (k := 0) (i := 17) zT167_0 rfl
theorem m167_18 : smI 167 18 = rI1 ziC4 19 4 := zT_a (k := 0) (i := 18) zT167_0 rfl
theorem m167_19 : smI 167 19 = rI4 (.invokevirtual 174) 22 20 147 1 := zT_a (k := 0) (i := 19) zT167_0 rfl
theorem m167_22 : smI 167 22 = rI0 ziS2 23 := zT_a (k := 0) (i := 22) zT167_0 rfl
theorem m167_23 : smI 167 23 = rI0 ziA0 24 := zT_a (k := 0) (i := 23) zT167_0 rfl
theorem m167_24 : smI 167 24 = rI0 ziA0 25 := zT_a (k := 0) (i := 24) zT167_0 rfl
theorem m167_25 : smI 167 25 = rI2 (.getfield 7) 28 7 := zT_a (k := 0) (i := 25) zT167_0 rfl
theorem m167_28 : smI 167 28 = rI0 ziA0 29 := zT_a (k := 0) (i := 28) zT167_0 rfl
theorem m167_29 : smI 167 29 = rI3 (.getfield 16) 32 7 2 := zT_a (k := 0) (i := 29) zT167_0 rfl
theorem m167_32 : smI 167 32 = rI4 (.invokevirtual 149) 35 20 110 2 := zT_l (k := 32) (i := 0) zT167_1 rfl
theorem m167_35 : smI 167 35 = rI0 ziA0 36 := zT_l (k := 32) (i := 3) zT167_1 rfl
theorem m167_36 : smI 167 36 = rI0 ziI1 37 := zT_l (k := 32) (i := 4) zT167_1 rfl
theorem m167_37 : smI 167 37 = rI4 (.invokevirtual 170) 40 20 146 1 := zT_l (k := 32) (i := 5) zT167_1 rfl
theorem m167_40 : smI 167 40 = rI0 ziA0 41 := zT_l (k := 32) (i := 8) zT167_1 rfl
theorem m167_41 : smI 167 41 = rI1 ziC4 42 4 := zT_l (k := 32) (i := 9) zT167_1 rfl
theorem m167_42 : smI 167 42 = rI4 (.invokevirtual 174) 45 20 147 1 := zT_l (k := 32) (i := 10) zT167_1 rfl
theorem m167_45 : smI 167 45 = rI0 ziS3 46 := zT_l (k := 32) (i := 13) zT167_1 rfl
theorem m167_46 : smI 167 46 = rI0 ziA0 47 := zT_l (k := 32) (i := 14) zT167_1 rfl
theorem m167_47 : smI 167 47 = rI0 ziA0 48 := zT_l (k := 32) (i := 15) zT167_1 rfl
theorem m167_48 : smI 167 48 = rI3 (.getfield 16) 51 7 2 := zT_l (k := 32) (i := 16) zT167_1 rfl
theorem m167_51 : smI 167 51 = rI0 ziA0 52 := zT_l (k := 32) (i := 19) zT167_1 rfl
theorem m167_52 : smI 167 52 = rI2 (.getfield 7) 55 7 := zT_l (k := 32) (i := 20) zT167_1 rfl
theorem m167_55 : smI 167 55 = rI4 (.invokevirtual 149) 58 20 110 2 := zT_l (k := 32) (i := 23) zT167_1 rfl
theorem m167_58 : smI 167 58 = rI0 ziI3 59 := zT_l (k := 32) (i := 26) zT167_1 rfl
theorem m167_59 : smI 167 59 = rI0 ziI2 60 := zT_l (k := 32) (i := 27) zT167_1 rfl
theorem m167_60 : smI 167 60 = rI0 .isub 61 := zT_l (k := 32) (i := 28) zT167_1 rfl
theorem m167_61 : smI 167 61 = rI0 .ireturn 62 := zT_l (k := 32) (i := 29) zT167_1 rfl
theorem mx_168 : mMx 168 = 5 := by decide +kernel
theorem cn_168 : mCn 168 = 7 := by decide +kernel
theorem rt_168 : mRt 168 = (some .int) := by decide +kernel
theorem tq_168 : allT.getD 168 [] = tb_168 := rfl
theorem m168_0 : smI 168 0 = rI0 ziI0 1 := sm_t tq_168 rfl
theorem m168_1 : smI 168 1 = rI0 ziS2 2 := sm_t tq_168 rfl
theorem m168_2 : smI 168 2 = rI0 ziI1 3 := sm_t tq_168 rfl
theorem m168_3 : smI 168 3 = rI0 ziS3 4 := sm_t tq_168 rfl
theorem m168_4 : smI 168 4 = rI0 ziI3 5 := sm_t tq_168 rfl
theorem m168_5 : smI 168 5 = rI2 (.ifCond .eq 16) 8 21 := sm_t tq_168 rfl
theorem m168_8 : smI 168 8 = rI0 ziI2 9 := sm_t tq_168 rfl
theorem m168_9 : smI 168 9 = rI0 ziI3 10 := sm_t tq_168 rfl
theorem m168_10 : smI 168 10 = rI0 .irem 11 := sm_t tq_168 rfl
theorem m168_11 : smI 168 11 = rI0 (.istore 4) 13 := sm_t tq_168 rfl
theorem m168_13 : smI 168 13 = rI0 ziI3 14 := sm_t tq_168 rfl
theorem m168_14 : smI 168 14 = rI0 ziS2 15 := sm_t tq_168 rfl
theorem m168_15 : smI 168 15 = rI0 (.iload 4) 17 := sm_t tq_168 rfl
theorem m168_17 : smI 168 17 = rI0 ziS3 18 := sm_t tq_168 rfl
theorem m168_18 : smI 168 18 = rI2 (.goto (-14)) 21 4 := sm_t tq_168 rfl
theorem m168_21 : smI 168 21 = rI0 ziI2 22 := sm_t tq_168 rfl
theorem m168_22 : smI 168 22 = rI0 .ireturn 23 := sm_t tq_168 rfl
theorem mx_169 : mMx 169 = 6 := by decide +kernel
theorem cn_169 : mCn 169 = 7 := by decide +kernel
theorem rt_169 : mRt 169 = (some .int) := by decide +kernel
theorem tq_169 : allT.getD 169 [] = tb_169 := rfl
theorem zT169_0 : zT 169 0 (tb_169_0 ++ (tb_169_1 ++ (tb_169_2 ++ (tb_169_3)))) := zT_0 tq_169
theorem zT169_1 : zT 169 32 (tb_169_1 ++ (tb_169_2 ++ (tb_169_3))) := zT_s zT169_0 (n := 32) (by decide +kernel) rfl
theorem zT169_2 : zT 169 64 (tb_169_2 ++ (tb_169_3)) := zT_s zT169_1 (n := 32) (by decide +kernel) rfl
theorem zT169_3 : zT 169 96 (tb_169_3) := zT_s zT169_2 (n := 32) (by decide +kernel) rfl
theorem m169_0 : smI 169 0 = rI0 ziA0 1 := zT_a (k := 0) (i := 0) zT169_0 rfl
theorem m169_1 : smI 169 1 = rI0 ziI1 2 := zT_a (k := 0) (i := 1) zT169_0 rfl
theorem m169_2 : smI 169 2 = rI4 (.invokevirtual 62) 5 20 113 1 := zT_a (k := 0) (i := 2) zT169_0 rfl
theorem m169_5 : smI 169 5 = rI2 (.ifCond .eq 22) 8 27 := zT_a (k := 0) (i := 5) zT169_0 rfl
theorem m169_8 : smI 169 8 = rI0 ziI2 9 := zT_a (k := 0) (i := 8) zT169_0 rfl
theorem m169_9 : smI 169 9 = rI0 ziC0 10 := zT_a (k := 0) (i := 9) zT169_0 rfl
theorem m169_10 : smI 169 10 = rI1 (.bipush 60) 12 60 := zT_a (k := 0) (i := 10) zT169_0 rfl
theorem m169_12 : smI 169 12 = rI3 (.invokestatic 44) 15 107 3 := zT_a (k := 0) (i := 12) zT169_0 rfl
theorem m169_15 : smI 169 15 = rI2 (.ifCond .eq 12) 18 27 := zT_a (k := 0) (i := 15) zT169_0 rfl
theorem m169_18 : smI 169 18 = rI0 ziI3 19 := zT_a (k := 0) (i := 18) zT169_0 rfl
theorem m169_19 : smI 169 19 = rI0 ziC0 20 := zT_a (k := 0) (i := 19) zT169_0 rfl
theorem m169_20 : smI 169 20 = rI1 ziC1 21 1 := zT_a (k := 0) (i := 20) zT169_0 rfl
theorem m169_21 : smI 169 21 = rI3 (.invokestatic 44) 24 107 3 := zT_a (k := 0) (i := 21) zT169_0 rfl
theorem m169_24 : smI 169 24 = rI2 (.ifCond .ne 10) 27 34 := zT_a (k := 0) (i := 24) zT169_0 rfl
theorem m169_27 : smI 169 27 = rI0 ziA0 28 := zT_a (k := 0) (i := 27) zT169_0 rfl
theorem m169_28 : smI 169 28 = rI1 (.ldc 52) 30 (-1000000001) := zT_a (k := 0) (i := 28) zT169_0 rfl
theorem m169_30 : smI 169 30 = rI4 (.invokevirtual 53) 33 20 108 1 := zT_a (k := 0) (i := 30) zT169_0 rfl
theorem m169_33 : smI 169 33 = rI0 .ireturn 34 := zT_a (k := 32) (i := 1) zT169_1 rfl
theorem m169_34 : smI 169 34 = rI0 ziC0 35 := zT_a (k := 32) (i := 2) zT169_1 rfl
theorem m169_35 : smI 169 35 = rI0 (.istore 4) 37 := zT_a (k := 32) (i := 3) zT169_1 rfl
theorem m169_37 : smI 169 37 = rI0 ziC0 38 := zT_a (k := 32) (i := 5) zT169_1 rfl
theorem m169_38 : smI 169 38 = rI0 (.istore 5) 40 := zT_a (k := 32) (i := 6) zT169_1 rfl
theorem m169_40 : smI 169 40 = rI0 (.iload 5) 42 := zT_a (k := 32) (i := 8) zT169_1 rfl
theorem m169_42 : smI 169 42 = rI1 (.bipush 9) 44 9 := zT_a (k := 32) (i := 10) zT169_1 rfl
theorem m169_44 : smI 169 44 = rI2 (.if_icmp .gt 28) 47 72 := zT_a (k := 32) (i := 12) zT169_1 rfl
theorem m169_47 : smI 169 47 = rI0 (.iload 4) 49 := zT_a (k := 32) (i := 15) zT169_1 rfl
theorem m169_49 : smI 169 49 = rI0 ziA0 50 := zT_a (k := 32) (i := 17) zT169_1 rfl
theorem m169_50 : smI 169 50 = rI1 ziC1 51 1 := zT_a (k := 32) (i := 18) zT169_1 rfl
theorem m169_51 : smI 169 51 = rI0 ziI1 52 := zT_a (k := 32) (i := 19) zT169_1 rfl
theorem m169_52 : smI 169 52 = rI0 .ishl 53 := zT_a (k := 32) (i := 20) zT169_1 rfl
theorem m169_53 : smI 169 53 = rI0 (.iload 5) 55 := zT_a (k := 32) (i := 21) zT169_1 rfl
theorem m169_55 : smI 169 55 = rI0 ziI2 56 := zT_a (k := 32) (i := 23) zT169_1 rfl
theorem m169_56 : smI 169 56 = rI4 (.invokevirtual 186) 59 20 155 3 := zT_a (k := 32) (i := 24) zT169_1 rfl
theorem m169_59 : smI 169 59 = rI0 ziI1 60 := zT_a (k := 32) (i := 27) zT169_1 rfl
theorem m169_60 : smI 169 60 = rI0 .ishr 61 := zT_a (k := 32) (i := 28) zT169_1 rfl
theorem m169_61 : smI 169 61 = rI1 ziC1 62 1 := zT_a (k := 32) (i := 29) zT169_1 rfl
theorem m169_62 : smI 169 62 = rI0 .iand 63 := zT_a (k := 32) (i := 30) zT169_1 rfl
theorem m169_63 : smI 169 63 = rI0 .iadd 64 := zT_a (k := 32) (i := 31) zT169_1 rfl
theorem m169_64 : smI 169 64 = rI0 (.istore 4) 66 := zT_a (k := 64) (i := 0) zT169_2 rfl
theorem m169_66 : smI 169 66 = rI1 (.iinc 5 1) 69 1 := zT_a (k := 64) (i := 2) zT169_2 rfl
theorem m169_69 : smI 169 69 = rI2 (.goto (-29)) 72 40 := zT_a (k := 64) (i := 5) zT169_2 rfl
theorem m169_72 : smI 169 72 = rI0 (.iload 4) 74 := zT_a (k := 64) (i := 8) zT169_2 rfl
theorem m169_74 : smI 169 74 = rI1 (.bipush 10) 76 10 := zT_a (k := 64) (i := 10) zT169_2 rfl
theorem m169_76 : smI 169 76 = rI3 (.invokestatic 198) 79 168 2 := zT_a (k := 64) (i := 12) zT169_2 rfl
theorem m169_79 : smI 169 79 = rI0 (.istore 5) 81 := zT_a (k := 64) (i := 15) zT169_2 rfl
theorem m169_81 : smI 169 81 = rI0 ziI3 82 := zT_a (k := 64) (i := 17) zT169_2 rfl
theorem m169_82 : smI 169 82 = rI2 (.ifCond .ne 11) 85 93 := zT_a (k := 64) (i := 18) zT169_2 rfl
theorem m169_85 : smI 169 85 = rI0 (.iload 4) 87 := zT_a (k := 64) (i := 21) zT169_2 rfl
theorem m169_87 : smI 169 87 = rI0 (.iload 5) 89 := zT_a (k := 64) (i := 23) zT169_2 rfl
theorem m169_89 : smI 169 89 = rI0 .idiv 90 := zT_a (k := 64) (i := 25) zT169_2 rfl
theorem m169_90 : smI 169 90 = rI2 (.goto 8) 93 98 := zT_a (k := 64) (i := 26) zT169_2 rfl
theorem m169_93 : smI 169 93 = rI1 (.bipush 10) 95 10 := zT_a (k := 64) (i := 29) zT169_2 rfl
theorem m169_95 : smI 169 95 = rI0 (.iload 5) 97 := zT_a (k := 64) (i := 31) zT169_2 rfl
theorem m169_97 : smI 169 97 = rI0 .idiv 98 := zT_l (k := 96) (i := 1) zT169_3 rfl
theorem m169_98 : smI 169 98 = rI0 .ireturn 99 := zT_l (k := 96) (i := 2) zT169_3 rfl
theorem mx_170 : mMx 170 = 3 := by decide +kernel
theorem cn_170 : mCn 170 = 7 := by decide +kernel
theorem rt_170 : mRt 170 = (some .int) := by decide +kernel
theorem tq_170 : allT.getD 170 [] = tb_170 := rfl
theorem m170_0 : smI 170 0 = rI0 ziA0 1 := sm_t tq_170 rfl
theorem m170_1 : smI 170 1 = rI2 (.getfield 7) 4 7 := sm_t tq_170 rfl
theorem m170_4 : smI 170 4 = rI1 ziC1 5 1 := sm_t tq_170 rfl
theorem m170_5 : smI 170 5 = rI0 .iaload 6 := sm_t tq_170 rfl
theorem m170_6 : smI 170 6 = rI0 ziS2 7 := sm_t tq_170 rfl
theorem m170_7 : smI 170 7 = rI0 ziA0 8 := sm_t tq_170 rfl
theorem m170_8 : smI 170 8 = rI2 (.getfield 7) 11 7 := sm_t tq_170 rfl
theorem m170_11 : smI 170 11 = rI1 ziC1 12 1 := sm_t tq_170 rfl
theorem m170_12 : smI 170 12 = rI0 ziI1 13 := sm_t tq_170 rfl
theorem m170_13 : smI 170 13 = rI0 .iastore 14 := sm_t tq_170 rfl
theorem m170_14 : smI 170 14 = rI0 ziI2 15 := sm_t tq_170 rfl
theorem m170_15 : smI 170 15 = rI0 .ireturn 16 := sm_t tq_170 rfl
theorem mx_171 : mMx 171 = 2 := by decide +kernel
theorem cn_171 : mCn 171 = 7 := by decide +kernel
theorem rt_171 : mRt 171 = none := by decide +kernel
theorem tq_171 : allT.getD 171 [] = tb_171 := rfl
theorem m171_0 : smI 171 0 = rI0 ziA0 1 := sm_t tq_171 rfl
theorem m171_1 : smI 171 1 = rI3 (.getfield 201) 4 7 21 := sm_t tq_171 rfl
theorem m171_4 : smI 171 4 = rI1 (.bipush 40) 6 40 := sm_t tq_171 rfl
theorem m171_6 : smI 171 6 = rI2 (.if_icmp .ge 23) 9 29 := sm_t tq_171 rfl
theorem m171_9 : smI 171 9 = rI0 ziA0 10 := sm_t tq_171 rfl
theorem m171_10 : smI 171 10 = rI3 (.getfield 40) 13 7 20 := sm_t tq_171 rfl
theorem m171_13 : smI 171 13 = rI0 ziA0 14 := sm_t tq_171 rfl
theorem m171_14 : smI 171 14 = rI3 (.getfield 201) 17 7 21 := sm_t tq_171 rfl
theorem m171_17 : smI 171 17 = rI0 ziI1 18 := sm_t tq_171 rfl
theorem m171_18 : smI 171 18 = rI0 .iastore 19 := sm_t tq_171 rfl
theorem m171_19 : smI 171 19 = rI0 ziA0 20 := sm_t tq_171 rfl
theorem m171_20 : smI 171 20 = rI0 .dup 21 := sm_t tq_171 rfl
theorem m171_21 : smI 171 21 = rI3 (.getfield 201) 24 7 21 := sm_t tq_171 rfl
theorem m171_24 : smI 171 24 = rI1 ziC1 25 1 := sm_t tq_171 rfl
theorem m171_25 : smI 171 25 = rI0 .iadd 26 := sm_t tq_171 rfl
theorem m171_26 : smI 171 26 = rI3 (.putfield 201) 29 7 21 := sm_t tq_171 rfl
theorem m171_29 : smI 171 29 = rI0 .return_ 30 := sm_t tq_171 rfl
theorem mx_172 : mMx 172 = 3 := by decide +kernel
theorem cn_172 : mCn 172 = 7 := by decide +kernel
theorem rt_172 : mRt 172 = (some .int) := by decide +kernel
theorem tq_172 : allT.getD 172 [] = tb_172 := rfl
theorem zT172_0 : zT 172 0 (tb_172_0 ++ (tb_172_1)) := zT_0 tq_172
theorem zT172_1 : zT 172 32 (tb_172_1) := zT_s zT172_0 (n := 32) (by decide +kernel) rfl
theorem m172_0 : smI 172 0 = rI0 ziI1 1 := zT_a (k := 0) (i := 0) zT172_0 rfl
theorem m172_1 : smI 172 1 = rI2 (.ifCond .ne 16) 4 17 := zT_a (k := 0) (i := 1) zT172_0 rfl
theorem m172_4 : smI 172 4 = rI0 ziA0 5 := zT_a (k := 0) (i := 4) zT172_0 rfl
theorem m172_5 : smI 172 5 = rI1 (.bipush 10) 7 10 := zT_a (k := 0) (i := 5) zT172_0 rfl
theorem m172_7 : smI 172 7 = rI4 (.invokevirtual 204) 10 20 171 1 := zT_a (k := 0) (i := 7) zT172_0 rfl
theorem m172_10 : smI 172 10 = rI0 ziI2 11 := zT_a (k := 0) (i := 10) zT172_0 rfl
theorem m172_11 : smI 172 11 = rI0 ziA0 12 := zT_a (k := 0) (i := 11) zT172_0 rfl
theorem m172_12 : smI 172 12 = rI3 (.getfield 207) 15 7 23 := zT_a (k := 0) (i := 12) zT172_0 rfl
theorem m172_15 : smI 172 15 = rI0 .iadd 16 := zT_a (k := 0) (i := 15) zT172_0 rfl
theorem m172_16 : smI 172 16 = rI0 .ireturn 17 := zT_a (k := 0) (i := 16) zT172_0 rfl
theorem m172_17 : smI 172 17 = rI0 ziI1 18 := zT_a (k := 0) (i := 17) zT172_0 rfl
theorem m172_18 : smI 172 18 = rI1 ziC1 19 1 := zT_a (k := 0) (i := 18) zT172_0 rfl
theorem m172_19 : smI 172 19 = rI2 (.if_icmp .ne 18) 22 37 := zT_a (k := 0) (i := 19) zT172_0 rfl
theorem m172_22 : smI 172 22 = rI0 ziA0 23 := zT_a (k := 0) (i := 22) zT172_0 rfl
theorem m172_23 : smI 172 23 = rI1 (.bipush 20) 25 20 := zT_a (k := 0) (i := 23) zT172_0 rfl
theorem m172_25 : smI 172 25 = rI4 (.invokevirtual 204) 28 20 171 1 := zT_a (k := 0) (i := 25) zT172_0 rfl
theorem m172_28 : smI 172 28 = rI0 ziA0 29 := zT_a (k := 0) (i := 28) zT172_0 rfl
theorem m172_29 : smI 172 29 = rI0 ziC0 30 := zT_a (k := 0) (i := 29) zT172_0 rfl
theorem m172_30 : smI 172 30 = rI0 ziI2 31 := zT_a (k := 0) (i := 30) zT172_0 rfl
theorem m172_31 : smI 172 31 = rI4 (.invokevirtual 210) 34 20 172 2 := zT_a (k := 0) (i := 31) zT172_0 rfl
theorem m172_34 : smI 172 34 = rI1 ziC3 35 3 := zT_l (k := 32) (i := 2) zT172_1 rfl
theorem m172_35 : smI 172 35 = rI0 .imul 36 := zT_l (k := 32) (i := 3) zT172_1 rfl
theorem m172_36 : smI 172 36 = rI0 .ireturn 37 := zT_l (k := 32) (i := 4) zT172_1 rfl
theorem m172_37 : smI 172 37 = rI0 ziA0 38 := zT_l (k := 32) (i := 5) zT172_1 rfl
theorem m172_38 : smI 172 38 = rI0 ziI1 39 := zT_l (k := 32) (i := 6) zT172_1 rfl
theorem m172_39 : smI 172 39 = rI3 (.invokestatic 72) 42 136 1 := zT_l (k := 32) (i := 7) zT172_1 rfl
theorem m172_42 : smI 172 42 = rI0 ziI2 43 := zT_l (k := 32) (i := 10) zT172_1 rfl
theorem m172_43 : smI 172 43 = rI4 (.invokevirtual 210) 46 20 172 2 := zT_l (k := 32) (i := 11) zT172_1 rfl
theorem m172_46 : smI 172 46 = rI0 .ireturn 47 := zT_l (k := 32) (i := 14) zT172_1 rfl
theorem mx_173 : mMx 173 = 3 := by decide +kernel
theorem cn_173 : mCn 173 = 7 := by decide +kernel
theorem rt_173 : mRt 173 = (some .int) := by decide +kernel
theorem tq_173 : allT.getD 173 [] = tb_173 := rfl
theorem zT173_0 : zT 173 0 (tb_173_0 ++ (tb_173_1 ++ (tb_173_2))) := zT_0 tq_173
theorem zT173_1 : zT 173 32 (tb_173_1 ++ (tb_173_2)) := zT_s zT173_0 (n := 32) (by decide +kernel) rfl
theorem zT173_2 : zT 173 64 (tb_173_2) := zT_s zT173_1 (n := 32) (by decide +kernel) rfl
theorem m173_0 : smI 173 0 = rI0 ziI1 1 := zT_a (k := 0) (i := 0) zT173_0 rfl
theorem m173_1 : smI 173 1 = rI2 (.ifCond .ne 16) 4 17 := zT_a (k := 0) (i := 1) zT173_0 rfl
theorem m173_4 : smI 173 4 = rI0 ziA0 5 := zT_a (k := 0) (i := 4) zT173_0 rfl
theorem m173_5 : smI 173 5 = rI1 (.bipush 12) 7 12 := zT_a (k := 0) (i := 5) zT173_0 rfl
theorem m173_7 : smI 173 7 = rI4 (.invokevirtual 204) 10 20 171 1 := zT_a (k := 0) (i := 7) zT173_0 rfl
theorem m173_10 : smI 173 10 = rI0 ziI2 11 := zT_a (k := 0) (i := 10) zT173_0 rfl
theorem m173_11 : smI 173 11 = rI0 ziA0 12 := zT_a (k := 0) (i := 11) zT173_0 rfl
theorem m173_12 : smI 173 12 = rI3 (.getfield 213) 15 7 24 := zT_a (k := 0) (i := 12) zT173_0 rfl
theorem m173_15 : smI 173 15 = rI0 .isub 16 := zT_a (k := 0) (i := 15) zT173_0 rfl
theorem m173_16 : smI 173 16 = rI0 .ireturn 17 := zT_a (k := 0) (i := 16) zT173_0 rfl
theorem m173_17 : smI 173 17 = rI0 ziI1 18 := zT_a (k := 0) (i := 17) zT173_0 rfl
theorem m173_18 : smI 173 18 = rI1 ziC3 19 3 := zT_a (k := 0) (i := 18) zT173_0 rfl
theorem m173_19 : smI 173 19 = rI2 (.if_icmp .ne 17) 22 36 := zT_a (k := 0) (i := 19) zT173_0 rfl
theorem m173_22 : smI 173 22 = rI0 ziA0 23 := zT_a (k := 0) (i := 22) zT173_0 rfl
theorem m173_23 : smI 173 23 = rI1 (.bipush 40) 25 40 := zT_a (k := 0) (i := 23) zT173_0 rfl
theorem m173_25 : smI 173 25 = rI4 (.invokevirtual 204) 28 20 171 1 := zT_a (k := 0) (i := 25) zT173_0 rfl
theorem m173_28 : smI 173 28 = rI0 ziA0 29 := zT_a (k := 0) (i := 28) zT173_0 rfl
theorem m173_29 : smI 173 29 = rI0 ziC0 30 := zT_a (k := 0) (i := 29) zT173_0 rfl
theorem m173_30 : smI 173 30 = rI0 ziI2 31 := zT_a (k := 0) (i := 30) zT173_0 rfl
theorem m173_31 : smI 173 31 = rI4 (.invokevirtual 216) 34 20 173 2 := zT_a (k := 0) (i := 31) zT173_0 rfl
theorem m173_34 : smI 173 34 = rI0 .ineg 35 := zT_a (k := 32) (i := 2) zT173_1 rfl
theorem m173_35 : smI 173 35 = rI0 .ireturn 36 := zT_a (k := 32) (i := 3) zT173_1 rfl
theorem m173_36 : smI 173 36 = rI0 ziI1 37 := zT_a (k := 32) (i := 4) zT173_1 rfl
theorem m173_37 : smI 173 37 = rI1 (.bipush 6) 39 6 := zT_a (k := 32) (i := 5) zT173_1 rfl
theorem m173_39 : smI 173 39 = rI2 (.if_icmp .ne 21) 42 60 := zT_a (k := 32) (i := 7) zT173_1 rfl
theorem m173_42 : smI 173 42 = rI0 ziA0 43 := zT_a (k := 32) (i := 10) zT173_1 rfl
theorem m173_43 : smI 173 43 = rI1 (.bipush 70) 45 70 := zT_a (k := 32) (i := 11) zT173_1 rfl
theorem m173_45 : smI 173 45 = rI4 (.invokevirtual 204) 48 20 171 1 := zT_a (k := 32) (i := 13) zT173_1 rfl
theorem m173_48 : smI 173 48 = rI0 ziA0 49 := zT_a (k := 32) (i := 16) zT173_1 rfl
theorem m173_49 : smI 173 49 = rI1 ziC3 50 3 := zT_a (k := 32) (i := 17) zT173_1 rfl
theorem m173_50 : smI 173 50 = rI0 ziI2 51 := zT_a (k := 32) (i := 18) zT173_1 rfl
theorem m173_51 : smI 173 51 = rI4 (.invokevirtual 216) 54 20 173 2 := zT_a (k := 32) (i := 19) zT173_1 rfl
theorem m173_54 : smI 173 54 = rI0 ziA0 55 := zT_a (k := 32) (i := 22) zT173_1 rfl
theorem m173_55 : smI 173 55 = rI3 (.getfield 207) 58 7 23 := zT_a (k := 32) (i := 23) zT173_1 rfl
theorem m173_58 : smI 173 58 = rI0 .ixor 59 := zT_a (k := 32) (i := 26) zT173_1 rfl
theorem m173_59 : smI 173 59 = rI0 .ireturn 60 := zT_a (k := 32) (i := 27) zT173_1 rfl
theorem m173_60 : smI 173 60 = rI0 ziA0 61 := zT_a (k := 32) (i := 28) zT173_1 rfl
theorem m173_61 : smI 173 61 = rI0 ziI1 62 := zT_a (k := 32) (i := 29) zT173_1 rfl
theorem m173_62 : smI 173 62 = rI3 (.invokestatic 72) 65 136 1 := zT_a (k := 32) (i := 30) zT173_1 rfl
theorem m173_65 : smI 173 65 = rI0 ziI2 66 := zT_l (k := 64) (i := 1) zT173_2 rfl
theorem m173_66 : smI 173 66 = rI4 (.invokevirtual 216) 69 20 173 2 := zT_l (k := 64) (i := 2) zT173_2 rfl
theorem m173_69 : smI 173 69 = rI0 .ireturn 70 := zT_l (k := 64) (i := 5) zT173_2 rfl
theorem mx_174 : mMx 174 = 4 := by decide +kernel
theorem cn_174 : mCn 174 = 7 := by decide +kernel
theorem rt_174 : mRt 174 = (some .int) := by decide +kernel
theorem tq_174 : allT.getD 174 [] = tb_174 := rfl
theorem zT174_0 : zT 174 0 (tb_174_0 ++ (tb_174_1 ++ (tb_174_2))) := zT_0 tq_174
theorem zT174_1 : zT 174 32 (tb_174_1 ++ (tb_174_2)) := zT_s zT174_0 (n := 32) (by decide +kernel) rfl
theorem zT174_2 : zT 174 64 (tb_174_2) := zT_s zT174_1 (n := 32) (by decide +kernel) rfl
theorem m174_0 : smI 174 0 = rI0 ziI1 1 := zT_a (k := 0) (i := 0) zT174_0 rfl
theorem m174_1 : smI 174 1 = rI2 (.ifCond .ne 21) 4 22 := zT_a (k := 0) (i := 1) zT174_0 rfl
theorem m174_4 : smI 174 4 = rI0 ziA0 5 := zT_a (k := 0) (i := 4) zT174_0 rfl
theorem m174_5 : smI 174 5 = rI1 (.bipush 11) 7 11 := zT_a (k := 0) (i := 5) zT174_0 rfl
theorem m174_7 : smI 174 7 = rI4 (.invokevirtual 204) 10 20 171 1 := zT_a (k := 0) (i := 7) zT174_0 rfl
theorem m174_10 : smI 174 10 = rI0 ziA0 11 := zT_a (k := 0) (i := 10) zT174_0 rfl
theorem m174_11 : smI 174 11 = rI0 ziA0 12 := zT_a (k := 0) (i := 11) zT174_0 rfl
theorem m174_12 : smI 174 12 = rI3 (.getfield 219) 15 7 22 := zT_a (k := 0) (i := 12) zT174_0 rfl
theorem m174_15 : smI 174 15 = rI0 ziI2 16 := zT_a (k := 0) (i := 15) zT174_0 rfl
theorem m174_16 : smI 174 16 = rI4 (.invokevirtual 210) 19 20 172 2 := zT_a (k := 0) (i := 16) zT174_0 rfl
theorem m174_19 : smI 174 19 = rI1 ziC2 20 2 := zT_a (k := 0) (i := 19) zT174_0 rfl
theorem m174_20 : smI 174 20 = rI0 .imul 21 := zT_a (k := 0) (i := 20) zT174_0 rfl
theorem m174_21 : smI 174 21 = rI0 .ireturn 22 := zT_a (k := 0) (i := 21) zT174_0 rfl
theorem m174_22 : smI 174 22 = rI0 ziI1 23 := zT_a (k := 0) (i := 22) zT174_0 rfl
theorem m174_23 : smI 174 23 = rI1 ziC2 24 2 := zT_a (k := 0) (i := 23) zT174_0 rfl
theorem m174_24 : smI 174 24 = rI2 (.if_icmp .ne 28) 27 52 := zT_a (k := 0) (i := 24) zT174_0 rfl
theorem m174_27 : smI 174 27 = rI0 ziA0 28 := zT_a (k := 0) (i := 27) zT174_0 rfl
theorem m174_28 : smI 174 28 = rI1 (.bipush 30) 30 30 := zT_a (k := 0) (i := 28) zT174_0 rfl
theorem m174_30 : smI 174 30 = rI4 (.invokevirtual 204) 33 20 171 1 := zT_a (k := 0) (i := 30) zT174_0 rfl
theorem m174_33 : smI 174 33 = rI0 ziA0 34 := zT_a (k := 32) (i := 1) zT174_1 rfl
theorem m174_34 : smI 174 34 = rI0 ziC0 35 := zT_a (k := 32) (i := 2) zT174_1 rfl
theorem m174_35 : smI 174 35 = rI0 ziI2 36 := zT_a (k := 32) (i := 3) zT174_1 rfl
theorem m174_36 : smI 174 36 = rI4 (.invokevirtual 222) 39 20 174 2 := zT_a (k := 32) (i := 4) zT174_1 rfl
theorem m174_39 : smI 174 39 = rI0 ziS3 40 := zT_a (k := 32) (i := 7) zT174_1 rfl
theorem m174_40 : smI 174 40 = rI0 ziI3 41 := zT_a (k := 32) (i := 8) zT174_1 rfl
theorem m174_41 : smI 174 41 = rI0 ziA0 42 := zT_a (k := 32) (i := 9) zT174_1 rfl
theorem m174_42 : smI 174 42 = rI0 ziA0 43 := zT_a (k := 32) (i := 10) zT174_1 rfl
theorem m174_43 : smI 174 43 = rI3 (.getfield 219) 46 7 22 := zT_a (k := 32) (i := 11) zT174_1 rfl
theorem m174_46 : smI 174 46 = rI1 ziC1 47 1 := zT_a (k := 32) (i := 14) zT174_1 rfl
theorem m174_47 : smI 174 47 = rI4 (.invokevirtual 216) 50 20 173 2 := zT_a (k := 32) (i := 15) zT174_1 rfl
theorem m174_50 : smI 174 50 = rI0 .isub 51 := zT_a (k := 32) (i := 18) zT174_1 rfl
theorem m174_51 : smI 174 51 = rI0 .ireturn 52 := zT_a (k := 32) (i := 19) zT174_1 rfl
theorem m174_52 : smI 174 52 = rI0 ziI1 53 := zT_a (k := 32) (i := 20) zT174_1 rfl
theorem m174_53 : smI 174 53 = rI1 ziC5 54 5 := zT_a (k := 32) (i := 21) zT174_1 rfl
theorem m174_54 : smI 174 54 = rI2 (.if_icmp .ne 18) 57 72 := zT_a (k := 32) (i := 22) zT174_1 rfl
theorem m174_57 : smI 174 57 = rI0 ziA0 58 := zT_a (k := 32) (i := 25) zT174_1 rfl
theorem m174_58 : smI 174 58 = rI1 (.bipush 60) 60 60 := zT_a (k := 32) (i := 26) zT174_1 rfl
theorem m174_60 : smI 174 60 = rI4 (.invokevirtual 204) 63 20 171 1 := zT_a (k := 32) (i := 28) zT174_1 rfl
theorem m174_63 : smI 174 63 = rI0 ziA0 64 := zT_a (k := 32) (i := 31) zT174_1 rfl
theorem m174_64 : smI 174 64 = rI1 ziC2 65 2 := zT_l (k := 64) (i := 0) zT174_2 rfl
theorem m174_65 : smI 174 65 = rI0 ziI2 66 := zT_l (k := 64) (i := 1) zT174_2 rfl
theorem m174_66 : smI 174 66 = rI1 ziC1 67 1 := zT_l (k := 64) (i := 2) zT174_2 rfl
theorem m174_67 : smI 174 67 = rI0 .iadd 68 := zT_l (k := 64) (i := 3) zT174_2 rfl
theorem m174_68 : smI 174 68 = rI4 (.invokevirtual 222) 71 20 174 2 := zT_l (k := 64) (i := 4) zT174_2 rfl
theorem m174_71 : smI 174 71 = rI0 .ireturn 72 := zT_l (k := 64) (i := 7) zT174_2 rfl
theorem m174_72 : smI 174 72 = rI0 ziA0 73 := zT_l (k := 64) (i := 8) zT174_2 rfl
theorem m174_73 : smI 174 73 = rI0 ziI1 74 := zT_l (k := 64) (i := 9) zT174_2 rfl
theorem m174_74 : smI 174 74 = rI3 (.invokestatic 72) 77 136 1 := zT_l (k := 64) (i := 10) zT174_2 rfl
theorem m174_77 : smI 174 77 = rI0 ziI2 78 := zT_l (k := 64) (i := 13) zT174_2 rfl
theorem m174_78 : smI 174 78 = rI4 (.invokevirtual 222) 81 20 174 2 := zT_l (k := 64) (i := 14) zT174_2 rfl
theorem m174_81 : smI 174 81 = rI0 .ireturn 82 := zT_l (k := 64) (i := 17) zT174_2 rfl
theorem mx_175 : mMx 175 = 4 := by decide +kernel
theorem cn_175 : mCn 175 = 7 := by decide +kernel
theorem rt_175 : mRt 175 = (some .int) := by decide +kernel
theorem tq_175 : allT.getD 175 [] = tb_175 := rfl
theorem zT175_0 : zT 175 0 (tb_175_0 ++ (tb_175_1 ++ (tb_175_2 ++ (tb_175_3)))) := zT_0 tq_175
theorem zT175_1 : zT 175 32 (tb_175_1 ++ (tb_175_2 ++ (tb_175_3))) := zT_s zT175_0 (n := 32) (by decide +kernel) rfl
theorem zT175_2 : zT 175 64 (tb_175_2 ++ (tb_175_3)) := zT_s zT175_1 (n := 32) (by decide +kernel) rfl
theorem zT175_3 : zT 175 96 (tb_175_3) := zT_s zT175_2 (n := 32) (by decide +kernel) rfl
theorem m175_0 : smI 175 0 = rI0 ziI1 1 := zT_a (k := 0) (i := 0) zT175_0 rfl
theorem m175_1 : smI 175 1 = rI2 (.ifCond .ne 31) 4 32 := zT_a (k := 0) (i := 1) zT175_0 rfl
theorem m175_4 : smI 175 4 = rI0 ziA0 5 := zT_a (k := 0) (i := 4) zT175_0 rfl
theorem m175_5 : smI 175 5 = rI1 (.bipush 13) 7 13 := zT_a (k := 0) (i := 5) zT175_0 rfl
theorem m175_7 : smI 175 7 = rI4 (.invokevirtual 204) 10 20 171 1 := zT_a (k := 0) (i := 7) zT175_0 rfl
theorem m175_10 : smI 175 10 = rI0 ziA0 11 := zT_a (k := 0) (i := 10) zT175_0 rfl
theorem m175_11 : smI 175 11 = rI0 ziA0 12 := zT_a (k := 0) (i := 11) zT175_0 rfl
theorem m175_12 : smI 175 12 = rI3 (.getfield 219) 15 7 22 := zT_a (k := 0) (i := 12) zT175_0 rfl
theorem m175_15 : smI 175 15 = rI0 ziI2 16 := zT_a (k := 0) (i := 15) zT175_0 rfl
theorem m175_16 : smI 175 16 = rI4 (.invokevirtual 222) 19 20 174 2 := zT_a (k := 0) (i := 16) zT175_0 rfl
theorem m175_19 : smI 175 19 = rI0 ziS3 20 := zT_a (k := 0) (i := 19) zT175_0 rfl
theorem m175_20 : smI 175 20 = rI0 ziI3 21 := zT_a (k := 0) (i := 20) zT175_0 rfl
theorem m175_21 : smI 175 21 = rI0 ziA0 22 := zT_a (k := 0) (i := 21) zT175_0 rfl
theorem m175_22 : smI 175 22 = rI0 ziA0 23 := zT_a (k := 0) (i := 22) zT175_0 rfl
theorem m175_23 : smI 175 23 = rI3 (.getfield 219) 26 7 22 := zT_a (k := 0) (i := 23) zT175_0 rfl
theorem m175_26 : smI 175 26 = rI0 ziI2 27 := zT_a (k := 0) (i := 26) zT175_0 rfl
theorem m175_27 : smI 175 27 = rI4 (.invokevirtual 216) 30 20 173 2 := zT_a (k := 0) (i := 27) zT175_0 rfl
theorem m175_30 : smI 175 30 = rI0 .ixor 31 := zT_a (k := 0) (i := 30) zT175_0 rfl
theorem m175_31 : smI 175 31 = rI0 .ireturn 32 := zT_a (k := 0) (i := 31) zT175_0 rfl
theorem m175_32 : smI 175 32 = rI0 ziI1 33 := zT_a (k := 32) (i := 0) zT175_1 rfl
theorem m175_33 : smI 175 33 = rI1 ziC4 34 4 := zT_a (k := 32) (i := 1) zT175_1 rfl
theorem m175_34 : smI 175 34 = rI2 (.if_icmp .ne 28) 37 62 := zT_a (k := 32) (i := 2) zT175_1 rfl
theorem m175_37 : smI 175 37 = rI0 ziA0 38 := zT_a (k := 32) (i := 5) zT175_1 rfl
theorem m175_38 : smI 175 38 = rI1 (.bipush 50) 40 50 := zT_a (k := 32) (i := 6) zT175_1 rfl
theorem m175_40 : smI 175 40 = rI4 (.invokevirtual 204) 43 20 171 1 := zT_a (k := 32) (i := 8) zT175_1 rfl
theorem m175_43 : smI 175 43 = rI0 ziA0 44 := zT_a (k := 32) (i := 11) zT175_1 rfl
theorem m175_44 : smI 175 44 = rI1 ziC1 45 1 := zT_a (k := 32) (i := 12) zT175_1 rfl
theorem m175_45 : smI 175 45 = rI0 ziI2 46 := zT_a (k := 32) (i := 13) zT175_1 rfl
theorem m175_46 : smI 175 46 = rI4 (.invokevirtual 225) 49 20 175 2 := zT_a (k := 32) (i := 14) zT175_1 rfl
theorem m175_49 : smI 175 49 = rI0 ziS3 50 := zT_a (k := 32) (i := 17) zT175_1 rfl
theorem m175_50 : smI 175 50 = rI0 ziI3 51 := zT_a (k := 32) (i := 18) zT175_1 rfl
theorem m175_51 : smI 175 51 = rI0 ziA0 52 := zT_a (k := 32) (i := 19) zT175_1 rfl
theorem m175_52 : smI 175 52 = rI0 ziA0 53 := zT_a (k := 32) (i := 20) zT175_1 rfl
theorem m175_53 : smI 175 53 = rI3 (.getfield 219) 56 7 22 := zT_a (k := 32) (i := 21) zT175_1 rfl
theorem m175_56 : smI 175 56 = rI1 ziC2 57 2 := zT_a (k := 32) (i := 24) zT175_1 rfl
theorem m175_57 : smI 175 57 = rI4 (.invokevirtual 210) 60 20 172 2 := zT_a (k := 32) (i := 25) zT175_1 rfl
theorem m175_60 : smI 175 60 = rI0 .isub 61 := zT_a (k := 32) (i := 28) zT175_1 rfl
theorem m175_61 : smI 175 61 = rI0 .ireturn 62 := zT_a (k := 32) (i := 29) zT175_1 rfl
theorem m175_62 : smI 175 62 = rI0 ziI1 63 := zT_a (k := 32) (i := 30) zT175_1 rfl
theorem m175_63 : smI 175 63 = rI1 (.bipush 6) 65 6 := zT_a (k := 32) (i := 31) zT175_1 rfl
theorem m175_65 : smI 175 65 = rI2 (.if_icmp .ne 28) 68 93 := zT_a (k := 64) (i := 1) zT175_2 rfl
theorem m175_68 : smI 175 68 = rI0 ziA0 69 := zT_a (k := 64) (i := 4) zT175_2 rfl
theorem m175_69 : smI 175 69 = rI1 (.bipush 71) 71 71 := zT_a (k := 64) (i := 5) zT175_2 rfl
theorem m175_71 : smI 175 71 = rI4 (.invokevirtual 204) 74 20 171 1 := zT_a (k := 64) (i := 7) zT175_2 rfl
theorem m175_74 : smI 175 74 = rI0 ziA0 75 := zT_a (k := 64) (i := 10) zT175_2 rfl
theorem m175_75 : smI 175 75 = rI0 ziA0 76 := zT_a (k := 64) (i := 11) zT175_2 rfl
theorem m175_76 : smI 175 76 = rI3 (.getfield 219) 79 7 22 := zT_a (k := 64) (i := 12) zT175_2 rfl
theorem m175_79 : smI 175 79 = rI0 ziI2 80 := zT_a (k := 64) (i := 15) zT175_2 rfl
theorem m175_80 : smI 175 80 = rI4 (.invokevirtual 222) 83 20 174 2 := zT_a (k := 64) (i := 16) zT175_2 rfl
theorem m175_83 : smI 175 83 = rI0 ziS3 84 := zT_a (k := 64) (i := 19) zT175_2 rfl
theorem m175_84 : smI 175 84 = rI0 ziI3 85 := zT_a (k := 64) (i := 20) zT175_2 rfl
theorem m175_85 : smI 175 85 = rI0 ziA0 86 := zT_a (k := 64) (i := 21) zT175_2 rfl
theorem m175_86 : smI 175 86 = rI1 ziC3 87 3 := zT_a (k := 64) (i := 22) zT175_2 rfl
theorem m175_87 : smI 175 87 = rI0 ziI2 88 := zT_a (k := 64) (i := 23) zT175_2 rfl
theorem m175_88 : smI 175 88 = rI4 (.invokevirtual 225) 91 20 175 2 := zT_a (k := 64) (i := 24) zT175_2 rfl
theorem m175_91 : smI 175 91 = rI0 .isub 92 := zT_a (k := 64) (i := 27) zT175_2 rfl
theorem m175_92 : smI 175 92 = rI0 .ireturn 93 := zT_a (k := 64) (i := 28) zT175_2 rfl
theorem m175_93 : smI 175 93 = rI0 ziA0 94 := zT_a (k := 64) (i := 29) zT175_2 rfl
theorem m175_94 : smI 175 94 = rI0 ziI1 95 := zT_a (k := 64) (i := 30) zT175_2 rfl
theorem m175_95 : smI 175 95 = rI3 (.invokestatic 72) 98 136 1 := zT_a (k := 64) (i := 31) zT175_2 rfl
theorem m175_98 : smI 175 98 = rI0 ziI2 99 := zT_l (k := 96) (i := 2) zT175_3 rfl
theorem m175_99 : smI 175 99 = rI4 (.invokevirtual 225) 102 20 175 2 := zT_l (k := 96) (i := 3) zT175_3 rfl
theorem m175_102 : smI 175 102 = rI0 .ireturn 103 := zT_l (k := 96) (i := 6) zT175_3 rfl
theorem mx_176 : mMx 176 = 4 := by decide +kernel
theorem cn_176 : mCn 176 = 7 := by decide +kernel
theorem rt_176 : mRt 176 = (some .int) := by decide +kernel
theorem tq_176 : allT.getD 176 [] = tb_176 := rfl
theorem zT176_0 : zT 176 0 (tb_176_0 ++ (tb_176_1 ++ (tb_176_2 ++ (tb_176_3)))) := zT_0 tq_176
theorem zT176_1 : zT 176 32 (tb_176_1 ++ (tb_176_2 ++ (tb_176_3))) := zT_s zT176_0 (n := 32) (by decide +kernel) rfl
theorem zT176_2 : zT 176 64 (tb_176_2 ++ (tb_176_3)) := zT_s zT176_1 (n := 32) (by decide +kernel) rfl
theorem zT176_3 : zT 176 96 (tb_176_3) := zT_s zT176_2 (n := 32) (by decide +kernel) rfl
theorem m176_0 : smI 176 0 = rI0 ziA0 1 := zT_a (k := 0) (i := 0) zT176_0 rfl
theorem m176_1 : smI 176 1 = rI0 ziI1 2 := zT_a (k := 0) (i := 1) zT176_0 rfl
theorem m176_2 : smI 176 2 = rI4 (.invokevirtual 62) 5 20 113 1 := zT_a (k := 0) (i := 2) zT176_0 rfl
theorem m176_5 : smI 176 5 = rI2 (.ifCond .eq 12) 8 17 := zT_a (k := 0) (i := 5) zT176_0 rfl
theorem m176_8 : smI 176 8 = rI0 ziI2 9 := zT_a (k := 0) (i := 8) zT176_0 rfl
theorem m176_9 : smI 176 9 = rI0 ziC0 10 := zT_a (k := 0) (i := 9) zT176_0 rfl
theorem m176_10 : smI 176 10 = rI1 ziC3 11 3 := zT_a (k := 0) (i := 10) zT176_0 rfl
theorem m176_11 : smI 176 11 = rI3 (.invokestatic 44) 14 107 3 := zT_a (k := 0) (i := 11) zT176_0 rfl
theorem m176_14 : smI 176 14 = rI2 (.ifCond .ne 10) 17 24 := zT_a (k := 0) (i := 14) zT176_0 rfl
theorem m176_17 : smI 176 17 = rI0 ziA0 18 := zT_a (k := 0) (i := 17) zT176_0 rfl
theorem m176_18 : smI 176 18 = rI1 (.ldc 52) 20 (-1000000001) := zT_a (k := 0) (i := 18) zT176_0 rfl
theorem m176_20 : smI 176 20 = rI4 (.invokevirtual 53) 23 20 108 1 := zT_a (k := 0) (i := 20) zT176_0 rfl
theorem m176_23 : smI 176 23 = rI0 .ireturn 24 := zT_a (k := 0) (i := 23) zT176_0 rfl
theorem m176_24 : smI 176 24 = rI0 ziA0 25 := zT_a (k := 0) (i := 24) zT176_0 rfl
theorem m176_25 : smI 176 25 = rI0 ziC0 26 := zT_a (k := 0) (i := 25) zT176_0 rfl
theorem m176_26 : smI 176 26 = rI3 (.putfield 201) 29 7 21 := zT_a (k := 0) (i := 26) zT176_0 rfl
theorem m176_29 : smI 176 29 = rI0 ziA0 30 := zT_a (k := 0) (i := 29) zT176_0 rfl
theorem m176_30 : smI 176 30 = rI0 ziA0 31 := zT_a (k := 0) (i := 30) zT176_0 rfl
theorem m176_31 : smI 176 31 = rI0 ziI1 32 := zT_a (k := 0) (i := 31) zT176_0 rfl
theorem m176_32 : smI 176 32 = rI0 ziC0 33 := zT_a (k := 32) (i := 0) zT176_1 rfl
theorem m176_33 : smI 176 33 = rI4 (.invokevirtual 66) 36 20 111 2 := zT_a (k := 32) (i := 1) zT176_1 rfl
theorem m176_36 : smI 176 36 = rI3 (.putfield 219) 39 7 22 := zT_a (k := 32) (i := 4) zT176_1 rfl
theorem m176_39 : smI 176 39 = rI0 ziA0 40 := zT_a (k := 32) (i := 7) zT176_1 rfl
theorem m176_40 : smI 176 40 = rI0 ziI1 41 := zT_a (k := 32) (i := 8) zT176_1 rfl
theorem m176_41 : smI 176 41 = rI3 (.putfield 207) 44 7 23 := zT_a (k := 32) (i := 9) zT176_1 rfl
theorem m176_44 : smI 176 44 = rI0 ziA0 45 := zT_a (k := 32) (i := 12) zT176_1 rfl
theorem m176_45 : smI 176 45 = rI0 ziA0 46 := zT_a (k := 32) (i := 13) zT176_1 rfl
theorem m176_46 : smI 176 46 = rI0 ziI1 47 := zT_a (k := 32) (i := 14) zT176_1 rfl
theorem m176_47 : smI 176 47 = rI1 ziC1 48 1 := zT_a (k := 32) (i := 15) zT176_1 rfl
theorem m176_48 : smI 176 48 = rI4 (.invokevirtual 66) 51 20 111 2 := zT_a (k := 32) (i := 16) zT176_1 rfl
theorem m176_51 : smI 176 51 = rI3 (.putfield 213) 54 7 24 := zT_a (k := 32) (i := 19) zT176_1 rfl
theorem m176_54 : smI 176 54 = rI0 ziI2 55 := zT_a (k := 32) (i := 22) zT176_1 rfl
theorem m176_55 : smI 176 55 = rI0 (.tableswitch 55 0 2 #[25, 35, 45]) 80 := zT_a (k := 32) (i := 23) zT176_1 rfl
theorem m176_80 : smI 176 80 = rI0 ziA0 81 := zT_a (k := 64) (i := 16) zT176_2 rfl
theorem m176_81 : smI 176 81 = rI0 ziA0 82 := zT_a (k := 64) (i := 17) zT176_2 rfl
theorem m176_82 : smI 176 82 = rI3 (.getfield 219) 85 7 22 := zT_a (k := 64) (i := 18) zT176_2 rfl
theorem m176_85 : smI 176 85 = rI0 ziI3 86 := zT_a (k := 64) (i := 21) zT176_2 rfl
theorem m176_86 : smI 176 86 = rI4 (.invokevirtual 210) 89 20 172 2 := zT_a (k := 64) (i := 22) zT176_2 rfl
theorem m176_89 : smI 176 89 = rI0 .ireturn 90 := zT_a (k := 64) (i := 25) zT176_2 rfl
theorem m176_90 : smI 176 90 = rI0 ziA0 91 := zT_a (k := 64) (i := 26) zT176_2 rfl
theorem m176_91 : smI 176 91 = rI0 ziA0 92 := zT_a (k := 64) (i := 27) zT176_2 rfl
theorem m176_92 : smI 176 92 = rI3 (.getfield 219) 95 7 22 := zT_a (k := 64) (i := 28) zT176_2 rfl
theorem m176_95 : smI 176 95 = rI0 ziI3 96 := zT_a (k := 64) (i := 31) zT176_2 rfl
theorem m176_96 : smI 176 96 = rI4 (.invokevirtual 222) 99 20 174 2 := zT_l (k := 96) (i := 0) zT176_3 rfl
theorem m176_99 : smI 176 99 = rI0 .ireturn 100 := zT_l (k := 96) (i := 3) zT176_3 rfl
theorem m176_100 : smI 176 100 = rI0 ziA0 101 := zT_l (k := 96) (i := 4) zT176_3 rfl
theorem m176_101 : smI 176 101 = rI0 ziA0 102 := zT_l (k := 96) (i := 5) zT176_3 rfl
theorem m176_102 : smI 176 102 = rI3 (.getfield 219) 105 7 22 := zT_l (k := 96) (i := 6) zT176_3 rfl
theorem m176_105 : smI 176 105 = rI0 ziI3 106 := zT_l (k := 96) (i := 9) zT176_3 rfl
theorem m176_106 : smI 176 106 = rI4 (.invokevirtual 216) 109 20 173 2 := zT_l (k := 96) (i := 10) zT176_3 rfl
theorem m176_109 : smI 176 109 = rI0 .ireturn 110 := zT_l (k := 96) (i := 13) zT176_3 rfl
theorem m176_110 : smI 176 110 = rI0 ziA0 111 := zT_l (k := 96) (i := 14) zT176_3 rfl
theorem m176_111 : smI 176 111 = rI0 ziA0 112 := zT_l (k := 96) (i := 15) zT176_3 rfl
theorem m176_112 : smI 176 112 = rI3 (.getfield 219) 115 7 22 := zT_l (k := 96) (i := 16) zT176_3 rfl
theorem m176_115 : smI 176 115 = rI0 ziI3 116 := zT_l (k := 96) (i := 19) zT176_3 rfl
theorem m176_116 : smI 176 116 = rI4 (.invokevirtual 225) 119 20 175 2 := zT_l (k := 96) (i := 20) zT176_3 rfl
theorem m176_119 : smI 176 119 = rI0 .ireturn 120 := zT_l (k := 96) (i := 23) zT176_3 rfl
theorem mx_177 : mMx 177 = 2 := by decide +kernel
theorem cn_177 : mCn 177 = 7 := by decide +kernel
theorem rt_177 : mRt 177 = (some .int) := by decide +kernel
theorem tq_177 : allT.getD 177 [] = tb_177 := rfl
theorem m177_0 : smI 177 0 = rI0 ziI1 1 := sm_t tq_177 rfl
theorem m177_1 : smI 177 1 = rI0 ziC0 2 := sm_t tq_177 rfl
theorem m177_2 : smI 177 2 = rI0 ziA0 3 := sm_t tq_177 rfl
theorem m177_3 : smI 177 3 = rI3 (.getfield 201) 6 7 21 := sm_t tq_177 rfl
theorem m177_6 : smI 177 6 = rI1 ziC1 7 1 := sm_t tq_177 rfl
theorem m177_7 : smI 177 7 = rI0 .isub 8 := sm_t tq_177 rfl
theorem m177_8 : smI 177 8 = rI3 (.invokestatic 44) 11 107 3 := sm_t tq_177 rfl
theorem m177_11 : smI 177 11 = rI2 (.ifCond .eq 12) 14 23 := sm_t tq_177 rfl
theorem m177_14 : smI 177 14 = rI0 ziA0 15 := sm_t tq_177 rfl
theorem m177_15 : smI 177 15 = rI3 (.getfield 40) 18 7 20 := sm_t tq_177 rfl
theorem m177_18 : smI 177 18 = rI0 ziI1 19 := sm_t tq_177 rfl
theorem m177_19 : smI 177 19 = rI0 .iaload 20 := sm_t tq_177 rfl
theorem m177_20 : smI 177 20 = rI2 (.goto 9) 23 29 := sm_t tq_177 rfl
theorem m177_23 : smI 177 23 = rI0 ziA0 24 := sm_t tq_177 rfl
theorem m177_24 : smI 177 24 = rI1 (.ldc 181) 26 (-1000000002) := sm_t tq_177 rfl
theorem m177_26 : smI 177 26 = rI4 (.invokevirtual 53) 29 20 108 1 := sm_t tq_177 rfl
theorem m177_29 : smI 177 29 = rI0 .ireturn 30 := sm_t tq_177 rfl
theorem mx_178 : mMx 178 = 2 := by decide +kernel
theorem cn_178 : mCn 178 = 7 := by decide +kernel
theorem rt_178 : mRt 178 = (some .int) := by decide +kernel
theorem tq_178 : allT.getD 178 [] = tb_178 := rfl
theorem m178_0 : smI 178 0 = rI0 ziI0 1 := sm_t tq_178 rfl
theorem m178_1 : smI 178 1 = rI1 (.bipush 8) 3 8 := sm_t tq_178 rfl
theorem m178_3 : smI 178 3 = rI2 (.if_icmp .ne 8) 6 11 := sm_t tq_178 rfl
theorem m178_6 : smI 178 6 = rI0 ziI1 7 := sm_t tq_178 rfl
theorem m178_7 : smI 178 7 = rI0 .i2b 8 := sm_t tq_178 rfl
theorem m178_8 : smI 178 8 = rI2 (.goto 15) 11 23 := sm_t tq_178 rfl
theorem m178_11 : smI 178 11 = rI0 ziI0 12 := sm_t tq_178 rfl
theorem m178_12 : smI 178 12 = rI1 (.bipush 16) 14 16 := sm_t tq_178 rfl
theorem m178_14 : smI 178 14 = rI2 (.if_icmp .ne 8) 17 22 := sm_t tq_178 rfl
theorem m178_17 : smI 178 17 = rI0 ziI1 18 := sm_t tq_178 rfl
theorem m178_18 : smI 178 18 = rI0 .i2s 19 := sm_t tq_178 rfl
theorem m178_19 : smI 178 19 = rI2 (.goto 4) 22 23 := sm_t tq_178 rfl
theorem m178_22 : smI 178 22 = rI0 ziI1 23 := sm_t tq_178 rfl
theorem m178_23 : smI 178 23 = rI0 .ireturn 24 := sm_t tq_178 rfl
theorem mx_179 : mMx 179 = 5 := by decide +kernel
theorem cn_179 : mCn 179 = 7 := by decide +kernel
theorem rt_179 : mRt 179 = (some .int) := by decide +kernel
theorem tq_179 : allT.getD 179 [] = tb_179 := rfl
theorem zT179_0 : zT 179 0 (tb_179_0 ++ (tb_179_1 ++ (tb_179_2 ++ (tb_179_3)))) := zT_0 tq_179
theorem zT179_1 : zT 179 32 (tb_179_1 ++ (tb_179_2 ++ (tb_179_3))) := zT_s zT179_0 (n := 32) (by decide +kernel) rfl
theorem zT179_2 : zT 179 64 (tb_179_2 ++ (tb_179_3)) := zT_s zT179_1 (n := 32) (by decide +kernel) rfl
theorem zT179_3 : zT 179 96 (tb_179_3) := zT_s zT179_2 (n := 32) (by decide +kernel) rfl
theorem m179_0 : smI 179 0 = rI0 ziI1 1 := zT_a (k := 0) (i := 0) zT179_0 rfl
theorem m179_1 : smI 179 1 = rI3 (.invokestatic 192) 4 160 1 := zT_a (k := 0) (i := 1) zT179_0 rfl
theorem m179_4 : smI 179 4 = rI2 (.ifCond .eq 25) 7 29 := zT_a (k := 0) (i := 4) zT179_0 rfl
theorem m179_7 : smI 179 7 = rI0 ziI2 8 := zT_a (k := 0) (i := 7) zT179_0 rfl
theorem m179_8 : smI 179 8 = rI2 (.ifCond .eq 28) 11 36 := zT_a (k := 0) (i := 8) zT179_0 rfl
theorem m179_11 : smI 179 11 = rI0 ziI2 12 := zT_a (k := 0) (i := 11) zT179_0 rfl
theorem m179_12 : smI 179 12 = rI1 (.bipush 8) 14 8 := zT_a (k := 0) (i := 12) zT179_0 rfl
theorem m179_14 : smI 179 14 = rI2 (.if_icmp .eq 22) 17 36 := zT_a (k := 0) (i := 14) zT179_0 rfl
theorem m179_17 : smI 179 17 = rI0 ziI2 18 := zT_a (k := 0) (i := 17) zT179_0 rfl
theorem m179_18 : smI 179 18 = rI1 (.bipush 16) 20 16 := zT_a (k := 0) (i := 18) zT179_0 rfl
theorem m179_20 : smI 179 20 = rI2 (.if_icmp .eq 16) 23 36 := zT_a (k := 0) (i := 20) zT179_0 rfl
theorem m179_23 : smI 179 23 = rI0 ziI2 24 := zT_a (k := 0) (i := 23) zT179_0 rfl
theorem m179_24 : smI 179 24 = rI1 (.bipush 32) 26 32 := zT_a (k := 0) (i := 24) zT179_0 rfl
theorem m179_26 : smI 179 26 = rI2 (.if_icmp .eq 10) 29 36 := zT_a (k := 0) (i := 26) zT179_0 rfl
theorem m179_29 : smI 179 29 = rI0 ziA0 30 := zT_a (k := 0) (i := 29) zT179_0 rfl
theorem m179_30 : smI 179 30 = rI1 (.ldc 52) 32 (-1000000001) := zT_a (k := 0) (i := 30) zT179_0 rfl
theorem m179_32 : smI 179 32 = rI4 (.invokevirtual 53) 35 20 108 1 := zT_a (k := 32) (i := 0) zT179_1 rfl
theorem m179_35 : smI 179 35 = rI0 .ireturn 36 := zT_a (k := 32) (i := 3) zT179_1 rfl
theorem m179_36 : smI 179 36 = rI0 ziI2 37 := zT_a (k := 32) (i := 4) zT179_1 rfl
theorem m179_37 : smI 179 37 = rI2 (.ifCond .eq 14) 40 51 := zT_a (k := 32) (i := 5) zT179_1 rfl
theorem m179_40 : smI 179 40 = rI0 ziI3 41 := zT_a (k := 32) (i := 8) zT179_1 rfl
theorem m179_41 : smI 179 41 = rI2 (.ifCond .ge 10) 44 51 := zT_a (k := 32) (i := 9) zT179_1 rfl
theorem m179_44 : smI 179 44 = rI0 ziA0 45 := zT_a (k := 32) (i := 12) zT179_1 rfl
theorem m179_45 : smI 179 45 = rI1 (.ldc 169) 47 (-1000000003) := zT_a (k := 32) (i := 13) zT179_1 rfl
theorem m179_47 : smI 179 47 = rI4 (.invokevirtual 53) 50 20 108 1 := zT_a (k := 32) (i := 15) zT179_1 rfl
theorem m179_50 : smI 179 50 = rI0 .ireturn 51 := zT_a (k := 32) (i := 18) zT179_1 rfl
theorem m179_51 : smI 179 51 = rI0 ziI2 52 := zT_a (k := 32) (i := 19) zT179_1 rfl
theorem m179_52 : smI 179 52 = rI2 (.ifCond .eq 16) 55 68 := zT_a (k := 32) (i := 20) zT179_1 rfl
theorem m179_55 : smI 179 55 = rI0 ziI3 56 := zT_a (k := 32) (i := 23) zT179_1 rfl
theorem m179_56 : smI 179 56 = rI1 (.bipush 40) 58 40 := zT_a (k := 32) (i := 24) zT179_1 rfl
theorem m179_58 : smI 179 58 = rI2 (.if_icmp .le 10) 61 68 := zT_a (k := 32) (i := 26) zT179_1 rfl
theorem m179_61 : smI 179 61 = rI0 ziA0 62 := zT_a (k := 32) (i := 29) zT179_1 rfl
theorem m179_62 : smI 179 62 = rI1 (.ldc 52) 64 (-1000000001) := zT_a (k := 32) (i := 30) zT179_1 rfl
theorem m179_64 : smI 179 64 = rI4 (.invokevirtual 53) 67 20 108 1 := zT_a (k := 64) (i := 0) zT179_2 rfl
theorem m179_67 : smI 179 67 = rI0 .ireturn 68 := zT_a (k := 64) (i := 3) zT179_2 rfl
theorem m179_68 : smI 179 68 = rI0 ziA0 69 := zT_a (k := 64) (i := 4) zT179_2 rfl
theorem m179_69 : smI 179 69 = rI3 (.getfield 25) 72 7 15 := zT_a (k := 64) (i := 5) zT179_2 rfl
theorem m179_72 : smI 179 72 = rI0 ziI1 73 := zT_a (k := 64) (i := 8) zT179_2 rfl
theorem m179_73 : smI 179 73 = rI0 ziI2 74 := zT_a (k := 64) (i := 9) zT179_2 rfl
theorem m179_74 : smI 179 74 = rI0 .iastore 75 := zT_a (k := 64) (i := 10) zT179_2 rfl
theorem m179_75 : smI 179 75 = rI0 ziA0 76 := zT_a (k := 64) (i := 11) zT179_2 rfl
theorem m179_76 : smI 179 76 = rI3 (.getfield 28) 79 7 16 := zT_a (k := 64) (i := 12) zT179_2 rfl
theorem m179_79 : smI 179 79 = rI0 ziI1 80 := zT_a (k := 64) (i := 15) zT179_2 rfl
theorem m179_80 : smI 179 80 = rI0 ziI2 81 := zT_a (k := 64) (i := 16) zT179_2 rfl
theorem m179_81 : smI 179 81 = rI2 (.ifCond .ne 7) 84 88 := zT_a (k := 64) (i := 17) zT179_2 rfl
theorem m179_84 : smI 179 84 = rI0 ziC0 85 := zT_a (k := 64) (i := 20) zT179_2 rfl
theorem m179_85 : smI 179 85 = rI2 (.goto 4) 88 89 := zT_a (k := 64) (i := 21) zT179_2 rfl
theorem m179_88 : smI 179 88 = rI0 ziI3 89 := zT_a (k := 64) (i := 24) zT179_2 rfl
theorem m179_89 : smI 179 89 = rI0 .iastore 90 := zT_a (k := 64) (i := 25) zT179_2 rfl
theorem m179_90 : smI 179 90 = rI0 ziC0 91 := zT_a (k := 64) (i := 26) zT179_2 rfl
theorem m179_91 : smI 179 91 = rI0 (.istore 4) 93 := zT_a (k := 64) (i := 27) zT179_2 rfl
theorem m179_93 : smI 179 93 = rI0 (.iload 4) 95 := zT_a (k := 64) (i := 29) zT179_2 rfl
theorem m179_95 : smI 179 95 = rI1 (.bipush 40) 97 40 := zT_a (k := 64) (i := 31) zT179_2 rfl
theorem m179_97 : smI 179 97 = rI2 (.if_icmp .ge 22) 100 119 := zT_l (k := 96) (i := 1) zT179_3 rfl
theorem m179_100 : smI 179 100 = rI0 ziA0 101 := zT_l (k := 96) (i := 4) zT179_3 rfl
theorem m179_101 : smI 179 101 = rI3 (.getfield 31) 104 7 17 := zT_l (k := 96) (i := 5) zT179_3 rfl
theorem m179_104 : smI 179 104 = rI1 (.bipush 40) 106 40 := zT_l (k := 96) (i := 8) zT179_3 rfl
theorem m179_106 : smI 179 106 = rI0 ziI1 107 := zT_l (k := 96) (i := 10) zT179_3 rfl
theorem m179_107 : smI 179 107 = rI0 .imul 108 := zT_l (k := 96) (i := 11) zT179_3 rfl
theorem m179_108 : smI 179 108 = rI0 (.iload 4) 110 := zT_l (k := 96) (i := 12) zT179_3 rfl
theorem m179_110 : smI 179 110 = rI0 .iadd 111 := zT_l (k := 96) (i := 14) zT179_3 rfl
theorem m179_111 : smI 179 111 = rI0 ziC0 112 := zT_l (k := 96) (i := 15) zT179_3 rfl
theorem m179_112 : smI 179 112 = rI0 .iastore 113 := zT_l (k := 96) (i := 16) zT179_3 rfl
theorem m179_113 : smI 179 113 = rI1 (.iinc 4 1) 116 1 := zT_l (k := 96) (i := 17) zT179_3 rfl
theorem m179_116 : smI 179 116 = rI2 (.goto (-23)) 119 93 := zT_l (k := 96) (i := 20) zT179_3 rfl
theorem m179_119 : smI 179 119 = rI1 ziC1 120 1 := zT_l (k := 96) (i := 23) zT179_3 rfl
theorem m179_120 : smI 179 120 = rI0 .ireturn 121 := zT_l (k := 96) (i := 24) zT179_3 rfl
theorem mx_180 : mMx 180 = 4 := by decide +kernel
theorem cn_180 : mCn 180 = 7 := by decide +kernel
theorem rt_180 : mRt 180 = (some .int) := by decide +kernel
theorem tq_180 : allT.getD 180 [] = tb_180 := rfl
theorem zT180_0 : zT 180 0 (tb_180_0 ++ (tb_180_1 ++ (tb_180_2))) := zT_0 tq_180
theorem zT180_1 : zT 180 32 (tb_180_1 ++ (tb_180_2)) := zT_s zT180_0 (n := 32) (by decide +kernel) rfl
theorem zT180_2 : zT 180 64 (tb_180_2) := zT_s zT180_1 (n := 32) (by decide +kernel) rfl
theorem m180_0 : smI 180 0 = rI0 ziI1 1 := zT_a (k := 0) (i := 0) zT180_0 rfl
theorem m180_1 : smI 180 1 = rI3 (.invokestatic 192) 4 160 1 := zT_a (k := 0) (i := 1) zT180_0 rfl
theorem m180_4 : smI 180 4 = rI2 (.ifCond .ne 10) 7 14 := zT_a (k := 0) (i := 4) zT180_0 rfl
theorem m180_7 : smI 180 7 = rI0 ziA0 8 := zT_a (k := 0) (i := 7) zT180_0 rfl
theorem m180_8 : smI 180 8 = rI1 (.ldc 52) 10 (-1000000001) := zT_a (k := 0) (i := 8) zT180_0 rfl
theorem m180_10 : smI 180 10 = rI4 (.invokevirtual 53) 13 20 108 1 := zT_a (k := 0) (i := 10) zT180_0 rfl
theorem m180_13 : smI 180 13 = rI0 .ireturn 14 := zT_a (k := 0) (i := 13) zT180_0 rfl
theorem m180_14 : smI 180 14 = rI0 ziA0 15 := zT_a (k := 0) (i := 14) zT180_0 rfl
theorem m180_15 : smI 180 15 = rI3 (.getfield 25) 18 7 15 := zT_a (k := 0) (i := 15) zT180_0 rfl
theorem m180_18 : smI 180 18 = rI0 ziI1 19 := zT_a (k := 0) (i := 18) zT180_0 rfl
theorem m180_19 : smI 180 19 = rI0 .iaload 20 := zT_a (k := 0) (i := 19) zT180_0 rfl
theorem m180_20 : smI 180 20 = rI2 (.ifCond .ne 10) 23 30 := zT_a (k := 0) (i := 20) zT180_0 rfl
theorem m180_23 : smI 180 23 = rI0 ziA0 24 := zT_a (k := 0) (i := 23) zT180_0 rfl
theorem m180_24 : smI 180 24 = rI1 (.ldc 181) 26 (-1000000002) := zT_a (k := 0) (i := 24) zT180_0 rfl
theorem m180_26 : smI 180 26 = rI4 (.invokevirtual 53) 29 20 108 1 := zT_a (k := 0) (i := 26) zT180_0 rfl
theorem m180_29 : smI 180 29 = rI0 .ireturn 30 := zT_a (k := 0) (i := 29) zT180_0 rfl
theorem m180_30 : smI 180 30 = rI0 ziI2 31 := zT_a (k := 0) (i := 30) zT180_0 rfl
theorem m180_31 : smI 180 31 = rI0 ziC0 32 := zT_a (k := 0) (i := 31) zT180_0 rfl
theorem m180_32 : smI 180 32 = rI0 ziA0 33 := zT_a (k := 32) (i := 0) zT180_1 rfl
theorem m180_33 : smI 180 33 = rI3 (.getfield 28) 36 7 16 := zT_a (k := 32) (i := 1) zT180_1 rfl
theorem m180_36 : smI 180 36 = rI0 ziI1 37 := zT_a (k := 32) (i := 4) zT180_1 rfl
theorem m180_37 : smI 180 37 = rI0 .iaload 38 := zT_a (k := 32) (i := 5) zT180_1 rfl
theorem m180_38 : smI 180 38 = rI1 ziC1 39 1 := zT_a (k := 32) (i := 6) zT180_1 rfl
theorem m180_39 : smI 180 39 = rI0 .isub 40 := zT_a (k := 32) (i := 7) zT180_1 rfl
theorem m180_40 : smI 180 40 = rI3 (.invokestatic 44) 43 107 3 := zT_a (k := 32) (i := 8) zT180_1 rfl
theorem m180_43 : smI 180 43 = rI2 (.ifCond .ne 10) 46 53 := zT_a (k := 32) (i := 11) zT180_1 rfl
theorem m180_46 : smI 180 46 = rI0 ziA0 47 := zT_a (k := 32) (i := 14) zT180_1 rfl
theorem m180_47 : smI 180 47 = rI1 (.ldc 52) 49 (-1000000001) := zT_a (k := 32) (i := 15) zT180_1 rfl
theorem m180_49 : smI 180 49 = rI4 (.invokevirtual 53) 52 20 108 1 := zT_a (k := 32) (i := 17) zT180_1 rfl
theorem m180_52 : smI 180 52 = rI0 .ireturn 53 := zT_a (k := 32) (i := 20) zT180_1 rfl
theorem m180_53 : smI 180 53 = rI0 ziA0 54 := zT_a (k := 32) (i := 21) zT180_1 rfl
theorem m180_54 : smI 180 54 = rI3 (.getfield 31) 57 7 17 := zT_a (k := 32) (i := 22) zT180_1 rfl
theorem m180_57 : smI 180 57 = rI1 (.bipush 40) 59 40 := zT_a (k := 32) (i := 25) zT180_1 rfl
theorem m180_59 : smI 180 59 = rI0 ziI1 60 := zT_a (k := 32) (i := 27) zT180_1 rfl
theorem m180_60 : smI 180 60 = rI0 .imul 61 := zT_a (k := 32) (i := 28) zT180_1 rfl
theorem m180_61 : smI 180 61 = rI0 ziI2 62 := zT_a (k := 32) (i := 29) zT180_1 rfl
theorem m180_62 : smI 180 62 = rI0 .iadd 63 := zT_a (k := 32) (i := 30) zT180_1 rfl
theorem m180_63 : smI 180 63 = rI0 ziA0 64 := zT_a (k := 32) (i := 31) zT180_1 rfl
theorem m180_64 : smI 180 64 = rI3 (.getfield 25) 67 7 15 := zT_l (k := 64) (i := 0) zT180_2 rfl
theorem m180_67 : smI 180 67 = rI0 ziI1 68 := zT_l (k := 64) (i := 3) zT180_2 rfl
theorem m180_68 : smI 180 68 = rI0 .iaload 69 := zT_l (k := 64) (i := 4) zT180_2 rfl
theorem m180_69 : smI 180 69 = rI0 ziI3 70 := zT_l (k := 64) (i := 5) zT180_2 rfl
theorem m180_70 : smI 180 70 = rI3 (.invokestatic 228) 73 178 2 := zT_l (k := 64) (i := 6) zT180_2 rfl
theorem m180_73 : smI 180 73 = rI0 .iastore 74 := zT_l (k := 64) (i := 9) zT180_2 rfl
theorem m180_74 : smI 180 74 = rI1 ziC1 75 1 := zT_l (k := 64) (i := 10) zT180_2 rfl
theorem m180_75 : smI 180 75 = rI0 .ireturn 76 := zT_l (k := 64) (i := 11) zT180_2 rfl
theorem mx_181 : mMx 181 = 7 := by decide +kernel
theorem cn_181 : mCn 181 = 7 := by decide +kernel
theorem rt_181 : mRt 181 = (some .int) := by decide +kernel
theorem tq_181 : allT.getD 181 [] = tb_181 := rfl
theorem zT181_0 : zT 181 0 (tb_181_0 ++ (tb_181_1 ++ (tb_181_2 ++ (tb_181_3 ++ (tb_181_4 ++ (tb_181_5 ++ (tb_181_6))))))) := zT_0 tq_181
theorem zT181_1 : zT 181 32 (tb_181_1 ++ (tb_181_2 ++ (tb_181_3 ++ (tb_181_4 ++ (tb_181_5 ++ (tb_181_6)))))) := zT_s zT181_0 (n := 32) (by decide +kernel) rfl
theorem zT181_2 : zT 181 64 (tb_181_2 ++ (tb_181_3 ++ (tb_181_4 ++ (tb_181_5 ++ (tb_181_6))))) := zT_s zT181_1 (n := 32) (by decide +kernel) rfl
theorem zT181_3 : zT 181 96 (tb_181_3 ++ (tb_181_4 ++ (tb_181_5 ++ (tb_181_6)))) := zT_s zT181_2 (n := 32) (by decide +kernel) rfl
theorem zT181_4 : zT 181 128 (tb_181_4 ++ (tb_181_5 ++ (tb_181_6))) := zT_s zT181_3 (n := 32) (by decide +kernel) rfl
theorem zT181_5 : zT 181 160 (tb_181_5 ++ (tb_181_6)) := zT_s zT181_4 (n := 32) (by decide +kernel) rfl
theorem zT181_6 : zT 181 192 (tb_181_6) := zT_s zT181_5 (n := 32) (by decide +kernel) rfl
theorem m181_0 : smI 181 0 = rI0 ziI1 1 := zT_a (k := 0) (i := 0) zT181_0 rfl
theorem m181_1 : smI 181 1 = rI3 (.invokestatic 192) 4 160 1 := zT_a (k := 0) (i := 1) zT181_0 rfl
theorem m181_4 : smI 181 4 = rI2 (.ifCond .eq 10) 7 14 := zT_a (k := 0) (i := 4) zT181_0 rfl
theorem m181_7 : smI 181 7 = rI0 ziI3 8 := zT_a (k := 0) (i := 7) zT181_0 rfl
theorem m181_8 : smI 181 8 = rI3 (.invokestatic 192) 11 160 1 := zT_a (k := 0) (i := 8) zT181_0 rfl
theorem m181_11 : smI 181 11 = rI2 (.ifCond .ne 10) 14 21 := zT_a (k := 0) (i := 11) zT181_0 rfl
theorem m181_14 : smI 181 14 = rI0 ziA0 15 := zT_a (k := 0) (i := 14) zT181_0 rfl
theorem m181_15 : smI 181 15 = rI1 (.ldc 52) 17 (-1000000001) := zT_a (k := 0) (i := 15) zT181_0 rfl
theorem m181_17 : smI 181 17 = rI4 (.invokevirtual 53) 20 20 108 1 := zT_a (k := 0) (i := 17) zT181_0 rfl
theorem m181_20 : smI 181 20 = rI0 .ireturn 21 := zT_a (k := 0) (i := 20) zT181_0 rfl
theorem m181_21 : smI 181 21 = rI0 ziA0 22 := zT_a (k := 0) (i := 21) zT181_0 rfl
theorem m181_22 : smI 181 22 = rI3 (.getfield 25) 25 7 15 := zT_a (k := 0) (i := 22) zT181_0 rfl
theorem m181_25 : smI 181 25 = rI0 ziI1 26 := zT_a (k := 0) (i := 25) zT181_0 rfl
theorem m181_26 : smI 181 26 = rI0 .iaload 27 := zT_a (k := 0) (i := 26) zT181_0 rfl
theorem m181_27 : smI 181 27 = rI2 (.ifCond .eq 12) 30 39 := zT_a (k := 0) (i := 27) zT181_0 rfl
theorem m181_30 : smI 181 30 = rI0 ziA0 31 := zT_a (k := 0) (i := 30) zT181_0 rfl
theorem m181_31 : smI 181 31 = rI3 (.getfield 25) 34 7 15 := zT_a (k := 0) (i := 31) zT181_0 rfl
theorem m181_34 : smI 181 34 = rI0 ziI3 35 := zT_a (k := 32) (i := 2) zT181_1 rfl
theorem m181_35 : smI 181 35 = rI0 .iaload 36 := zT_a (k := 32) (i := 3) zT181_1 rfl
theorem m181_36 : smI 181 36 = rI2 (.ifCond .ne 10) 39 46 := zT_a (k := 32) (i := 4) zT181_1 rfl
theorem m181_39 : smI 181 39 = rI0 ziA0 40 := zT_a (k := 32) (i := 7) zT181_1 rfl
theorem m181_40 : smI 181 40 = rI1 (.ldc 181) 42 (-1000000002) := zT_a (k := 32) (i := 8) zT181_1 rfl
theorem m181_42 : smI 181 42 = rI4 (.invokevirtual 53) 45 20 108 1 := zT_a (k := 32) (i := 10) zT181_1 rfl
theorem m181_45 : smI 181 45 = rI0 .ireturn 46 := zT_a (k := 32) (i := 13) zT181_1 rfl
theorem m181_46 : smI 181 46 = rI0 ziA0 47 := zT_a (k := 32) (i := 14) zT181_1 rfl
theorem m181_47 : smI 181 47 = rI3 (.getfield 25) 50 7 15 := zT_a (k := 32) (i := 15) zT181_1 rfl
theorem m181_50 : smI 181 50 = rI0 ziI1 51 := zT_a (k := 32) (i := 18) zT181_1 rfl
theorem m181_51 : smI 181 51 = rI0 .iaload 52 := zT_a (k := 32) (i := 19) zT181_1 rfl
theorem m181_52 : smI 181 52 = rI0 ziA0 53 := zT_a (k := 32) (i := 20) zT181_1 rfl
theorem m181_53 : smI 181 53 = rI3 (.getfield 25) 56 7 15 := zT_a (k := 32) (i := 21) zT181_1 rfl
theorem m181_56 : smI 181 56 = rI0 ziI3 57 := zT_a (k := 32) (i := 24) zT181_1 rfl
theorem m181_57 : smI 181 57 = rI0 .iaload 58 := zT_a (k := 32) (i := 25) zT181_1 rfl
theorem m181_58 : smI 181 58 = rI2 (.if_icmp .eq 10) 61 68 := zT_a (k := 32) (i := 26) zT181_1 rfl
theorem m181_61 : smI 181 61 = rI0 ziA0 62 := zT_a (k := 32) (i := 29) zT181_1 rfl
theorem m181_62 : smI 181 62 = rI1 (.ldc 75) 64 (-1000000005) := zT_a (k := 32) (i := 30) zT181_1 rfl
theorem m181_64 : smI 181 64 = rI4 (.invokevirtual 53) 67 20 108 1 := zT_a (k := 64) (i := 0) zT181_2 rfl
theorem m181_67 : smI 181 67 = rI0 .ireturn 68 := zT_a (k := 64) (i := 3) zT181_2 rfl
theorem m181_68 : smI 181 68 = rI0 (.iload 5) 70 := zT_a (k := 64) (i := 4) zT181_2 rfl
theorem m181_70 : smI 181 70 = rI2 (.ifCond .lt 39) 73 109 := zT_a (k := 64) (i := 6) zT181_2 rfl
theorem m181_73 : smI 181 73 = rI0 ziI2 74 := zT_a (k := 64) (i := 9) zT181_2 rfl
theorem m181_74 : smI 181 74 = rI2 (.ifCond .lt 35) 77 109 := zT_a (k := 64) (i := 10) zT181_2 rfl
theorem m181_77 : smI 181 77 = rI0 (.iload 4) 79 := zT_a (k := 64) (i := 13) zT181_2 rfl
theorem m181_79 : smI 181 79 = rI2 (.ifCond .lt 30) 82 109 := zT_a (k := 64) (i := 15) zT181_2 rfl
theorem m181_82 : smI 181 82 = rI0 ziI2 83 := zT_a (k := 64) (i := 18) zT181_2 rfl
theorem m181_83 : smI 181 83 = rI0 ziA0 84 := zT_a (k := 64) (i := 19) zT181_2 rfl
theorem m181_84 : smI 181 84 = rI3 (.getfield 28) 87 7 16 := zT_a (k := 64) (i := 20) zT181_2 rfl
theorem m181_87 : smI 181 87 = rI0 ziI1 88 := zT_a (k := 64) (i := 23) zT181_2 rfl
theorem m181_88 : smI 181 88 = rI0 .iaload 89 := zT_a (k := 64) (i := 24) zT181_2 rfl
theorem m181_89 : smI 181 89 = rI0 (.iload 5) 91 := zT_a (k := 64) (i := 25) zT181_2 rfl
theorem m181_91 : smI 181 91 = rI0 .isub 92 := zT_a (k := 64) (i := 27) zT181_2 rfl
theorem m181_92 : smI 181 92 = rI2 (.if_icmp .gt 17) 95 109 := zT_a (k := 64) (i := 28) zT181_2 rfl
theorem m181_95 : smI 181 95 = rI0 (.iload 4) 97 := zT_a (k := 64) (i := 31) zT181_2 rfl
theorem m181_97 : smI 181 97 = rI0 ziA0 98 := zT_a (k := 96) (i := 1) zT181_3 rfl
theorem m181_98 : smI 181 98 = rI3 (.getfield 28) 101 7 16 := zT_a (k := 96) (i := 2) zT181_3 rfl
theorem m181_101 : smI 181 101 = rI0 ziI3 102 := zT_a (k := 96) (i := 5) zT181_3 rfl
theorem m181_102 : smI 181 102 = rI0 .iaload 103 := zT_a (k := 96) (i := 6) zT181_3 rfl
theorem m181_103 : smI 181 103 = rI0 (.iload 5) 105 := zT_a (k := 96) (i := 7) zT181_3 rfl
theorem m181_105 : smI 181 105 = rI0 .isub 106 := zT_a (k := 96) (i := 9) zT181_3 rfl
theorem m181_106 : smI 181 106 = rI2 (.if_icmp .le 10) 109 116 := zT_a (k := 96) (i := 10) zT181_3 rfl
theorem m181_109 : smI 181 109 = rI0 ziA0 110 := zT_a (k := 96) (i := 13) zT181_3 rfl
theorem m181_110 : smI 181 110 = rI1 (.ldc 52) 112 (-1000000001) := zT_a (k := 96) (i := 14) zT181_3 rfl
theorem m181_112 : smI 181 112 = rI4 (.invokevirtual 53) 115 20 108 1 := zT_a (k := 96) (i := 16) zT181_3 rfl
theorem m181_115 : smI 181 115 = rI0 .ireturn 116 := zT_a (k := 96) (i := 19) zT181_3 rfl
theorem m181_116 : smI 181 116 = rI0 ziC0 117 := zT_a (k := 96) (i := 20) zT181_3 rfl
theorem m181_117 : smI 181 117 = rI0 (.istore 6) 119 := zT_a (k := 96) (i := 21) zT181_3 rfl
theorem m181_119 : smI 181 119 = rI0 (.iload 6) 121 := zT_a (k := 96) (i := 23) zT181_3 rfl
theorem m181_121 : smI 181 121 = rI0 (.iload 5) 123 := zT_a (k := 96) (i := 25) zT181_3 rfl
theorem m181_123 : smI 181 123 = rI2 (.if_icmp .ge 30) 126 153 := zT_a (k := 96) (i := 27) zT181_3 rfl
theorem m181_126 : smI 181 126 = rI0 ziA0 127 := zT_a (k := 96) (i := 30) zT181_3 rfl
theorem m181_127 : smI 181 127 = rI3 (.getfield 34) 130 7 18 := zT_a (k := 96) (i := 31) zT181_3 rfl
theorem m181_130 : smI 181 130 = rI0 (.iload 6) 132 := zT_a (k := 128) (i := 2) zT181_4 rfl
theorem m181_132 : smI 181 132 = rI0 ziA0 133 := zT_a (k := 128) (i := 4) zT181_4 rfl
theorem m181_133 : smI 181 133 = rI3 (.getfield 31) 136 7 17 := zT_a (k := 128) (i := 5) zT181_4 rfl
theorem m181_136 : smI 181 136 = rI1 (.bipush 40) 138 40 := zT_a (k := 128) (i := 8) zT181_4 rfl
theorem m181_138 : smI 181 138 = rI0 ziI1 139 := zT_a (k := 128) (i := 10) zT181_4 rfl
theorem m181_139 : smI 181 139 = rI0 .imul 140 := zT_a (k := 128) (i := 11) zT181_4 rfl
theorem m181_140 : smI 181 140 = rI0 ziI2 141 := zT_a (k := 128) (i := 12) zT181_4 rfl
theorem m181_141 : smI 181 141 = rI0 .iadd 142 := zT_a (k := 128) (i := 13) zT181_4 rfl
theorem m181_142 : smI 181 142 = rI0 (.iload 6) 144 := zT_a (k := 128) (i := 14) zT181_4 rfl
theorem m181_144 : smI 181 144 = rI0 .iadd 145 := zT_a (k := 128) (i := 16) zT181_4 rfl
theorem m181_145 : smI 181 145 = rI0 .iaload 146 := zT_a (k := 128) (i := 17) zT181_4 rfl
theorem m181_146 : smI 181 146 = rI0 .iastore 147 := zT_a (k := 128) (i := 18) zT181_4 rfl
theorem m181_147 : smI 181 147 = rI1 (.iinc 6 1) 150 1 := zT_a (k := 128) (i := 19) zT181_4 rfl
theorem m181_150 : smI 181 150 = rI2 (.goto (-31)) 153 119 := zT_a (k := 128) (i := 22) zT181_4 rfl
theorem m181_153 : smI 181 153 = rI0 ziC0 154 := zT_a (k := 128) (i := 25) zT181_4 rfl
theorem m181_154 : smI 181 154 = rI0 (.istore 6) 156 := zT_a (k := 128) (i := 26) zT181_4 rfl
theorem m181_156 : smI 181 156 = rI0 (.iload 6) 158 := zT_a (k := 128) (i := 28) zT181_4 rfl
theorem m181_158 : smI 181 158 = rI0 (.iload 5) 160 := zT_a (k := 128) (i := 30) zT181_4 rfl
theorem m181_160 : smI 181 160 = rI2 (.if_icmp .ge 31) 163 191 := zT_a (k := 160) (i := 0) zT181_5 rfl
theorem m181_163 : smI 181 163 = rI0 ziA0 164 := zT_a (k := 160) (i := 3) zT181_5 rfl
theorem m181_164 : smI 181 164 = rI3 (.getfield 31) 167 7 17 := zT_a (k := 160) (i := 4) zT181_5 rfl
theorem m181_167 : smI 181 167 = rI1 (.bipush 40) 169 40 := zT_a (k := 160) (i := 7) zT181_5 rfl
theorem m181_169 : smI 181 169 = rI0 ziI3 170 := zT_a (k := 160) (i := 9) zT181_5 rfl
theorem m181_170 : smI 181 170 = rI0 .imul 171 := zT_a (k := 160) (i := 10) zT181_5 rfl
theorem m181_171 : smI 181 171 = rI0 (.iload 4) 173 := zT_a (k := 160) (i := 11) zT181_5 rfl
theorem m181_173 : smI 181 173 = rI0 .iadd 174 := zT_a (k := 160) (i := 13) zT181_5 rfl
theorem m181_174 : smI 181 174 = rI0 (.iload 6) 176 := zT_a (k := 160) (i := 14) zT181_5 rfl
theorem m181_176 : smI 181 176 = rI0 .iadd 177 := zT_a (k := 160) (i := 16) zT181_5 rfl
theorem m181_177 : smI 181 177 = rI0 ziA0 178 := zT_a (k := 160) (i := 17) zT181_5 rfl
theorem m181_178 : smI 181 178 = rI3 (.getfield 34) 181 7 18 := zT_a (k := 160) (i := 18) zT181_5 rfl
theorem m181_181 : smI 181 181 = rI0 (.iload 6) 183 := zT_a (k := 160) (i := 21) zT181_5 rfl
theorem m181_183 : smI 181 183 = rI0 .iaload 184 := zT_a (k := 160) (i := 23) zT181_5 rfl
theorem m181_184 : smI 181 184 = rI0 .iastore 185 := zT_a (k := 160) (i := 24) zT181_5 rfl
theorem m181_185 : smI 181 185 = rI1 (.iinc 6 1) 188 1 := zT_a (k := 160) (i := 25) zT181_5 rfl
theorem m181_188 : smI 181 188 = rI2 (.goto (-32)) 191 156 := zT_a (k := 160) (i := 28) zT181_5 rfl
theorem m181_191 : smI 181 191 = rI0 (.iload 5) 193 := zT_a (k := 160) (i := 31) zT181_5 rfl
theorem m181_193 : smI 181 193 = rI0 .ireturn 194 := zT_l (k := 192) (i := 1) zT181_6 rfl
theorem mx_182 : mMx 182 = 3 := by decide +kernel
theorem cn_182 : mCn 182 = 7 := by decide +kernel
theorem rt_182 : mRt 182 = (some .int) := by decide +kernel
theorem tq_182 : allT.getD 182 [] = tb_182 := rfl
theorem zT182_0 : zT 182 0 (tb_182_0 ++ (tb_182_1 ++ (tb_182_2))) := zT_0 tq_182
theorem zT182_1 : zT 182 32 (tb_182_1 ++ (tb_182_2)) := zT_s zT182_0 (n := 32) (by decide +kernel) rfl
theorem zT182_2 : zT 182 64 (tb_182_2) := zT_s zT182_1 (n := 32) (by decide +kernel) rfl
theorem m182_0 : smI 182 0 = rI0 ziI1 1 := zT_a (k := 0) (i := 0) zT182_0 rfl
theorem m182_1 : smI 182 1 = rI3 (.invokestatic 192) 4 160 1 := zT_a (k := 0) (i := 1) zT182_0 rfl
theorem m182_4 : smI 182 4 = rI2 (.ifCond .ne 10) 7 14 := zT_a (k := 0) (i := 4) zT182_0 rfl
theorem m182_7 : smI 182 7 = rI0 ziA0 8 := zT_a (k := 0) (i := 7) zT182_0 rfl
theorem m182_8 : smI 182 8 = rI1 (.ldc 52) 10 (-1000000001) := zT_a (k := 0) (i := 8) zT182_0 rfl
theorem m182_10 : smI 182 10 = rI4 (.invokevirtual 53) 13 20 108 1 := zT_a (k := 0) (i := 10) zT182_0 rfl
theorem m182_13 : smI 182 13 = rI0 .ireturn 14 := zT_a (k := 0) (i := 13) zT182_0 rfl
theorem m182_14 : smI 182 14 = rI0 ziA0 15 := zT_a (k := 0) (i := 14) zT182_0 rfl
theorem m182_15 : smI 182 15 = rI3 (.getfield 25) 18 7 15 := zT_a (k := 0) (i := 15) zT182_0 rfl
theorem m182_18 : smI 182 18 = rI0 ziI1 19 := zT_a (k := 0) (i := 18) zT182_0 rfl
theorem m182_19 : smI 182 19 = rI0 .iaload 20 := zT_a (k := 0) (i := 19) zT182_0 rfl
theorem m182_20 : smI 182 20 = rI2 (.ifCond .ne 10) 23 30 := zT_a (k := 0) (i := 20) zT182_0 rfl
theorem m182_23 : smI 182 23 = rI0 ziA0 24 := zT_a (k := 0) (i := 23) zT182_0 rfl
theorem m182_24 : smI 182 24 = rI1 (.ldc 181) 26 (-1000000002) := zT_a (k := 0) (i := 24) zT182_0 rfl
theorem m182_26 : smI 182 26 = rI4 (.invokevirtual 53) 29 20 108 1 := zT_a (k := 0) (i := 26) zT182_0 rfl
theorem m182_29 : smI 182 29 = rI0 .ireturn 30 := zT_a (k := 0) (i := 29) zT182_0 rfl
theorem m182_30 : smI 182 30 = rI0 ziC0 31 := zT_a (k := 0) (i := 30) zT182_0 rfl
theorem m182_31 : smI 182 31 = rI0 ziS2 32 := zT_a (k := 0) (i := 31) zT182_0 rfl
theorem m182_32 : smI 182 32 = rI0 ziI2 33 := zT_a (k := 32) (i := 0) zT182_1 rfl
theorem m182_33 : smI 182 33 = rI0 ziA0 34 := zT_a (k := 32) (i := 1) zT182_1 rfl
theorem m182_34 : smI 182 34 = rI3 (.getfield 28) 37 7 16 := zT_a (k := 32) (i := 2) zT182_1 rfl
theorem m182_37 : smI 182 37 = rI0 ziI1 38 := zT_a (k := 32) (i := 5) zT182_1 rfl
theorem m182_38 : smI 182 38 = rI0 .iaload 39 := zT_a (k := 32) (i := 6) zT182_1 rfl
theorem m182_39 : smI 182 39 = rI2 (.if_icmp .ge 54) 42 93 := zT_a (k := 32) (i := 7) zT182_1 rfl
theorem m182_42 : smI 182 42 = rI0 ziA0 43 := zT_a (k := 32) (i := 10) zT182_1 rfl
theorem m182_43 : smI 182 43 = rI0 ziI2 44 := zT_a (k := 32) (i := 11) zT182_1 rfl
theorem m182_44 : smI 182 44 = rI4 (.invokevirtual 62) 47 20 113 1 := zT_a (k := 32) (i := 12) zT182_1 rfl
theorem m182_47 : smI 182 47 = rI2 (.ifCond .eq 46) 50 93 := zT_a (k := 32) (i := 15) zT182_1 rfl
theorem m182_50 : smI 182 50 = rI0 ziA0 51 := zT_a (k := 32) (i := 18) zT182_1 rfl
theorem m182_51 : smI 182 51 = rI3 (.getfield 31) 54 7 17 := zT_a (k := 32) (i := 19) zT182_1 rfl
theorem m182_54 : smI 182 54 = rI1 (.bipush 40) 56 40 := zT_a (k := 32) (i := 22) zT182_1 rfl
theorem m182_56 : smI 182 56 = rI0 ziI1 57 := zT_a (k := 32) (i := 24) zT182_1 rfl
theorem m182_57 : smI 182 57 = rI0 .imul 58 := zT_a (k := 32) (i := 25) zT182_1 rfl
theorem m182_58 : smI 182 58 = rI0 ziI2 59 := zT_a (k := 32) (i := 26) zT182_1 rfl
theorem m182_59 : smI 182 59 = rI0 .iadd 60 := zT_a (k := 32) (i := 27) zT182_1 rfl
theorem m182_60 : smI 182 60 = rI0 .iaload 61 := zT_a (k := 32) (i := 28) zT182_1 rfl
theorem m182_61 : smI 182 61 = rI0 ziC0 62 := zT_a (k := 32) (i := 29) zT182_1 rfl
theorem m182_62 : smI 182 62 = rI1 (.bipush 9) 64 9 := zT_a (k := 32) (i := 30) zT182_1 rfl
theorem m182_64 : smI 182 64 = rI3 (.invokestatic 44) 67 107 3 := zT_l (k := 64) (i := 0) zT182_2 rfl
theorem m182_67 : smI 182 67 = rI2 (.ifCond .eq 26) 70 93 := zT_l (k := 64) (i := 3) zT182_2 rfl
theorem m182_70 : smI 182 70 = rI0 ziA0 71 := zT_l (k := 64) (i := 6) zT182_2 rfl
theorem m182_71 : smI 182 71 = rI0 ziI2 72 := zT_l (k := 64) (i := 7) zT182_2 rfl
theorem m182_72 : smI 182 72 = rI1 ziC3 73 3 := zT_l (k := 64) (i := 8) zT182_2 rfl
theorem m182_73 : smI 182 73 = rI0 ziA0 74 := zT_l (k := 64) (i := 9) zT182_2 rfl
theorem m182_74 : smI 182 74 = rI3 (.getfield 31) 77 7 17 := zT_l (k := 64) (i := 10) zT182_2 rfl
theorem m182_77 : smI 182 77 = rI1 (.bipush 40) 79 40 := zT_l (k := 64) (i := 13) zT182_2 rfl
theorem m182_79 : smI 182 79 = rI0 ziI1 80 := zT_l (k := 64) (i := 15) zT182_2 rfl
theorem m182_80 : smI 182 80 = rI0 .imul 81 := zT_l (k := 64) (i := 16) zT182_2 rfl
theorem m182_81 : smI 182 81 = rI0 ziI2 82 := zT_l (k := 64) (i := 17) zT182_2 rfl
theorem m182_82 : smI 182 82 = rI0 .iadd 83 := zT_l (k := 64) (i := 18) zT182_2 rfl
theorem m182_83 : smI 182 83 = rI0 .iaload 84 := zT_l (k := 64) (i := 19) zT182_2 rfl
theorem m182_84 : smI 182 84 = rI4 (.invokevirtual 58) 87 20 112 3 := zT_l (k := 64) (i := 20) zT182_2 rfl
theorem m182_87 : smI 182 87 = rI1 (.iinc 2 1) 90 1 := zT_l (k := 64) (i := 23) zT182_2 rfl
theorem m182_90 : smI 182 90 = rI2 (.goto (-58)) 93 32 := zT_l (k := 64) (i := 26) zT182_2 rfl
theorem m182_93 : smI 182 93 = rI0 ziI2 94 := zT_l (k := 64) (i := 29) zT182_2 rfl
theorem m182_94 : smI 182 94 = rI0 .ireturn 95 := zT_l (k := 64) (i := 30) zT182_2 rfl
theorem mx_183 : mMx 183 = 3 := by decide +kernel
theorem cn_183 : mCn 183 = 7 := by decide +kernel
theorem rt_183 : mRt 183 = (some .int) := by decide +kernel
theorem tq_183 : allT.getD 183 [] = tb_183 := rfl
theorem zT183_0 : zT 183 0 (tb_183_0 ++ (tb_183_1 ++ (tb_183_2 ++ (tb_183_3)))) := zT_0 tq_183
theorem zT183_1 : zT 183 32 (tb_183_1 ++ (tb_183_2 ++ (tb_183_3))) := zT_s zT183_0 (n := 32) (by decide +kernel) rfl
theorem zT183_2 : zT 183 64 (tb_183_2 ++ (tb_183_3)) := zT_s zT183_1 (n := 32) (by decide +kernel) rfl
theorem zT183_3 : zT 183 96 (tb_183_3) := zT_s zT183_2 (n := 32) (by decide +kernel) rfl
theorem m183_0 : smI 183 0 = rI0 ziI1 1 := zT_a (k := 0) (i := 0) zT183_0 rfl
theorem m183_1 : smI 183 1 = rI3 (.invokestatic 192) 4 160 1 := zT_a (k := 0) (i := 1) zT183_0 rfl
theorem m183_4 : smI 183 4 = rI2 (.ifCond .ne 10) 7 14 := zT_a (k := 0) (i := 4) zT183_0 rfl
theorem m183_7 : smI 183 7 = rI0 ziA0 8 := zT_a (k := 0) (i := 7) zT183_0 rfl
theorem m183_8 : smI 183 8 = rI1 (.ldc 52) 10 (-1000000001) := zT_a (k := 0) (i := 8) zT183_0 rfl
theorem m183_10 : smI 183 10 = rI4 (.invokevirtual 53) 13 20 108 1 := zT_a (k := 0) (i := 10) zT183_0 rfl
theorem m183_13 : smI 183 13 = rI0 .ireturn 14 := zT_a (k := 0) (i := 13) zT183_0 rfl
theorem m183_14 : smI 183 14 = rI0 ziA0 15 := zT_a (k := 0) (i := 14) zT183_0 rfl
theorem m183_15 : smI 183 15 = rI3 (.getfield 25) 18 7 15 := zT_a (k := 0) (i := 15) zT183_0 rfl
theorem m183_18 : smI 183 18 = rI0 ziI1 19 := zT_a (k := 0) (i := 18) zT183_0 rfl
theorem m183_19 : smI 183 19 = rI0 .iaload 20 := zT_a (k := 0) (i := 19) zT183_0 rfl
theorem m183_20 : smI 183 20 = rI2 (.ifCond .ne 10) 23 30 := zT_a (k := 0) (i := 20) zT183_0 rfl
theorem m183_23 : smI 183 23 = rI0 ziA0 24 := zT_a (k := 0) (i := 23) zT183_0 rfl
theorem m183_24 : smI 183 24 = rI1 (.ldc 181) 26 (-1000000002) := zT_a (k := 0) (i := 24) zT183_0 rfl
theorem m183_26 : smI 183 26 = rI4 (.invokevirtual 53) 29 20 108 1 := zT_a (k := 0) (i := 26) zT183_0 rfl
theorem m183_29 : smI 183 29 = rI0 .ireturn 30 := zT_a (k := 0) (i := 29) zT183_0 rfl
theorem m183_30 : smI 183 30 = rI0 ziC0 31 := zT_a (k := 0) (i := 30) zT183_0 rfl
theorem m183_31 : smI 183 31 = rI0 ziS2 32 := zT_a (k := 0) (i := 31) zT183_0 rfl
theorem m183_32 : smI 183 32 = rI0 ziI2 33 := zT_a (k := 32) (i := 0) zT183_1 rfl
theorem m183_33 : smI 183 33 = rI0 ziA0 34 := zT_a (k := 32) (i := 1) zT183_1 rfl
theorem m183_34 : smI 183 34 = rI2 (.getfield 7) 37 7 := zT_a (k := 32) (i := 2) zT183_1 rfl
theorem m183_37 : smI 183 37 = rI1 ziC2 38 2 := zT_a (k := 32) (i := 5) zT183_1 rfl
theorem m183_38 : smI 183 38 = rI0 .iaload 39 := zT_a (k := 32) (i := 6) zT183_1 rfl
theorem m183_39 : smI 183 39 = rI2 (.if_icmp .ge 38) 42 77 := zT_a (k := 32) (i := 7) zT183_1 rfl
theorem m183_42 : smI 183 42 = rI0 ziI2 43 := zT_a (k := 32) (i := 10) zT183_1 rfl
theorem m183_43 : smI 183 43 = rI0 ziA0 44 := zT_a (k := 32) (i := 11) zT183_1 rfl
theorem m183_44 : smI 183 44 = rI3 (.getfield 28) 47 7 16 := zT_a (k := 32) (i := 12) zT183_1 rfl
theorem m183_47 : smI 183 47 = rI0 ziI1 48 := zT_a (k := 32) (i := 15) zT183_1 rfl
theorem m183_48 : smI 183 48 = rI0 .iaload 49 := zT_a (k := 32) (i := 16) zT183_1 rfl
theorem m183_49 : smI 183 49 = rI2 (.if_icmp .ge 28) 52 77 := zT_a (k := 32) (i := 17) zT183_1 rfl
theorem m183_52 : smI 183 52 = rI0 ziA0 53 := zT_a (k := 32) (i := 20) zT183_1 rfl
theorem m183_53 : smI 183 53 = rI3 (.getfield 31) 56 7 17 := zT_a (k := 32) (i := 21) zT183_1 rfl
theorem m183_56 : smI 183 56 = rI1 (.bipush 40) 58 40 := zT_a (k := 32) (i := 24) zT183_1 rfl
theorem m183_58 : smI 183 58 = rI0 ziI1 59 := zT_a (k := 32) (i := 26) zT183_1 rfl
theorem m183_59 : smI 183 59 = rI0 .imul 60 := zT_a (k := 32) (i := 27) zT183_1 rfl
theorem m183_60 : smI 183 60 = rI0 ziI2 61 := zT_a (k := 32) (i := 28) zT183_1 rfl
theorem m183_61 : smI 183 61 = rI0 .iadd 62 := zT_a (k := 32) (i := 29) zT183_1 rfl
theorem m183_62 : smI 183 62 = rI0 .iaload 63 := zT_a (k := 32) (i := 30) zT183_1 rfl
theorem m183_63 : smI 183 63 = rI0 ziA0 64 := zT_a (k := 32) (i := 31) zT183_1 rfl
theorem m183_64 : smI 183 64 = rI0 ziI2 65 := zT_a (k := 64) (i := 0) zT183_2 rfl
theorem m183_65 : smI 183 65 = rI4 (.invokevirtual 69) 68 20 132 1 := zT_a (k := 64) (i := 1) zT183_2 rfl
theorem m183_68 : smI 183 68 = rI2 (.if_icmp .ne 9) 71 77 := zT_a (k := 64) (i := 4) zT183_2 rfl
theorem m183_71 : smI 183 71 = rI1 (.iinc 2 1) 74 1 := zT_a (k := 64) (i := 7) zT183_2 rfl
theorem m183_74 : smI 183 74 = rI2 (.goto (-42)) 77 32 := zT_a (k := 64) (i := 10) zT183_2 rfl
theorem m183_77 : smI 183 77 = rI0 ziI2 78 := zT_a (k := 64) (i := 13) zT183_2 rfl
theorem m183_78 : smI 183 78 = rI0 ziA0 79 := zT_a (k := 64) (i := 14) zT183_2 rfl
theorem m183_79 : smI 183 79 = rI2 (.getfield 7) 82 7 := zT_a (k := 64) (i := 15) zT183_2 rfl
theorem m183_82 : smI 183 82 = rI1 ziC2 83 2 := zT_a (k := 64) (i := 18) zT183_2 rfl
theorem m183_83 : smI 183 83 = rI0 .iaload 84 := zT_a (k := 64) (i := 19) zT183_2 rfl
theorem m183_84 : smI 183 84 = rI2 (.if_icmp .ne 17) 87 101 := zT_a (k := 64) (i := 20) zT183_2 rfl
theorem m183_87 : smI 183 87 = rI0 ziI2 88 := zT_a (k := 64) (i := 23) zT183_2 rfl
theorem m183_88 : smI 183 88 = rI0 ziA0 89 := zT_a (k := 64) (i := 24) zT183_2 rfl
theorem m183_89 : smI 183 89 = rI3 (.getfield 28) 92 7 16 := zT_a (k := 64) (i := 25) zT183_2 rfl
theorem m183_92 : smI 183 92 = rI0 ziI1 93 := zT_a (k := 64) (i := 28) zT183_2 rfl
theorem m183_93 : smI 183 93 = rI0 .iaload 94 := zT_a (k := 64) (i := 29) zT183_2 rfl
theorem m183_94 : smI 183 94 = rI2 (.if_icmp .ne 7) 97 101 := zT_a (k := 64) (i := 30) zT183_2 rfl
theorem m183_97 : smI 183 97 = rI1 (.iconst (-1)) 98 (-1) := zT_l (k := 96) (i := 1) zT183_3 rfl
theorem m183_98 : smI 183 98 = rI2 (.goto 4) 101 102 := zT_l (k := 96) (i := 2) zT183_3 rfl
theorem m183_101 : smI 183 101 = rI0 ziI2 102 := zT_l (k := 96) (i := 5) zT183_3 rfl
theorem m183_102 : smI 183 102 = rI0 .ireturn 103 := zT_l (k := 96) (i := 6) zT183_3 rfl
theorem mx_184 : mMx 184 = 1 := by decide +kernel
theorem cn_184 : mCn 184 = 7 := by decide +kernel
theorem rt_184 : mRt 184 = (some .int) := by decide +kernel
theorem tq_184 : allT.getD 184 [] = tb_184 := rfl
theorem m184_0 : smI 184 0 = rI0 ziA0 1 := sm_t tq_184 rfl
theorem m184_1 : smI 184 1 = rI0 ziA0 2 := sm_t tq_184 rfl
theorem m184_2 : smI 184 2 = rI2 (.getfield 7) 5 7 := sm_t tq_184 rfl
theorem m184_5 : smI 184 5 = rI0 ziA0 6 := sm_t tq_184 rfl
theorem m184_6 : smI 184 6 = rI3 (.getfield 13) 9 7 1 := sm_t tq_184 rfl
theorem m184_9 : smI 184 9 = rI4 (.invokevirtual 149) 12 20 110 2 := sm_t tq_184 rfl
theorem m184_12 : smI 184 12 = rI0 ziA0 13 := sm_t tq_184 rfl
theorem m184_13 : smI 184 13 = rI1 ziC1 14 1 := sm_t tq_184 rfl
theorem m184_14 : smI 184 14 = rI3 (.putfield 231) 17 7 4 := sm_t tq_184 rfl
theorem m184_17 : smI 184 17 = rI0 ziA0 18 := sm_t tq_184 rfl
theorem m184_18 : smI 184 18 = rI0 .dup 19 := sm_t tq_184 rfl
theorem m184_19 : smI 184 19 = rI3 (.getfield 234) 22 7 5 := sm_t tq_184 rfl
theorem m184_22 : smI 184 22 = rI1 ziC1 23 1 := sm_t tq_184 rfl
theorem m184_23 : smI 184 23 = rI0 .iadd 24 := sm_t tq_184 rfl
theorem m184_24 : smI 184 24 = rI3 (.putfield 234) 27 7 5 := sm_t tq_184 rfl
theorem m184_27 : smI 184 27 = rI0 ziA0 28 := sm_t tq_184 rfl
theorem m184_28 : smI 184 28 = rI3 (.getfield 234) 31 7 5 := sm_t tq_184 rfl
theorem m184_31 : smI 184 31 = rI0 .ireturn 32 := sm_t tq_184 rfl
theorem mx_185 : mMx 185 = 1 := by decide +kernel
theorem cn_185 : mCn 185 = 7 := by decide +kernel
theorem rt_185 : mRt 185 = (some .int) := by decide +kernel
theorem tq_185 : allT.getD 185 [] = tb_185 := rfl
theorem zT185_0 : zT 185 0 (tb_185_0 ++ (tb_185_1)) := zT_0 tq_185
theorem zT185_1 : zT 185 32 (tb_185_1) := zT_s zT185_0 (n := 32) (by decide +kernel) rfl
theorem m185_0 : smI 185 0 = rI0 ziA0 1 := zT_a (k := 0) (i := 0) zT185_0 rfl
theorem m185_1 : smI 185 1 = rI3 (.getfield 231) 4 7 4 := zT_a (k := 0) (i := 1) zT185_0 rfl
theorem m185_4 : smI 185 4 = rI2 (.ifCond .ne 10) 7 14 := zT_a (k := 0) (i := 4) zT185_0 rfl
theorem m185_7 : smI 185 7 = rI0 ziA0 8 := zT_a (k := 0) (i := 7) zT185_0 rfl
theorem m185_8 : smI 185 8 = rI1 (.ldc 181) 10 (-1000000002) := zT_a (k := 0) (i := 8) zT185_0 rfl
theorem m185_10 : smI 185 10 = rI4 (.invokevirtual 53) 13 20 108 1 := zT_a (k := 0) (i := 10) zT185_0 rfl
theorem m185_13 : smI 185 13 = rI0 .ireturn 14 := zT_a (k := 0) (i := 13) zT185_0 rfl
theorem m185_14 : smI 185 14 = rI0 ziA0 15 := zT_a (k := 0) (i := 14) zT185_0 rfl
theorem m185_15 : smI 185 15 = rI0 ziA0 16 := zT_a (k := 0) (i := 15) zT185_0 rfl
theorem m185_16 : smI 185 16 = rI3 (.getfield 13) 19 7 1 := zT_a (k := 0) (i := 16) zT185_0 rfl
theorem m185_19 : smI 185 19 = rI0 ziA0 20 := zT_a (k := 0) (i := 19) zT185_0 rfl
theorem m185_20 : smI 185 20 = rI2 (.getfield 7) 23 7 := zT_a (k := 0) (i := 20) zT185_0 rfl
theorem m185_23 : smI 185 23 = rI4 (.invokevirtual 149) 26 20 110 2 := zT_a (k := 0) (i := 23) zT185_0 rfl
theorem m185_26 : smI 185 26 = rI0 ziA0 27 := zT_a (k := 0) (i := 26) zT185_0 rfl
theorem m185_27 : smI 185 27 = rI2 (.getfield 7) 30 7 := zT_a (k := 0) (i := 27) zT185_0 rfl
theorem m185_30 : smI 185 30 = rI0 ziC0 31 := zT_a (k := 0) (i := 30) zT185_0 rfl
theorem m185_31 : smI 185 31 = rI0 .iaload 32 := zT_a (k := 0) (i := 31) zT185_0 rfl
theorem m185_32 : smI 185 32 = rI0 .ireturn 33 := zT_l (k := 32) (i := 0) zT185_1 rfl
theorem mx_186 : mMx 186 = 2 := by decide +kernel
theorem cn_186 : mCn 186 = 7 := by decide +kernel
theorem rt_186 : mRt 186 = (some .int) := by decide +kernel
theorem tq_186 : allT.getD 186 [] = tb_186 := rfl
theorem zT186_0 : zT 186 0 (tb_186_0 ++ (tb_186_1)) := zT_0 tq_186
theorem zT186_1 : zT 186 32 (tb_186_1) := zT_s zT186_0 (n := 32) (by decide +kernel) rfl
theorem m186_0 : smI 186 0 = rI0 ziA0 1 := zT_a (k := 0) (i := 0) zT186_0 rfl
theorem m186_1 : smI 186 1 = rI2 (.getfield 7) 4 7 := zT_a (k := 0) (i := 1) zT186_0 rfl
theorem m186_4 : smI 186 4 = rI1 ziC4 5 4 := zT_a (k := 0) (i := 4) zT186_0 rfl
theorem m186_5 : smI 186 5 = rI0 .iaload 6 := zT_a (k := 0) (i := 5) zT186_0 rfl
theorem m186_6 : smI 186 6 = rI1 (.bipush 20) 8 20 := zT_a (k := 0) (i := 6) zT186_0 rfl
theorem m186_8 : smI 186 8 = rI2 (.if_icmp .ne 10) 11 18 := zT_a (k := 0) (i := 8) zT186_0 rfl
theorem m186_11 : smI 186 11 = rI0 ziA0 12 := zT_a (k := 0) (i := 11) zT186_0 rfl
theorem m186_12 : smI 186 12 = rI1 (.ldc 57) 14 (-1000000004) := zT_a (k := 0) (i := 12) zT186_0 rfl
theorem m186_14 : smI 186 14 = rI4 (.invokevirtual 53) 17 20 108 1 := zT_a (k := 0) (i := 14) zT186_0 rfl
theorem m186_17 : smI 186 17 = rI0 .ireturn 18 := zT_a (k := 0) (i := 17) zT186_0 rfl
theorem m186_18 : smI 186 18 = rI0 ziA0 19 := zT_a (k := 0) (i := 18) zT186_0 rfl
theorem m186_19 : smI 186 19 = rI2 (.getfield 7) 22 7 := zT_a (k := 0) (i := 19) zT186_0 rfl
theorem m186_22 : smI 186 22 = rI1 (.bipush 114) 24 114 := zT_a (k := 0) (i := 22) zT186_0 rfl
theorem m186_24 : smI 186 24 = rI0 ziA0 25 := zT_a (k := 0) (i := 24) zT186_0 rfl
theorem m186_25 : smI 186 25 = rI2 (.getfield 7) 28 7 := zT_a (k := 0) (i := 25) zT186_0 rfl
theorem m186_28 : smI 186 28 = rI1 ziC4 29 4 := zT_a (k := 0) (i := 28) zT186_0 rfl
theorem m186_29 : smI 186 29 = rI0 .iaload 30 := zT_a (k := 0) (i := 29) zT186_0 rfl
theorem m186_30 : smI 186 30 = rI0 .iadd 31 := zT_a (k := 0) (i := 30) zT186_0 rfl
theorem m186_31 : smI 186 31 = rI0 ziI1 32 := zT_a (k := 0) (i := 31) zT186_0 rfl
theorem m186_32 : smI 186 32 = rI0 .iastore 33 := zT_l (k := 32) (i := 0) zT186_1 rfl
theorem m186_33 : smI 186 33 = rI0 ziA0 34 := zT_l (k := 32) (i := 1) zT186_1 rfl
theorem m186_34 : smI 186 34 = rI2 (.getfield 7) 37 7 := zT_l (k := 32) (i := 2) zT186_1 rfl
theorem m186_37 : smI 186 37 = rI1 ziC4 38 4 := zT_l (k := 32) (i := 5) zT186_1 rfl
theorem m186_38 : smI 186 38 = rI0 .dup2 39 := zT_l (k := 32) (i := 6) zT186_1 rfl
theorem m186_39 : smI 186 39 = rI0 .iaload 40 := zT_l (k := 32) (i := 7) zT186_1 rfl
theorem m186_40 : smI 186 40 = rI1 ziC1 41 1 := zT_l (k := 32) (i := 8) zT186_1 rfl
theorem m186_41 : smI 186 41 = rI0 .iadd 42 := zT_l (k := 32) (i := 9) zT186_1 rfl
theorem m186_42 : smI 186 42 = rI0 .iastore 43 := zT_l (k := 32) (i := 10) zT186_1 rfl
theorem m186_43 : smI 186 43 = rI0 ziA0 44 := zT_l (k := 32) (i := 11) zT186_1 rfl
theorem m186_44 : smI 186 44 = rI2 (.getfield 7) 47 7 := zT_l (k := 32) (i := 12) zT186_1 rfl
theorem m186_47 : smI 186 47 = rI1 ziC4 48 4 := zT_l (k := 32) (i := 15) zT186_1 rfl
theorem m186_48 : smI 186 48 = rI0 .iaload 49 := zT_l (k := 32) (i := 16) zT186_1 rfl
theorem m186_49 : smI 186 49 = rI0 .ireturn 50 := zT_l (k := 32) (i := 17) zT186_1 rfl
theorem mx_187 : mMx 187 = 4 := by decide +kernel
theorem cn_187 : mCn 187 = 7 := by decide +kernel
theorem rt_187 : mRt 187 = (some .int) := by decide +kernel
theorem tq_187 : allT.getD 187 [] = tb_187 := rfl
theorem zT187_0 : zT 187 0 (tb_187_0 ++ (tb_187_1 ++ (tb_187_2 ++ (tb_187_3)))) := zT_0 tq_187
theorem zT187_1 : zT 187 32 (tb_187_1 ++ (tb_187_2 ++ (tb_187_3))) := zT_s zT187_0 (n := 32) (by decide +kernel) rfl
theorem zT187_2 : zT 187 64 (tb_187_2 ++ (tb_187_3)) := zT_s zT187_1 (n := 32) (by decide +kernel) rfl
theorem zT187_3 : zT 187 96 (tb_187_3) := zT_s zT187_2 (n := 32) (by decide +kernel) rfl
theorem m187_0 : smI 187 0 = rI0 ziA0 1 := zT_a (k := 0) (i := 0) zT187_0 rfl
theorem m187_1 : smI 187 1 = rI2 (.getfield 7) 4 7 := zT_a (k := 0) (i := 1) zT187_0 rfl
theorem m187_4 : smI 187 4 = rI1 ziC4 5 4 := zT_a (k := 0) (i := 4) zT187_0 rfl
theorem m187_5 : smI 187 5 = rI0 .iaload 6 := zT_a (k := 0) (i := 5) zT187_0 rfl
theorem m187_6 : smI 187 6 = rI0 ziS1 7 := zT_a (k := 0) (i := 6) zT187_0 rfl
theorem m187_7 : smI 187 7 = rI0 ziA0 8 := zT_a (k := 0) (i := 7) zT187_0 rfl
theorem m187_8 : smI 187 8 = rI2 (.getfield 7) 11 7 := zT_a (k := 0) (i := 8) zT187_0 rfl
theorem m187_11 : smI 187 11 = rI1 ziC4 12 4 := zT_a (k := 0) (i := 11) zT187_0 rfl
theorem m187_12 : smI 187 12 = rI0 ziC0 13 := zT_a (k := 0) (i := 12) zT187_0 rfl
theorem m187_13 : smI 187 13 = rI0 .iastore 14 := zT_a (k := 0) (i := 13) zT187_0 rfl
theorem m187_14 : smI 187 14 = rI0 ziA0 15 := zT_a (k := 0) (i := 14) zT187_0 rfl
theorem m187_15 : smI 187 15 = rI0 ziA0 16 := zT_a (k := 0) (i := 15) zT187_0 rfl
theorem m187_16 : smI 187 16 = rI2 (.getfield 7) 19 7 := zT_a (k := 0) (i := 16) zT187_0 rfl
theorem m187_19 : smI 187 19 = rI0 ziA0 20 := zT_a (k := 0) (i := 19) zT187_0 rfl
theorem m187_20 : smI 187 20 = rI3 (.getfield 16) 23 7 2 := zT_a (k := 0) (i := 20) zT187_0 rfl
theorem m187_23 : smI 187 23 = rI4 (.invokevirtual 149) 26 20 110 2 := zT_a (k := 0) (i := 23) zT187_0 rfl
theorem m187_26 : smI 187 26 = rI0 ziC0 27 := zT_a (k := 0) (i := 26) zT187_0 rfl
theorem m187_27 : smI 187 27 = rI0 ziS2 28 := zT_a (k := 0) (i := 27) zT187_0 rfl
theorem m187_28 : smI 187 28 = rI1 ziC1 29 1 := zT_a (k := 0) (i := 28) zT187_0 rfl
theorem m187_29 : smI 187 29 = rI0 ziS3 30 := zT_a (k := 0) (i := 29) zT187_0 rfl
theorem m187_30 : smI 187 30 = rI0 ziI2 31 := zT_a (k := 0) (i := 30) zT187_0 rfl
theorem m187_31 : smI 187 31 = rI0 ziI1 32 := zT_a (k := 0) (i := 31) zT187_0 rfl
theorem m187_32 : smI 187 32 = rI2 (.if_icmp .ge 49) 35 81 := zT_a (k := 32) (i := 0) zT187_1 rfl
theorem m187_35 : smI 187 35 = rI0 ziI3 36 := zT_a (k := 32) (i := 3) zT187_1 rfl
theorem m187_36 : smI 187 36 = rI2 (.ifCond .eq 45) 39 81 := zT_a (k := 32) (i := 4) zT187_1 rfl
theorem m187_39 : smI 187 39 = rI0 ziA0 40 := zT_a (k := 32) (i := 7) zT187_1 rfl
theorem m187_40 : smI 187 40 = rI4 (.invokevirtual 166) 43 20 145 0 := zT_a (k := 32) (i := 8) zT187_1 rfl
theorem m187_43 : smI 187 43 = rI0 ziA0 44 := zT_a (k := 32) (i := 11) zT187_1 rfl
theorem m187_44 : smI 187 44 = rI1 ziC2 45 2 := zT_a (k := 32) (i := 12) zT187_1 rfl
theorem m187_45 : smI 187 45 = rI4 (.invokevirtual 174) 48 20 147 1 := zT_a (k := 32) (i := 13) zT187_1 rfl
theorem m187_48 : smI 187 48 = rI0 ziA0 49 := zT_a (k := 32) (i := 16) zT187_1 rfl
theorem m187_49 : smI 187 49 = rI2 (.getfield 7) 52 7 := zT_a (k := 32) (i := 17) zT187_1 rfl
theorem m187_52 : smI 187 52 = rI1 (.bipush 114) 54 114 := zT_a (k := 32) (i := 20) zT187_1 rfl
theorem m187_54 : smI 187 54 = rI0 ziI2 55 := zT_a (k := 32) (i := 22) zT187_1 rfl
theorem m187_55 : smI 187 55 = rI0 .iadd 56 := zT_a (k := 32) (i := 23) zT187_1 rfl
theorem m187_56 : smI 187 56 = rI0 .iaload 57 := zT_a (k := 32) (i := 24) zT187_1 rfl
theorem m187_57 : smI 187 57 = rI2 (.if_icmp .ne 7) 60 64 := zT_a (k := 32) (i := 25) zT187_1 rfl
theorem m187_60 : smI 187 60 = rI1 ziC1 61 1 := zT_a (k := 32) (i := 28) zT187_1 rfl
theorem m187_61 : smI 187 61 = rI2 (.goto 4) 64 65 := zT_a (k := 32) (i := 29) zT187_1 rfl
theorem m187_64 : smI 187 64 = rI0 ziC0 65 := zT_a (k := 64) (i := 0) zT187_2 rfl
theorem m187_65 : smI 187 65 = rI0 ziS3 66 := zT_a (k := 64) (i := 1) zT187_2 rfl
theorem m187_66 : smI 187 66 = rI0 ziI2 67 := zT_a (k := 64) (i := 2) zT187_2 rfl
theorem m187_67 : smI 187 67 = rI0 ziI3 68 := zT_a (k := 64) (i := 3) zT187_2 rfl
theorem m187_68 : smI 187 68 = rI2 (.ifCond .eq 7) 71 75 := zT_a (k := 64) (i := 4) zT187_2 rfl
theorem m187_71 : smI 187 71 = rI1 ziC1 72 1 := zT_a (k := 64) (i := 7) zT187_2 rfl
theorem m187_72 : smI 187 72 = rI2 (.goto 4) 75 76 := zT_a (k := 64) (i := 8) zT187_2 rfl
theorem m187_75 : smI 187 75 = rI0 ziC0 76 := zT_a (k := 64) (i := 11) zT187_2 rfl
theorem m187_76 : smI 187 76 = rI0 .iadd 77 := zT_a (k := 64) (i := 12) zT187_2 rfl
theorem m187_77 : smI 187 77 = rI0 ziS2 78 := zT_a (k := 64) (i := 13) zT187_2 rfl
theorem m187_78 : smI 187 78 = rI2 (.goto (-48)) 81 30 := zT_a (k := 64) (i := 14) zT187_2 rfl
theorem m187_81 : smI 187 81 = rI0 ziA0 82 := zT_a (k := 64) (i := 17) zT187_2 rfl
theorem m187_82 : smI 187 82 = rI0 ziA0 83 := zT_a (k := 64) (i := 18) zT187_2 rfl
theorem m187_83 : smI 187 83 = rI3 (.getfield 16) 86 7 2 := zT_a (k := 64) (i := 19) zT187_2 rfl
theorem m187_86 : smI 187 86 = rI0 ziA0 87 := zT_a (k := 64) (i := 22) zT187_2 rfl
theorem m187_87 : smI 187 87 = rI2 (.getfield 7) 90 7 := zT_a (k := 64) (i := 23) zT187_2 rfl
theorem m187_90 : smI 187 90 = rI4 (.invokevirtual 149) 93 20 110 2 := zT_a (k := 64) (i := 26) zT187_2 rfl
theorem m187_93 : smI 187 93 = rI0 ziI3 94 := zT_a (k := 64) (i := 29) zT187_2 rfl
theorem m187_94 : smI 187 94 = rI2 (.ifCond .eq 7) 97 101 := zT_a (k := 64) (i := 30) zT187_2 rfl
theorem m187_97 : smI 187 97 = rI0 ziC0 98 := zT_l (k := 96) (i := 1) zT187_3 rfl
theorem m187_98 : smI 187 98 = rI2 (.goto 6) 101 104 := zT_l (k := 96) (i := 2) zT187_3 rfl
theorem m187_101 : smI 187 101 = rI1 ziC1 102 1 := zT_l (k := 96) (i := 5) zT187_3 rfl
theorem m187_102 : smI 187 102 = rI0 ziI2 103 := zT_l (k := 96) (i := 6) zT187_3 rfl
theorem m187_103 : smI 187 103 = rI0 .iadd 104 := zT_l (k := 96) (i := 7) zT187_3 rfl
theorem m187_104 : smI 187 104 = rI0 .ireturn 105 := zT_l (k := 96) (i := 8) zT187_3 rfl
theorem mx_188 : mMx 188 = 2 := by decide +kernel
theorem cn_188 : mCn 188 = 7 := by decide +kernel
theorem rt_188 : mRt 188 = (some .int) := by decide +kernel
theorem tq_188 : allT.getD 188 [] = tb_188 := rfl
theorem zT188_0 : zT 188 0 (tb_188_0 ++ (tb_188_1 ++ (tb_188_2 ++ (tb_188_3 ++ (tb_188_4))))) := zT_0 tq_188
theorem zT188_1 : zT 188 32 (tb_188_1 ++ (tb_188_2 ++ (tb_188_3 ++ (tb_188_4)))) := zT_s zT188_0 (n := 32) (by decide +kernel) rfl
theorem zT188_2 : zT 188 64 (tb_188_2 ++ (tb_188_3 ++ (tb_188_4))) := zT_s zT188_1 (n := 32) (by decide +kernel) rfl
theorem zT188_3 : zT 188 96 (tb_188_3 ++ (tb_188_4)) := zT_s zT188_2 (n := 32) (by decide +kernel) rfl
theorem zT188_4 : zT 188 128 (tb_188_4) := zT_s zT188_3 (n := 32) (by decide +kernel) rfl
theorem m188_0 : smI 188 0 = rI0 ziI1 1 := zT_a (k := 0) (i := 0) zT188_0 rfl
theorem m188_1 : smI 188 1 = rI0 (.tableswitch 121 0 9 #[55, 62, 70, 77, 83, 89, 95, 102, 109, 114]) 56 := zT_a (k := 0) (i := 1) zT188_0 rfl
theorem m188_56 : smI 188 56 = rI0 ziA0 57 := zT_a (k := 32) (i := 24) zT188_1 rfl
theorem m188_57 : smI 188 57 = rI2 (.getfield 7) 60 7 := zT_a (k := 32) (i := 25) zT188_1 rfl
theorem m188_60 : smI 188 60 = rI1 ziC2 61 2 := zT_a (k := 32) (i := 28) zT188_1 rfl
theorem m188_61 : smI 188 61 = rI0 .iaload 62 := zT_a (k := 32) (i := 29) zT188_1 rfl
theorem m188_62 : smI 188 62 = rI0 .ireturn 63 := zT_a (k := 32) (i := 30) zT188_1 rfl
theorem m188_63 : smI 188 63 = rI0 ziA0 64 := zT_a (k := 32) (i := 31) zT188_1 rfl
theorem m188_64 : smI 188 64 = rI2 (.getfield 7) 67 7 := zT_a (k := 64) (i := 0) zT188_2 rfl
theorem m188_67 : smI 188 67 = rI1 (.bipush 7) 69 7 := zT_a (k := 64) (i := 3) zT188_2 rfl
theorem m188_69 : smI 188 69 = rI0 .iaload 70 := zT_a (k := 64) (i := 5) zT188_2 rfl
theorem m188_70 : smI 188 70 = rI0 .ireturn 71 := zT_a (k := 64) (i := 6) zT188_2 rfl
theorem m188_71 : smI 188 71 = rI0 ziA0 72 := zT_a (k := 64) (i := 7) zT188_2 rfl
theorem m188_72 : smI 188 72 = rI2 (.getfield 7) 75 7 := zT_a (k := 64) (i := 8) zT188_2 rfl
theorem m188_75 : smI 188 75 = rI0 ziC0 76 := zT_a (k := 64) (i := 11) zT188_2 rfl
theorem m188_76 : smI 188 76 = rI0 .iaload 77 := zT_a (k := 64) (i := 12) zT188_2 rfl
theorem m188_77 : smI 188 77 = rI0 .ireturn 78 := zT_a (k := 64) (i := 13) zT188_2 rfl
theorem m188_78 : smI 188 78 = rI0 ziA0 79 := zT_a (k := 64) (i := 14) zT188_2 rfl
theorem m188_79 : smI 188 79 = rI1 ziC2 80 2 := zT_a (k := 64) (i := 15) zT188_2 rfl
theorem m188_80 : smI 188 80 = rI4 (.invokevirtual 174) 83 20 147 1 := zT_a (k := 64) (i := 16) zT188_2 rfl
theorem m188_83 : smI 188 83 = rI0 .ireturn 84 := zT_a (k := 64) (i := 19) zT188_2 rfl
theorem m188_84 : smI 188 84 = rI0 ziA0 85 := zT_a (k := 64) (i := 20) zT188_2 rfl
theorem m188_85 : smI 188 85 = rI1 ziC4 86 4 := zT_a (k := 64) (i := 21) zT188_2 rfl
theorem m188_86 : smI 188 86 = rI4 (.invokevirtual 174) 89 20 147 1 := zT_a (k := 64) (i := 22) zT188_2 rfl
theorem m188_89 : smI 188 89 = rI0 .ireturn 90 := zT_a (k := 64) (i := 25) zT188_2 rfl
theorem m188_90 : smI 188 90 = rI0 ziA0 91 := zT_a (k := 64) (i := 26) zT188_2 rfl
theorem m188_91 : smI 188 91 = rI1 ziC5 92 5 := zT_a (k := 64) (i := 27) zT188_2 rfl
theorem m188_92 : smI 188 92 = rI4 (.invokevirtual 174) 95 20 147 1 := zT_a (k := 64) (i := 28) zT188_2 rfl
theorem m188_95 : smI 188 95 = rI0 .ireturn 96 := zT_a (k := 64) (i := 31) zT188_2 rfl
theorem m188_96 : smI 188 96 = rI0 ziA0 97 := zT_a (k := 96) (i := 0) zT188_3 rfl
theorem m188_97 : smI 188 97 = rI2 (.getfield 7) 100 7 := zT_a (k := 96) (i := 1) zT188_3 rfl
theorem m188_100 : smI 188 100 = rI1 ziC3 101 3 := zT_a (k := 96) (i := 4) zT188_3 rfl
theorem m188_101 : smI 188 101 = rI0 .iaload 102 := zT_a (k := 96) (i := 5) zT188_3 rfl
theorem m188_102 : smI 188 102 = rI0 .ireturn 103 := zT_a (k := 96) (i := 6) zT188_3 rfl
theorem m188_103 : smI 188 103 = rI0 ziA0 104 := zT_a (k := 96) (i := 7) zT188_3 rfl
theorem m188_104 : smI 188 104 = rI2 (.getfield 7) 107 7 := zT_a (k := 96) (i := 8) zT188_3 rfl
theorem m188_107 : smI 188 107 = rI1 ziC4 108 4 := zT_a (k := 96) (i := 11) zT188_3 rfl
theorem m188_108 : smI 188 108 = rI0 .iaload 109 := zT_a (k := 96) (i := 12) zT188_3 rfl
theorem m188_109 : smI 188 109 = rI0 .ireturn 110 := zT_a (k := 96) (i := 13) zT188_3 rfl
theorem m188_110 : smI 188 110 = rI0 ziA0 111 := zT_a (k := 96) (i := 14) zT188_3 rfl
theorem m188_111 : smI 188 111 = rI3 (.getfield 201) 114 7 21 := zT_a (k := 96) (i := 15) zT188_3 rfl
theorem m188_114 : smI 188 114 = rI0 .ireturn 115 := zT_a (k := 96) (i := 18) zT188_3 rfl
theorem m188_115 : smI 188 115 = rI0 ziA0 116 := zT_a (k := 96) (i := 19) zT188_3 rfl
theorem m188_116 : smI 188 116 = rI2 (.getfield 7) 119 7 := zT_a (k := 96) (i := 20) zT188_3 rfl
theorem m188_119 : smI 188 119 = rI1 ziC1 120 1 := zT_a (k := 96) (i := 23) zT188_3 rfl
theorem m188_120 : smI 188 120 = rI0 .iaload 121 := zT_a (k := 96) (i := 24) zT188_3 rfl
theorem m188_121 : smI 188 121 = rI0 .ireturn 122 := zT_a (k := 96) (i := 25) zT188_3 rfl
theorem m188_122 : smI 188 122 = rI0 ziA0 123 := zT_a (k := 96) (i := 26) zT188_3 rfl
theorem m188_123 : smI 188 123 = rI1 (.ldc 52) 125 (-1000000001) := zT_a (k := 96) (i := 27) zT188_3 rfl
theorem m188_125 : smI 188 125 = rI4 (.invokevirtual 53) 128 20 108 1 := zT_a (k := 96) (i := 29) zT188_3 rfl
theorem m188_128 : smI 188 128 = rI0 .ireturn 129 := zT_l (k := 128) (i := 0) zT188_4 rfl
theorem mx_189 : mMx 189 = 2 := by decide +kernel
theorem cn_189 : mCn 189 = 7 := by decide +kernel
theorem rt_189 : mRt 189 = (some .int) := by decide +kernel
theorem tq_189 : allT.getD 189 [] = tb_189 := rfl
theorem m189_0 : smI 189 0 = rI0 ziI1 1 := sm_t tq_189 rfl
theorem m189_1 : smI 189 1 = rI1 ziC1 2 1 := sm_t tq_189 rfl
theorem m189_2 : smI 189 2 = rI1 ziC5 3 5 := sm_t tq_189 rfl
theorem m189_3 : smI 189 3 = rI3 (.invokestatic 44) 6 107 3 := sm_t tq_189 rfl
theorem m189_6 : smI 189 6 = rI2 (.ifCond .eq 12) 9 18 := sm_t tq_189 rfl
theorem m189_9 : smI 189 9 = rI0 ziA0 10 := sm_t tq_189 rfl
theorem m189_10 : smI 189 10 = rI3 (.getfield 22) 13 7 6 := sm_t tq_189 rfl
theorem m189_13 : smI 189 13 = rI0 ziI1 14 := sm_t tq_189 rfl
theorem m189_14 : smI 189 14 = rI0 .iaload 15 := sm_t tq_189 rfl
theorem m189_15 : smI 189 15 = rI2 (.goto 9) 18 24 := sm_t tq_189 rfl
theorem m189_18 : smI 189 18 = rI0 ziA0 19 := sm_t tq_189 rfl
theorem m189_19 : smI 189 19 = rI1 (.ldc 52) 21 (-1000000001) := sm_t tq_189 rfl
theorem m189_21 : smI 189 21 = rI4 (.invokevirtual 53) 24 20 108 1 := sm_t tq_189 rfl
theorem m189_24 : smI 189 24 = rI0 .ireturn 25 := sm_t tq_189 rfl
