def w0 (ca : Nat → ClassId) (q : Nat → Nat) (r0 : Value) (r1 : Value) (S : ms_T) : va_W := ((q 0, .inr (0, (r0 :: r1 :: .int (gi S 2) :: .ref (q 1) :: .int (gi S 4) :: .int (gi S 5) :: .int (gi S 6) :: .int (gi S 7) :: .int (gi S 8) :: .int (gi S 9) :: []))) :: (q 1, .inl (ca 1, 60, .inl (ra S 1))) :: [])
def w1 (ca : Nat → ClassId) (q : Nat → Nat) (S : ms_T) : va_W := ((q 0, .inr (1, (.int (gi S 0) :: .int (gi S 1) :: .int (gi S 2) :: .ref (q 1) :: .ref (q 2) :: .ref (q 3) :: .ref (q 4) :: .ref (q 5) :: []))) :: (q 1, .inl (ca 1, 60, .inl (ra S 1))) :: (q 2, .inl (ca 1, 60, .inl (ra S 2))) :: (q 3, .inl (ca 1, 60, .inl (ra S 3))) :: (q 4, .inl (ca 1, 60, .inl (ra S 4))) :: (q 5, .inl (ca 1, 60, .inl (ra S 5))) :: [])
def w2 (ca : Nat → ClassId) (q : Nat → Nat) (r0 : Value) (r11 : Value) (r12 : Value) (S : ms_T) : va_W := ((q 0, .inr (2, (r0 :: .int (gi S 1) :: .int (gi S 2) :: .int (gi S 3) :: .int (gi S 4) :: .int (gi S 5) :: .int (gi S 6) :: .int (gi S 7) :: .long (gl S 8) :: .int (gi S 9) :: .int (gi S 10) :: r11 :: r12 :: .int (gi S 13) :: .ref (q 1) :: []))) :: (q 1, .inl (ca 1, 3, .inl (ra S 1))) :: [])
def w3 (ca : Nat → ClassId) (q : Nat → Nat) (r0 : Value) (S : ms_T) : va_W := ((q 0, .inr (3, (r0 :: .int (gi S 1) :: .int (gi S 2) :: .ref (q 1) :: .ref (q 2) :: .ref (q 3) :: []))) :: (q 1, .inl (ca 1, 6, .inl (ra S 1))) :: (q 2, .inl (ca 1, 6, .inl (ra S 2))) :: (q 3, .inl (ca 1, 6, .inl (ra S 3))) :: [])
def w5 (ca : Nat → ClassId) (q : Nat → Nat) (S : ms_T) : va_W := ((q 0, .inr (5, (.ref (q 1) :: .ref (q 2) :: .ref (q 3) :: .ref (q 4) :: []))) :: (q 1, .inl (ca 2, 10, .inr (.inl (rl S 1)))) :: (q 2, .inl (ca 2, 10, .inr (.inl (rl S 2)))) :: (q 3, .inl (ca 2, 10, .inr (.inl (rl S 3)))) :: (q 4, .inl (ca 2, 7, .inr (.inl (rl S 4)))) :: [])
def w6 (ca : Nat → ClassId) (q : Nat → Nat) (r0 : Value) (r1 : Value) (S : ms_T) : va_W := ((q 0, .inr (6, (r0 :: r1 :: []))) :: [])
def w7 (ca : Nat → ClassId) (q : Nat → Nat) (S : ms_T) : va_W := ((q 0, .inr (7, (.int (gi S 0) :: .int (gi S 1) :: .ref (q 1) :: .ref (q 2) :: .int (gi S 4) :: .ref (q 3) :: .ref (q 4) :: .int (gi S 7) :: .int (gi S 8) :: .ref (q 5) :: .ref (q 6) :: .ref (q 7) :: .int (gi S 12) :: .int (gi S 13) :: .ref (q 8) :: .ref (q 9) :: .int (gi S 16) :: .ref (q 10) :: []))) :: (q 1, .inl (ca 1, 9, .inl (ra S 1))) :: (q 2, .inl (ca 1, 9, .inl (ra S 2))) :: (q 3, .inl (ca 1, 8, .inl (ra S 3))) :: (q 4, .inl (ca 1, 8, .inl (ra S 4))) :: (q 5, .inl (ca 1, 6, .inl (ra S 5))) :: (q 6, .inl (ca 1, 6, .inl (ra S 6))) :: (q 7, .inl (ca 1, 6, .inl (ra S 7))) :: (q 8, .inl (ca 1, 10, .inl (ra S 8))) :: (q 9, .inl (ca 1, 10, .inl (ra S 9))) :: (q 10, .inl (ca 2, 23, .inr (.inl (rl S 10)))) :: [])
def w8 (ca : Nat → ClassId) (q : Nat → Nat) (r0 : Value) (r11 : Value) (S : ms_T) : va_W := ((q 0, .inr (8, (r0 :: .int (gi S 1) :: .int (gi S 2) :: .int (gi S 3) :: .int (gi S 4) :: .int (gi S 5) :: .int (gi S 6) :: .int (gi S 7) :: .long (gl S 8) :: .int (gi S 9) :: .int (gi S 10) :: r11 :: .int (gi S 12) :: []))) :: [])
def w9 (ca : Nat → ClassId) (q : Nat → Nat) (S : ms_T) : va_W := ((q 0, .inr (9, (.ref (q 1) :: .int (gi S 1) :: .int (gi S 2) :: []))) :: (q 1, .inl (ca 2, 60, .inr (.inl (rl S 1)))) :: [])
def w10 (ca : Nat → ClassId) (q : Nat → Nat) (r0 : Value) (S : ms_T) : va_W := ((q 0, .inr (10, (r0 :: .int (gi S 1) :: .ref (q 1) :: .ref (q 2) :: []))) :: (q 1, .inl (ca 1, 32, .inl (ra S 1))) :: (q 2, .inl (ca 1, 10, .inl (ra S 2))) :: [])
def w11 (ca : Nat → ClassId) (q : Nat → Nat) (r3 : Value) (r4 : Value) (r6 : Value) (r7 : Value) (r10 : Value) (r11 : Value) (r12 : Value) (r14 : Value) (r15 : Value) (r17 : Value) (r18 : Value) (r19 : Value) (S : ms_T) : va_W := ((q 0, .inr (11, (.int (gi S 0) :: .long (gl S 1) :: .long (gl S 2) :: r3 :: r4 :: .int (gi S 5) :: r6 :: r7 :: .int (gi S 8) :: .int (gi S 9) :: r10 :: r11 :: r12 :: .int (gi S 13) :: r14 :: r15 :: .int (gi S 16) :: r17 :: r18 :: r19 :: []))) :: [])
def wLB (ca : Nat → ClassId) (q : Nat → Nat) (S : ms_T) : va_W := [(q 0, .inl (ca 0, 900, .inl (ra S 0)))]
def wLT (ca : Nat → ClassId) (q : Nat → Nat) (r0 : Nat → Option Nat) : va_W := [(q 0, .inl (ca 4, 4, .inr (.inr (.inr (.inr r0)))))]
def wLS (ca : Nat → ClassId) (q : Nat → Nat) (r0 : Nat → Option Nat) : va_W := [(q 0, .inl (ca 3, 3, .inr (.inr (.inr (.inr r0)))))]
theorem dX0_behindEnd_0 : decode cX0_behindEnd 0 = .ok (.aload_n 0, 1) := by decide +kernel
theorem dX0_behindEnd_1 : decode cX0_behindEnd 1 = .ok (.getfield 19, 3) := by decide +kernel
theorem dX0_behindEnd_4 : decode cX0_behindEnd 4 = .ok (.getfield 60, 3) := by decide +kernel
theorem dX0_behindEnd_7 : decode cX0_behindEnd 7 = .ok (.iload_n 1, 1) := by decide +kernel
theorem dX0_behindEnd_8 : decode cX0_behindEnd 8 = .ok (.iaload, 1) := by decide +kernel
theorem dX0_behindEnd_9 : decode cX0_behindEnd 9 = .ok (.istore_n 2, 1) := by decide +kernel
theorem dX0_behindEnd_10 : decode cX0_behindEnd 10 = .ok (.aload_n 0, 1) := by decide +kernel
theorem dX0_behindEnd_11 : decode cX0_behindEnd 11 = .ok (.getfield 19, 3) := by decide +kernel
theorem dX0_behindEnd_14 : decode cX0_behindEnd 14 = .ok (.getfield 48, 3) := by decide +kernel
theorem dX0_behindEnd_17 : decode cX0_behindEnd 17 = .ok (.iload_n 2, 1) := by decide +kernel
theorem dX0_behindEnd_18 : decode cX0_behindEnd 18 = .ok (.iaload, 1) := by decide +kernel
theorem dX0_behindEnd_19 : decode cX0_behindEnd 19 = .ok (.bipush 23, 2) := by decide +kernel
theorem dX0_behindEnd_21 : decode cX0_behindEnd 21 = .ok (.if_icmp .ne 10, 3) := by decide +kernel
theorem dX0_behindEnd_24 : decode cX0_behindEnd 24 = .ok (.iload_n 2, 1) := by decide +kernel
theorem dX0_behindEnd_25 : decode cX0_behindEnd 25 = .ok (.iconst 1, 1) := by decide +kernel
theorem dX0_behindEnd_26 : decode cX0_behindEnd 26 = .ok (.iadd, 1) := by decide +kernel
theorem dX0_behindEnd_27 : decode cX0_behindEnd 27 = .ok (.iload_n 1, 1) := by decide +kernel
theorem dX0_behindEnd_28 : decode cX0_behindEnd 28 = .ok (.if_icmp .ne 7, 3) := by decide +kernel
theorem dX0_behindEnd_31 : decode cX0_behindEnd 31 = .ok (.iload_n 1, 1) := by decide +kernel
theorem dX0_behindEnd_32 : decode cX0_behindEnd 32 = .ok (.iconst 1, 1) := by decide +kernel
theorem dX0_behindEnd_33 : decode cX0_behindEnd 33 = .ok (.iadd, 1) := by decide +kernel
theorem dX0_behindEnd_34 : decode cX0_behindEnd 34 = .ok (.ireturn, 1) := by decide +kernel
theorem dX0_behindEnd_35 : decode cX0_behindEnd 35 = .ok (.aload_n 0, 1) := by decide +kernel
theorem dX0_behindEnd_36 : decode cX0_behindEnd 36 = .ok (.getfield 9, 3) := by decide +kernel
theorem dX0_behindEnd_39 : decode cX0_behindEnd 39 = .ok (.iload_n 2, 1) := by decide +kernel
theorem dX0_behindEnd_40 : decode cX0_behindEnd 40 = .ok (.dup2, 1) := by decide +kernel
theorem dX0_behindEnd_41 : decode cX0_behindEnd 41 = .ok (.iaload, 1) := by decide +kernel
theorem dX0_behindEnd_42 : decode cX0_behindEnd 42 = .ok (.iconst 1, 1) := by decide +kernel
theorem dX0_behindEnd_43 : decode cX0_behindEnd 43 = .ok (.isub, 1) := by decide +kernel
theorem dX0_behindEnd_44 : decode cX0_behindEnd 44 = .ok (.iastore, 1) := by decide +kernel
theorem dX0_behindEnd_45 : decode cX0_behindEnd 45 = .ok (.aload_n 0, 1) := by decide +kernel
theorem dX0_behindEnd_46 : decode cX0_behindEnd 46 = .ok (.getfield 9, 3) := by decide +kernel
theorem dX0_behindEnd_49 : decode cX0_behindEnd 49 = .ok (.iload_n 2, 1) := by decide +kernel
theorem dX0_behindEnd_50 : decode cX0_behindEnd 50 = .ok (.iaload, 1) := by decide +kernel
theorem dX0_behindEnd_51 : decode cX0_behindEnd 51 = .ok (.ifCond .le 9, 3) := by decide +kernel
theorem dX0_behindEnd_54 : decode cX0_behindEnd 54 = .ok (.iload_n 2, 1) := by decide +kernel
theorem dX0_behindEnd_55 : decode cX0_behindEnd 55 = .ok (.iconst 1, 1) := by decide +kernel
theorem dX0_behindEnd_56 : decode cX0_behindEnd 56 = .ok (.iadd, 1) := by decide +kernel
theorem dX0_behindEnd_57 : decode cX0_behindEnd 57 = .ok (.goto 6, 3) := by decide +kernel
theorem dX0_behindEnd_60 : decode cX0_behindEnd 60 = .ok (.iload_n 1, 1) := by decide +kernel
theorem dX0_behindEnd_61 : decode cX0_behindEnd 61 = .ok (.iconst 1, 1) := by decide +kernel
theorem dX0_behindEnd_62 : decode cX0_behindEnd 62 = .ok (.iadd, 1) := by decide +kernel
theorem dX0_behindEnd_63 : decode cX0_behindEnd 63 = .ok (.ireturn, 1) := by decide +kernel
theorem dX7_isFalling_0 : decode cX7_isFalling 0 = .ok (.aload_n 0, 1) := by decide +kernel
theorem dX7_isFalling_1 : decode cX7_isFalling 1 = .ok (.getfield 59, 3) := by decide +kernel
theorem dX7_isFalling_4 : decode cX7_isFalling 4 = .ok (.iload_n 1, 1) := by decide +kernel
theorem dX7_isFalling_5 : decode cX7_isFalling 5 = .ok (.ishr, 1) := by decide +kernel
theorem dX7_isFalling_6 : decode cX7_isFalling 6 = .ok (.iconst 1, 1) := by decide +kernel
theorem dX7_isFalling_7 : decode cX7_isFalling 7 = .ok (.iand, 1) := by decide +kernel
theorem dX7_isFalling_8 : decode cX7_isFalling 8 = .ok (.ifCond .eq 7, 3) := by decide +kernel
theorem dX7_isFalling_11 : decode cX7_isFalling 11 = .ok (.iconst 1, 1) := by decide +kernel
theorem dX7_isFalling_12 : decode cX7_isFalling 12 = .ok (.goto 4, 3) := by decide +kernel
theorem dX7_isFalling_15 : decode cX7_isFalling 15 = .ok (.iconst 0, 1) := by decide +kernel
theorem dX7_isFalling_16 : decode cX7_isFalling 16 = .ok (.ireturn, 1) := by decide +kernel
theorem dX7_heightOf_0 : decode cX7_heightOf 0 = .ok (.aload_n 0, 1) := by decide +kernel
theorem dX7_heightOf_1 : decode cX7_heightOf 1 = .ok (.getfield 22, 3) := by decide +kernel
theorem dX7_heightOf_4 : decode cX7_heightOf 4 = .ok (.iload_n 1, 1) := by decide +kernel
theorem dX7_heightOf_5 : decode cX7_heightOf 5 = .ok (.iaload, 1) := by decide +kernel
theorem dX7_heightOf_6 : decode cX7_heightOf 6 = .ok (.iconst 1, 1) := by decide +kernel
theorem dX7_heightOf_7 : decode cX7_heightOf 7 = .ok (.iadd, 1) := by decide +kernel
theorem dX7_heightOf_8 : decode cX7_heightOf 8 = .ok (.ireturn, 1) := by decide +kernel
theorem dX7_isNear_0 : decode cX7_isNear 0 = .ok (.aload_n 0, 1) := by decide +kernel
theorem dX7_isNear_1 : decode cX7_isNear 1 = .ok (.iload_n 1, 1) := by decide +kernel
theorem dX7_isNear_2 : decode cX7_isNear 2 = .ok (.invokevirtual 87, 3) := by decide +kernel
theorem dX7_isNear_5 : decode cX7_isNear 5 = .ok (.iload_n 2, 1) := by decide +kernel
theorem dX7_isNear_6 : decode cX7_isNear 6 = .ok (.isub, 1) := by decide +kernel
theorem dX7_isNear_7 : decode cX7_isNear 7 = .ok (.invokestatic 91, 3) := by decide +kernel
theorem dX7_isNear_10 : decode cX7_isNear 10 = .ok (.iconst 1, 1) := by decide +kernel
theorem dX7_isNear_11 : decode cX7_isNear 11 = .ok (.if_icmp .gt 7, 3) := by decide +kernel
theorem dX7_isNear_14 : decode cX7_isNear 14 = .ok (.iconst 1, 1) := by decide +kernel
theorem dX7_isNear_15 : decode cX7_isNear 15 = .ok (.goto 4, 3) := by decide +kernel
theorem dX7_isNear_18 : decode cX7_isNear 18 = .ok (.iconst 0, 1) := by decide +kernel
theorem dX7_isNear_19 : decode cX7_isNear 19 = .ok (.ireturn, 1) := by decide +kernel
theorem dX7_sayable_0 : decode cX7_sayable 0 = .ok (.aload_n 0, 1) := by decide +kernel
theorem dX7_sayable_1 : decode cX7_sayable 1 = .ok (.iload_n 1, 1) := by decide +kernel
theorem dX7_sayable_2 : decode cX7_sayable 2 = .ok (.invokevirtual 94, 3) := by decide +kernel
theorem dX7_sayable_5 : decode cX7_sayable 5 = .ok (.ifCond .ne 12, 3) := by decide +kernel
theorem dX7_sayable_8 : decode cX7_sayable 8 = .ok (.aload_n 0, 1) := by decide +kernel
theorem dX7_sayable_9 : decode cX7_sayable 9 = .ok (.getfield 31, 3) := by decide +kernel
theorem dX7_sayable_12 : decode cX7_sayable 12 = .ok (.iload_n 1, 1) := by decide +kernel
theorem dX7_sayable_13 : decode cX7_sayable 13 = .ok (.iaload, 1) := by decide +kernel
theorem dX7_sayable_14 : decode cX7_sayable 14 = .ok (.ifCond .ne 5, 3) := by decide +kernel
theorem dX7_sayable_17 : decode cX7_sayable 17 = .ok (.iconst 0, 1) := by decide +kernel
theorem dX7_sayable_18 : decode cX7_sayable 18 = .ok (.ireturn, 1) := by decide +kernel
theorem dX7_sayable_19 : decode cX7_sayable 19 = .ok (.iconst 0, 1) := by decide +kernel
theorem dX7_sayable_20 : decode cX7_sayable 20 = .ok (.istore_n 2, 1) := by decide +kernel
theorem dX7_sayable_21 : decode cX7_sayable 21 = .ok (.iconst 0, 1) := by decide +kernel
theorem dX7_sayable_22 : decode cX7_sayable 22 = .ok (.istore_n 3, 1) := by decide +kernel
theorem dX7_sayable_23 : decode cX7_sayable 23 = .ok (.iload_n 3, 1) := by decide +kernel
theorem dX7_sayable_24 : decode cX7_sayable 24 = .ok (.aload_n 0, 1) := by decide +kernel
theorem dX7_sayable_25 : decode cX7_sayable 25 = .ok (.getfield 50, 3) := by decide +kernel
theorem dX7_sayable_28 : decode cX7_sayable 28 = .ok (.if_icmp .ge 29, 3) := by decide +kernel
theorem dX7_sayable_31 : decode cX7_sayable 31 = .ok (.aload_n 0, 1) := by decide +kernel
theorem dX7_sayable_32 : decode cX7_sayable 32 = .ok (.iload_n 3, 1) := by decide +kernel
theorem dX7_sayable_33 : decode cX7_sayable 33 = .ok (.aload_n 0, 1) := by decide +kernel
theorem dX7_sayable_34 : decode cX7_sayable 34 = .ok (.getfield 31, 3) := by decide +kernel
theorem dX7_sayable_37 : decode cX7_sayable 37 = .ok (.iload_n 1, 1) := by decide +kernel
theorem dX7_sayable_38 : decode cX7_sayable 38 = .ok (.iaload, 1) := by decide +kernel
theorem dX7_sayable_39 : decode cX7_sayable 39 = .ok (.invokevirtual 98, 3) := by decide +kernel
theorem dX7_sayable_42 : decode cX7_sayable 42 = .ok (.ifCond .eq 9, 3) := by decide +kernel
theorem dX7_sayable_45 : decode cX7_sayable 45 = .ok (.iload_n 2, 1) := by decide +kernel
theorem dX7_sayable_46 : decode cX7_sayable 46 = .ok (.iconst 1, 1) := by decide +kernel
theorem dX7_sayable_47 : decode cX7_sayable 47 = .ok (.iload_n 3, 1) := by decide +kernel
theorem dX7_sayable_48 : decode cX7_sayable 48 = .ok (.ishl, 1) := by decide +kernel
theorem dX7_sayable_49 : decode cX7_sayable 49 = .ok (.ior, 1) := by decide +kernel
theorem dX7_sayable_50 : decode cX7_sayable 50 = .ok (.istore_n 2, 1) := by decide +kernel
theorem dX7_sayable_51 : decode cX7_sayable 51 = .ok (.iinc 3 1, 3) := by decide +kernel
theorem dX7_sayable_54 : decode cX7_sayable 54 = .ok (.goto (-31), 3) := by decide +kernel
theorem dX7_sayable_57 : decode cX7_sayable 57 = .ok (.iload_n 2, 1) := by decide +kernel
theorem dX7_sayable_58 : decode cX7_sayable 58 = .ok (.ireturn, 1) := by decide +kernel
theorem dX7_standingBy_0 : decode cX7_standingBy 0 = .ok (.iconst 0, 1) := by decide +kernel
theorem dX7_standingBy_1 : decode cX7_standingBy 1 = .ok (.istore_n 3, 1) := by decide +kernel
theorem dX7_standingBy_2 : decode cX7_standingBy 2 = .ok (.iconst 0, 1) := by decide +kernel
theorem dX7_standingBy_3 : decode cX7_standingBy 3 = .ok (.istore 4, 2) := by decide +kernel
theorem dX7_standingBy_5 : decode cX7_standingBy 5 = .ok (.iload 4, 2) := by decide +kernel
theorem dX7_standingBy_7 : decode cX7_standingBy 7 = .ok (.aload_n 0, 1) := by decide +kernel
theorem dX7_standingBy_8 : decode cX7_standingBy 8 = .ok (.getfield 50, 3) := by decide +kernel
theorem dX7_standingBy_11 : decode cX7_standingBy 11 = .ok (.if_icmp .ge 67, 3) := by decide +kernel
theorem dX7_standingBy_14 : decode cX7_standingBy 14 = .ok (.aload_n 0, 1) := by decide +kernel
theorem dX7_standingBy_15 : decode cX7_standingBy 15 = .ok (.getfield 25, 3) := by decide +kernel
theorem dX7_standingBy_18 : decode cX7_standingBy 18 = .ok (.iload 4, 2) := by decide +kernel
theorem dX7_standingBy_20 : decode cX7_standingBy 20 = .ok (.iaload, 1) := by decide +kernel
theorem dX7_standingBy_21 : decode cX7_standingBy 21 = .ok (.ifCond .eq 21, 3) := by decide +kernel
theorem dX7_standingBy_24 : decode cX7_standingBy 24 = .ok (.aload_n 0, 1) := by decide +kernel
theorem dX7_standingBy_25 : decode cX7_standingBy 25 = .ok (.getfield 25, 3) := by decide +kernel
theorem dX7_standingBy_28 : decode cX7_standingBy 28 = .ok (.iload 4, 2) := by decide +kernel
theorem dX7_standingBy_30 : decode cX7_standingBy 30 = .ok (.iaload, 1) := by decide +kernel
theorem dX7_standingBy_31 : decode cX7_standingBy 31 = .ok (.iload_n 3, 1) := by decide +kernel
theorem dX7_standingBy_32 : decode cX7_standingBy 32 = .ok (.iconst (-1), 1) := by decide +kernel
theorem dX7_standingBy_33 : decode cX7_standingBy 33 = .ok (.ixor, 1) := by decide +kernel
theorem dX7_standingBy_34 : decode cX7_standingBy 34 = .ok (.iand, 1) := by decide +kernel
theorem dX7_standingBy_35 : decode cX7_standingBy 35 = .ok (.ifCond .ne 7, 3) := by decide +kernel
theorem dX7_standingBy_38 : decode cX7_standingBy 38 = .ok (.iconst 1, 1) := by decide +kernel
theorem dX7_standingBy_39 : decode cX7_standingBy 39 = .ok (.goto 4, 3) := by decide +kernel
theorem dX7_standingBy_42 : decode cX7_standingBy 42 = .ok (.iconst 0, 1) := by decide +kernel
theorem dX7_standingBy_43 : decode cX7_standingBy 43 = .ok (.istore 5, 2) := by decide +kernel
theorem dX7_standingBy_45 : decode cX7_standingBy 45 = .ok (.iload 4, 2) := by decide +kernel
theorem dX7_standingBy_47 : decode cX7_standingBy 47 = .ok (.iload_n 2, 1) := by decide +kernel
theorem dX7_standingBy_48 : decode cX7_standingBy 48 = .ok (.if_icmp .eq 24, 3) := by decide +kernel
theorem dX7_standingBy_51 : decode cX7_standingBy 51 = .ok (.iload_n 1, 1) := by decide +kernel
theorem dX7_standingBy_52 : decode cX7_standingBy 52 = .ok (.iload 4, 2) := by decide +kernel
theorem dX7_standingBy_54 : decode cX7_standingBy 54 = .ok (.ishr, 1) := by decide +kernel
theorem dX7_standingBy_55 : decode cX7_standingBy 55 = .ok (.iconst 1, 1) := by decide +kernel
theorem dX7_standingBy_56 : decode cX7_standingBy 56 = .ok (.iand, 1) := by decide +kernel
theorem dX7_standingBy_57 : decode cX7_standingBy 57 = .ok (.ifCond .ne 8, 3) := by decide +kernel
theorem dX7_standingBy_60 : decode cX7_standingBy 60 = .ok (.iload 5, 2) := by decide +kernel
theorem dX7_standingBy_62 : decode cX7_standingBy 62 = .ok (.ifCond .eq 10, 3) := by decide +kernel
theorem dX7_standingBy_65 : decode cX7_standingBy 65 = .ok (.iload_n 3, 1) := by decide +kernel
theorem dX7_standingBy_66 : decode cX7_standingBy 66 = .ok (.iconst 1, 1) := by decide +kernel
theorem dX7_standingBy_67 : decode cX7_standingBy 67 = .ok (.iload 4, 2) := by decide +kernel
theorem dX7_standingBy_69 : decode cX7_standingBy 69 = .ok (.ishl, 1) := by decide +kernel
theorem dX7_standingBy_70 : decode cX7_standingBy 70 = .ok (.ior, 1) := by decide +kernel
theorem dX7_standingBy_71 : decode cX7_standingBy 71 = .ok (.istore_n 3, 1) := by decide +kernel
theorem dX7_standingBy_72 : decode cX7_standingBy 72 = .ok (.iinc 4 1, 3) := by decide +kernel
theorem dX7_standingBy_75 : decode cX7_standingBy 75 = .ok (.goto (-70), 3) := by decide +kernel
theorem dX7_standingBy_78 : decode cX7_standingBy 78 = .ok (.iload_n 3, 1) := by decide +kernel
theorem dX7_standingBy_79 : decode cX7_standingBy 79 = .ok (.ireturn, 1) := by decide +kernel
theorem dX7_standing_0 : decode cX7_standing 0 = .ok (.aload_n 0, 1) := by decide +kernel
theorem dX7_standing_1 : decode cX7_standing 1 = .ok (.aload_n 0, 1) := by decide +kernel
theorem dX7_standing_2 : decode cX7_standing 2 = .ok (.getfield 53, 3) := by decide +kernel
theorem dX7_standing_5 : decode cX7_standing 5 = .ok (.iconst (-1), 1) := by decide +kernel
theorem dX7_standing_6 : decode cX7_standing 6 = .ok (.invokevirtual 80, 3) := by decide +kernel
theorem dX7_standing_9 : decode cX7_standing 9 = .ok (.ireturn, 1) := by decide +kernel
theorem dX7_letSay_0 : decode cX7_letSay 0 = .ok (.aload_n 0, 1) := by decide +kernel
theorem dX7_letSay_1 : decode cX7_letSay 1 = .ok (.getfield 31, 3) := by decide +kernel
theorem dX7_letSay_4 : decode cX7_letSay 4 = .ok (.iload_n 1, 1) := by decide +kernel
theorem dX7_letSay_5 : decode cX7_letSay 5 = .ok (.aload_n 0, 1) := by decide +kernel
theorem dX7_letSay_6 : decode cX7_letSay 6 = .ok (.iload_n 2, 1) := by decide +kernel
theorem dX7_letSay_7 : decode cX7_letSay 7 = .ok (.invokevirtual 87, 3) := by decide +kernel
theorem dX7_letSay_10 : decode cX7_letSay 10 = .ok (.iastore, 1) := by decide +kernel
theorem dX7_letSay_11 : decode cX7_letSay 11 = .ok (.aload_n 0, 1) := by decide +kernel
theorem dX7_letSay_12 : decode cX7_letSay 12 = .ok (.dup, 1) := by decide +kernel
theorem dX7_letSay_13 : decode cX7_letSay 13 = .ok (.getfield 65, 3) := by decide +kernel
theorem dX7_letSay_16 : decode cX7_letSay 16 = .ok (.iconst 1, 1) := by decide +kernel
theorem dX7_letSay_17 : decode cX7_letSay 17 = .ok (.iadd, 1) := by decide +kernel
theorem dX7_letSay_18 : decode cX7_letSay 18 = .ok (.putfield 65, 3) := by decide +kernel
theorem dX7_letSay_21 : decode cX7_letSay 21 = .ok (.aload_n 0, 1) := by decide +kernel
theorem dX7_letSay_22 : decode cX7_letSay 22 = .ok (.invokevirtual 83, 3) := by decide +kernel
theorem dX7_letSay_25 : decode cX7_letSay 25 = .ok (.iload_n 2, 1) := by decide +kernel
theorem dX7_letSay_26 : decode cX7_letSay 26 = .ok (.ishr, 1) := by decide +kernel
theorem dX7_letSay_27 : decode cX7_letSay 27 = .ok (.iconst 1, 1) := by decide +kernel
theorem dX7_letSay_28 : decode cX7_letSay 28 = .ok (.iand, 1) := by decide +kernel
theorem dX7_letSay_29 : decode cX7_letSay 29 = .ok (.ifCond .ne 15, 3) := by decide +kernel
theorem dX7_letSay_32 : decode cX7_letSay 32 = .ok (.aload_n 0, 1) := by decide +kernel
theorem dX7_letSay_33 : decode cX7_letSay 33 = .ok (.dup, 1) := by decide +kernel
theorem dX7_letSay_34 : decode cX7_letSay 34 = .ok (.getfield 59, 3) := by decide +kernel
theorem dX7_letSay_37 : decode cX7_letSay 37 = .ok (.iconst 1, 1) := by decide +kernel
theorem dX7_letSay_38 : decode cX7_letSay 38 = .ok (.iload_n 1, 1) := by decide +kernel
theorem dX7_letSay_39 : decode cX7_letSay 39 = .ok (.ishl, 1) := by decide +kernel
theorem dX7_letSay_40 : decode cX7_letSay 40 = .ok (.ior, 1) := by decide +kernel
theorem dX7_letSay_41 : decode cX7_letSay 41 = .ok (.putfield 59, 3) := by decide +kernel
theorem dX7_letSay_44 : decode cX7_letSay 44 = .ok (.return_, 1) := by decide +kernel
theorem dX0_doSay_0 : decode cX0_doSay 0 = .ok (.aload_n 0, 1) := by decide +kernel
theorem dX0_doSay_1 : decode cX0_doSay 1 = .ok (.getfield 15, 3) := by decide +kernel
theorem dX0_doSay_4 : decode cX0_doSay 4 = .ok (.iload_n 1, 1) := by decide +kernel
theorem dX0_doSay_5 : decode cX0_doSay 5 = .ok (.invokevirtual 94, 3) := by decide +kernel
theorem dX0_doSay_8 : decode cX0_doSay 8 = .ok (.iload_n 2, 1) := by decide +kernel
theorem dX0_doSay_9 : decode cX0_doSay 9 = .ok (.ishr, 1) := by decide +kernel
theorem dX0_doSay_10 : decode cX0_doSay 10 = .ok (.iconst 1, 1) := by decide +kernel
theorem dX0_doSay_11 : decode cX0_doSay 11 = .ok (.iand, 1) := by decide +kernel
theorem dX0_doSay_12 : decode cX0_doSay 12 = .ok (.ifCond .ne 14, 3) := by decide +kernel
theorem dX0_doSay_15 : decode cX0_doSay 15 = .ok (.aload_n 0, 1) := by decide +kernel
theorem dX0_doSay_16 : decode cX0_doSay 16 = .ok (.dup, 1) := by decide +kernel
theorem dX0_doSay_17 : decode cX0_doSay 17 = .ok (.getfield 30, 3) := by decide +kernel
theorem dX0_doSay_20 : decode cX0_doSay 20 = .ok (.iconst 1, 1) := by decide +kernel
theorem dX0_doSay_21 : decode cX0_doSay 21 = .ok (.iadd, 1) := by decide +kernel
theorem dX0_doSay_22 : decode cX0_doSay 22 = .ok (.putfield 30, 3) := by decide +kernel
theorem dX0_doSay_25 : decode cX0_doSay 25 = .ok (.return_, 1) := by decide +kernel
theorem dX0_doSay_26 : decode cX0_doSay 26 = .ok (.aload_n 0, 1) := by decide +kernel
theorem dX0_doSay_27 : decode cX0_doSay 27 = .ok (.getfield 15, 3) := by decide +kernel
theorem dX0_doSay_30 : decode cX0_doSay 30 = .ok (.iload_n 1, 1) := by decide +kernel
theorem dX0_doSay_31 : decode cX0_doSay 31 = .ok (.iload_n 2, 1) := by decide +kernel
theorem dX0_doSay_32 : decode cX0_doSay 32 = .ok (.invokevirtual 99, 3) := by decide +kernel
theorem dX0_doSay_35 : decode cX0_doSay 35 = .ok (.aload_n 0, 1) := by decide +kernel
theorem dX0_doSay_36 : decode cX0_doSay 36 = .ok (.dup, 1) := by decide +kernel
theorem dX0_doSay_37 : decode cX0_doSay 37 = .ok (.getfield 33, 3) := by decide +kernel
theorem dX0_doSay_40 : decode cX0_doSay 40 = .ok (.iconst 1, 1) := by decide +kernel
theorem dX0_doSay_41 : decode cX0_doSay 41 = .ok (.iadd, 1) := by decide +kernel
theorem dX0_doSay_42 : decode cX0_doSay 42 = .ok (.putfield 33, 3) := by decide +kernel
theorem dX0_doSay_45 : decode cX0_doSay 45 = .ok (.aload_n 0, 1) := by decide +kernel
theorem dX0_doSay_46 : decode cX0_doSay 46 = .ok (.getfield 15, 3) := by decide +kernel
theorem dX0_doSay_49 : decode cX0_doSay 49 = .ok (.iload_n 1, 1) := by decide +kernel
theorem dX0_doSay_50 : decode cX0_doSay 50 = .ok (.invokevirtual 102, 3) := by decide +kernel
theorem dX0_doSay_53 : decode cX0_doSay 53 = .ok (.ifCond .eq 13, 3) := by decide +kernel
theorem dX0_doSay_56 : decode cX0_doSay 56 = .ok (.aload_n 0, 1) := by decide +kernel
theorem dX0_doSay_57 : decode cX0_doSay 57 = .ok (.dup, 1) := by decide +kernel
theorem dX0_doSay_58 : decode cX0_doSay 58 = .ok (.getfield 36, 3) := by decide +kernel
theorem dX0_doSay_61 : decode cX0_doSay 61 = .ok (.iconst 1, 1) := by decide +kernel
theorem dX0_doSay_62 : decode cX0_doSay 62 = .ok (.iadd, 1) := by decide +kernel
theorem dX0_doSay_63 : decode cX0_doSay 63 = .ok (.putfield 36, 3) := by decide +kernel
theorem dX0_doSay_66 : decode cX0_doSay 66 = .ok (.return_, 1) := by decide +kernel
theorem dX7_letDrop_0 : decode cX7_letDrop 0 = .ok (.aload_n 0, 1) := by decide +kernel
theorem dX7_letDrop_1 : decode cX7_letDrop 1 = .ok (.getfield 31, 3) := by decide +kernel
theorem dX7_letDrop_4 : decode cX7_letDrop 4 = .ok (.iload_n 1, 1) := by decide +kernel
theorem dX7_letDrop_5 : decode cX7_letDrop 5 = .ok (.iconst 0, 1) := by decide +kernel
theorem dX7_letDrop_6 : decode cX7_letDrop 6 = .ok (.aload_n 0, 1) := by decide +kernel
theorem dX7_letDrop_7 : decode cX7_letDrop 7 = .ok (.getfield 31, 3) := by decide +kernel
theorem dX7_letDrop_10 : decode cX7_letDrop 10 = .ok (.iload_n 1, 1) := by decide +kernel
theorem dX7_letDrop_11 : decode cX7_letDrop 11 = .ok (.iaload, 1) := by decide +kernel
theorem dX7_letDrop_12 : decode cX7_letDrop 12 = .ok (.iload_n 2, 1) := by decide +kernel
theorem dX7_letDrop_13 : decode cX7_letDrop 13 = .ok (.isub, 1) := by decide +kernel
theorem dX7_letDrop_14 : decode cX7_letDrop 14 = .ok (.invokestatic 74, 3) := by decide +kernel
theorem dX7_letDrop_17 : decode cX7_letDrop 17 = .ok (.iastore, 1) := by decide +kernel
theorem dX7_letDrop_18 : decode cX7_letDrop 18 = .ok (.aload_n 0, 1) := by decide +kernel
theorem dX7_letDrop_19 : decode cX7_letDrop 19 = .ok (.getfield 31, 3) := by decide +kernel
theorem dX7_letDrop_22 : decode cX7_letDrop 22 = .ok (.iload_n 1, 1) := by decide +kernel
theorem dX7_letDrop_23 : decode cX7_letDrop 23 = .ok (.iaload, 1) := by decide +kernel
theorem dX7_letDrop_24 : decode cX7_letDrop 24 = .ok (.ifCond .ne 17, 3) := by decide +kernel
theorem dX7_letDrop_27 : decode cX7_letDrop 27 = .ok (.aload_n 0, 1) := by decide +kernel
theorem dX7_letDrop_28 : decode cX7_letDrop 28 = .ok (.dup, 1) := by decide +kernel
theorem dX7_letDrop_29 : decode cX7_letDrop 29 = .ok (.getfield 59, 3) := by decide +kernel
theorem dX7_letDrop_32 : decode cX7_letDrop 32 = .ok (.iconst 1, 1) := by decide +kernel
theorem dX7_letDrop_33 : decode cX7_letDrop 33 = .ok (.iload_n 1, 1) := by decide +kernel
theorem dX7_letDrop_34 : decode cX7_letDrop 34 = .ok (.ishl, 1) := by decide +kernel
theorem dX7_letDrop_35 : decode cX7_letDrop 35 = .ok (.iconst (-1), 1) := by decide +kernel
theorem dX7_letDrop_36 : decode cX7_letDrop 36 = .ok (.ixor, 1) := by decide +kernel
theorem dX7_letDrop_37 : decode cX7_letDrop 37 = .ok (.iand, 1) := by decide +kernel
theorem dX7_letDrop_38 : decode cX7_letDrop 38 = .ok (.putfield 59, 3) := by decide +kernel
theorem dX7_letDrop_41 : decode cX7_letDrop 41 = .ok (.return_, 1) := by decide +kernel
theorem dX0_doDrop_0 : decode cX0_doDrop 0 = .ok (.aload_n 0, 1) := by decide +kernel
theorem dX0_doDrop_1 : decode cX0_doDrop 1 = .ok (.getfield 15, 3) := by decide +kernel
theorem dX0_doDrop_4 : decode cX0_doDrop 4 = .ok (.iload_n 1, 1) := by decide +kernel
theorem dX0_doDrop_5 : decode cX0_doDrop 5 = .ok (.invokevirtual 102, 3) := by decide +kernel
theorem dX0_doDrop_8 : decode cX0_doDrop 8 = .ok (.ifCond .eq 15, 3) := by decide +kernel
theorem dX0_doDrop_11 : decode cX0_doDrop 11 = .ok (.aload_n 0, 1) := by decide +kernel
theorem dX0_doDrop_12 : decode cX0_doDrop 12 = .ok (.getfield 15, 3) := by decide +kernel
theorem dX0_doDrop_15 : decode cX0_doDrop 15 = .ok (.iload_n 1, 1) := by decide +kernel
theorem dX0_doDrop_16 : decode cX0_doDrop 16 = .ok (.iload_n 2, 1) := by decide +kernel
theorem dX0_doDrop_17 : decode cX0_doDrop 17 = .ok (.invokevirtual 105, 3) := by decide +kernel
theorem dX0_doDrop_20 : decode cX0_doDrop 20 = .ok (.goto 13, 3) := by decide +kernel
theorem dX0_doDrop_23 : decode cX0_doDrop 23 = .ok (.aload_n 0, 1) := by decide +kernel
theorem dX0_doDrop_24 : decode cX0_doDrop 24 = .ok (.dup, 1) := by decide +kernel
theorem dX0_doDrop_25 : decode cX0_doDrop 25 = .ok (.getfield 30, 3) := by decide +kernel
theorem dX0_doDrop_28 : decode cX0_doDrop 28 = .ok (.iconst 1, 1) := by decide +kernel
theorem dX0_doDrop_29 : decode cX0_doDrop 29 = .ok (.iadd, 1) := by decide +kernel
theorem dX0_doDrop_30 : decode cX0_doDrop 30 = .ok (.putfield 30, 3) := by decide +kernel
theorem dX0_doDrop_33 : decode cX0_doDrop 33 = .ok (.return_, 1) := by decide +kernel
theorem dX0_draw_0 : decode cX0_draw 0 = .ok (.aload_n 0, 1) := by decide +kernel
theorem dX0_draw_1 : decode cX0_draw 1 = .ok (.aload_n 0, 1) := by decide +kernel
theorem dX0_draw_2 : decode cX0_draw 2 = .ok (.getfield 23, 3) := by decide +kernel
theorem dX0_draw_5 : decode cX0_draw 5 = .ok (.sipush 2971, 3) := by decide +kernel
theorem dX0_draw_8 : decode cX0_draw 8 = .ok (.imul, 1) := by decide +kernel
theorem dX0_draw_9 : decode cX0_draw 9 = .ok (.sipush 10979, 3) := by decide +kernel
theorem dX0_draw_12 : decode cX0_draw 12 = .ok (.iadd, 1) := by decide +kernel
theorem dX0_draw_13 : decode cX0_draw 13 = .ok (.ldc 93, 2) := by decide +kernel
theorem dX0_draw_15 : decode cX0_draw 15 = .ok (.irem, 1) := by decide +kernel
theorem dX0_draw_16 : decode cX0_draw 16 = .ok (.putfield 23, 3) := by decide +kernel
theorem dX0_draw_19 : decode cX0_draw 19 = .ok (.iload_n 1, 1) := by decide +kernel
theorem dX0_draw_20 : decode cX0_draw 20 = .ok (.ifCond .le 15, 3) := by decide +kernel
theorem dX0_draw_23 : decode cX0_draw 23 = .ok (.aload_n 0, 1) := by decide +kernel
theorem dX0_draw_24 : decode cX0_draw 24 = .ok (.getfield 23, 3) := by decide +kernel
theorem dX0_draw_27 : decode cX0_draw 27 = .ok (.bipush 8, 2) := by decide +kernel
theorem dX0_draw_29 : decode cX0_draw 29 = .ok (.idiv, 1) := by decide +kernel
theorem dX0_draw_30 : decode cX0_draw 30 = .ok (.iload_n 1, 1) := by decide +kernel
theorem dX0_draw_31 : decode cX0_draw 31 = .ok (.irem, 1) := by decide +kernel
theorem dX0_draw_32 : decode cX0_draw 32 = .ok (.goto 4, 3) := by decide +kernel
theorem dX0_draw_35 : decode cX0_draw 35 = .ok (.iconst 0, 1) := by decide +kernel
theorem dX0_draw_36 : decode cX0_draw 36 = .ok (.ireturn, 1) := by decide +kernel
theorem dX7_landing_0 : decode cX7_landing 0 = .ok (.iload_n 1, 1) := by decide +kernel
theorem dX7_landing_1 : decode cX7_landing 1 = .ok (.ifCond .ne 7, 3) := by decide +kernel
theorem dX7_landing_4 : decode cX7_landing 4 = .ok (.iconst 0, 1) := by decide +kernel
theorem dX7_landing_5 : decode cX7_landing 5 = .ok (.goto 17, 3) := by decide +kernel
theorem dX7_landing_8 : decode cX7_landing 8 = .ok (.iconst 0, 1) := by decide +kernel
theorem dX7_landing_9 : decode cX7_landing 9 = .ok (.iload_n 1, 1) := by decide +kernel
theorem dX7_landing_10 : decode cX7_landing 10 = .ok (.aload_n 0, 1) := by decide +kernel
theorem dX7_landing_11 : decode cX7_landing 11 = .ok (.getfield 19, 3) := by decide +kernel
theorem dX7_landing_14 : decode cX7_landing 14 = .ok (.iload_n 1, 1) := by decide +kernel
theorem dX7_landing_15 : decode cX7_landing 15 = .ok (.iconst 1, 1) := by decide +kernel
theorem dX7_landing_16 : decode cX7_landing 16 = .ok (.isub, 1) := by decide +kernel
theorem dX7_landing_17 : decode cX7_landing 17 = .ok (.iaload, 1) := by decide +kernel
theorem dX7_landing_18 : decode cX7_landing 18 = .ok (.isub, 1) := by decide +kernel
theorem dX7_landing_19 : decode cX7_landing 19 = .ok (.invokestatic 74, 3) := by decide +kernel
theorem dX7_landing_22 : decode cX7_landing 22 = .ok (.ireturn, 1) := by decide +kernel
theorem dX7_letPull_0 : decode cX7_letPull 0 = .ok (.aload_n 0, 1) := by decide +kernel
theorem dX7_letPull_1 : decode cX7_letPull 1 = .ok (.getfield 31, 3) := by decide +kernel
theorem dX7_letPull_4 : decode cX7_letPull 4 = .ok (.iload_n 1, 1) := by decide +kernel
theorem dX7_letPull_5 : decode cX7_letPull 5 = .ok (.iload_n 2, 1) := by decide +kernel
theorem dX7_letPull_6 : decode cX7_letPull 6 = .ok (.ifCond .eq 16, 3) := by decide +kernel
theorem dX7_letPull_9 : decode cX7_letPull 9 = .ok (.aload_n 0, 1) := by decide +kernel
theorem dX7_letPull_10 : decode cX7_letPull 10 = .ok (.aload_n 0, 1) := by decide +kernel
theorem dX7_letPull_11 : decode cX7_letPull 11 = .ok (.getfield 31, 3) := by decide +kernel
theorem dX7_letPull_14 : decode cX7_letPull 14 = .ok (.iload_n 1, 1) := by decide +kernel
theorem dX7_letPull_15 : decode cX7_letPull 15 = .ok (.iaload, 1) := by decide +kernel
theorem dX7_letPull_16 : decode cX7_letPull 16 = .ok (.invokevirtual 102, 3) := by decide +kernel
theorem dX7_letPull_19 : decode cX7_letPull 19 = .ok (.goto 4, 3) := by decide +kernel
theorem dX7_letPull_22 : decode cX7_letPull 22 = .ok (.iconst 0, 1) := by decide +kernel
theorem dX7_letPull_23 : decode cX7_letPull 23 = .ok (.iastore, 1) := by decide +kernel
theorem dX7_letPull_24 : decode cX7_letPull 24 = .ok (.aload_n 0, 1) := by decide +kernel
theorem dX7_letPull_25 : decode cX7_letPull 25 = .ok (.dup, 1) := by decide +kernel
theorem dX7_letPull_26 : decode cX7_letPull 26 = .ok (.getfield 59, 3) := by decide +kernel
theorem dX7_letPull_29 : decode cX7_letPull 29 = .ok (.iconst 1, 1) := by decide +kernel
theorem dX7_letPull_30 : decode cX7_letPull 30 = .ok (.iload_n 1, 1) := by decide +kernel
theorem dX7_letPull_31 : decode cX7_letPull 31 = .ok (.ishl, 1) := by decide +kernel
theorem dX7_letPull_32 : decode cX7_letPull 32 = .ok (.iconst (-1), 1) := by decide +kernel
theorem dX7_letPull_33 : decode cX7_letPull 33 = .ok (.ixor, 1) := by decide +kernel
theorem dX7_letPull_34 : decode cX7_letPull 34 = .ok (.iand, 1) := by decide +kernel
theorem dX7_letPull_35 : decode cX7_letPull 35 = .ok (.putfield 59, 3) := by decide +kernel
theorem dX7_letPull_38 : decode cX7_letPull 38 = .ok (.return_, 1) := by decide +kernel
theorem dX0_doPull_0 : decode cX0_doPull 0 = .ok (.aload_n 0, 1) := by decide +kernel
theorem dX0_doPull_1 : decode cX0_doPull 1 = .ok (.getfield 15, 3) := by decide +kernel
theorem dX0_doPull_4 : decode cX0_doPull 4 = .ok (.iload_n 1, 1) := by decide +kernel
theorem dX0_doPull_5 : decode cX0_doPull 5 = .ok (.invokevirtual 102, 3) := by decide +kernel
theorem dX0_doPull_8 : decode cX0_doPull 8 = .ok (.ifCond .eq 47, 3) := by decide +kernel
theorem dX0_doPull_11 : decode cX0_doPull 11 = .ok (.aload_n 0, 1) := by decide +kernel
theorem dX0_doPull_12 : decode cX0_doPull 12 = .ok (.getfield 15, 3) := by decide +kernel
theorem dX0_doPull_15 : decode cX0_doPull 15 = .ok (.iload_n 1, 1) := by decide +kernel
theorem dX0_doPull_16 : decode cX0_doPull 16 = .ok (.aload_n 0, 1) := by decide +kernel
theorem dX0_doPull_17 : decode cX0_doPull 17 = .ok (.bipush 16, 2) := by decide +kernel
theorem dX0_doPull_19 : decode cX0_doPull 19 = .ok (.invokevirtual 108, 3) := by decide +kernel
theorem dX0_doPull_22 : decode cX0_doPull 22 = .ok (.aload_n 0, 1) := by decide +kernel
theorem dX0_doPull_23 : decode cX0_doPull 23 = .ok (.getfield 15, 3) := by decide +kernel
theorem dX0_doPull_26 : decode cX0_doPull 26 = .ok (.getfield 111, 3) := by decide +kernel
theorem dX0_doPull_29 : decode cX0_doPull 29 = .ok (.iload_n 1, 1) := by decide +kernel
theorem dX0_doPull_30 : decode cX0_doPull 30 = .ok (.iaload, 1) := by decide +kernel
theorem dX0_doPull_31 : decode cX0_doPull 31 = .ok (.if_icmp .lt 7, 3) := by decide +kernel
theorem dX0_doPull_34 : decode cX0_doPull 34 = .ok (.iconst 1, 1) := by decide +kernel
theorem dX0_doPull_35 : decode cX0_doPull 35 = .ok (.goto 4, 3) := by decide +kernel
theorem dX0_doPull_38 : decode cX0_doPull 38 = .ok (.iconst 0, 1) := by decide +kernel
theorem dX0_doPull_39 : decode cX0_doPull 39 = .ok (.invokevirtual 114, 3) := by decide +kernel
theorem dX0_doPull_42 : decode cX0_doPull 42 = .ok (.aload_n 0, 1) := by decide +kernel
theorem dX0_doPull_43 : decode cX0_doPull 43 = .ok (.dup, 1) := by decide +kernel
theorem dX0_doPull_44 : decode cX0_doPull 44 = .ok (.getfield 39, 3) := by decide +kernel
theorem dX0_doPull_47 : decode cX0_doPull 47 = .ok (.iconst 1, 1) := by decide +kernel
theorem dX0_doPull_48 : decode cX0_doPull 48 = .ok (.iadd, 1) := by decide +kernel
theorem dX0_doPull_49 : decode cX0_doPull 49 = .ok (.putfield 39, 3) := by decide +kernel
theorem dX0_doPull_52 : decode cX0_doPull 52 = .ok (.goto 13, 3) := by decide +kernel
theorem dX0_doPull_55 : decode cX0_doPull 55 = .ok (.aload_n 0, 1) := by decide +kernel
theorem dX0_doPull_56 : decode cX0_doPull 56 = .ok (.dup, 1) := by decide +kernel
theorem dX0_doPull_57 : decode cX0_doPull 57 = .ok (.getfield 30, 3) := by decide +kernel
theorem dX0_doPull_60 : decode cX0_doPull 60 = .ok (.iconst 1, 1) := by decide +kernel
theorem dX0_doPull_61 : decode cX0_doPull 61 = .ok (.iadd, 1) := by decide +kernel
theorem dX0_doPull_62 : decode cX0_doPull 62 = .ok (.putfield 30, 3) := by decide +kernel
theorem dX0_doPull_65 : decode cX0_doPull 65 = .ok (.return_, 1) := by decide +kernel
theorem dX7_isPropped_0 : decode cX7_isPropped 0 = .ok (.aload_n 0, 1) := by decide +kernel
theorem dX7_isPropped_1 : decode cX7_isPropped 1 = .ok (.getfield 53, 3) := by decide +kernel
theorem dX7_isPropped_4 : decode cX7_isPropped 4 = .ok (.iload_n 1, 1) := by decide +kernel
theorem dX7_isPropped_5 : decode cX7_isPropped 5 = .ok (.ishr, 1) := by decide +kernel
theorem dX7_isPropped_6 : decode cX7_isPropped 6 = .ok (.iconst 1, 1) := by decide +kernel
theorem dX7_isPropped_7 : decode cX7_isPropped 7 = .ok (.iand, 1) := by decide +kernel
theorem dX7_isPropped_8 : decode cX7_isPropped 8 = .ok (.ifCond .eq 7, 3) := by decide +kernel
theorem dX7_isPropped_11 : decode cX7_isPropped 11 = .ok (.iconst 1, 1) := by decide +kernel
theorem dX7_isPropped_12 : decode cX7_isPropped 12 = .ok (.goto 4, 3) := by decide +kernel
theorem dX7_isPropped_15 : decode cX7_isPropped 15 = .ok (.iconst 0, 1) := by decide +kernel
theorem dX7_isPropped_16 : decode cX7_isPropped 16 = .ok (.ireturn, 1) := by decide +kernel
theorem dX0_doProp_0 : decode cX0_doProp 0 = .ok (.aload_n 0, 1) := by decide +kernel
theorem dX0_doProp_1 : decode cX0_doProp 1 = .ok (.getfield 15, 3) := by decide +kernel
theorem dX0_doProp_4 : decode cX0_doProp 4 = .ok (.iload_n 1, 1) := by decide +kernel
theorem dX0_doProp_5 : decode cX0_doProp 5 = .ok (.invokevirtual 118, 3) := by decide +kernel
theorem dX0_doProp_8 : decode cX0_doProp 8 = .ok (.ifCond .eq 16, 3) := by decide +kernel
theorem dX0_doProp_11 : decode cX0_doProp 11 = .ok (.aload_n 0, 1) := by decide +kernel
theorem dX0_doProp_12 : decode cX0_doProp 12 = .ok (.dup, 1) := by decide +kernel
theorem dX0_doProp_13 : decode cX0_doProp 13 = .ok (.getfield 30, 3) := by decide +kernel
theorem dX0_doProp_16 : decode cX0_doProp 16 = .ok (.iconst 1, 1) := by decide +kernel
theorem dX0_doProp_17 : decode cX0_doProp 17 = .ok (.iadd, 1) := by decide +kernel
theorem dX0_doProp_18 : decode cX0_doProp 18 = .ok (.putfield 30, 3) := by decide +kernel
theorem dX0_doProp_21 : decode cX0_doProp 21 = .ok (.goto 18, 3) := by decide +kernel
theorem dX0_doProp_24 : decode cX0_doProp 24 = .ok (.aload_n 0, 1) := by decide +kernel
theorem dX0_doProp_25 : decode cX0_doProp 25 = .ok (.getfield 15, 3) := by decide +kernel
theorem dX0_doProp_28 : decode cX0_doProp 28 = .ok (.dup, 1) := by decide +kernel
theorem dX0_doProp_29 : decode cX0_doProp 29 = .ok (.getfield 121, 3) := by decide +kernel
theorem dX0_doProp_32 : decode cX0_doProp 32 = .ok (.iconst 1, 1) := by decide +kernel
theorem dX0_doProp_33 : decode cX0_doProp 33 = .ok (.iload_n 1, 1) := by decide +kernel
theorem dX0_doProp_34 : decode cX0_doProp 34 = .ok (.ishl, 1) := by decide +kernel
theorem dX0_doProp_35 : decode cX0_doProp 35 = .ok (.ior, 1) := by decide +kernel
theorem dX0_doProp_36 : decode cX0_doProp 36 = .ok (.putfield 121, 3) := by decide +kernel
theorem dX0_doProp_39 : decode cX0_doProp 39 = .ok (.return_, 1) := by decide +kernel
theorem dX0_doCut_0 : decode cX0_doCut 0 = .ok (.aload_n 0, 1) := by decide +kernel
theorem dX0_doCut_1 : decode cX0_doCut 1 = .ok (.getfield 15, 3) := by decide +kernel
theorem dX0_doCut_4 : decode cX0_doCut 4 = .ok (.iload_n 1, 1) := by decide +kernel
theorem dX0_doCut_5 : decode cX0_doCut 5 = .ok (.invokevirtual 118, 3) := by decide +kernel
theorem dX0_doCut_8 : decode cX0_doCut 8 = .ok (.ifCond .eq 23, 3) := by decide +kernel
theorem dX0_doCut_11 : decode cX0_doCut 11 = .ok (.aload_n 0, 1) := by decide +kernel
theorem dX0_doCut_12 : decode cX0_doCut 12 = .ok (.getfield 15, 3) := by decide +kernel
theorem dX0_doCut_15 : decode cX0_doCut 15 = .ok (.dup, 1) := by decide +kernel
theorem dX0_doCut_16 : decode cX0_doCut 16 = .ok (.getfield 121, 3) := by decide +kernel
theorem dX0_doCut_19 : decode cX0_doCut 19 = .ok (.iconst 1, 1) := by decide +kernel
theorem dX0_doCut_20 : decode cX0_doCut 20 = .ok (.iload_n 1, 1) := by decide +kernel
theorem dX0_doCut_21 : decode cX0_doCut 21 = .ok (.ishl, 1) := by decide +kernel
theorem dX0_doCut_22 : decode cX0_doCut 22 = .ok (.iconst (-1), 1) := by decide +kernel
theorem dX0_doCut_23 : decode cX0_doCut 23 = .ok (.ixor, 1) := by decide +kernel
theorem dX0_doCut_24 : decode cX0_doCut 24 = .ok (.iand, 1) := by decide +kernel
theorem dX0_doCut_25 : decode cX0_doCut 25 = .ok (.putfield 121, 3) := by decide +kernel
theorem dX0_doCut_28 : decode cX0_doCut 28 = .ok (.goto 13, 3) := by decide +kernel
theorem dX0_doCut_31 : decode cX0_doCut 31 = .ok (.aload_n 0, 1) := by decide +kernel
theorem dX0_doCut_32 : decode cX0_doCut 32 = .ok (.dup, 1) := by decide +kernel
theorem dX0_doCut_33 : decode cX0_doCut 33 = .ok (.getfield 30, 3) := by decide +kernel
theorem dX0_doCut_36 : decode cX0_doCut 36 = .ok (.iconst 1, 1) := by decide +kernel
theorem dX0_doCut_37 : decode cX0_doCut 37 = .ok (.iadd, 1) := by decide +kernel
theorem dX0_doCut_38 : decode cX0_doCut 38 = .ok (.putfield 30, 3) := by decide +kernel
theorem dX0_doCut_41 : decode cX0_doCut 41 = .ok (.return_, 1) := by decide +kernel
theorem dX0_doAny_0 : decode cX0_doAny 0 = .ok (.aload_n 0, 1) := by decide +kernel
theorem dX0_doAny_1 : decode cX0_doAny 1 = .ok (.getfield 15, 3) := by decide +kernel
theorem dX0_doAny_4 : decode cX0_doAny 4 = .ok (.getfield 124, 3) := by decide +kernel
theorem dX0_doAny_7 : decode cX0_doAny 7 = .ok (.ifCond .eq 13, 3) := by decide +kernel
theorem dX0_doAny_10 : decode cX0_doAny 10 = .ok (.aload_n 0, 1) := by decide +kernel
theorem dX0_doAny_11 : decode cX0_doAny 11 = .ok (.getfield 15, 3) := by decide +kernel
theorem dX0_doAny_14 : decode cX0_doAny 14 = .ok (.getfield 127, 3) := by decide +kernel
theorem dX0_doAny_17 : decode cX0_doAny 17 = .ok (.ifCond .ne 14, 3) := by decide +kernel
theorem dX0_doAny_20 : decode cX0_doAny 20 = .ok (.aload_n 0, 1) := by decide +kernel
theorem dX0_doAny_21 : decode cX0_doAny 21 = .ok (.dup, 1) := by decide +kernel
theorem dX0_doAny_22 : decode cX0_doAny 22 = .ok (.getfield 30, 3) := by decide +kernel
theorem dX0_doAny_25 : decode cX0_doAny 25 = .ok (.iconst 1, 1) := by decide +kernel
theorem dX0_doAny_26 : decode cX0_doAny 26 = .ok (.iadd, 1) := by decide +kernel
theorem dX0_doAny_27 : decode cX0_doAny 27 = .ok (.putfield 30, 3) := by decide +kernel
theorem dX0_doAny_30 : decode cX0_doAny 30 = .ok (.return_, 1) := by decide +kernel
theorem dX0_doAny_31 : decode cX0_doAny 31 = .ok (.aload_n 0, 1) := by decide +kernel
theorem dX0_doAny_32 : decode cX0_doAny 32 = .ok (.aload_n 0, 1) := by decide +kernel
theorem dX0_doAny_33 : decode cX0_doAny 33 = .ok (.getfield 15, 3) := by decide +kernel
theorem dX0_doAny_36 : decode cX0_doAny 36 = .ok (.getfield 124, 3) := by decide +kernel
theorem dX0_doAny_39 : decode cX0_doAny 39 = .ok (.invokevirtual 108, 3) := by decide +kernel
theorem dX0_doAny_42 : decode cX0_doAny 42 = .ok (.istore_n 1, 1) := by decide +kernel
theorem dX0_doAny_43 : decode cX0_doAny 43 = .ok (.aload_n 0, 1) := by decide +kernel
theorem dX0_doAny_44 : decode cX0_doAny 44 = .ok (.aload_n 0, 1) := by decide +kernel
theorem dX0_doAny_45 : decode cX0_doAny 45 = .ok (.getfield 15, 3) := by decide +kernel
theorem dX0_doAny_48 : decode cX0_doAny 48 = .ok (.getfield 127, 3) := by decide +kernel
theorem dX0_doAny_51 : decode cX0_doAny 51 = .ok (.invokevirtual 108, 3) := by decide +kernel
theorem dX0_doAny_54 : decode cX0_doAny 54 = .ok (.istore_n 2, 1) := by decide +kernel
theorem dX0_doAny_55 : decode cX0_doAny 55 = .ok (.aload_n 0, 1) := by decide +kernel
theorem dX0_doAny_56 : decode cX0_doAny 56 = .ok (.getfield 15, 3) := by decide +kernel
theorem dX0_doAny_59 : decode cX0_doAny 59 = .ok (.iload_n 1, 1) := by decide +kernel
theorem dX0_doAny_60 : decode cX0_doAny 60 = .ok (.invokevirtual 102, 3) := by decide +kernel
theorem dX0_doAny_63 : decode cX0_doAny 63 = .ok (.ifCond .eq 11, 3) := by decide +kernel
theorem dX0_doAny_66 : decode cX0_doAny 66 = .ok (.aload_n 0, 1) := by decide +kernel
theorem dX0_doAny_67 : decode cX0_doAny 67 = .ok (.iload_n 1, 1) := by decide +kernel
theorem dX0_doAny_68 : decode cX0_doAny 68 = .ok (.invokevirtual 76, 3) := by decide +kernel
theorem dX0_doAny_71 : decode cX0_doAny 71 = .ok (.goto 9, 3) := by decide +kernel
theorem dX0_doAny_74 : decode cX0_doAny 74 = .ok (.aload_n 0, 1) := by decide +kernel
theorem dX0_doAny_75 : decode cX0_doAny 75 = .ok (.iload_n 1, 1) := by decide +kernel
theorem dX0_doAny_76 : decode cX0_doAny 76 = .ok (.iload_n 2, 1) := by decide +kernel
theorem dX0_doAny_77 : decode cX0_doAny 77 = .ok (.invokevirtual 69, 3) := by decide +kernel
theorem dX0_doAny_80 : decode cX0_doAny 80 = .ok (.return_, 1) := by decide +kernel
theorem dX0_holdsHere_0 : decode cX0_holdsHere 0 = .ok (.aload_n 0, 1) := by decide +kernel
theorem dX0_holdsHere_1 : decode cX0_holdsHere 1 = .ok (.getfield 19, 3) := by decide +kernel
theorem dX0_holdsHere_4 : decode cX0_holdsHere 4 = .ok (.getfield 63, 3) := by decide +kernel
theorem dX0_holdsHere_7 : decode cX0_holdsHere 7 = .ok (.iload_n 1, 1) := by decide +kernel
theorem dX0_holdsHere_8 : decode cX0_holdsHere 8 = .ok (.iaload, 1) := by decide +kernel
theorem dX0_holdsHere_9 : decode cX0_holdsHere 9 = .ok (.istore_n 2, 1) := by decide +kernel
theorem dX0_holdsHere_10 : decode cX0_holdsHere 10 = .ok (.aload_n 0, 1) := by decide +kernel
theorem dX0_holdsHere_11 : decode cX0_holdsHere 11 = .ok (.getfield 19, 3) := by decide +kernel
theorem dX0_holdsHere_14 : decode cX0_holdsHere 14 = .ok (.getfield 130, 3) := by decide +kernel
theorem dX0_holdsHere_17 : decode cX0_holdsHere 17 = .ok (.iload_n 1, 1) := by decide +kernel
theorem dX0_holdsHere_18 : decode cX0_holdsHere 18 = .ok (.iaload, 1) := by decide +kernel
theorem dX0_holdsHere_19 : decode cX0_holdsHere 19 = .ok (.lookupswitch 124 #[(20, 41), (21, 61), (60, 70), (62, 97)], 41) := by decide +kernel
theorem dX0_holdsHere_60 : decode cX0_holdsHere 60 = .ok (.aload_n 0, 1) := by decide +kernel
theorem dX0_holdsHere_61 : decode cX0_holdsHere 61 = .ok (.getfield 15, 3) := by decide +kernel
theorem dX0_holdsHere_64 : decode cX0_holdsHere 64 = .ok (.invokevirtual 133, 3) := by decide +kernel
theorem dX0_holdsHere_67 : decode cX0_holdsHere 67 = .ok (.iload_n 2, 1) := by decide +kernel
theorem dX0_holdsHere_68 : decode cX0_holdsHere 68 = .ok (.ishr, 1) := by decide +kernel
theorem dX0_holdsHere_69 : decode cX0_holdsHere 69 = .ok (.iconst 1, 1) := by decide +kernel
theorem dX0_holdsHere_70 : decode cX0_holdsHere 70 = .ok (.iand, 1) := by decide +kernel
theorem dX0_holdsHere_71 : decode cX0_holdsHere 71 = .ok (.ifCond .eq 7, 3) := by decide +kernel
theorem dX0_holdsHere_74 : decode cX0_holdsHere 74 = .ok (.iconst 1, 1) := by decide +kernel
theorem dX0_holdsHere_75 : decode cX0_holdsHere 75 = .ok (.goto 4, 3) := by decide +kernel
theorem dX0_holdsHere_78 : decode cX0_holdsHere 78 = .ok (.iconst 0, 1) := by decide +kernel
theorem dX0_holdsHere_79 : decode cX0_holdsHere 79 = .ok (.ireturn, 1) := by decide +kernel
theorem dX0_holdsHere_80 : decode cX0_holdsHere 80 = .ok (.aload_n 0, 1) := by decide +kernel
theorem dX0_holdsHere_81 : decode cX0_holdsHere 81 = .ok (.getfield 15, 3) := by decide +kernel
theorem dX0_holdsHere_84 : decode cX0_holdsHere 84 = .ok (.iload_n 2, 1) := by decide +kernel
theorem dX0_holdsHere_85 : decode cX0_holdsHere 85 = .ok (.invokevirtual 102, 3) := by decide +kernel
theorem dX0_holdsHere_88 : decode cX0_holdsHere 88 = .ok (.ireturn, 1) := by decide +kernel
theorem dX0_holdsHere_89 : decode cX0_holdsHere 89 = .ok (.aload_n 0, 1) := by decide +kernel
theorem dX0_holdsHere_90 : decode cX0_holdsHere 90 = .ok (.getfield 15, 3) := by decide +kernel
theorem dX0_holdsHere_93 : decode cX0_holdsHere 93 = .ok (.getfield 137, 3) := by decide +kernel
theorem dX0_holdsHere_96 : decode cX0_holdsHere 96 = .ok (.iload_n 2, 1) := by decide +kernel
theorem dX0_holdsHere_97 : decode cX0_holdsHere 97 = .ok (.iaload, 1) := by decide +kernel
theorem dX0_holdsHere_98 : decode cX0_holdsHere 98 = .ok (.aload_n 0, 1) := by decide +kernel
theorem dX0_holdsHere_99 : decode cX0_holdsHere 99 = .ok (.getfield 19, 3) := by decide +kernel
theorem dX0_holdsHere_102 : decode cX0_holdsHere 102 = .ok (.getfield 66, 3) := by decide +kernel
theorem dX0_holdsHere_105 : decode cX0_holdsHere 105 = .ok (.iload_n 1, 1) := by decide +kernel
theorem dX0_holdsHere_106 : decode cX0_holdsHere 106 = .ok (.iaload, 1) := by decide +kernel
theorem dX0_holdsHere_107 : decode cX0_holdsHere 107 = .ok (.if_icmp .ge 7, 3) := by decide +kernel
theorem dX0_holdsHere_110 : decode cX0_holdsHere 110 = .ok (.iconst 1, 1) := by decide +kernel
theorem dX0_holdsHere_111 : decode cX0_holdsHere 111 = .ok (.goto 4, 3) := by decide +kernel
theorem dX0_holdsHere_114 : decode cX0_holdsHere 114 = .ok (.iconst 0, 1) := by decide +kernel
theorem dX0_holdsHere_115 : decode cX0_holdsHere 115 = .ok (.ireturn, 1) := by decide +kernel
theorem dX0_holdsHere_116 : decode cX0_holdsHere 116 = .ok (.aload_n 0, 1) := by decide +kernel
theorem dX0_holdsHere_117 : decode cX0_holdsHere 117 = .ok (.getfield 15, 3) := by decide +kernel
theorem dX0_holdsHere_120 : decode cX0_holdsHere 120 = .ok (.getfield 137, 3) := by decide +kernel
theorem dX0_holdsHere_123 : decode cX0_holdsHere 123 = .ok (.iload_n 2, 1) := by decide +kernel
theorem dX0_holdsHere_124 : decode cX0_holdsHere 124 = .ok (.iaload, 1) := by decide +kernel
theorem dX0_holdsHere_125 : decode cX0_holdsHere 125 = .ok (.aload_n 0, 1) := by decide +kernel
theorem dX0_holdsHere_126 : decode cX0_holdsHere 126 = .ok (.getfield 19, 3) := by decide +kernel
theorem dX0_holdsHere_129 : decode cX0_holdsHere 129 = .ok (.getfield 66, 3) := by decide +kernel
theorem dX0_holdsHere_132 : decode cX0_holdsHere 132 = .ok (.iload_n 1, 1) := by decide +kernel
theorem dX0_holdsHere_133 : decode cX0_holdsHere 133 = .ok (.iaload, 1) := by decide +kernel
theorem dX0_holdsHere_134 : decode cX0_holdsHere 134 = .ok (.if_icmp .le 7, 3) := by decide +kernel
theorem dX0_holdsHere_137 : decode cX0_holdsHere 137 = .ok (.iconst 1, 1) := by decide +kernel
theorem dX0_holdsHere_138 : decode cX0_holdsHere 138 = .ok (.goto 4, 3) := by decide +kernel
theorem dX0_holdsHere_141 : decode cX0_holdsHere 141 = .ok (.iconst 0, 1) := by decide +kernel
theorem dX0_holdsHere_142 : decode cX0_holdsHere 142 = .ok (.ireturn, 1) := by decide +kernel
theorem dX0_holdsHere_143 : decode cX0_holdsHere 143 = .ok (.aload_n 0, 1) := by decide +kernel
theorem dX0_holdsHere_144 : decode cX0_holdsHere 144 = .ok (.getfield 15, 3) := by decide +kernel
theorem dX0_holdsHere_147 : decode cX0_holdsHere 147 = .ok (.getfield 137, 3) := by decide +kernel
theorem dX0_holdsHere_150 : decode cX0_holdsHere 150 = .ok (.iload_n 2, 1) := by decide +kernel
theorem dX0_holdsHere_151 : decode cX0_holdsHere 151 = .ok (.iaload, 1) := by decide +kernel
theorem dX0_holdsHere_152 : decode cX0_holdsHere 152 = .ok (.aload_n 0, 1) := by decide +kernel
theorem dX0_holdsHere_153 : decode cX0_holdsHere 153 = .ok (.getfield 19, 3) := by decide +kernel
theorem dX0_holdsHere_156 : decode cX0_holdsHere 156 = .ok (.getfield 66, 3) := by decide +kernel
theorem dX0_holdsHere_159 : decode cX0_holdsHere 159 = .ok (.iload_n 1, 1) := by decide +kernel
theorem dX0_holdsHere_160 : decode cX0_holdsHere 160 = .ok (.iaload, 1) := by decide +kernel
theorem dX0_holdsHere_161 : decode cX0_holdsHere 161 = .ok (.if_icmp .ne 7, 3) := by decide +kernel
theorem dX0_holdsHere_164 : decode cX0_holdsHere 164 = .ok (.iconst 1, 1) := by decide +kernel
theorem dX0_holdsHere_165 : decode cX0_holdsHere 165 = .ok (.goto 4, 3) := by decide +kernel
theorem dX0_holdsHere_168 : decode cX0_holdsHere 168 = .ok (.iconst 0, 1) := by decide +kernel
theorem dX0_holdsHere_169 : decode cX0_holdsHere 169 = .ok (.ireturn, 1) := by decide +kernel
theorem dX0_behindStep_0 : decode cX0_behindStep 0 = .ok (.aload_n 0, 1) := by decide +kernel
theorem dX0_behindStep_1 : decode cX0_behindStep 1 = .ok (.getfield 19, 3) := by decide +kernel
theorem dX0_behindStep_4 : decode cX0_behindStep 4 = .ok (.getfield 63, 3) := by decide +kernel
theorem dX0_behindStep_7 : decode cX0_behindStep 7 = .ok (.iload_n 1, 1) := by decide +kernel
theorem dX0_behindStep_8 : decode cX0_behindStep 8 = .ok (.iaload, 1) := by decide +kernel
theorem dX0_behindStep_9 : decode cX0_behindStep 9 = .ok (.istore_n 2, 1) := by decide +kernel
theorem dX0_behindStep_10 : decode cX0_behindStep 10 = .ok (.aload_n 0, 1) := by decide +kernel
theorem dX0_behindStep_11 : decode cX0_behindStep 11 = .ok (.getfield 19, 3) := by decide +kernel
theorem dX0_behindStep_14 : decode cX0_behindStep 14 = .ok (.getfield 66, 3) := by decide +kernel
theorem dX0_behindStep_17 : decode cX0_behindStep 17 = .ok (.iload_n 1, 1) := by decide +kernel
theorem dX0_behindStep_18 : decode cX0_behindStep 18 = .ok (.iaload, 1) := by decide +kernel
theorem dX0_behindStep_19 : decode cX0_behindStep 19 = .ok (.istore_n 3, 1) := by decide +kernel
theorem dX0_behindStep_20 : decode cX0_behindStep 20 = .ok (.aload_n 0, 1) := by decide +kernel
theorem dX0_behindStep_21 : decode cX0_behindStep 21 = .ok (.getfield 19, 3) := by decide +kernel
theorem dX0_behindStep_24 : decode cX0_behindStep 24 = .ok (.getfield 48, 3) := by decide +kernel
theorem dX0_behindStep_27 : decode cX0_behindStep 27 = .ok (.iload_n 1, 1) := by decide +kernel
theorem dX0_behindStep_28 : decode cX0_behindStep 28 = .ok (.iaload, 1) := by decide +kernel
theorem dX0_behindStep_29 : decode cX0_behindStep 29 = .ok (.tableswitch 144 13 23 #[59, 68, 77, 85, 93, 101, 108, 144, 144, 144, 134], 59) := by decide +kernel
theorem dX0_behindStep_88 : decode cX0_behindStep 88 = .ok (.aload_n 0, 1) := by decide +kernel
theorem dX0_behindStep_89 : decode cX0_behindStep 89 = .ok (.iload_n 2, 1) := by decide +kernel
theorem dX0_behindStep_90 : decode cX0_behindStep 90 = .ok (.iload_n 3, 1) := by decide +kernel
theorem dX0_behindStep_91 : decode cX0_behindStep 91 = .ok (.invokevirtual 69, 3) := by decide +kernel
theorem dX0_behindStep_94 : decode cX0_behindStep 94 = .ok (.goto 87, 3) := by decide +kernel
theorem dX0_behindStep_97 : decode cX0_behindStep 97 = .ok (.aload_n 0, 1) := by decide +kernel
theorem dX0_behindStep_98 : decode cX0_behindStep 98 = .ok (.iload_n 2, 1) := by decide +kernel
theorem dX0_behindStep_99 : decode cX0_behindStep 99 = .ok (.iload_n 3, 1) := by decide +kernel
theorem dX0_behindStep_100 : decode cX0_behindStep 100 = .ok (.invokevirtual 73, 3) := by decide +kernel
theorem dX0_behindStep_103 : decode cX0_behindStep 103 = .ok (.goto 78, 3) := by decide +kernel
theorem dX0_behindStep_106 : decode cX0_behindStep 106 = .ok (.aload_n 0, 1) := by decide +kernel
theorem dX0_behindStep_107 : decode cX0_behindStep 107 = .ok (.iload_n 2, 1) := by decide +kernel
theorem dX0_behindStep_108 : decode cX0_behindStep 108 = .ok (.invokevirtual 76, 3) := by decide +kernel
theorem dX0_behindStep_111 : decode cX0_behindStep 111 = .ok (.goto 70, 3) := by decide +kernel
theorem dX0_behindStep_114 : decode cX0_behindStep 114 = .ok (.aload_n 0, 1) := by decide +kernel
theorem dX0_behindStep_115 : decode cX0_behindStep 115 = .ok (.iload_n 2, 1) := by decide +kernel
theorem dX0_behindStep_116 : decode cX0_behindStep 116 = .ok (.invokevirtual 80, 3) := by decide +kernel
theorem dX0_behindStep_119 : decode cX0_behindStep 119 = .ok (.goto 62, 3) := by decide +kernel
theorem dX0_behindStep_122 : decode cX0_behindStep 122 = .ok (.aload_n 0, 1) := by decide +kernel
theorem dX0_behindStep_123 : decode cX0_behindStep 123 = .ok (.iload_n 2, 1) := by decide +kernel
theorem dX0_behindStep_124 : decode cX0_behindStep 124 = .ok (.invokevirtual 83, 3) := by decide +kernel
theorem dX0_behindStep_127 : decode cX0_behindStep 127 = .ok (.goto 54, 3) := by decide +kernel
theorem dX0_behindStep_130 : decode cX0_behindStep 130 = .ok (.aload_n 0, 1) := by decide +kernel
theorem dX0_behindStep_131 : decode cX0_behindStep 131 = .ok (.invokevirtual 86, 3) := by decide +kernel
theorem dX0_behindStep_134 : decode cX0_behindStep 134 = .ok (.goto 47, 3) := by decide +kernel
theorem dX0_behindStep_137 : decode cX0_behindStep 137 = .ok (.aload_n 0, 1) := by decide +kernel
theorem dX0_behindStep_138 : decode cX0_behindStep 138 = .ok (.iload_n 1, 1) := by decide +kernel
theorem dX0_behindStep_139 : decode cX0_behindStep 139 = .ok (.invokevirtual 89, 3) := by decide +kernel
theorem dX0_behindStep_142 : decode cX0_behindStep 142 = .ok (.ifCond .eq 9, 3) := by decide +kernel
theorem dX0_behindStep_145 : decode cX0_behindStep 145 = .ok (.iload_n 1, 1) := by decide +kernel
theorem dX0_behindStep_146 : decode cX0_behindStep 146 = .ok (.iconst 1, 1) := by decide +kernel
theorem dX0_behindStep_147 : decode cX0_behindStep 147 = .ok (.iadd, 1) := by decide +kernel
theorem dX0_behindStep_148 : decode cX0_behindStep 148 = .ok (.goto 14, 3) := by decide +kernel
theorem dX0_behindStep_151 : decode cX0_behindStep 151 = .ok (.aload_n 0, 1) := by decide +kernel
theorem dX0_behindStep_152 : decode cX0_behindStep 152 = .ok (.getfield 19, 3) := by decide +kernel
theorem dX0_behindStep_155 : decode cX0_behindStep 155 = .ok (.getfield 60, 3) := by decide +kernel
theorem dX0_behindStep_158 : decode cX0_behindStep 158 = .ok (.iload_n 1, 1) := by decide +kernel
theorem dX0_behindStep_159 : decode cX0_behindStep 159 = .ok (.iaload, 1) := by decide +kernel
theorem dX0_behindStep_160 : decode cX0_behindStep 160 = .ok (.iconst 1, 1) := by decide +kernel
theorem dX0_behindStep_161 : decode cX0_behindStep 161 = .ok (.iadd, 1) := by decide +kernel
theorem dX0_behindStep_162 : decode cX0_behindStep 162 = .ok (.ireturn, 1) := by decide +kernel
theorem dX0_behindStep_163 : decode cX0_behindStep 163 = .ok (.aload_n 0, 1) := by decide +kernel
theorem dX0_behindStep_164 : decode cX0_behindStep 164 = .ok (.getfield 9, 3) := by decide +kernel
theorem dX0_behindStep_167 : decode cX0_behindStep 167 = .ok (.iload_n 1, 1) := by decide +kernel
theorem dX0_behindStep_168 : decode cX0_behindStep 168 = .ok (.iload_n 3, 1) := by decide +kernel
theorem dX0_behindStep_169 : decode cX0_behindStep 169 = .ok (.iastore, 1) := by decide +kernel
theorem dX0_behindStep_170 : decode cX0_behindStep 170 = .ok (.goto 11, 3) := by decide +kernel
theorem dX0_behindStep_173 : decode cX0_behindStep 173 = .ok (.aload_n 0, 1) := by decide +kernel
theorem dX0_behindStep_174 : decode cX0_behindStep 174 = .ok (.getfield 19, 3) := by decide +kernel
theorem dX0_behindStep_177 : decode cX0_behindStep 177 = .ok (.getfield 45, 3) := by decide +kernel
theorem dX0_behindStep_180 : decode cX0_behindStep 180 = .ok (.ireturn, 1) := by decide +kernel
theorem dX0_behindStep_181 : decode cX0_behindStep 181 = .ok (.iload_n 1, 1) := by decide +kernel
theorem dX0_behindStep_182 : decode cX0_behindStep 182 = .ok (.iconst 1, 1) := by decide +kernel
theorem dX0_behindStep_183 : decode cX0_behindStep 183 = .ok (.iadd, 1) := by decide +kernel
theorem dX0_behindStep_184 : decode cX0_behindStep 184 = .ok (.ireturn, 1) := by decide +kernel
theorem dX0_run_0 : decode cX0_run 0 = .ok (.aload_n 0, 1) := by decide +kernel
theorem dX0_run_1 : decode cX0_run 1 = .ok (.aload_n 1, 1) := by decide +kernel
theorem dX0_run_2 : decode cX0_run 2 = .ok (.putfield 15, 3) := by decide +kernel
theorem dX0_run_5 : decode cX0_run 5 = .ok (.aload_n 0, 1) := by decide +kernel
theorem dX0_run_6 : decode cX0_run 6 = .ok (.aload_n 2, 1) := by decide +kernel
theorem dX0_run_7 : decode cX0_run 7 = .ok (.putfield 19, 3) := by decide +kernel
theorem dX0_run_10 : decode cX0_run 10 = .ok (.aload_n 0, 1) := by decide +kernel
theorem dX0_run_11 : decode cX0_run 11 = .ok (.iload_n 3, 1) := by decide +kernel
theorem dX0_run_12 : decode cX0_run 12 = .ok (.putfield 23, 3) := by decide +kernel
theorem dX0_run_15 : decode cX0_run 15 = .ok (.aload_n 0, 1) := by decide +kernel
theorem dX0_run_16 : decode cX0_run 16 = .ok (.iconst 0, 1) := by decide +kernel
theorem dX0_run_17 : decode cX0_run 17 = .ok (.putfield 27, 3) := by decide +kernel
theorem dX0_run_20 : decode cX0_run 20 = .ok (.aload_n 0, 1) := by decide +kernel
theorem dX0_run_21 : decode cX0_run 21 = .ok (.iconst 0, 1) := by decide +kernel
theorem dX0_run_22 : decode cX0_run 22 = .ok (.putfield 30, 3) := by decide +kernel
theorem dX0_run_25 : decode cX0_run 25 = .ok (.aload_n 0, 1) := by decide +kernel
theorem dX0_run_26 : decode cX0_run 26 = .ok (.iconst 0, 1) := by decide +kernel
theorem dX0_run_27 : decode cX0_run 27 = .ok (.putfield 33, 3) := by decide +kernel
theorem dX0_run_30 : decode cX0_run 30 = .ok (.aload_n 0, 1) := by decide +kernel
theorem dX0_run_31 : decode cX0_run 31 = .ok (.iconst 0, 1) := by decide +kernel
theorem dX0_run_32 : decode cX0_run 32 = .ok (.putfield 36, 3) := by decide +kernel
theorem dX0_run_35 : decode cX0_run 35 = .ok (.aload_n 0, 1) := by decide +kernel
theorem dX0_run_36 : decode cX0_run 36 = .ok (.iconst 0, 1) := by decide +kernel
theorem dX0_run_37 : decode cX0_run 37 = .ok (.putfield 39, 3) := by decide +kernel
theorem dX0_run_40 : decode cX0_run 40 = .ok (.aload_n 0, 1) := by decide +kernel
theorem dX0_run_41 : decode cX0_run 41 = .ok (.iconst 0, 1) := by decide +kernel
theorem dX0_run_42 : decode cX0_run 42 = .ok (.putfield 42, 3) := by decide +kernel
theorem dX0_run_45 : decode cX0_run 45 = .ok (.iconst 0, 1) := by decide +kernel
theorem dX0_run_46 : decode cX0_run 46 = .ok (.istore 4, 2) := by decide +kernel
theorem dX0_run_48 : decode cX0_run 48 = .ok (.iconst 0, 1) := by decide +kernel
theorem dX0_run_49 : decode cX0_run 49 = .ok (.istore 5, 2) := by decide +kernel
theorem dX0_run_51 : decode cX0_run 51 = .ok (.iload 5, 2) := by decide +kernel
theorem dX0_run_53 : decode cX0_run 53 = .ok (.sipush 10000, 3) := by decide +kernel
theorem dX0_run_56 : decode cX0_run 56 = .ok (.if_icmp .ge 81, 3) := by decide +kernel
theorem dX0_run_59 : decode cX0_run 59 = .ok (.iload 4, 2) := by decide +kernel
theorem dX0_run_61 : decode cX0_run 61 = .ok (.aload_n 0, 1) := by decide +kernel
theorem dX0_run_62 : decode cX0_run 62 = .ok (.getfield 19, 3) := by decide +kernel
theorem dX0_run_65 : decode cX0_run 65 = .ok (.getfield 45, 3) := by decide +kernel
theorem dX0_run_68 : decode cX0_run 68 = .ok (.if_icmp .ge 69, 3) := by decide +kernel
theorem dX0_run_71 : decode cX0_run 71 = .ok (.aload_n 0, 1) := by decide +kernel
theorem dX0_run_72 : decode cX0_run 72 = .ok (.getfield 19, 3) := by decide +kernel
theorem dX0_run_75 : decode cX0_run 75 = .ok (.getfield 48, 3) := by decide +kernel
theorem dX0_run_78 : decode cX0_run 78 = .ok (.iload 4, 2) := by decide +kernel
theorem dX0_run_80 : decode cX0_run 80 = .ok (.iaload, 1) := by decide +kernel
theorem dX0_run_81 : decode cX0_run 81 = .ok (.bipush 24, 2) := by decide +kernel
theorem dX0_run_83 : decode cX0_run 83 = .ok (.if_icmp .ne 14, 3) := by decide +kernel
theorem dX0_run_86 : decode cX0_run 86 = .ok (.aload_n 0, 1) := by decide +kernel
theorem dX0_run_87 : decode cX0_run 87 = .ok (.iload 4, 2) := by decide +kernel
theorem dX0_run_89 : decode cX0_run 89 = .ok (.invokevirtual 53, 3) := by decide +kernel
theorem dX0_run_92 : decode cX0_run 92 = .ok (.istore 4, 2) := by decide +kernel
theorem dX0_run_94 : decode cX0_run 94 = .ok (.goto 37, 3) := by decide +kernel
theorem dX0_run_97 : decode cX0_run 97 = .ok (.aload_n 0, 1) := by decide +kernel
theorem dX0_run_98 : decode cX0_run 98 = .ok (.getfield 27, 3) := by decide +kernel
theorem dX0_run_101 : decode cX0_run 101 = .ok (.sipush 300, 3) := by decide +kernel
theorem dX0_run_104 : decode cX0_run 104 = .ok (.if_icmp .ne 9, 3) := by decide +kernel
theorem dX0_run_107 : decode cX0_run 107 = .ok (.aload_n 0, 1) := by decide +kernel
theorem dX0_run_108 : decode cX0_run 108 = .ok (.iconst 1, 1) := by decide +kernel
theorem dX0_run_109 : decode cX0_run 109 = .ok (.putfield 42, 3) := by decide +kernel
theorem dX0_run_112 : decode cX0_run 112 = .ok (.return_, 1) := by decide +kernel
theorem dX0_run_113 : decode cX0_run 113 = .ok (.aload_n 0, 1) := by decide +kernel
theorem dX0_run_114 : decode cX0_run 114 = .ok (.dup, 1) := by decide +kernel
theorem dX0_run_115 : decode cX0_run 115 = .ok (.getfield 27, 3) := by decide +kernel
theorem dX0_run_118 : decode cX0_run 118 = .ok (.iconst 1, 1) := by decide +kernel
theorem dX0_run_119 : decode cX0_run 119 = .ok (.iadd, 1) := by decide +kernel
theorem dX0_run_120 : decode cX0_run 120 = .ok (.putfield 27, 3) := by decide +kernel
theorem dX0_run_123 : decode cX0_run 123 = .ok (.aload_n 0, 1) := by decide +kernel
theorem dX0_run_124 : decode cX0_run 124 = .ok (.iload 4, 2) := by decide +kernel
theorem dX0_run_126 : decode cX0_run 126 = .ok (.invokevirtual 57, 3) := by decide +kernel
theorem dX0_run_129 : decode cX0_run 129 = .ok (.istore 4, 2) := by decide +kernel
theorem dX0_run_131 : decode cX0_run 131 = .ok (.iinc 5 1, 3) := by decide +kernel
theorem dX0_run_134 : decode cX0_run 134 = .ok (.goto (-83), 3) := by decide +kernel
theorem dX0_run_137 : decode cX0_run 137 = .ok (.return_, 1) := by decide +kernel
theorem dX1_clear_0 : decode cX1_clear 0 = .ok (.aload_n 0, 1) := by decide +kernel
theorem dX1_clear_1 : decode cX1_clear 1 = .ok (.iconst 0, 1) := by decide +kernel
theorem dX1_clear_2 : decode cX1_clear 2 = .ok (.putfield 25, 3) := by decide +kernel
theorem dX1_clear_5 : decode cX1_clear 5 = .ok (.aload_n 0, 1) := by decide +kernel
theorem dX1_clear_6 : decode cX1_clear 6 = .ok (.iconst 0, 1) := by decide +kernel
theorem dX1_clear_7 : decode cX1_clear 7 = .ok (.putfield 29, 3) := by decide +kernel
theorem dX1_clear_10 : decode cX1_clear 10 = .ok (.aload_n 0, 1) := by decide +kernel
theorem dX1_clear_11 : decode cX1_clear 11 = .ok (.iconst 0, 1) := by decide +kernel
theorem dX1_clear_12 : decode cX1_clear 12 = .ok (.putfield 33, 3) := by decide +kernel
theorem dX1_clear_15 : decode cX1_clear 15 = .ok (.return_, 1) := by decide +kernel
theorem dX1_copyFrom_0 : decode cX1_copyFrom 0 = .ok (.aload_n 0, 1) := by decide +kernel
theorem dX1_copyFrom_1 : decode cX1_copyFrom 1 = .ok (.aload_n 1, 1) := by decide +kernel
theorem dX1_copyFrom_2 : decode cX1_copyFrom 2 = .ok (.getfield 25, 3) := by decide +kernel
theorem dX1_copyFrom_5 : decode cX1_copyFrom 5 = .ok (.putfield 25, 3) := by decide +kernel
theorem dX1_copyFrom_8 : decode cX1_copyFrom 8 = .ok (.aload_n 0, 1) := by decide +kernel
theorem dX1_copyFrom_9 : decode cX1_copyFrom 9 = .ok (.aload_n 1, 1) := by decide +kernel
theorem dX1_copyFrom_10 : decode cX1_copyFrom 10 = .ok (.getfield 29, 3) := by decide +kernel
theorem dX1_copyFrom_13 : decode cX1_copyFrom 13 = .ok (.putfield 29, 3) := by decide +kernel
theorem dX1_copyFrom_16 : decode cX1_copyFrom 16 = .ok (.aload_n 0, 1) := by decide +kernel
theorem dX1_copyFrom_17 : decode cX1_copyFrom 17 = .ok (.aload_n 1, 1) := by decide +kernel
theorem dX1_copyFrom_18 : decode cX1_copyFrom 18 = .ok (.getfield 33, 3) := by decide +kernel
theorem dX1_copyFrom_21 : decode cX1_copyFrom 21 = .ok (.putfield 33, 3) := by decide +kernel
theorem dX1_copyFrom_24 : decode cX1_copyFrom 24 = .ok (.aload_n 1, 1) := by decide +kernel
theorem dX1_copyFrom_25 : decode cX1_copyFrom 25 = .ok (.getfield 9, 3) := by decide +kernel
theorem dX1_copyFrom_28 : decode cX1_copyFrom 28 = .ok (.iconst 0, 1) := by decide +kernel
theorem dX1_copyFrom_29 : decode cX1_copyFrom 29 = .ok (.aload_n 0, 1) := by decide +kernel
theorem dX1_copyFrom_30 : decode cX1_copyFrom 30 = .ok (.getfield 9, 3) := by decide +kernel
theorem dX1_copyFrom_33 : decode cX1_copyFrom 33 = .ok (.iconst 0, 1) := by decide +kernel
theorem dX1_copyFrom_34 : decode cX1_copyFrom 34 = .ok (.aload_n 1, 1) := by decide +kernel
theorem dX1_copyFrom_35 : decode cX1_copyFrom 35 = .ok (.getfield 33, 3) := by decide +kernel
theorem dX1_copyFrom_38 : decode cX1_copyFrom 38 = .ok (.invokestatic 36, 3) := by decide +kernel
theorem dX1_copyFrom_41 : decode cX1_copyFrom 41 = .ok (.aload_n 1, 1) := by decide +kernel
theorem dX1_copyFrom_42 : decode cX1_copyFrom 42 = .ok (.getfield 13, 3) := by decide +kernel
theorem dX1_copyFrom_45 : decode cX1_copyFrom 45 = .ok (.iconst 0, 1) := by decide +kernel
theorem dX1_copyFrom_46 : decode cX1_copyFrom 46 = .ok (.aload_n 0, 1) := by decide +kernel
theorem dX1_copyFrom_47 : decode cX1_copyFrom 47 = .ok (.getfield 13, 3) := by decide +kernel
theorem dX1_copyFrom_50 : decode cX1_copyFrom 50 = .ok (.iconst 0, 1) := by decide +kernel
theorem dX1_copyFrom_51 : decode cX1_copyFrom 51 = .ok (.aload_n 1, 1) := by decide +kernel
theorem dX1_copyFrom_52 : decode cX1_copyFrom 52 = .ok (.getfield 33, 3) := by decide +kernel
theorem dX1_copyFrom_55 : decode cX1_copyFrom 55 = .ok (.invokestatic 36, 3) := by decide +kernel
theorem dX1_copyFrom_58 : decode cX1_copyFrom 58 = .ok (.aload_n 1, 1) := by decide +kernel
theorem dX1_copyFrom_59 : decode cX1_copyFrom 59 = .ok (.getfield 16, 3) := by decide +kernel
theorem dX1_copyFrom_62 : decode cX1_copyFrom 62 = .ok (.iconst 0, 1) := by decide +kernel
theorem dX1_copyFrom_63 : decode cX1_copyFrom 63 = .ok (.aload_n 0, 1) := by decide +kernel
theorem dX1_copyFrom_64 : decode cX1_copyFrom 64 = .ok (.getfield 16, 3) := by decide +kernel
theorem dX1_copyFrom_67 : decode cX1_copyFrom 67 = .ok (.iconst 0, 1) := by decide +kernel
theorem dX1_copyFrom_68 : decode cX1_copyFrom 68 = .ok (.aload_n 1, 1) := by decide +kernel
theorem dX1_copyFrom_69 : decode cX1_copyFrom 69 = .ok (.getfield 33, 3) := by decide +kernel
theorem dX1_copyFrom_72 : decode cX1_copyFrom 72 = .ok (.invokestatic 36, 3) := by decide +kernel
theorem dX1_copyFrom_75 : decode cX1_copyFrom 75 = .ok (.aload_n 1, 1) := by decide +kernel
theorem dX1_copyFrom_76 : decode cX1_copyFrom 76 = .ok (.getfield 19, 3) := by decide +kernel
theorem dX1_copyFrom_79 : decode cX1_copyFrom 79 = .ok (.iconst 0, 1) := by decide +kernel
theorem dX1_copyFrom_80 : decode cX1_copyFrom 80 = .ok (.aload_n 0, 1) := by decide +kernel
theorem dX1_copyFrom_81 : decode cX1_copyFrom 81 = .ok (.getfield 19, 3) := by decide +kernel
theorem dX1_copyFrom_84 : decode cX1_copyFrom 84 = .ok (.iconst 0, 1) := by decide +kernel
theorem dX1_copyFrom_85 : decode cX1_copyFrom 85 = .ok (.aload_n 1, 1) := by decide +kernel
theorem dX1_copyFrom_86 : decode cX1_copyFrom 86 = .ok (.getfield 33, 3) := by decide +kernel
theorem dX1_copyFrom_89 : decode cX1_copyFrom 89 = .ok (.invokestatic 36, 3) := by decide +kernel
theorem dX1_copyFrom_92 : decode cX1_copyFrom 92 = .ok (.aload_n 1, 1) := by decide +kernel
theorem dX1_copyFrom_93 : decode cX1_copyFrom 93 = .ok (.getfield 22, 3) := by decide +kernel
theorem dX1_copyFrom_96 : decode cX1_copyFrom 96 = .ok (.iconst 0, 1) := by decide +kernel
theorem dX1_copyFrom_97 : decode cX1_copyFrom 97 = .ok (.aload_n 0, 1) := by decide +kernel
theorem dX1_copyFrom_98 : decode cX1_copyFrom 98 = .ok (.getfield 22, 3) := by decide +kernel
theorem dX1_copyFrom_101 : decode cX1_copyFrom 101 = .ok (.iconst 0, 1) := by decide +kernel
theorem dX1_copyFrom_102 : decode cX1_copyFrom 102 = .ok (.aload_n 1, 1) := by decide +kernel
theorem dX1_copyFrom_103 : decode cX1_copyFrom 103 = .ok (.getfield 33, 3) := by decide +kernel
theorem dX1_copyFrom_106 : decode cX1_copyFrom 106 = .ok (.invokestatic 36, 3) := by decide +kernel
theorem dX1_copyFrom_109 : decode cX1_copyFrom 109 = .ok (.return_, 1) := by decide +kernel
theorem dX4_wordNumber_0 : decode cX4_wordNumber 0 = .ok (.iconst 0, 1) := by decide +kernel
theorem dX4_wordNumber_1 : decode cX4_wordNumber 1 = .ok (.istore_n 1, 1) := by decide +kernel
theorem dX4_wordNumber_2 : decode cX4_wordNumber 2 = .ok (.aload_n 0, 1) := by decide +kernel
theorem dX4_wordNumber_3 : decode cX4_wordNumber 3 = .ok (.getfield 40, 3) := by decide +kernel
theorem dX4_wordNumber_6 : decode cX4_wordNumber 6 = .ok (.istore_n 2, 1) := by decide +kernel
theorem dX4_wordNumber_7 : decode cX4_wordNumber 7 = .ok (.iconst 1, 1) := by decide +kernel
theorem dX4_wordNumber_8 : decode cX4_wordNumber 8 = .ok (.istore_n 3, 1) := by decide +kernel
theorem dX4_wordNumber_9 : decode cX4_wordNumber 9 = .ok (.iconst 0, 1) := by decide +kernel
theorem dX4_wordNumber_10 : decode cX4_wordNumber 10 = .ok (.istore 4, 2) := by decide +kernel
theorem dX4_wordNumber_12 : decode cX4_wordNumber 12 = .ok (.iload 4, 2) := by decide +kernel
theorem dX4_wordNumber_14 : decode cX4_wordNumber 14 = .ok (.ldc 68, 2) := by decide +kernel
theorem dX4_wordNumber_16 : decode cX4_wordNumber 16 = .ok (.invokevirtual 70, 3) := by decide +kernel
theorem dX4_wordNumber_19 : decode cX4_wordNumber 19 = .ok (.if_icmp .ge 84, 3) := by decide +kernel
theorem dX4_wordNumber_22 : decode cX4_wordNumber 22 = .ok (.ldc 68, 2) := by decide +kernel
theorem dX4_wordNumber_24 : decode cX4_wordNumber 24 = .ok (.iload 4, 2) := by decide +kernel
theorem dX4_wordNumber_26 : decode cX4_wordNumber 26 = .ok (.invokevirtual 74, 3) := by decide +kernel
theorem dX4_wordNumber_29 : decode cX4_wordNumber 29 = .ok (.istore 5, 2) := by decide +kernel
theorem dX4_wordNumber_31 : decode cX4_wordNumber 31 = .ok (.iload 5, 2) := by decide +kernel
theorem dX4_wordNumber_33 : decode cX4_wordNumber 33 = .ok (.bipush 32, 2) := by decide +kernel
theorem dX4_wordNumber_35 : decode cX4_wordNumber 35 = .ok (.if_icmp .eq 38, 3) := by decide +kernel
theorem dX4_wordNumber_38 : decode cX4_wordNumber 38 = .ok (.iload_n 3, 1) := by decide +kernel
theorem dX4_wordNumber_39 : decode cX4_wordNumber 39 = .ok (.ifCond .eq 26, 3) := by decide +kernel
theorem dX4_wordNumber_42 : decode cX4_wordNumber 42 = .ok (.iload_n 2, 1) := by decide +kernel
theorem dX4_wordNumber_43 : decode cX4_wordNumber 43 = .ok (.aload_n 0, 1) := by decide +kernel
theorem dX4_wordNumber_44 : decode cX4_wordNumber 44 = .ok (.getfield 28, 3) := by decide +kernel
theorem dX4_wordNumber_47 : decode cX4_wordNumber 47 = .ok (.if_icmp .ge 18, 3) := by decide +kernel
theorem dX4_wordNumber_50 : decode cX4_wordNumber 50 = .ok (.aload_n 0, 1) := by decide +kernel
theorem dX4_wordNumber_51 : decode cX4_wordNumber 51 = .ok (.getfield 9, 3) := by decide +kernel
theorem dX4_wordNumber_54 : decode cX4_wordNumber 54 = .ok (.iload_n 2, 1) := by decide +kernel
theorem dX4_wordNumber_55 : decode cX4_wordNumber 55 = .ok (.baload, 1) := by decide +kernel
theorem dX4_wordNumber_56 : decode cX4_wordNumber 56 = .ok (.iload 5, 2) := by decide +kernel
theorem dX4_wordNumber_58 : decode cX4_wordNumber 58 = .ok (.if_icmp .ne 7, 3) := by decide +kernel
theorem dX4_wordNumber_61 : decode cX4_wordNumber 61 = .ok (.iconst 1, 1) := by decide +kernel
theorem dX4_wordNumber_62 : decode cX4_wordNumber 62 = .ok (.goto 4, 3) := by decide +kernel
theorem dX4_wordNumber_65 : decode cX4_wordNumber 65 = .ok (.iconst 0, 1) := by decide +kernel
theorem dX4_wordNumber_66 : decode cX4_wordNumber 66 = .ok (.istore_n 3, 1) := by decide +kernel
theorem dX4_wordNumber_67 : decode cX4_wordNumber 67 = .ok (.iinc 2 1, 3) := by decide +kernel
theorem dX4_wordNumber_70 : decode cX4_wordNumber 70 = .ok (.goto 27, 3) := by decide +kernel
theorem dX4_wordNumber_73 : decode cX4_wordNumber 73 = .ok (.iload_n 3, 1) := by decide +kernel
theorem dX4_wordNumber_74 : decode cX4_wordNumber 74 = .ok (.ifCond .eq 13, 3) := by decide +kernel
theorem dX4_wordNumber_77 : decode cX4_wordNumber 77 = .ok (.iload_n 2, 1) := by decide +kernel
theorem dX4_wordNumber_78 : decode cX4_wordNumber 78 = .ok (.aload_n 0, 1) := by decide +kernel
theorem dX4_wordNumber_79 : decode cX4_wordNumber 79 = .ok (.getfield 28, 3) := by decide +kernel
theorem dX4_wordNumber_82 : decode cX4_wordNumber 82 = .ok (.if_icmp .ne 5, 3) := by decide +kernel
theorem dX4_wordNumber_85 : decode cX4_wordNumber 85 = .ok (.iload_n 1, 1) := by decide +kernel
theorem dX4_wordNumber_86 : decode cX4_wordNumber 86 = .ok (.ireturn, 1) := by decide +kernel
theorem dX4_wordNumber_87 : decode cX4_wordNumber 87 = .ok (.iinc 1 1, 3) := by decide +kernel
theorem dX4_wordNumber_90 : decode cX4_wordNumber 90 = .ok (.aload_n 0, 1) := by decide +kernel
theorem dX4_wordNumber_91 : decode cX4_wordNumber 91 = .ok (.getfield 40, 3) := by decide +kernel
theorem dX4_wordNumber_94 : decode cX4_wordNumber 94 = .ok (.istore_n 2, 1) := by decide +kernel
theorem dX4_wordNumber_95 : decode cX4_wordNumber 95 = .ok (.iconst 1, 1) := by decide +kernel
theorem dX4_wordNumber_96 : decode cX4_wordNumber 96 = .ok (.istore_n 3, 1) := by decide +kernel
theorem dX4_wordNumber_97 : decode cX4_wordNumber 97 = .ok (.iinc 4 1, 3) := by decide +kernel
theorem dX4_wordNumber_100 : decode cX4_wordNumber 100 = .ok (.goto (-88), 3) := by decide +kernel
theorem dX4_wordNumber_103 : decode cX4_wordNumber 103 = .ok (.iconst (-1), 1) := by decide +kernel
theorem dX4_wordNumber_104 : decode cX4_wordNumber 104 = .ok (.ireturn, 1) := by decide +kernel
theorem dX4_readSign_0 : decode cX4_readSign 0 = .ok (.aload_n 0, 1) := by decide +kernel
theorem dX4_readSign_1 : decode cX4_readSign 1 = .ok (.getfield 28, 3) := by decide +kernel
theorem dX4_readSign_4 : decode cX4_readSign 4 = .ok (.aload_n 0, 1) := by decide +kernel
theorem dX4_readSign_5 : decode cX4_readSign 5 = .ok (.getfield 24, 3) := by decide +kernel
theorem dX4_readSign_8 : decode cX4_readSign 8 = .ok (.if_icmp .lt 9, 3) := by decide +kernel
theorem dX4_readSign_11 : decode cX4_readSign 11 = .ok (.aload_n 0, 1) := by decide +kernel
theorem dX4_readSign_12 : decode cX4_readSign 12 = .ok (.iconst 0, 1) := by decide +kernel
theorem dX4_readSign_13 : decode cX4_readSign 13 = .ok (.putfield 55, 3) := by decide +kernel
theorem dX4_readSign_16 : decode cX4_readSign 16 = .ok (.return_, 1) := by decide +kernel
theorem dX4_readSign_17 : decode cX4_readSign 17 = .ok (.aload_n 0, 1) := by decide +kernel
theorem dX4_readSign_18 : decode cX4_readSign 18 = .ok (.aload_n 0, 1) := by decide +kernel
theorem dX4_readSign_19 : decode cX4_readSign 19 = .ok (.getfield 9, 3) := by decide +kernel
theorem dX4_readSign_22 : decode cX4_readSign 22 = .ok (.aload_n 0, 1) := by decide +kernel
theorem dX4_readSign_23 : decode cX4_readSign 23 = .ok (.getfield 28, 3) := by decide +kernel
theorem dX4_readSign_26 : decode cX4_readSign 26 = .ok (.baload, 1) := by decide +kernel
theorem dX4_readSign_27 : decode cX4_readSign 27 = .ok (.putfield 65, 3) := by decide +kernel
theorem dX4_readSign_30 : decode cX4_readSign 30 = .ok (.aload_n 0, 1) := by decide +kernel
theorem dX4_readSign_31 : decode cX4_readSign 31 = .ok (.aload_n 0, 1) := by decide +kernel
theorem dX4_readSign_32 : decode cX4_readSign 32 = .ok (.getfield 65, 3) := by decide +kernel
theorem dX4_readSign_35 : decode cX4_readSign 35 = .ok (.bipush 59, 2) := by decide +kernel
theorem dX4_readSign_37 : decode cX4_readSign 37 = .ok (.if_icmp .eq 30, 3) := by decide +kernel
theorem dX4_readSign_40 : decode cX4_readSign 40 = .ok (.aload_n 0, 1) := by decide +kernel
theorem dX4_readSign_41 : decode cX4_readSign 41 = .ok (.getfield 65, 3) := by decide +kernel
theorem dX4_readSign_44 : decode cX4_readSign 44 = .ok (.bipush 60, 2) := by decide +kernel
theorem dX4_readSign_46 : decode cX4_readSign 46 = .ok (.if_icmp .eq 21, 3) := by decide +kernel
theorem dX4_readSign_49 : decode cX4_readSign 49 = .ok (.aload_n 0, 1) := by decide +kernel
theorem dX4_readSign_50 : decode cX4_readSign 50 = .ok (.getfield 65, 3) := by decide +kernel
theorem dX4_readSign_53 : decode cX4_readSign 53 = .ok (.bipush 62, 2) := by decide +kernel
theorem dX4_readSign_55 : decode cX4_readSign 55 = .ok (.if_icmp .eq 12, 3) := by decide +kernel
theorem dX4_readSign_58 : decode cX4_readSign 58 = .ok (.aload_n 0, 1) := by decide +kernel
theorem dX4_readSign_59 : decode cX4_readSign 59 = .ok (.getfield 65, 3) := by decide +kernel
theorem dX4_readSign_62 : decode cX4_readSign 62 = .ok (.bipush 61, 2) := by decide +kernel
theorem dX4_readSign_64 : decode cX4_readSign 64 = .ok (.if_icmp .ne 7, 3) := by decide +kernel
theorem dX4_readSign_67 : decode cX4_readSign 67 = .ok (.iconst 3, 1) := by decide +kernel
theorem dX4_readSign_68 : decode cX4_readSign 68 = .ok (.goto 4, 3) := by decide +kernel
theorem dX4_readSign_71 : decode cX4_readSign 71 = .ok (.iconst 4, 1) := by decide +kernel
theorem dX4_readSign_72 : decode cX4_readSign 72 = .ok (.putfield 55, 3) := by decide +kernel
theorem dX4_readSign_75 : decode cX4_readSign 75 = .ok (.aload_n 0, 1) := by decide +kernel
theorem dX4_readSign_76 : decode cX4_readSign 76 = .ok (.dup, 1) := by decide +kernel
theorem dX4_readSign_77 : decode cX4_readSign 77 = .ok (.getfield 28, 3) := by decide +kernel
theorem dX4_readSign_80 : decode cX4_readSign 80 = .ok (.iconst 1, 1) := by decide +kernel
theorem dX4_readSign_81 : decode cX4_readSign 81 = .ok (.iadd, 1) := by decide +kernel
theorem dX4_readSign_82 : decode cX4_readSign 82 = .ok (.putfield 28, 3) := by decide +kernel
theorem dX4_readSign_85 : decode cX4_readSign 85 = .ok (.return_, 1) := by decide +kernel
theorem dX4_advance_0 : decode cX4_advance 0 = .ok (.aload_n 0, 1) := by decide +kernel
theorem dX4_advance_1 : decode cX4_advance 1 = .ok (.getfield 28, 3) := by decide +kernel
theorem dX4_advance_4 : decode cX4_advance 4 = .ok (.aload_n 0, 1) := by decide +kernel
theorem dX4_advance_5 : decode cX4_advance 5 = .ok (.getfield 24, 3) := by decide +kernel
theorem dX4_advance_8 : decode cX4_advance 8 = .ok (.if_icmp .ge 44, 3) := by decide +kernel
theorem dX4_advance_11 : decode cX4_advance 11 = .ok (.aload_n 0, 1) := by decide +kernel
theorem dX4_advance_12 : decode cX4_advance 12 = .ok (.getfield 9, 3) := by decide +kernel
theorem dX4_advance_15 : decode cX4_advance 15 = .ok (.aload_n 0, 1) := by decide +kernel
theorem dX4_advance_16 : decode cX4_advance 16 = .ok (.getfield 28, 3) := by decide +kernel
theorem dX4_advance_19 : decode cX4_advance 19 = .ok (.baload, 1) := by decide +kernel
theorem dX4_advance_20 : decode cX4_advance 20 = .ok (.bipush 32, 2) := by decide +kernel
theorem dX4_advance_22 : decode cX4_advance 22 = .ok (.if_icmp .eq 17, 3) := by decide +kernel
theorem dX4_advance_25 : decode cX4_advance 25 = .ok (.aload_n 0, 1) := by decide +kernel
theorem dX4_advance_26 : decode cX4_advance 26 = .ok (.getfield 9, 3) := by decide +kernel
theorem dX4_advance_29 : decode cX4_advance 29 = .ok (.aload_n 0, 1) := by decide +kernel
theorem dX4_advance_30 : decode cX4_advance 30 = .ok (.getfield 28, 3) := by decide +kernel
theorem dX4_advance_33 : decode cX4_advance 33 = .ok (.baload, 1) := by decide +kernel
theorem dX4_advance_34 : decode cX4_advance 34 = .ok (.bipush 10, 2) := by decide +kernel
theorem dX4_advance_36 : decode cX4_advance 36 = .ok (.if_icmp .ne 16, 3) := by decide +kernel
theorem dX4_advance_39 : decode cX4_advance 39 = .ok (.aload_n 0, 1) := by decide +kernel
theorem dX4_advance_40 : decode cX4_advance 40 = .ok (.dup, 1) := by decide +kernel
theorem dX4_advance_41 : decode cX4_advance 41 = .ok (.getfield 28, 3) := by decide +kernel
theorem dX4_advance_44 : decode cX4_advance 44 = .ok (.iconst 1, 1) := by decide +kernel
theorem dX4_advance_45 : decode cX4_advance 45 = .ok (.iadd, 1) := by decide +kernel
theorem dX4_advance_46 : decode cX4_advance 46 = .ok (.putfield 28, 3) := by decide +kernel
theorem dX4_advance_49 : decode cX4_advance 49 = .ok (.goto (-49), 3) := by decide +kernel
theorem dX4_advance_52 : decode cX4_advance 52 = .ok (.aload_n 0, 1) := by decide +kernel
theorem dX4_advance_53 : decode cX4_advance 53 = .ok (.aload_n 0, 1) := by decide +kernel
theorem dX4_advance_54 : decode cX4_advance 54 = .ok (.getfield 28, 3) := by decide +kernel
theorem dX4_advance_57 : decode cX4_advance 57 = .ok (.putfield 40, 3) := by decide +kernel
theorem dX4_advance_60 : decode cX4_advance 60 = .ok (.aload_n 0, 1) := by decide +kernel
theorem dX4_advance_61 : decode cX4_advance 61 = .ok (.iconst 0, 1) := by decide +kernel
theorem dX4_advance_62 : decode cX4_advance 62 = .ok (.putfield 43, 3) := by decide +kernel
theorem dX4_advance_65 : decode cX4_advance 65 = .ok (.aload_n 0, 1) := by decide +kernel
theorem dX4_advance_66 : decode cX4_advance 66 = .ok (.iconst (-1), 1) := by decide +kernel
theorem dX4_advance_67 : decode cX4_advance 67 = .ok (.putfield 46, 3) := by decide +kernel
theorem dX4_advance_70 : decode cX4_advance 70 = .ok (.aload_n 0, 1) := by decide +kernel
theorem dX4_advance_71 : decode cX4_advance 71 = .ok (.lconst 0, 1) := by decide +kernel
theorem dX4_advance_72 : decode cX4_advance 72 = .ok (.putfield 49, 3) := by decide +kernel
theorem dX4_advance_75 : decode cX4_advance 75 = .ok (.aload_n 0, 1) := by decide +kernel
theorem dX4_advance_76 : decode cX4_advance 76 = .ok (.getfield 28, 3) := by decide +kernel
theorem dX4_advance_79 : decode cX4_advance 79 = .ok (.aload_n 0, 1) := by decide +kernel
theorem dX4_advance_80 : decode cX4_advance 80 = .ok (.getfield 24, 3) := by decide +kernel
theorem dX4_advance_83 : decode cX4_advance 83 = .ok (.if_icmp .ge 72, 3) := by decide +kernel
theorem dX4_advance_86 : decode cX4_advance 86 = .ok (.aload_n 0, 1) := by decide +kernel
theorem dX4_advance_87 : decode cX4_advance 87 = .ok (.getfield 9, 3) := by decide +kernel
theorem dX4_advance_90 : decode cX4_advance 90 = .ok (.aload_n 0, 1) := by decide +kernel
theorem dX4_advance_91 : decode cX4_advance 91 = .ok (.getfield 28, 3) := by decide +kernel
theorem dX4_advance_94 : decode cX4_advance 94 = .ok (.baload, 1) := by decide +kernel
theorem dX4_advance_95 : decode cX4_advance 95 = .ok (.bipush 97, 2) := by decide +kernel
theorem dX4_advance_97 : decode cX4_advance 97 = .ok (.if_icmp .lt 58, 3) := by decide +kernel
theorem dX4_advance_100 : decode cX4_advance 100 = .ok (.aload_n 0, 1) := by decide +kernel
theorem dX4_advance_101 : decode cX4_advance 101 = .ok (.getfield 9, 3) := by decide +kernel
theorem dX4_advance_104 : decode cX4_advance 104 = .ok (.aload_n 0, 1) := by decide +kernel
theorem dX4_advance_105 : decode cX4_advance 105 = .ok (.getfield 28, 3) := by decide +kernel
theorem dX4_advance_108 : decode cX4_advance 108 = .ok (.baload, 1) := by decide +kernel
theorem dX4_advance_109 : decode cX4_advance 109 = .ok (.bipush 122, 2) := by decide +kernel
theorem dX4_advance_111 : decode cX4_advance 111 = .ok (.if_icmp .gt 44, 3) := by decide +kernel
theorem dX4_advance_114 : decode cX4_advance 114 = .ok (.aload_n 0, 1) := by decide +kernel
theorem dX4_advance_115 : decode cX4_advance 115 = .ok (.aload_n 0, 1) := by decide +kernel
theorem dX4_advance_116 : decode cX4_advance 116 = .ok (.getfield 49, 3) := by decide +kernel
theorem dX4_advance_119 : decode cX4_advance 119 = .ok (.ldc2_w 53, 3) := by decide +kernel
theorem dX4_advance_122 : decode cX4_advance 122 = .ok (.lmul, 1) := by decide +kernel
theorem dX4_advance_123 : decode cX4_advance 123 = .ok (.aload_n 0, 1) := by decide +kernel
theorem dX4_advance_124 : decode cX4_advance 124 = .ok (.getfield 9, 3) := by decide +kernel
theorem dX4_advance_127 : decode cX4_advance 127 = .ok (.aload_n 0, 1) := by decide +kernel
theorem dX4_advance_128 : decode cX4_advance 128 = .ok (.getfield 28, 3) := by decide +kernel
theorem dX4_advance_131 : decode cX4_advance 131 = .ok (.baload, 1) := by decide +kernel
theorem dX4_advance_132 : decode cX4_advance 132 = .ok (.bipush 97, 2) := by decide +kernel
theorem dX4_advance_134 : decode cX4_advance 134 = .ok (.isub, 1) := by decide +kernel
theorem dX4_advance_135 : decode cX4_advance 135 = .ok (.iconst 1, 1) := by decide +kernel
theorem dX4_advance_136 : decode cX4_advance 136 = .ok (.iadd, 1) := by decide +kernel
theorem dX4_advance_137 : decode cX4_advance 137 = .ok (.i2l, 1) := by decide +kernel
theorem dX4_advance_138 : decode cX4_advance 138 = .ok (.ladd, 1) := by decide +kernel
theorem dX4_advance_139 : decode cX4_advance 139 = .ok (.putfield 49, 3) := by decide +kernel
theorem dX4_advance_142 : decode cX4_advance 142 = .ok (.aload_n 0, 1) := by decide +kernel
theorem dX4_advance_143 : decode cX4_advance 143 = .ok (.dup, 1) := by decide +kernel
theorem dX4_advance_144 : decode cX4_advance 144 = .ok (.getfield 28, 3) := by decide +kernel
theorem dX4_advance_147 : decode cX4_advance 147 = .ok (.iconst 1, 1) := by decide +kernel
theorem dX4_advance_148 : decode cX4_advance 148 = .ok (.iadd, 1) := by decide +kernel
theorem dX4_advance_149 : decode cX4_advance 149 = .ok (.putfield 28, 3) := by decide +kernel
theorem dX4_advance_152 : decode cX4_advance 152 = .ok (.goto (-77), 3) := by decide +kernel
theorem dX4_advance_155 : decode cX4_advance 155 = .ok (.aload_n 0, 1) := by decide +kernel
theorem dX4_advance_156 : decode cX4_advance 156 = .ok (.getfield 28, 3) := by decide +kernel
theorem dX4_advance_159 : decode cX4_advance 159 = .ok (.aload_n 0, 1) := by decide +kernel
theorem dX4_advance_160 : decode cX4_advance 160 = .ok (.getfield 40, 3) := by decide +kernel
theorem dX4_advance_163 : decode cX4_advance 163 = .ok (.if_icmp .le 17, 3) := by decide +kernel
theorem dX4_advance_166 : decode cX4_advance 166 = .ok (.aload_n 0, 1) := by decide +kernel
theorem dX4_advance_167 : decode cX4_advance 167 = .ok (.iconst 1, 1) := by decide +kernel
theorem dX4_advance_168 : decode cX4_advance 168 = .ok (.putfield 55, 3) := by decide +kernel
theorem dX4_advance_171 : decode cX4_advance 171 = .ok (.aload_n 0, 1) := by decide +kernel
theorem dX4_advance_172 : decode cX4_advance 172 = .ok (.aload_n 0, 1) := by decide +kernel
theorem dX4_advance_173 : decode cX4_advance 173 = .ok (.invokevirtual 58, 3) := by decide +kernel
theorem dX4_advance_176 : decode cX4_advance 176 = .ok (.putfield 46, 3) := by decide +kernel
theorem dX4_advance_179 : decode cX4_advance 179 = .ok (.return_, 1) := by decide +kernel
theorem dX4_advance_180 : decode cX4_advance 180 = .ok (.aload_n 0, 1) := by decide +kernel
theorem dX4_advance_181 : decode cX4_advance 181 = .ok (.getfield 28, 3) := by decide +kernel
theorem dX4_advance_184 : decode cX4_advance 184 = .ok (.aload_n 0, 1) := by decide +kernel
theorem dX4_advance_185 : decode cX4_advance 185 = .ok (.getfield 24, 3) := by decide +kernel
theorem dX4_advance_188 : decode cX4_advance 188 = .ok (.if_icmp .ge 68, 3) := by decide +kernel
theorem dX4_advance_191 : decode cX4_advance 191 = .ok (.aload_n 0, 1) := by decide +kernel
theorem dX4_advance_192 : decode cX4_advance 192 = .ok (.getfield 9, 3) := by decide +kernel
theorem dX4_advance_195 : decode cX4_advance 195 = .ok (.aload_n 0, 1) := by decide +kernel
theorem dX4_advance_196 : decode cX4_advance 196 = .ok (.getfield 28, 3) := by decide +kernel
theorem dX4_advance_199 : decode cX4_advance 199 = .ok (.baload, 1) := by decide +kernel
theorem dX4_advance_200 : decode cX4_advance 200 = .ok (.bipush 48, 2) := by decide +kernel
theorem dX4_advance_202 : decode cX4_advance 202 = .ok (.if_icmp .lt 54, 3) := by decide +kernel
theorem dX4_advance_205 : decode cX4_advance 205 = .ok (.aload_n 0, 1) := by decide +kernel
theorem dX4_advance_206 : decode cX4_advance 206 = .ok (.getfield 9, 3) := by decide +kernel
theorem dX4_advance_209 : decode cX4_advance 209 = .ok (.aload_n 0, 1) := by decide +kernel
theorem dX4_advance_210 : decode cX4_advance 210 = .ok (.getfield 28, 3) := by decide +kernel
theorem dX4_advance_213 : decode cX4_advance 213 = .ok (.baload, 1) := by decide +kernel
theorem dX4_advance_214 : decode cX4_advance 214 = .ok (.bipush 57, 2) := by decide +kernel
theorem dX4_advance_216 : decode cX4_advance 216 = .ok (.if_icmp .gt 40, 3) := by decide +kernel
theorem dX4_advance_219 : decode cX4_advance 219 = .ok (.aload_n 0, 1) := by decide +kernel
theorem dX4_advance_220 : decode cX4_advance 220 = .ok (.aload_n 0, 1) := by decide +kernel
theorem dX4_advance_221 : decode cX4_advance 221 = .ok (.getfield 43, 3) := by decide +kernel
theorem dX4_advance_224 : decode cX4_advance 224 = .ok (.bipush 10, 2) := by decide +kernel
theorem dX4_advance_226 : decode cX4_advance 226 = .ok (.imul, 1) := by decide +kernel
theorem dX4_advance_227 : decode cX4_advance 227 = .ok (.aload_n 0, 1) := by decide +kernel
theorem dX4_advance_228 : decode cX4_advance 228 = .ok (.getfield 9, 3) := by decide +kernel
theorem dX4_advance_231 : decode cX4_advance 231 = .ok (.aload_n 0, 1) := by decide +kernel
theorem dX4_advance_232 : decode cX4_advance 232 = .ok (.getfield 28, 3) := by decide +kernel
theorem dX4_advance_235 : decode cX4_advance 235 = .ok (.baload, 1) := by decide +kernel
theorem dX4_advance_236 : decode cX4_advance 236 = .ok (.bipush 48, 2) := by decide +kernel
theorem dX4_advance_238 : decode cX4_advance 238 = .ok (.isub, 1) := by decide +kernel
theorem dX4_advance_239 : decode cX4_advance 239 = .ok (.iadd, 1) := by decide +kernel
theorem dX4_advance_240 : decode cX4_advance 240 = .ok (.putfield 43, 3) := by decide +kernel
theorem dX4_advance_243 : decode cX4_advance 243 = .ok (.aload_n 0, 1) := by decide +kernel
theorem dX4_advance_244 : decode cX4_advance 244 = .ok (.dup, 1) := by decide +kernel
theorem dX4_advance_245 : decode cX4_advance 245 = .ok (.getfield 28, 3) := by decide +kernel
theorem dX4_advance_248 : decode cX4_advance 248 = .ok (.iconst 1, 1) := by decide +kernel
theorem dX4_advance_249 : decode cX4_advance 249 = .ok (.iadd, 1) := by decide +kernel
theorem dX4_advance_250 : decode cX4_advance 250 = .ok (.putfield 28, 3) := by decide +kernel
theorem dX4_advance_253 : decode cX4_advance 253 = .ok (.goto (-73), 3) := by decide +kernel
theorem dX4_advance_256 : decode cX4_advance 256 = .ok (.aload_n 0, 1) := by decide +kernel
theorem dX4_advance_257 : decode cX4_advance 257 = .ok (.getfield 28, 3) := by decide +kernel
theorem dX4_advance_260 : decode cX4_advance 260 = .ok (.aload_n 0, 1) := by decide +kernel
theorem dX4_advance_261 : decode cX4_advance 261 = .ok (.getfield 40, 3) := by decide +kernel
theorem dX4_advance_264 : decode cX4_advance 264 = .ok (.if_icmp .le 26, 3) := by decide +kernel
theorem dX4_advance_267 : decode cX4_advance 267 = .ok (.aload_n 0, 1) := by decide +kernel
theorem dX4_advance_268 : decode cX4_advance 268 = .ok (.aload_n 0, 1) := by decide +kernel
theorem dX4_advance_269 : decode cX4_advance 269 = .ok (.getfield 28, 3) := by decide +kernel
theorem dX4_advance_272 : decode cX4_advance 272 = .ok (.aload_n 0, 1) := by decide +kernel
theorem dX4_advance_273 : decode cX4_advance 273 = .ok (.getfield 40, 3) := by decide +kernel
theorem dX4_advance_276 : decode cX4_advance 276 = .ok (.isub, 1) := by decide +kernel
theorem dX4_advance_277 : decode cX4_advance 277 = .ok (.iconst 4, 1) := by decide +kernel
theorem dX4_advance_278 : decode cX4_advance 278 = .ok (.if_icmp .gt 7, 3) := by decide +kernel
theorem dX4_advance_281 : decode cX4_advance 281 = .ok (.iconst 2, 1) := by decide +kernel
theorem dX4_advance_282 : decode cX4_advance 282 = .ok (.goto 4, 3) := by decide +kernel
theorem dX4_advance_285 : decode cX4_advance 285 = .ok (.iconst 4, 1) := by decide +kernel
theorem dX4_advance_286 : decode cX4_advance 286 = .ok (.putfield 55, 3) := by decide +kernel
theorem dX4_advance_289 : decode cX4_advance 289 = .ok (.return_, 1) := by decide +kernel
theorem dX4_advance_290 : decode cX4_advance 290 = .ok (.aload_n 0, 1) := by decide +kernel
theorem dX4_advance_291 : decode cX4_advance 291 = .ok (.invokevirtual 62, 3) := by decide +kernel
theorem dX4_advance_294 : decode cX4_advance 294 = .ok (.return_, 1) := by decide +kernel
theorem dX4_begin_0 : decode cX4_begin 0 = .ok (.aload_n 0, 1) := by decide +kernel
theorem dX4_begin_1 : decode cX4_begin 1 = .ok (.iconst 0, 1) := by decide +kernel
theorem dX4_begin_2 : decode cX4_begin 2 = .ok (.iload_n 1, 1) := by decide +kernel
theorem dX4_begin_3 : decode cX4_begin 3 = .ok (.aload_n 0, 1) := by decide +kernel
theorem dX4_begin_4 : decode cX4_begin 4 = .ok (.getfield 9, 3) := by decide +kernel
theorem dX4_begin_7 : decode cX4_begin 7 = .ok (.arraylength, 1) := by decide +kernel
theorem dX4_begin_8 : decode cX4_begin 8 = .ok (.invokestatic 15, 3) := by decide +kernel
theorem dX4_begin_11 : decode cX4_begin 11 = .ok (.invokestatic 21, 3) := by decide +kernel
theorem dX4_begin_14 : decode cX4_begin 14 = .ok (.putfield 24, 3) := by decide +kernel
theorem dX4_begin_17 : decode cX4_begin 17 = .ok (.aload_n 0, 1) := by decide +kernel
theorem dX4_begin_18 : decode cX4_begin 18 = .ok (.iconst 0, 1) := by decide +kernel
theorem dX4_begin_19 : decode cX4_begin 19 = .ok (.putfield 28, 3) := by decide +kernel
theorem dX4_begin_22 : decode cX4_begin 22 = .ok (.aload_n 0, 1) := by decide +kernel
theorem dX4_begin_23 : decode cX4_begin 23 = .ok (.iconst 0, 1) := by decide +kernel
theorem dX4_begin_24 : decode cX4_begin 24 = .ok (.putfield 31, 3) := by decide +kernel
theorem dX4_begin_27 : decode cX4_begin 27 = .ok (.aload_n 0, 1) := by decide +kernel
theorem dX4_begin_28 : decode cX4_begin 28 = .ok (.iconst (-1), 1) := by decide +kernel
theorem dX4_begin_29 : decode cX4_begin 29 = .ok (.putfield 34, 3) := by decide +kernel
theorem dX4_begin_32 : decode cX4_begin 32 = .ok (.aload_n 0, 1) := by decide +kernel
theorem dX4_begin_33 : decode cX4_begin 33 = .ok (.invokevirtual 37, 3) := by decide +kernel
theorem dX4_begin_36 : decode cX4_begin 36 = .ok (.return_, 1) := by decide +kernel
theorem dX4_refuseHere_0 : decode cX4_refuseHere 0 = .ok (.aload_n 0, 1) := by decide +kernel
theorem dX4_refuseHere_1 : decode cX4_refuseHere 1 = .ok (.aload_n 0, 1) := by decide +kernel
theorem dX4_refuseHere_2 : decode cX4_refuseHere 2 = .ok (.getfield 55, 3) := by decide +kernel
theorem dX4_refuseHere_5 : decode cX4_refuseHere 5 = .ok (.iconst 4, 1) := by decide +kernel
theorem dX4_refuseHere_6 : decode cX4_refuseHere 6 = .ok (.if_icmp .ne 7, 3) := by decide +kernel
theorem dX4_refuseHere_9 : decode cX4_refuseHere 9 = .ok (.iconst 1, 1) := by decide +kernel
theorem dX4_refuseHere_10 : decode cX4_refuseHere 10 = .ok (.goto 4, 3) := by decide +kernel
theorem dX4_refuseHere_13 : decode cX4_refuseHere 13 = .ok (.iload_n 1, 1) := by decide +kernel
theorem dX4_refuseHere_14 : decode cX4_refuseHere 14 = .ok (.putfield 31, 3) := by decide +kernel
theorem dX4_refuseHere_17 : decode cX4_refuseHere 17 = .ok (.aload_n 0, 1) := by decide +kernel
theorem dX4_refuseHere_18 : decode cX4_refuseHere 18 = .ok (.aload_n 0, 1) := by decide +kernel
theorem dX4_refuseHere_19 : decode cX4_refuseHere 19 = .ok (.getfield 40, 3) := by decide +kernel
theorem dX4_refuseHere_22 : decode cX4_refuseHere 22 = .ok (.putfield 34, 3) := by decide +kernel
theorem dX4_refuseHere_25 : decode cX4_refuseHere 25 = .ok (.iconst 0, 1) := by decide +kernel
theorem dX4_refuseHere_26 : decode cX4_refuseHere 26 = .ok (.ireturn, 1) := by decide +kernel
theorem dX2_readEnd_0 : decode cX2_readEnd 0 = .ok (.aload_n 0, 1) := by decide +kernel
theorem dX2_readEnd_1 : decode cX2_readEnd 1 = .ok (.getfield 29, 3) := by decide +kernel
theorem dX2_readEnd_4 : decode cX2_readEnd 4 = .ok (.ifCond .ne 9, 3) := by decide +kernel
theorem dX2_readEnd_7 : decode cX2_readEnd 7 = .ok (.aload_n 0, 1) := by decide +kernel
theorem dX2_readEnd_8 : decode cX2_readEnd 8 = .ok (.iconst 2, 1) := by decide +kernel
theorem dX2_readEnd_9 : decode cX2_readEnd 9 = .ok (.invokevirtual 53, 3) := by decide +kernel
theorem dX2_readEnd_12 : decode cX2_readEnd 12 = .ok (.ireturn, 1) := by decide +kernel
theorem dX2_readEnd_13 : decode cX2_readEnd 13 = .ok (.aload_n 0, 1) := by decide +kernel
theorem dX2_readEnd_14 : decode cX2_readEnd 14 = .ok (.dup, 1) := by decide +kernel
theorem dX2_readEnd_15 : decode cX2_readEnd 15 = .ok (.getfield 29, 3) := by decide +kernel
theorem dX2_readEnd_18 : decode cX2_readEnd 18 = .ok (.iconst 1, 1) := by decide +kernel
theorem dX2_readEnd_19 : decode cX2_readEnd 19 = .ok (.isub, 1) := by decide +kernel
theorem dX2_readEnd_20 : decode cX2_readEnd 20 = .ok (.putfield 29, 3) := by decide +kernel
theorem dX2_readEnd_23 : decode cX2_readEnd 23 = .ok (.aload_n 0, 1) := by decide +kernel
theorem dX2_readEnd_24 : decode cX2_readEnd 24 = .ok (.getfield 11, 3) := by decide +kernel
theorem dX2_readEnd_27 : decode cX2_readEnd 27 = .ok (.aload_n 0, 1) := by decide +kernel
theorem dX2_readEnd_28 : decode cX2_readEnd 28 = .ok (.getfield 29, 3) := by decide +kernel
theorem dX2_readEnd_31 : decode cX2_readEnd 31 = .ok (.iaload, 1) := by decide +kernel
theorem dX2_readEnd_32 : decode cX2_readEnd 32 = .ok (.istore_n 1, 1) := by decide +kernel
theorem dX2_readEnd_33 : decode cX2_readEnd 33 = .ok (.aload_n 0, 1) := by decide +kernel
theorem dX2_readEnd_34 : decode cX2_readEnd 34 = .ok (.getfield 21, 3) := by decide +kernel
theorem dX2_readEnd_37 : decode cX2_readEnd 37 = .ok (.getfield 61, 3) := by decide +kernel
theorem dX2_readEnd_40 : decode cX2_readEnd 40 = .ok (.aload_n 0, 1) := by decide +kernel
theorem dX2_readEnd_41 : decode cX2_readEnd 41 = .ok (.getfield 21, 3) := by decide +kernel
theorem dX2_readEnd_44 : decode cX2_readEnd 44 = .ok (.getfield 64, 3) := by decide +kernel
theorem dX2_readEnd_47 : decode cX2_readEnd 47 = .ok (.bipush 24, 2) := by decide +kernel
theorem dX2_readEnd_49 : decode cX2_readEnd 49 = .ok (.iastore, 1) := by decide +kernel
theorem dX2_readEnd_50 : decode cX2_readEnd 50 = .ok (.aload_n 0, 1) := by decide +kernel
theorem dX2_readEnd_51 : decode cX2_readEnd 51 = .ok (.getfield 21, 3) := by decide +kernel
theorem dX2_readEnd_54 : decode cX2_readEnd 54 = .ok (.getfield 67, 3) := by decide +kernel
theorem dX2_readEnd_57 : decode cX2_readEnd 57 = .ok (.aload_n 0, 1) := by decide +kernel
theorem dX2_readEnd_58 : decode cX2_readEnd 58 = .ok (.getfield 21, 3) := by decide +kernel
theorem dX2_readEnd_61 : decode cX2_readEnd 61 = .ok (.getfield 64, 3) := by decide +kernel
theorem dX2_readEnd_64 : decode cX2_readEnd 64 = .ok (.iload_n 1, 1) := by decide +kernel
theorem dX2_readEnd_65 : decode cX2_readEnd 65 = .ok (.iastore, 1) := by decide +kernel
theorem dX2_readEnd_66 : decode cX2_readEnd 66 = .ok (.aload_n 0, 1) := by decide +kernel
theorem dX2_readEnd_67 : decode cX2_readEnd 67 = .ok (.getfield 21, 3) := by decide +kernel
theorem dX2_readEnd_70 : decode cX2_readEnd 70 = .ok (.getfield 67, 3) := by decide +kernel
theorem dX2_readEnd_73 : decode cX2_readEnd 73 = .ok (.iload_n 1, 1) := by decide +kernel
theorem dX2_readEnd_74 : decode cX2_readEnd 74 = .ok (.aload_n 0, 1) := by decide +kernel
theorem dX2_readEnd_75 : decode cX2_readEnd 75 = .ok (.getfield 21, 3) := by decide +kernel
theorem dX2_readEnd_78 : decode cX2_readEnd 78 = .ok (.getfield 64, 3) := by decide +kernel
theorem dX2_readEnd_81 : decode cX2_readEnd 81 = .ok (.iastore, 1) := by decide +kernel
theorem dX2_readEnd_82 : decode cX2_readEnd 82 = .ok (.aload_n 0, 1) := by decide +kernel
theorem dX2_readEnd_83 : decode cX2_readEnd 83 = .ok (.getfield 21, 3) := by decide +kernel
theorem dX2_readEnd_86 : decode cX2_readEnd 86 = .ok (.dup, 1) := by decide +kernel
theorem dX2_readEnd_87 : decode cX2_readEnd 87 = .ok (.getfield 64, 3) := by decide +kernel
theorem dX2_readEnd_90 : decode cX2_readEnd 90 = .ok (.iconst 1, 1) := by decide +kernel
theorem dX2_readEnd_91 : decode cX2_readEnd 91 = .ok (.iadd, 1) := by decide +kernel
theorem dX2_readEnd_92 : decode cX2_readEnd 92 = .ok (.putfield 64, 3) := by decide +kernel
theorem dX2_readEnd_95 : decode cX2_readEnd 95 = .ok (.aload_n 0, 1) := by decide +kernel
theorem dX2_readEnd_96 : decode cX2_readEnd 96 = .ok (.invokevirtual 70, 3) := by decide +kernel
theorem dX2_readEnd_99 : decode cX2_readEnd 99 = .ok (.iconst 1, 1) := by decide +kernel
theorem dX2_readEnd_100 : decode cX2_readEnd 100 = .ok (.ireturn, 1) := by decide +kernel
theorem dX4_isName_0 : decode cX4_isName 0 = .ok (.aload_n 0, 1) := by decide +kernel
theorem dX4_isName_1 : decode cX4_isName 1 = .ok (.getfield 55, 3) := by decide +kernel
theorem dX4_isName_4 : decode cX4_isName 4 = .ok (.iconst 1, 1) := by decide +kernel
theorem dX4_isName_5 : decode cX4_isName 5 = .ok (.if_icmp .ne 29, 3) := by decide +kernel
theorem dX4_isName_8 : decode cX4_isName 8 = .ok (.aload_n 0, 1) := by decide +kernel
theorem dX4_isName_9 : decode cX4_isName 9 = .ok (.getfield 46, 3) := by decide +kernel
theorem dX4_isName_12 : decode cX4_isName 12 = .ok (.iconst (-1), 1) := by decide +kernel
theorem dX4_isName_13 : decode cX4_isName 13 = .ok (.if_icmp .ne 21, 3) := by decide +kernel
theorem dX4_isName_16 : decode cX4_isName 16 = .ok (.aload_n 0, 1) := by decide +kernel
theorem dX4_isName_17 : decode cX4_isName 17 = .ok (.getfield 28, 3) := by decide +kernel
theorem dX4_isName_20 : decode cX4_isName 20 = .ok (.aload_n 0, 1) := by decide +kernel
theorem dX4_isName_21 : decode cX4_isName 21 = .ok (.getfield 40, 3) := by decide +kernel
theorem dX4_isName_24 : decode cX4_isName 24 = .ok (.isub, 1) := by decide +kernel
theorem dX4_isName_25 : decode cX4_isName 25 = .ok (.bipush 8, 2) := by decide +kernel
theorem dX4_isName_27 : decode cX4_isName 27 = .ok (.if_icmp .gt 7, 3) := by decide +kernel
theorem dX4_isName_30 : decode cX4_isName 30 = .ok (.iconst 1, 1) := by decide +kernel
theorem dX4_isName_31 : decode cX4_isName 31 = .ok (.goto 4, 3) := by decide +kernel
theorem dX4_isName_34 : decode cX4_isName 34 = .ok (.iconst 0, 1) := by decide +kernel
theorem dX4_isName_35 : decode cX4_isName 35 = .ok (.ireturn, 1) := by decide +kernel
theorem dX7_findName_0 : decode cX7_findName 0 = .ok (.iconst 0, 1) := by decide +kernel
theorem dX7_findName_1 : decode cX7_findName 1 = .ok (.istore 5, 2) := by decide +kernel
theorem dX7_findName_3 : decode cX7_findName 3 = .ok (.iload 5, 2) := by decide +kernel
theorem dX7_findName_5 : decode cX7_findName 5 = .ok (.iload_n 2, 1) := by decide +kernel
theorem dX7_findName_6 : decode cX7_findName 6 = .ok (.if_icmp .ge 26, 3) := by decide +kernel
theorem dX7_findName_9 : decode cX7_findName 9 = .ok (.aload_n 0, 1) := by decide +kernel
theorem dX7_findName_10 : decode cX7_findName 10 = .ok (.getfield 43, 3) := by decide +kernel
theorem dX7_findName_13 : decode cX7_findName 13 = .ok (.iload_n 1, 1) := by decide +kernel
theorem dX7_findName_14 : decode cX7_findName 14 = .ok (.iload 5, 2) := by decide +kernel
theorem dX7_findName_16 : decode cX7_findName 16 = .ok (.iadd, 1) := by decide +kernel
theorem dX7_findName_17 : decode cX7_findName 17 = .ok (.laload, 1) := by decide +kernel
theorem dX7_findName_18 : decode cX7_findName 18 = .ok (.lload_n 3, 1) := by decide +kernel
theorem dX7_findName_19 : decode cX7_findName 19 = .ok (.lcmp, 1) := by decide +kernel
theorem dX7_findName_20 : decode cX7_findName 20 = .ok (.ifCond .ne 6, 3) := by decide +kernel
theorem dX7_findName_23 : decode cX7_findName 23 = .ok (.iload 5, 2) := by decide +kernel
theorem dX7_findName_25 : decode cX7_findName 25 = .ok (.ireturn, 1) := by decide +kernel
theorem dX7_findName_26 : decode cX7_findName 26 = .ok (.iinc 5 1, 3) := by decide +kernel
theorem dX7_findName_29 : decode cX7_findName 29 = .ok (.goto (-26), 3) := by decide +kernel
theorem dX7_findName_32 : decode cX7_findName 32 = .ok (.iconst (-1), 1) := by decide +kernel
theorem dX7_findName_33 : decode cX7_findName 33 = .ok (.ireturn, 1) := by decide +kernel
theorem dX4_numberNamed_0 : decode cX4_numberNamed 0 = .ok (.aload_n 0, 1) := by decide +kernel
theorem dX4_numberNamed_1 : decode cX4_numberNamed 1 = .ok (.invokevirtual 82, 3) := by decide +kernel
theorem dX4_numberNamed_4 : decode cX4_numberNamed 4 = .ok (.ifCond .ne 11, 3) := by decide +kernel
theorem dX4_numberNamed_7 : decode cX4_numberNamed 7 = .ok (.aload_n 0, 1) := by decide +kernel
theorem dX4_numberNamed_8 : decode cX4_numberNamed 8 = .ok (.iconst 2, 1) := by decide +kernel
theorem dX4_numberNamed_9 : decode cX4_numberNamed 9 = .ok (.invokevirtual 78, 3) := by decide +kernel
theorem dX4_numberNamed_12 : decode cX4_numberNamed 12 = .ok (.pop, 1) := by decide +kernel
theorem dX4_numberNamed_13 : decode cX4_numberNamed 13 = .ok (.iconst (-1), 1) := by decide +kernel
theorem dX4_numberNamed_14 : decode cX4_numberNamed 14 = .ok (.ireturn, 1) := by decide +kernel
theorem dX4_numberNamed_15 : decode cX4_numberNamed 15 = .ok (.aload_n 1, 1) := by decide +kernel
theorem dX4_numberNamed_16 : decode cX4_numberNamed 16 = .ok (.iload_n 2, 1) := by decide +kernel
theorem dX4_numberNamed_17 : decode cX4_numberNamed 17 = .ok (.iload_n 3, 1) := by decide +kernel
theorem dX4_numberNamed_18 : decode cX4_numberNamed 18 = .ok (.aload_n 0, 1) := by decide +kernel
theorem dX4_numberNamed_19 : decode cX4_numberNamed 19 = .ok (.getfield 49, 3) := by decide +kernel
theorem dX4_numberNamed_22 : decode cX4_numberNamed 22 = .ok (.invokevirtual 86, 3) := by decide +kernel
theorem dX4_numberNamed_25 : decode cX4_numberNamed 25 = .ok (.istore 4, 2) := by decide +kernel
theorem dX4_numberNamed_27 : decode cX4_numberNamed 27 = .ok (.iload 4, 2) := by decide +kernel
theorem dX4_numberNamed_29 : decode cX4_numberNamed 29 = .ok (.iconst (-1), 1) := by decide +kernel
theorem dX4_numberNamed_30 : decode cX4_numberNamed 30 = .ok (.if_icmp .ne 9, 3) := by decide +kernel
theorem dX4_numberNamed_33 : decode cX4_numberNamed 33 = .ok (.aload_n 0, 1) := by decide +kernel
theorem dX4_numberNamed_34 : decode cX4_numberNamed 34 = .ok (.iconst 3, 1) := by decide +kernel
theorem dX4_numberNamed_35 : decode cX4_numberNamed 35 = .ok (.invokevirtual 78, 3) := by decide +kernel
theorem dX4_numberNamed_38 : decode cX4_numberNamed 38 = .ok (.pop, 1) := by decide +kernel
theorem dX4_numberNamed_39 : decode cX4_numberNamed 39 = .ok (.iload 4, 2) := by decide +kernel
theorem dX4_numberNamed_41 : decode cX4_numberNamed 41 = .ok (.ireturn, 1) := by decide +kernel
theorem dX4_talkerNamed_0 : decode cX4_talkerNamed 0 = .ok (.aload_n 0, 1) := by decide +kernel
theorem dX4_talkerNamed_1 : decode cX4_talkerNamed 1 = .ok (.aload_n 1, 1) := by decide +kernel
theorem dX4_talkerNamed_2 : decode cX4_talkerNamed 2 = .ok (.bipush 17, 2) := by decide +kernel
theorem dX4_talkerNamed_4 : decode cX4_talkerNamed 4 = .ok (.aload_n 1, 1) := by decide +kernel
theorem dX4_talkerNamed_5 : decode cX4_talkerNamed 5 = .ok (.getfield 102, 3) := by decide +kernel
theorem dX4_talkerNamed_8 : decode cX4_talkerNamed 8 = .ok (.invokevirtual 95, 3) := by decide +kernel
theorem dX4_talkerNamed_11 : decode cX4_talkerNamed 11 = .ok (.ireturn, 1) := by decide +kernel
theorem dX2_readTalkerHere_0 : decode cX2_readTalkerHere 0 = .ok (.aload_n 0, 1) := by decide +kernel
theorem dX2_readTalkerHere_1 : decode cX2_readTalkerHere 1 = .ok (.aload_n 0, 1) := by decide +kernel
theorem dX2_readTalkerHere_2 : decode cX2_readTalkerHere 2 = .ok (.getfield 17, 3) := by decide +kernel
theorem dX2_readTalkerHere_5 : decode cX2_readTalkerHere 5 = .ok (.invokevirtual 96, 3) := by decide +kernel
theorem dX2_readTalkerHere_8 : decode cX2_readTalkerHere 8 = .ok (.istore_n 1, 1) := by decide +kernel
theorem dX2_readTalkerHere_9 : decode cX2_readTalkerHere 9 = .ok (.iload_n 1, 1) := by decide +kernel
theorem dX2_readTalkerHere_10 : decode cX2_readTalkerHere 10 = .ok (.iconst (-1), 1) := by decide +kernel
theorem dX2_readTalkerHere_11 : decode cX2_readTalkerHere 11 = .ok (.if_icmp .ne 5, 3) := by decide +kernel
theorem dX2_readTalkerHere_14 : decode cX2_readTalkerHere 14 = .ok (.iconst 0, 1) := by decide +kernel
theorem dX2_readTalkerHere_15 : decode cX2_readTalkerHere 15 = .ok (.ireturn, 1) := by decide +kernel
theorem dX2_readTalkerHere_16 : decode cX2_readTalkerHere 16 = .ok (.aload_n 0, 1) := by decide +kernel
theorem dX2_readTalkerHere_17 : decode cX2_readTalkerHere 17 = .ok (.getfield 21, 3) := by decide +kernel
theorem dX2_readTalkerHere_20 : decode cX2_readTalkerHere 20 = .ok (.getfield 90, 3) := by decide +kernel
theorem dX2_readTalkerHere_23 : decode cX2_readTalkerHere 23 = .ok (.aload_n 0, 1) := by decide +kernel
theorem dX2_readTalkerHere_24 : decode cX2_readTalkerHere 24 = .ok (.getfield 21, 3) := by decide +kernel
theorem dX2_readTalkerHere_27 : decode cX2_readTalkerHere 27 = .ok (.getfield 64, 3) := by decide +kernel
theorem dX2_readTalkerHere_30 : decode cX2_readTalkerHere 30 = .ok (.iload_n 1, 1) := by decide +kernel
theorem dX2_readTalkerHere_31 : decode cX2_readTalkerHere 31 = .ok (.iastore, 1) := by decide +kernel
theorem dX2_readTalkerHere_32 : decode cX2_readTalkerHere 32 = .ok (.aload_n 0, 1) := by decide +kernel
theorem dX2_readTalkerHere_33 : decode cX2_readTalkerHere 33 = .ok (.invokevirtual 70, 3) := by decide +kernel
theorem dX2_readTalkerHere_36 : decode cX2_readTalkerHere 36 = .ok (.iconst 1, 1) := by decide +kernel
theorem dX2_readTalkerHere_37 : decode cX2_readTalkerHere 37 = .ok (.ireturn, 1) := by decide +kernel
theorem dX4_claimNamed_0 : decode cX4_claimNamed 0 = .ok (.aload_n 0, 1) := by decide +kernel
theorem dX4_claimNamed_1 : decode cX4_claimNamed 1 = .ok (.aload_n 1, 1) := by decide +kernel
theorem dX4_claimNamed_2 : decode cX4_claimNamed 2 = .ok (.bipush 9, 2) := by decide +kernel
theorem dX4_claimNamed_4 : decode cX4_claimNamed 4 = .ok (.aload_n 1, 1) := by decide +kernel
theorem dX4_claimNamed_5 : decode cX4_claimNamed 5 = .ok (.getfield 99, 3) := by decide +kernel
theorem dX4_claimNamed_8 : decode cX4_claimNamed 8 = .ok (.invokevirtual 95, 3) := by decide +kernel
theorem dX4_claimNamed_11 : decode cX4_claimNamed 11 = .ok (.ireturn, 1) := by decide +kernel
theorem dX2_readClaimHere_0 : decode cX2_readClaimHere 0 = .ok (.aload_n 0, 1) := by decide +kernel
theorem dX2_readClaimHere_1 : decode cX2_readClaimHere 1 = .ok (.aload_n 0, 1) := by decide +kernel
theorem dX2_readClaimHere_2 : decode cX2_readClaimHere 2 = .ok (.getfield 17, 3) := by decide +kernel
theorem dX2_readClaimHere_5 : decode cX2_readClaimHere 5 = .ok (.invokevirtual 100, 3) := by decide +kernel
theorem dX2_readClaimHere_8 : decode cX2_readClaimHere 8 = .ok (.istore_n 2, 1) := by decide +kernel
theorem dX2_readClaimHere_9 : decode cX2_readClaimHere 9 = .ok (.iload_n 2, 1) := by decide +kernel
theorem dX2_readClaimHere_10 : decode cX2_readClaimHere 10 = .ok (.iconst (-1), 1) := by decide +kernel
theorem dX2_readClaimHere_11 : decode cX2_readClaimHere 11 = .ok (.if_icmp .ne 5, 3) := by decide +kernel
theorem dX2_readClaimHere_14 : decode cX2_readClaimHere 14 = .ok (.iconst 0, 1) := by decide +kernel
theorem dX2_readClaimHere_15 : decode cX2_readClaimHere 15 = .ok (.ireturn, 1) := by decide +kernel
theorem dX2_readClaimHere_16 : decode cX2_readClaimHere 16 = .ok (.aload_n 1, 1) := by decide +kernel
theorem dX2_readClaimHere_17 : decode cX2_readClaimHere 17 = .ok (.aload_n 0, 1) := by decide +kernel
theorem dX2_readClaimHere_18 : decode cX2_readClaimHere 18 = .ok (.getfield 21, 3) := by decide +kernel
theorem dX2_readClaimHere_21 : decode cX2_readClaimHere 21 = .ok (.getfield 64, 3) := by decide +kernel
theorem dX2_readClaimHere_24 : decode cX2_readClaimHere 24 = .ok (.iload_n 2, 1) := by decide +kernel
theorem dX2_readClaimHere_25 : decode cX2_readClaimHere 25 = .ok (.iastore, 1) := by decide +kernel
theorem dX2_readClaimHere_26 : decode cX2_readClaimHere 26 = .ok (.aload_n 0, 1) := by decide +kernel
theorem dX2_readClaimHere_27 : decode cX2_readClaimHere 27 = .ok (.invokevirtual 70, 3) := by decide +kernel
theorem dX2_readClaimHere_30 : decode cX2_readClaimHere 30 = .ok (.iconst 1, 1) := by decide +kernel
theorem dX2_readClaimHere_31 : decode cX2_readClaimHere 31 = .ok (.ireturn, 1) := by decide +kernel
theorem dX4_isNumberHere_0 : decode cX4_isNumberHere 0 = .ok (.aload_n 0, 1) := by decide +kernel
theorem dX4_isNumberHere_1 : decode cX4_isNumberHere 1 = .ok (.getfield 55, 3) := by decide +kernel
theorem dX4_isNumberHere_4 : decode cX4_isNumberHere 4 = .ok (.iconst 2, 1) := by decide +kernel
theorem dX4_isNumberHere_5 : decode cX4_isNumberHere 5 = .ok (.if_icmp .eq 9, 3) := by decide +kernel
theorem dX4_isNumberHere_8 : decode cX4_isNumberHere 8 = .ok (.aload_n 0, 1) := by decide +kernel
theorem dX4_isNumberHere_9 : decode cX4_isNumberHere 9 = .ok (.iconst 2, 1) := by decide +kernel
theorem dX4_isNumberHere_10 : decode cX4_isNumberHere 10 = .ok (.invokevirtual 78, 3) := by decide +kernel
theorem dX4_isNumberHere_13 : decode cX4_isNumberHere 13 = .ok (.ireturn, 1) := by decide +kernel
theorem dX4_isNumberHere_14 : decode cX4_isNumberHere 14 = .ok (.aload_n 0, 1) := by decide +kernel
theorem dX4_isNumberHere_15 : decode cX4_isNumberHere 15 = .ok (.getfield 43, 3) := by decide +kernel
theorem dX4_isNumberHere_18 : decode cX4_isNumberHere 18 = .ok (.iload_n 1, 1) := by decide +kernel
theorem dX4_isNumberHere_19 : decode cX4_isNumberHere 19 = .ok (.if_icmp .lt 11, 3) := by decide +kernel
theorem dX4_isNumberHere_22 : decode cX4_isNumberHere 22 = .ok (.aload_n 0, 1) := by decide +kernel
theorem dX4_isNumberHere_23 : decode cX4_isNumberHere 23 = .ok (.getfield 43, 3) := by decide +kernel
theorem dX4_isNumberHere_26 : decode cX4_isNumberHere 26 = .ok (.iload_n 2, 1) := by decide +kernel
theorem dX4_isNumberHere_27 : decode cX4_isNumberHere 27 = .ok (.if_icmp .le 11, 3) := by decide +kernel
theorem dX4_isNumberHere_30 : decode cX4_isNumberHere 30 = .ok (.aload_n 0, 1) := by decide +kernel
theorem dX4_isNumberHere_31 : decode cX4_isNumberHere 31 = .ok (.iconst 4, 1) := by decide +kernel
theorem dX4_isNumberHere_32 : decode cX4_isNumberHere 32 = .ok (.invokevirtual 78, 3) := by decide +kernel
theorem dX4_isNumberHere_35 : decode cX4_isNumberHere 35 = .ok (.ifCond .eq 7, 3) := by decide +kernel
theorem dX4_isNumberHere_38 : decode cX4_isNumberHere 38 = .ok (.iconst 1, 1) := by decide +kernel
theorem dX4_isNumberHere_39 : decode cX4_isNumberHere 39 = .ok (.goto 4, 3) := by decide +kernel
theorem dX4_isNumberHere_42 : decode cX4_isNumberHere 42 = .ok (.iconst 0, 1) := by decide +kernel
theorem dX4_isNumberHere_43 : decode cX4_isNumberHere 43 = .ok (.ireturn, 1) := by decide +kernel
theorem dX2_readNumberHere_0 : decode cX2_readNumberHere 0 = .ok (.aload_n 0, 1) := by decide +kernel
theorem dX2_readNumberHere_1 : decode cX2_readNumberHere 1 = .ok (.iload_n 1, 1) := by decide +kernel
theorem dX2_readNumberHere_2 : decode cX2_readNumberHere 2 = .ok (.iload_n 2, 1) := by decide +kernel
theorem dX2_readNumberHere_3 : decode cX2_readNumberHere 3 = .ok (.invokevirtual 103, 3) := by decide +kernel
theorem dX2_readNumberHere_6 : decode cX2_readNumberHere 6 = .ok (.ifCond .ne 5, 3) := by decide +kernel
theorem dX2_readNumberHere_9 : decode cX2_readNumberHere 9 = .ok (.iconst 0, 1) := by decide +kernel
theorem dX2_readNumberHere_10 : decode cX2_readNumberHere 10 = .ok (.ireturn, 1) := by decide +kernel
theorem dX2_readNumberHere_11 : decode cX2_readNumberHere 11 = .ok (.aload_n 0, 1) := by decide +kernel
theorem dX2_readNumberHere_12 : decode cX2_readNumberHere 12 = .ok (.getfield 21, 3) := by decide +kernel
theorem dX2_readNumberHere_15 : decode cX2_readNumberHere 15 = .ok (.getfield 79, 3) := by decide +kernel
theorem dX2_readNumberHere_18 : decode cX2_readNumberHere 18 = .ok (.aload_n 0, 1) := by decide +kernel
theorem dX2_readNumberHere_19 : decode cX2_readNumberHere 19 = .ok (.getfield 21, 3) := by decide +kernel
theorem dX2_readNumberHere_22 : decode cX2_readNumberHere 22 = .ok (.getfield 64, 3) := by decide +kernel
theorem dX2_readNumberHere_25 : decode cX2_readNumberHere 25 = .ok (.aload_n 0, 1) := by decide +kernel
theorem dX2_readNumberHere_26 : decode cX2_readNumberHere 26 = .ok (.getfield 106, 3) := by decide +kernel
theorem dX2_readNumberHere_29 : decode cX2_readNumberHere 29 = .ok (.iastore, 1) := by decide +kernel
theorem dX2_readNumberHere_30 : decode cX2_readNumberHere 30 = .ok (.aload_n 0, 1) := by decide +kernel
theorem dX2_readNumberHere_31 : decode cX2_readNumberHere 31 = .ok (.invokevirtual 70, 3) := by decide +kernel
theorem dX2_readNumberHere_34 : decode cX2_readNumberHere 34 = .ok (.iconst 1, 1) := by decide +kernel
theorem dX2_readNumberHere_35 : decode cX2_readNumberHere 35 = .ok (.ireturn, 1) := by decide +kernel
theorem dX2_readTest_0 : decode cX2_readTest 0 = .ok (.aload_n 0, 1) := by decide +kernel
theorem dX2_readTest_1 : decode cX2_readTest 1 = .ok (.getfield 40, 3) := by decide +kernel
theorem dX2_readTest_4 : decode cX2_readTest 4 = .ok (.istore_n 1, 1) := by decide +kernel
theorem dX2_readTest_5 : decode cX2_readTest 5 = .ok (.iload_n 1, 1) := by decide +kernel
theorem dX2_readTest_6 : decode cX2_readTest 6 = .ok (.bipush 20, 2) := by decide +kernel
theorem dX2_readTest_8 : decode cX2_readTest 8 = .ok (.if_icmp .eq 21, 3) := by decide +kernel
theorem dX2_readTest_11 : decode cX2_readTest 11 = .ok (.iload_n 1, 1) := by decide +kernel
theorem dX2_readTest_12 : decode cX2_readTest 12 = .ok (.bipush 21, 2) := by decide +kernel
theorem dX2_readTest_14 : decode cX2_readTest 14 = .ok (.if_icmp .eq 15, 3) := by decide +kernel
theorem dX2_readTest_17 : decode cX2_readTest 17 = .ok (.iload_n 1, 1) := by decide +kernel
theorem dX2_readTest_18 : decode cX2_readTest 18 = .ok (.bipush 22, 2) := by decide +kernel
theorem dX2_readTest_20 : decode cX2_readTest 20 = .ok (.if_icmp .eq 9, 3) := by decide +kernel
theorem dX2_readTest_23 : decode cX2_readTest 23 = .ok (.aload_n 0, 1) := by decide +kernel
theorem dX2_readTest_24 : decode cX2_readTest 24 = .ok (.iconst 2, 1) := by decide +kernel
theorem dX2_readTest_25 : decode cX2_readTest 25 = .ok (.invokevirtual 53, 3) := by decide +kernel
theorem dX2_readTest_28 : decode cX2_readTest 28 = .ok (.ireturn, 1) := by decide +kernel
theorem dX2_readTest_29 : decode cX2_readTest 29 = .ok (.aload_n 0, 1) := by decide +kernel
theorem dX2_readTest_30 : decode cX2_readTest 30 = .ok (.getfield 21, 3) := by decide +kernel
theorem dX2_readTest_33 : decode cX2_readTest 33 = .ok (.getfield 109, 3) := by decide +kernel
theorem dX2_readTest_36 : decode cX2_readTest 36 = .ok (.aload_n 0, 1) := by decide +kernel
theorem dX2_readTest_37 : decode cX2_readTest 37 = .ok (.getfield 21, 3) := by decide +kernel
theorem dX2_readTest_40 : decode cX2_readTest 40 = .ok (.getfield 64, 3) := by decide +kernel
theorem dX2_readTest_43 : decode cX2_readTest 43 = .ok (.iload_n 1, 1) := by decide +kernel
theorem dX2_readTest_44 : decode cX2_readTest 44 = .ok (.iastore, 1) := by decide +kernel
theorem dX2_readTest_45 : decode cX2_readTest 45 = .ok (.aload_n 0, 1) := by decide +kernel
theorem dX2_readTest_46 : decode cX2_readTest 46 = .ok (.invokevirtual 70, 3) := by decide +kernel
theorem dX2_readTest_49 : decode cX2_readTest 49 = .ok (.iload_n 1, 1) := by decide +kernel
theorem dX2_readTest_50 : decode cX2_readTest 50 = .ok (.bipush 20, 2) := by decide +kernel
theorem dX2_readTest_52 : decode cX2_readTest 52 = .ok (.if_icmp .ne 15, 3) := by decide +kernel
theorem dX2_readTest_55 : decode cX2_readTest 55 = .ok (.aload_n 0, 1) := by decide +kernel
theorem dX2_readTest_56 : decode cX2_readTest 56 = .ok (.aload_n 0, 1) := by decide +kernel
theorem dX2_readTest_57 : decode cX2_readTest 57 = .ok (.getfield 21, 3) := by decide +kernel
theorem dX2_readTest_60 : decode cX2_readTest 60 = .ok (.getfield 90, 3) := by decide +kernel
theorem dX2_readTest_63 : decode cX2_readTest 63 = .ok (.invokevirtual 82, 3) := by decide +kernel
theorem dX2_readTest_66 : decode cX2_readTest 66 = .ok (.ireturn, 1) := by decide +kernel
theorem dX2_readTest_67 : decode cX2_readTest 67 = .ok (.aload_n 0, 1) := by decide +kernel
theorem dX2_readTest_68 : decode cX2_readTest 68 = .ok (.invokevirtual 76, 3) := by decide +kernel
theorem dX2_readTest_71 : decode cX2_readTest 71 = .ok (.ifCond .ne 5, 3) := by decide +kernel
theorem dX2_readTest_74 : decode cX2_readTest 74 = .ok (.iconst 0, 1) := by decide +kernel
theorem dX2_readTest_75 : decode cX2_readTest 75 = .ok (.ireturn, 1) := by decide +kernel
theorem dX2_readTest_76 : decode cX2_readTest 76 = .ok (.iload_n 1, 1) := by decide +kernel
theorem dX2_readTest_77 : decode cX2_readTest 77 = .ok (.bipush 21, 2) := by decide +kernel
theorem dX2_readTest_79 : decode cX2_readTest 79 = .ok (.if_icmp .ne 5, 3) := by decide +kernel
theorem dX2_readTest_82 : decode cX2_readTest 82 = .ok (.iconst 1, 1) := by decide +kernel
theorem dX2_readTest_83 : decode cX2_readTest 83 = .ok (.ireturn, 1) := by decide +kernel
theorem dX2_readTest_84 : decode cX2_readTest 84 = .ok (.aload_n 0, 1) := by decide +kernel
theorem dX2_readTest_85 : decode cX2_readTest 85 = .ok (.getfield 37, 3) := by decide +kernel
theorem dX2_readTest_88 : decode cX2_readTest 88 = .ok (.iconst 3, 1) := by decide +kernel
theorem dX2_readTest_89 : decode cX2_readTest 89 = .ok (.if_icmp .ne 12, 3) := by decide +kernel
theorem dX2_readTest_92 : decode cX2_readTest 92 = .ok (.aload_n 0, 1) := by decide +kernel
theorem dX2_readTest_93 : decode cX2_readTest 93 = .ok (.getfield 112, 3) := by decide +kernel
theorem dX2_readTest_96 : decode cX2_readTest 96 = .ok (.bipush 59, 2) := by decide +kernel
theorem dX2_readTest_98 : decode cX2_readTest 98 = .ok (.if_icmp .ne 9, 3) := by decide +kernel
theorem dX2_readTest_101 : decode cX2_readTest 101 = .ok (.aload_n 0, 1) := by decide +kernel
theorem dX2_readTest_102 : decode cX2_readTest 102 = .ok (.iconst 2, 1) := by decide +kernel
theorem dX2_readTest_103 : decode cX2_readTest 103 = .ok (.invokevirtual 53, 3) := by decide +kernel
theorem dX2_readTest_106 : decode cX2_readTest 106 = .ok (.ireturn, 1) := by decide +kernel
theorem dX2_readTest_107 : decode cX2_readTest 107 = .ok (.aload_n 0, 1) := by decide +kernel
theorem dX2_readTest_108 : decode cX2_readTest 108 = .ok (.getfield 21, 3) := by decide +kernel
theorem dX2_readTest_111 : decode cX2_readTest 111 = .ok (.getfield 109, 3) := by decide +kernel
theorem dX2_readTest_114 : decode cX2_readTest 114 = .ok (.aload_n 0, 1) := by decide +kernel
theorem dX2_readTest_115 : decode cX2_readTest 115 = .ok (.getfield 21, 3) := by decide +kernel
theorem dX2_readTest_118 : decode cX2_readTest 118 = .ok (.getfield 64, 3) := by decide +kernel
theorem dX2_readTest_121 : decode cX2_readTest 121 = .ok (.aload_n 0, 1) := by decide +kernel
theorem dX2_readTest_122 : decode cX2_readTest 122 = .ok (.getfield 112, 3) := by decide +kernel
theorem dX2_readTest_125 : decode cX2_readTest 125 = .ok (.iastore, 1) := by decide +kernel
theorem dX2_readTest_126 : decode cX2_readTest 126 = .ok (.aload_n 0, 1) := by decide +kernel
theorem dX2_readTest_127 : decode cX2_readTest 127 = .ok (.invokevirtual 70, 3) := by decide +kernel
theorem dX2_readTest_130 : decode cX2_readTest 130 = .ok (.aload_n 0, 1) := by decide +kernel
theorem dX2_readTest_131 : decode cX2_readTest 131 = .ok (.iconst 0, 1) := by decide +kernel
theorem dX2_readTest_132 : decode cX2_readTest 132 = .ok (.bipush 9, 2) := by decide +kernel
theorem dX2_readTest_134 : decode cX2_readTest 134 = .ok (.invokevirtual 86, 3) := by decide +kernel
theorem dX2_readTest_137 : decode cX2_readTest 137 = .ok (.ireturn, 1) := by decide +kernel
theorem dX2_readStep_0 : decode cX2_readStep 0 = .ok (.aload_n 0, 1) := by decide +kernel
theorem dX2_readStep_1 : decode cX2_readStep 1 = .ok (.getfield 40, 3) := by decide +kernel
theorem dX2_readStep_4 : decode cX2_readStep 4 = .ok (.bipush 19, 2) := by decide +kernel
theorem dX2_readStep_6 : decode cX2_readStep 6 = .ok (.if_icmp .eq 12, 3) := by decide +kernel
theorem dX2_readStep_9 : decode cX2_readStep 9 = .ok (.aload_n 0, 1) := by decide +kernel
theorem dX2_readStep_10 : decode cX2_readStep 10 = .ok (.getfield 40, 3) := by decide +kernel
theorem dX2_readStep_13 : decode cX2_readStep 13 = .ok (.bipush 23, 2) := by decide +kernel
theorem dX2_readStep_15 : decode cX2_readStep 15 = .ok (.if_icmp .ne 7, 3) := by decide +kernel
theorem dX2_readStep_18 : decode cX2_readStep 18 = .ok (.iconst 1, 1) := by decide +kernel
theorem dX2_readStep_19 : decode cX2_readStep 19 = .ok (.goto 4, 3) := by decide +kernel
theorem dX2_readStep_22 : decode cX2_readStep 22 = .ok (.iconst 0, 1) := by decide +kernel
theorem dX2_readStep_23 : decode cX2_readStep 23 = .ok (.istore_n 1, 1) := by decide +kernel
theorem dX2_readStep_24 : decode cX2_readStep 24 = .ok (.iload_n 1, 1) := by decide +kernel
theorem dX2_readStep_25 : decode cX2_readStep 25 = .ok (.ifCond .ne 36, 3) := by decide +kernel
theorem dX2_readStep_28 : decode cX2_readStep 28 = .ok (.aload_n 0, 1) := by decide +kernel
theorem dX2_readStep_29 : decode cX2_readStep 29 = .ok (.getfield 40, 3) := by decide +kernel
theorem dX2_readStep_32 : decode cX2_readStep 32 = .ok (.bipush 25, 2) := by decide +kernel
theorem dX2_readStep_34 : decode cX2_readStep 34 = .ok (.if_icmp .eq 27, 3) := by decide +kernel
theorem dX2_readStep_37 : decode cX2_readStep 37 = .ok (.aload_n 0, 1) := by decide +kernel
theorem dX2_readStep_38 : decode cX2_readStep 38 = .ok (.getfield 40, 3) := by decide +kernel
theorem dX2_readStep_41 : decode cX2_readStep 41 = .ok (.bipush 13, 2) := by decide +kernel
theorem dX2_readStep_43 : decode cX2_readStep 43 = .ok (.if_icmp .lt 12, 3) := by decide +kernel
theorem dX2_readStep_46 : decode cX2_readStep 46 = .ok (.aload_n 0, 1) := by decide +kernel
theorem dX2_readStep_47 : decode cX2_readStep 47 = .ok (.getfield 40, 3) := by decide +kernel
theorem dX2_readStep_50 : decode cX2_readStep 50 = .ok (.bipush 18, 2) := by decide +kernel
theorem dX2_readStep_52 : decode cX2_readStep 52 = .ok (.if_icmp .le 9, 3) := by decide +kernel
theorem dX2_readStep_55 : decode cX2_readStep 55 = .ok (.aload_n 0, 1) := by decide +kernel
theorem dX2_readStep_56 : decode cX2_readStep 56 = .ok (.iconst 2, 1) := by decide +kernel
theorem dX2_readStep_57 : decode cX2_readStep 57 = .ok (.invokevirtual 53, 3) := by decide +kernel
theorem dX2_readStep_60 : decode cX2_readStep 60 = .ok (.ireturn, 1) := by decide +kernel
theorem dX2_readStep_61 : decode cX2_readStep 61 = .ok (.aload_n 0, 1) := by decide +kernel
theorem dX2_readStep_62 : decode cX2_readStep 62 = .ok (.getfield 21, 3) := by decide +kernel
theorem dX2_readStep_65 : decode cX2_readStep 65 = .ok (.getfield 73, 3) := by decide +kernel
theorem dX2_readStep_68 : decode cX2_readStep 68 = .ok (.bipush 30, 2) := by decide +kernel
theorem dX2_readStep_70 : decode cX2_readStep 70 = .ok (.if_icmp .ne 10, 3) := by decide +kernel
theorem dX2_readStep_73 : decode cX2_readStep 73 = .ok (.aload_n 0, 1) := by decide +kernel
theorem dX2_readStep_74 : decode cX2_readStep 74 = .ok (.bipush 6, 2) := by decide +kernel
theorem dX2_readStep_76 : decode cX2_readStep 76 = .ok (.invokevirtual 53, 3) := by decide +kernel
theorem dX2_readStep_79 : decode cX2_readStep 79 = .ok (.ireturn, 1) := by decide +kernel
theorem dX2_readStep_80 : decode cX2_readStep 80 = .ok (.iload_n 1, 1) := by decide +kernel
theorem dX2_readStep_81 : decode cX2_readStep 81 = .ok (.ifCond .eq 18, 3) := by decide +kernel
theorem dX2_readStep_84 : decode cX2_readStep 84 = .ok (.aload_n 0, 1) := by decide +kernel
theorem dX2_readStep_85 : decode cX2_readStep 85 = .ok (.getfield 29, 3) := by decide +kernel
theorem dX2_readStep_88 : decode cX2_readStep 88 = .ok (.iconst 3, 1) := by decide +kernel
theorem dX2_readStep_89 : decode cX2_readStep 89 = .ok (.if_icmp .ne 10, 3) := by decide +kernel
theorem dX2_readStep_92 : decode cX2_readStep 92 = .ok (.aload_n 0, 1) := by decide +kernel
theorem dX2_readStep_93 : decode cX2_readStep 93 = .ok (.bipush 7, 2) := by decide +kernel
theorem dX2_readStep_95 : decode cX2_readStep 95 = .ok (.invokevirtual 53, 3) := by decide +kernel
theorem dX2_readStep_98 : decode cX2_readStep 98 = .ok (.ireturn, 1) := by decide +kernel
theorem dX2_readStep_99 : decode cX2_readStep 99 = .ok (.iload_n 1, 1) := by decide +kernel
theorem dX2_readStep_100 : decode cX2_readStep 100 = .ok (.ifCond .eq 29, 3) := by decide +kernel
theorem dX2_readStep_103 : decode cX2_readStep 103 = .ok (.aload_n 0, 1) := by decide +kernel
theorem dX2_readStep_104 : decode cX2_readStep 104 = .ok (.getfield 11, 3) := by decide +kernel
theorem dX2_readStep_107 : decode cX2_readStep 107 = .ok (.aload_n 0, 1) := by decide +kernel
theorem dX2_readStep_108 : decode cX2_readStep 108 = .ok (.getfield 29, 3) := by decide +kernel
theorem dX2_readStep_111 : decode cX2_readStep 111 = .ok (.aload_n 0, 1) := by decide +kernel
theorem dX2_readStep_112 : decode cX2_readStep 112 = .ok (.getfield 21, 3) := by decide +kernel
theorem dX2_readStep_115 : decode cX2_readStep 115 = .ok (.getfield 64, 3) := by decide +kernel
theorem dX2_readStep_118 : decode cX2_readStep 118 = .ok (.iastore, 1) := by decide +kernel
theorem dX2_readStep_119 : decode cX2_readStep 119 = .ok (.aload_n 0, 1) := by decide +kernel
theorem dX2_readStep_120 : decode cX2_readStep 120 = .ok (.dup, 1) := by decide +kernel
theorem dX2_readStep_121 : decode cX2_readStep 121 = .ok (.getfield 29, 3) := by decide +kernel
theorem dX2_readStep_124 : decode cX2_readStep 124 = .ok (.iconst 1, 1) := by decide +kernel
theorem dX2_readStep_125 : decode cX2_readStep 125 = .ok (.iadd, 1) := by decide +kernel
theorem dX2_readStep_126 : decode cX2_readStep 126 = .ok (.putfield 29, 3) := by decide +kernel
theorem dX2_readStep_129 : decode cX2_readStep 129 = .ok (.aload_n 0, 1) := by decide +kernel
theorem dX2_readStep_130 : decode cX2_readStep 130 = .ok (.getfield 40, 3) := by decide +kernel
theorem dX2_readStep_133 : decode cX2_readStep 133 = .ok (.istore_n 2, 1) := by decide +kernel
theorem dX2_readStep_134 : decode cX2_readStep 134 = .ok (.aload_n 0, 1) := by decide +kernel
theorem dX2_readStep_135 : decode cX2_readStep 135 = .ok (.getfield 21, 3) := by decide +kernel
theorem dX2_readStep_138 : decode cX2_readStep 138 = .ok (.getfield 61, 3) := by decide +kernel
theorem dX2_readStep_141 : decode cX2_readStep 141 = .ok (.aload_n 0, 1) := by decide +kernel
theorem dX2_readStep_142 : decode cX2_readStep 142 = .ok (.getfield 21, 3) := by decide +kernel
theorem dX2_readStep_145 : decode cX2_readStep 145 = .ok (.getfield 64, 3) := by decide +kernel
theorem dX2_readStep_148 : decode cX2_readStep 148 = .ok (.iload_n 2, 1) := by decide +kernel
theorem dX2_readStep_149 : decode cX2_readStep 149 = .ok (.iastore, 1) := by decide +kernel
theorem dX2_readStep_150 : decode cX2_readStep 150 = .ok (.aload_n 0, 1) := by decide +kernel
theorem dX2_readStep_151 : decode cX2_readStep 151 = .ok (.invokevirtual 70, 3) := by decide +kernel
theorem dX2_readStep_154 : decode cX2_readStep 154 = .ok (.iload_n 2, 1) := by decide +kernel
theorem dX2_readStep_155 : decode cX2_readStep 155 = .ok (.tableswitch 170 13 23 #[57, 87, 113, 121, 136, 170, 151, 170, 170, 170, 159], 57) := by decide +kernel
theorem dX2_readStep_212 : decode cX2_readStep 212 = .ok (.aload_n 0, 1) := by decide +kernel
theorem dX2_readStep_213 : decode cX2_readStep 213 = .ok (.invokevirtual 76, 3) := by decide +kernel
theorem dX2_readStep_216 : decode cX2_readStep 216 = .ok (.ifCond .eq 21, 3) := by decide +kernel
theorem dX2_readStep_219 : decode cX2_readStep 219 = .ok (.aload_n 0, 1) := by decide +kernel
theorem dX2_readStep_220 : decode cX2_readStep 220 = .ok (.aload_n 0, 1) := by decide +kernel
theorem dX2_readStep_221 : decode cX2_readStep 221 = .ok (.getfield 21, 3) := by decide +kernel
theorem dX2_readStep_224 : decode cX2_readStep 224 = .ok (.getfield 79, 3) := by decide +kernel
theorem dX2_readStep_227 : decode cX2_readStep 227 = .ok (.invokevirtual 82, 3) := by decide +kernel
theorem dX2_readStep_230 : decode cX2_readStep 230 = .ok (.ifCond .eq 7, 3) := by decide +kernel
theorem dX2_readStep_233 : decode cX2_readStep 233 = .ok (.iconst 1, 1) := by decide +kernel
theorem dX2_readStep_234 : decode cX2_readStep 234 = .ok (.goto 4, 3) := by decide +kernel
theorem dX2_readStep_237 : decode cX2_readStep 237 = .ok (.iconst 0, 1) := by decide +kernel
theorem dX2_readStep_238 : decode cX2_readStep 238 = .ok (.istore_n 3, 1) := by decide +kernel
theorem dX2_readStep_239 : decode cX2_readStep 239 = .ok (.goto 88, 3) := by decide +kernel
theorem dX2_readStep_242 : decode cX2_readStep 242 = .ok (.aload_n 0, 1) := by decide +kernel
theorem dX2_readStep_243 : decode cX2_readStep 243 = .ok (.invokevirtual 76, 3) := by decide +kernel
theorem dX2_readStep_246 : decode cX2_readStep 246 = .ok (.ifCond .eq 17, 3) := by decide +kernel
theorem dX2_readStep_249 : decode cX2_readStep 249 = .ok (.aload_n 0, 1) := by decide +kernel
theorem dX2_readStep_250 : decode cX2_readStep 250 = .ok (.iconst 1, 1) := by decide +kernel
theorem dX2_readStep_251 : decode cX2_readStep 251 = .ok (.bipush 9, 2) := by decide +kernel
theorem dX2_readStep_253 : decode cX2_readStep 253 = .ok (.invokevirtual 86, 3) := by decide +kernel
theorem dX2_readStep_256 : decode cX2_readStep 256 = .ok (.ifCond .eq 7, 3) := by decide +kernel
theorem dX2_readStep_259 : decode cX2_readStep 259 = .ok (.iconst 1, 1) := by decide +kernel
theorem dX2_readStep_260 : decode cX2_readStep 260 = .ok (.goto 4, 3) := by decide +kernel
theorem dX2_readStep_263 : decode cX2_readStep 263 = .ok (.iconst 0, 1) := by decide +kernel
theorem dX2_readStep_264 : decode cX2_readStep 264 = .ok (.istore_n 3, 1) := by decide +kernel
theorem dX2_readStep_265 : decode cX2_readStep 265 = .ok (.goto 62, 3) := by decide +kernel
theorem dX2_readStep_268 : decode cX2_readStep 268 = .ok (.aload_n 0, 1) := by decide +kernel
theorem dX2_readStep_269 : decode cX2_readStep 269 = .ok (.invokevirtual 76, 3) := by decide +kernel
theorem dX2_readStep_272 : decode cX2_readStep 272 = .ok (.istore_n 3, 1) := by decide +kernel
theorem dX2_readStep_273 : decode cX2_readStep 273 = .ok (.goto 54, 3) := by decide +kernel
theorem dX2_readStep_276 : decode cX2_readStep 276 = .ok (.aload_n 0, 1) := by decide +kernel
theorem dX2_readStep_277 : decode cX2_readStep 277 = .ok (.aload_n 0, 1) := by decide +kernel
theorem dX2_readStep_278 : decode cX2_readStep 278 = .ok (.getfield 21, 3) := by decide +kernel
theorem dX2_readStep_281 : decode cX2_readStep 281 = .ok (.getfield 90, 3) := by decide +kernel
theorem dX2_readStep_284 : decode cX2_readStep 284 = .ok (.invokevirtual 82, 3) := by decide +kernel
theorem dX2_readStep_287 : decode cX2_readStep 287 = .ok (.istore_n 3, 1) := by decide +kernel
theorem dX2_readStep_288 : decode cX2_readStep 288 = .ok (.goto 39, 3) := by decide +kernel
theorem dX2_readStep_291 : decode cX2_readStep 291 = .ok (.aload_n 0, 1) := by decide +kernel
theorem dX2_readStep_292 : decode cX2_readStep 292 = .ok (.aload_n 0, 1) := by decide +kernel
theorem dX2_readStep_293 : decode cX2_readStep 293 = .ok (.getfield 21, 3) := by decide +kernel
theorem dX2_readStep_296 : decode cX2_readStep 296 = .ok (.getfield 90, 3) := by decide +kernel
theorem dX2_readStep_299 : decode cX2_readStep 299 = .ok (.invokevirtual 82, 3) := by decide +kernel
theorem dX2_readStep_302 : decode cX2_readStep 302 = .ok (.istore_n 3, 1) := by decide +kernel
theorem dX2_readStep_303 : decode cX2_readStep 303 = .ok (.goto 24, 3) := by decide +kernel
theorem dX2_readStep_306 : decode cX2_readStep 306 = .ok (.aload_n 0, 1) := by decide +kernel
theorem dX2_readStep_307 : decode cX2_readStep 307 = .ok (.invokevirtual 93, 3) := by decide +kernel
theorem dX2_readStep_310 : decode cX2_readStep 310 = .ok (.istore_n 3, 1) := by decide +kernel
theorem dX2_readStep_311 : decode cX2_readStep 311 = .ok (.goto 16, 3) := by decide +kernel
theorem dX2_readStep_314 : decode cX2_readStep 314 = .ok (.aload_n 0, 1) := by decide +kernel
theorem dX2_readStep_315 : decode cX2_readStep 315 = .ok (.iconst 1, 1) := by decide +kernel
theorem dX2_readStep_316 : decode cX2_readStep 316 = .ok (.bipush 99, 2) := by decide +kernel
theorem dX2_readStep_318 : decode cX2_readStep 318 = .ok (.invokevirtual 86, 3) := by decide +kernel
theorem dX2_readStep_321 : decode cX2_readStep 321 = .ok (.istore_n 3, 1) := by decide +kernel
theorem dX2_readStep_322 : decode cX2_readStep 322 = .ok (.goto 5, 3) := by decide +kernel
theorem dX2_readStep_325 : decode cX2_readStep 325 = .ok (.iconst 1, 1) := by decide +kernel
theorem dX2_readStep_326 : decode cX2_readStep 326 = .ok (.istore_n 3, 1) := by decide +kernel
theorem dX2_readStep_327 : decode cX2_readStep 327 = .ok (.aload_n 0, 1) := by decide +kernel
theorem dX2_readStep_328 : decode cX2_readStep 328 = .ok (.getfield 21, 3) := by decide +kernel
theorem dX2_readStep_331 : decode cX2_readStep 331 = .ok (.dup, 1) := by decide +kernel
theorem dX2_readStep_332 : decode cX2_readStep 332 = .ok (.getfield 73, 3) := by decide +kernel
theorem dX2_readStep_335 : decode cX2_readStep 335 = .ok (.iconst 1, 1) := by decide +kernel
theorem dX2_readStep_336 : decode cX2_readStep 336 = .ok (.iadd, 1) := by decide +kernel
theorem dX2_readStep_337 : decode cX2_readStep 337 = .ok (.putfield 73, 3) := by decide +kernel
theorem dX2_readStep_340 : decode cX2_readStep 340 = .ok (.aload_n 0, 1) := by decide +kernel
theorem dX2_readStep_341 : decode cX2_readStep 341 = .ok (.getfield 21, 3) := by decide +kernel
theorem dX2_readStep_344 : decode cX2_readStep 344 = .ok (.dup, 1) := by decide +kernel
theorem dX2_readStep_345 : decode cX2_readStep 345 = .ok (.getfield 64, 3) := by decide +kernel
theorem dX2_readStep_348 : decode cX2_readStep 348 = .ok (.iconst 1, 1) := by decide +kernel
theorem dX2_readStep_349 : decode cX2_readStep 349 = .ok (.iadd, 1) := by decide +kernel
theorem dX2_readStep_350 : decode cX2_readStep 350 = .ok (.putfield 64, 3) := by decide +kernel
theorem dX2_readStep_353 : decode cX2_readStep 353 = .ok (.iload_n 3, 1) := by decide +kernel
theorem dX2_readStep_354 : decode cX2_readStep 354 = .ok (.ireturn, 1) := by decide +kernel
theorem dX4_passSemicolon_0 : decode cX4_passSemicolon 0 = .ok (.aload_n 0, 1) := by decide +kernel
theorem dX4_passSemicolon_1 : decode cX4_passSemicolon 1 = .ok (.getfield 55, 3) := by decide +kernel
theorem dX4_passSemicolon_4 : decode cX4_passSemicolon 4 = .ok (.iconst 3, 1) := by decide +kernel
theorem dX4_passSemicolon_5 : decode cX4_passSemicolon 5 = .ok (.if_icmp .ne 12, 3) := by decide +kernel
theorem dX4_passSemicolon_8 : decode cX4_passSemicolon 8 = .ok (.aload_n 0, 1) := by decide +kernel
theorem dX4_passSemicolon_9 : decode cX4_passSemicolon 9 = .ok (.getfield 65, 3) := by decide +kernel
theorem dX4_passSemicolon_12 : decode cX4_passSemicolon 12 = .ok (.bipush 59, 2) := by decide +kernel
theorem dX4_passSemicolon_14 : decode cX4_passSemicolon 14 = .ok (.if_icmp .eq 9, 3) := by decide +kernel
theorem dX4_passSemicolon_17 : decode cX4_passSemicolon 17 = .ok (.aload_n 0, 1) := by decide +kernel
theorem dX4_passSemicolon_18 : decode cX4_passSemicolon 18 = .ok (.iconst 2, 1) := by decide +kernel
theorem dX4_passSemicolon_19 : decode cX4_passSemicolon 19 = .ok (.invokevirtual 78, 3) := by decide +kernel
theorem dX4_passSemicolon_22 : decode cX4_passSemicolon 22 = .ok (.ireturn, 1) := by decide +kernel
theorem dX4_passSemicolon_23 : decode cX4_passSemicolon 23 = .ok (.aload_n 0, 1) := by decide +kernel
theorem dX4_passSemicolon_24 : decode cX4_passSemicolon 24 = .ok (.invokevirtual 37, 3) := by decide +kernel
theorem dX4_passSemicolon_27 : decode cX4_passSemicolon 27 = .ok (.iconst 1, 1) := by decide +kernel
theorem dX4_passSemicolon_28 : decode cX4_passSemicolon 28 = .ok (.ireturn, 1) := by decide +kernel
theorem dX2_readEvenings_0 : decode cX2_readEvenings 0 = .ok (.aload_n 0, 1) := by decide +kernel
theorem dX2_readEvenings_1 : decode cX2_readEvenings 1 = .ok (.aload_n 2, 1) := by decide +kernel
theorem dX2_readEvenings_2 : decode cX2_readEvenings 2 = .ok (.putfield 17, 3) := by decide +kernel
theorem dX2_readEvenings_5 : decode cX2_readEvenings 5 = .ok (.aload_n 0, 1) := by decide +kernel
theorem dX2_readEvenings_6 : decode cX2_readEvenings 6 = .ok (.aload_n 3, 1) := by decide +kernel
theorem dX2_readEvenings_7 : decode cX2_readEvenings 7 = .ok (.putfield 21, 3) := by decide +kernel
theorem dX2_readEvenings_10 : decode cX2_readEvenings 10 = .ok (.aload_n 0, 1) := by decide +kernel
theorem dX2_readEvenings_11 : decode cX2_readEvenings 11 = .ok (.getfield 21, 3) := by decide +kernel
theorem dX2_readEvenings_14 : decode cX2_readEvenings 14 = .ok (.invokevirtual 25, 3) := by decide +kernel
theorem dX2_readEvenings_17 : decode cX2_readEvenings 17 = .ok (.aload_n 0, 1) := by decide +kernel
theorem dX2_readEvenings_18 : decode cX2_readEvenings 18 = .ok (.iconst 0, 1) := by decide +kernel
theorem dX2_readEvenings_19 : decode cX2_readEvenings 19 = .ok (.putfield 29, 3) := by decide +kernel
theorem dX2_readEvenings_22 : decode cX2_readEvenings 22 = .ok (.aload_n 0, 1) := by decide +kernel
theorem dX2_readEvenings_23 : decode cX2_readEvenings 23 = .ok (.iload_n 1, 1) := by decide +kernel
theorem dX2_readEvenings_24 : decode cX2_readEvenings 24 = .ok (.invokevirtual 33, 3) := by decide +kernel
theorem dX2_readEvenings_27 : decode cX2_readEvenings 27 = .ok (.iconst 0, 1) := by decide +kernel
theorem dX2_readEvenings_28 : decode cX2_readEvenings 28 = .ok (.istore 4, 2) := by decide +kernel
theorem dX2_readEvenings_30 : decode cX2_readEvenings 30 = .ok (.iload 4, 2) := by decide +kernel
theorem dX2_readEvenings_32 : decode cX2_readEvenings 32 = .ok (.sipush 900, 3) := by decide +kernel
theorem dX2_readEvenings_35 : decode cX2_readEvenings 35 = .ok (.if_icmp .gt 52, 3) := by decide +kernel
theorem dX2_readEvenings_38 : decode cX2_readEvenings 38 = .ok (.aload_n 0, 1) := by decide +kernel
theorem dX2_readEvenings_39 : decode cX2_readEvenings 39 = .ok (.getfield 37, 3) := by decide +kernel
theorem dX2_readEvenings_42 : decode cX2_readEvenings 42 = .ok (.ifCond .eq 45, 3) := by decide +kernel
theorem dX2_readEvenings_45 : decode cX2_readEvenings 45 = .ok (.aload_n 0, 1) := by decide +kernel
theorem dX2_readEvenings_46 : decode cX2_readEvenings 46 = .ok (.getfield 40, 3) := by decide +kernel
theorem dX2_readEvenings_49 : decode cX2_readEvenings 49 = .ok (.bipush 24, 2) := by decide +kernel
theorem dX2_readEvenings_51 : decode cX2_readEvenings 51 = .ok (.if_icmp .ne 10, 3) := by decide +kernel
theorem dX2_readEvenings_54 : decode cX2_readEvenings 54 = .ok (.aload_n 0, 1) := by decide +kernel
theorem dX2_readEvenings_55 : decode cX2_readEvenings 55 = .ok (.invokevirtual 43, 3) := by decide +kernel
theorem dX2_readEvenings_58 : decode cX2_readEvenings 58 = .ok (.goto 7, 3) := by decide +kernel
theorem dX2_readEvenings_61 : decode cX2_readEvenings 61 = .ok (.aload_n 0, 1) := by decide +kernel
theorem dX2_readEvenings_62 : decode cX2_readEvenings 62 = .ok (.invokevirtual 47, 3) := by decide +kernel
theorem dX2_readEvenings_65 : decode cX2_readEvenings 65 = .ok (.istore 5, 2) := by decide +kernel
theorem dX2_readEvenings_67 : decode cX2_readEvenings 67 = .ok (.iload 5, 2) := by decide +kernel
theorem dX2_readEvenings_69 : decode cX2_readEvenings 69 = .ok (.ifCond .eq 10, 3) := by decide +kernel
theorem dX2_readEvenings_72 : decode cX2_readEvenings 72 = .ok (.aload_n 0, 1) := by decide +kernel
theorem dX2_readEvenings_73 : decode cX2_readEvenings 73 = .ok (.invokevirtual 50, 3) := by decide +kernel
theorem dX2_readEvenings_76 : decode cX2_readEvenings 76 = .ok (.ifCond .ne 5, 3) := by decide +kernel
theorem dX2_readEvenings_79 : decode cX2_readEvenings 79 = .ok (.iconst 0, 1) := by decide +kernel
theorem dX2_readEvenings_80 : decode cX2_readEvenings 80 = .ok (.ireturn, 1) := by decide +kernel
theorem dX2_readEvenings_81 : decode cX2_readEvenings 81 = .ok (.iinc 4 1, 3) := by decide +kernel
theorem dX2_readEvenings_84 : decode cX2_readEvenings 84 = .ok (.goto (-54), 3) := by decide +kernel
theorem dX2_readEvenings_87 : decode cX2_readEvenings 87 = .ok (.aload_n 0, 1) := by decide +kernel
theorem dX2_readEvenings_88 : decode cX2_readEvenings 88 = .ok (.getfield 29, 3) := by decide +kernel
theorem dX2_readEvenings_91 : decode cX2_readEvenings 91 = .ok (.ifCond .le 9, 3) := by decide +kernel
theorem dX2_readEvenings_94 : decode cX2_readEvenings 94 = .ok (.aload_n 0, 1) := by decide +kernel
theorem dX2_readEvenings_95 : decode cX2_readEvenings 95 = .ok (.iconst 2, 1) := by decide +kernel
theorem dX2_readEvenings_96 : decode cX2_readEvenings 96 = .ok (.invokevirtual 53, 3) := by decide +kernel
theorem dX2_readEvenings_99 : decode cX2_readEvenings 99 = .ok (.ireturn, 1) := by decide +kernel
theorem dX2_readEvenings_100 : decode cX2_readEvenings 100 = .ok (.aload_n 0, 1) := by decide +kernel
theorem dX2_readEvenings_101 : decode cX2_readEvenings 101 = .ok (.getfield 21, 3) := by decide +kernel
theorem dX2_readEvenings_104 : decode cX2_readEvenings 104 = .ok (.iconst 1, 1) := by decide +kernel
theorem dX2_readEvenings_105 : decode cX2_readEvenings 105 = .ok (.putfield 57, 3) := by decide +kernel
theorem dX2_readEvenings_108 : decode cX2_readEvenings 108 = .ok (.iconst 1, 1) := by decide +kernel
theorem dX2_readEvenings_109 : decode cX2_readEvenings 109 = .ok (.ireturn, 1) := by decide +kernel
theorem dX3_begin_0 : decode cX3_begin 0 = .ok (.aload_n 0, 1) := by decide +kernel
theorem dX3_begin_1 : decode cX3_begin 1 = .ok (.aload_n 1, 1) := by decide +kernel
theorem dX3_begin_2 : decode cX3_begin 2 = .ok (.putfield 21, 3) := by decide +kernel
theorem dX3_begin_5 : decode cX3_begin 5 = .ok (.iconst 0, 1) := by decide +kernel
theorem dX3_begin_6 : decode cX3_begin 6 = .ok (.istore_n 2, 1) := by decide +kernel
theorem dX3_begin_7 : decode cX3_begin 7 = .ok (.iload_n 2, 1) := by decide +kernel
theorem dX3_begin_8 : decode cX3_begin 8 = .ok (.bipush 6, 2) := by decide +kernel
theorem dX3_begin_10 : decode cX3_begin 10 = .ok (.if_icmp .ge 16, 3) := by decide +kernel
theorem dX3_begin_13 : decode cX3_begin 13 = .ok (.aload_n 0, 1) := by decide +kernel
theorem dX3_begin_14 : decode cX3_begin 14 = .ok (.getfield 9, 3) := by decide +kernel
theorem dX3_begin_17 : decode cX3_begin 17 = .ok (.iload_n 2, 1) := by decide +kernel
theorem dX3_begin_18 : decode cX3_begin 18 = .ok (.iconst 0, 1) := by decide +kernel
theorem dX3_begin_19 : decode cX3_begin 19 = .ok (.iastore, 1) := by decide +kernel
theorem dX3_begin_20 : decode cX3_begin 20 = .ok (.iinc 2 1, 3) := by decide +kernel
theorem dX3_begin_23 : decode cX3_begin 23 = .ok (.goto (-16), 3) := by decide +kernel
theorem dX3_begin_26 : decode cX3_begin 26 = .ok (.iconst 0, 1) := by decide +kernel
theorem dX3_begin_27 : decode cX3_begin 27 = .ok (.istore_n 2, 1) := by decide +kernel
theorem dX3_begin_28 : decode cX3_begin 28 = .ok (.iload_n 2, 1) := by decide +kernel
theorem dX3_begin_29 : decode cX3_begin 29 = .ok (.aload_n 0, 1) := by decide +kernel
theorem dX3_begin_30 : decode cX3_begin 30 = .ok (.getfield 21, 3) := by decide +kernel
theorem dX3_begin_33 : decode cX3_begin 33 = .ok (.getfield 25, 3) := by decide +kernel
theorem dX3_begin_36 : decode cX3_begin 36 = .ok (.if_icmp .ge 65, 3) := by decide +kernel
theorem dX3_begin_39 : decode cX3_begin 39 = .ok (.aload_n 0, 1) := by decide +kernel
theorem dX3_begin_40 : decode cX3_begin 40 = .ok (.getfield 9, 3) := by decide +kernel
theorem dX3_begin_43 : decode cX3_begin 43 = .ok (.aload_n 0, 1) := by decide +kernel
theorem dX3_begin_44 : decode cX3_begin 44 = .ok (.getfield 21, 3) := by decide +kernel
theorem dX3_begin_47 : decode cX3_begin 47 = .ok (.getfield 29, 3) := by decide +kernel
theorem dX3_begin_50 : decode cX3_begin 50 = .ok (.iload_n 2, 1) := by decide +kernel
theorem dX3_begin_51 : decode cX3_begin 51 = .ok (.iaload, 1) := by decide +kernel
theorem dX3_begin_52 : decode cX3_begin 52 = .ok (.dup2, 1) := by decide +kernel
theorem dX3_begin_53 : decode cX3_begin 53 = .ok (.iaload, 1) := by decide +kernel
theorem dX3_begin_54 : decode cX3_begin 54 = .ok (.iconst 1, 1) := by decide +kernel
theorem dX3_begin_55 : decode cX3_begin 55 = .ok (.aload_n 0, 1) := by decide +kernel
theorem dX3_begin_56 : decode cX3_begin 56 = .ok (.getfield 21, 3) := by decide +kernel
theorem dX3_begin_59 : decode cX3_begin 59 = .ok (.getfield 32, 3) := by decide +kernel
theorem dX3_begin_62 : decode cX3_begin 62 = .ok (.iload_n 2, 1) := by decide +kernel
theorem dX3_begin_63 : decode cX3_begin 63 = .ok (.iaload, 1) := by decide +kernel
theorem dX3_begin_64 : decode cX3_begin 64 = .ok (.ishl, 1) := by decide +kernel
theorem dX3_begin_65 : decode cX3_begin 65 = .ok (.ior, 1) := by decide +kernel
theorem dX3_begin_66 : decode cX3_begin 66 = .ok (.iastore, 1) := by decide +kernel
theorem dX3_begin_67 : decode cX3_begin 67 = .ok (.aload_n 0, 1) := by decide +kernel
theorem dX3_begin_68 : decode cX3_begin 68 = .ok (.getfield 9, 3) := by decide +kernel
theorem dX3_begin_71 : decode cX3_begin 71 = .ok (.aload_n 0, 1) := by decide +kernel
theorem dX3_begin_72 : decode cX3_begin 72 = .ok (.getfield 21, 3) := by decide +kernel
theorem dX3_begin_75 : decode cX3_begin 75 = .ok (.getfield 32, 3) := by decide +kernel
theorem dX3_begin_78 : decode cX3_begin 78 = .ok (.iload_n 2, 1) := by decide +kernel
theorem dX3_begin_79 : decode cX3_begin 79 = .ok (.iaload, 1) := by decide +kernel
theorem dX3_begin_80 : decode cX3_begin 80 = .ok (.dup2, 1) := by decide +kernel
theorem dX3_begin_81 : decode cX3_begin 81 = .ok (.iaload, 1) := by decide +kernel
theorem dX3_begin_82 : decode cX3_begin 82 = .ok (.iconst 1, 1) := by decide +kernel
theorem dX3_begin_83 : decode cX3_begin 83 = .ok (.aload_n 0, 1) := by decide +kernel
theorem dX3_begin_84 : decode cX3_begin 84 = .ok (.getfield 21, 3) := by decide +kernel
theorem dX3_begin_87 : decode cX3_begin 87 = .ok (.getfield 29, 3) := by decide +kernel
theorem dX3_begin_90 : decode cX3_begin 90 = .ok (.iload_n 2, 1) := by decide +kernel
theorem dX3_begin_91 : decode cX3_begin 91 = .ok (.iaload, 1) := by decide +kernel
theorem dX3_begin_92 : decode cX3_begin 92 = .ok (.ishl, 1) := by decide +kernel
theorem dX3_begin_93 : decode cX3_begin 93 = .ok (.ior, 1) := by decide +kernel
theorem dX3_begin_94 : decode cX3_begin 94 = .ok (.iastore, 1) := by decide +kernel
theorem dX3_begin_95 : decode cX3_begin 95 = .ok (.iinc 2 1, 3) := by decide +kernel
theorem dX3_begin_98 : decode cX3_begin 98 = .ok (.goto (-70), 3) := by decide +kernel
theorem dX3_begin_101 : decode cX3_begin 101 = .ok (.return_, 1) := by decide +kernel
theorem dX3_keepRow_0 : decode cX3_keepRow 0 = .ok (.aload_n 0, 1) := by decide +kernel
theorem dX3_keepRow_1 : decode cX3_keepRow 1 = .ok (.iload_n 1, 1) := by decide +kernel
theorem dX3_keepRow_2 : decode cX3_keepRow 2 = .ok (.putfield 45, 3) := by decide +kernel
theorem dX3_keepRow_5 : decode cX3_keepRow 5 = .ok (.iconst 0, 1) := by decide +kernel
theorem dX3_keepRow_6 : decode cX3_keepRow 6 = .ok (.istore_n 2, 1) := by decide +kernel
theorem dX3_keepRow_7 : decode cX3_keepRow 7 = .ok (.iload_n 2, 1) := by decide +kernel
theorem dX3_keepRow_8 : decode cX3_keepRow 8 = .ok (.aload_n 0, 1) := by decide +kernel
theorem dX3_keepRow_9 : decode cX3_keepRow 9 = .ok (.getfield 21, 3) := by decide +kernel
theorem dX3_keepRow_12 : decode cX3_keepRow 12 = .ok (.getfield 35, 3) := by decide +kernel
theorem dX3_keepRow_15 : decode cX3_keepRow 15 = .ok (.if_icmp .ge 21, 3) := by decide +kernel
theorem dX3_keepRow_18 : decode cX3_keepRow 18 = .ok (.aload_n 0, 1) := by decide +kernel
theorem dX3_keepRow_19 : decode cX3_keepRow 19 = .ok (.getfield 18, 3) := by decide +kernel
theorem dX3_keepRow_22 : decode cX3_keepRow 22 = .ok (.iload_n 2, 1) := by decide +kernel
theorem dX3_keepRow_23 : decode cX3_keepRow 23 = .ok (.aload_n 0, 1) := by decide +kernel
theorem dX3_keepRow_24 : decode cX3_keepRow 24 = .ok (.getfield 15, 3) := by decide +kernel
theorem dX3_keepRow_27 : decode cX3_keepRow 27 = .ok (.iload_n 2, 1) := by decide +kernel
theorem dX3_keepRow_28 : decode cX3_keepRow 28 = .ok (.iaload, 1) := by decide +kernel
theorem dX3_keepRow_29 : decode cX3_keepRow 29 = .ok (.iastore, 1) := by decide +kernel
theorem dX3_keepRow_30 : decode cX3_keepRow 30 = .ok (.iinc 2 1, 3) := by decide +kernel
theorem dX3_keepRow_33 : decode cX3_keepRow 33 = .ok (.goto (-26), 3) := by decide +kernel
theorem dX3_keepRow_36 : decode cX3_keepRow 36 = .ok (.return_, 1) := by decide +kernel
theorem dX3_quarrelsWithEarlier_0 : decode cX3_quarrelsWithEarlier 0 = .ok (.iconst 0, 1) := by decide +kernel
theorem dX3_quarrelsWithEarlier_1 : decode cX3_quarrelsWithEarlier 1 = .ok (.istore_n 2, 1) := by decide +kernel
theorem dX3_quarrelsWithEarlier_2 : decode cX3_quarrelsWithEarlier 2 = .ok (.iconst 0, 1) := by decide +kernel
theorem dX3_quarrelsWithEarlier_3 : decode cX3_quarrelsWithEarlier 3 = .ok (.istore_n 3, 1) := by decide +kernel
theorem dX3_quarrelsWithEarlier_4 : decode cX3_quarrelsWithEarlier 4 = .ok (.iload_n 3, 1) := by decide +kernel
theorem dX3_quarrelsWithEarlier_5 : decode cX3_quarrelsWithEarlier 5 = .ok (.iload_n 1, 1) := by decide +kernel
theorem dX3_quarrelsWithEarlier_6 : decode cX3_quarrelsWithEarlier 6 = .ok (.if_icmp .ge 37, 3) := by decide +kernel
theorem dX3_quarrelsWithEarlier_9 : decode cX3_quarrelsWithEarlier 9 = .ok (.aload_n 0, 1) := by decide +kernel
theorem dX3_quarrelsWithEarlier_10 : decode cX3_quarrelsWithEarlier 10 = .ok (.getfield 15, 3) := by decide +kernel
theorem dX3_quarrelsWithEarlier_13 : decode cX3_quarrelsWithEarlier 13 = .ok (.iload_n 3, 1) := by decide +kernel
theorem dX3_quarrelsWithEarlier_14 : decode cX3_quarrelsWithEarlier 14 = .ok (.iaload, 1) := by decide +kernel
theorem dX3_quarrelsWithEarlier_15 : decode cX3_quarrelsWithEarlier 15 = .ok (.aload_n 0, 1) := by decide +kernel
theorem dX3_quarrelsWithEarlier_16 : decode cX3_quarrelsWithEarlier 16 = .ok (.getfield 15, 3) := by decide +kernel
theorem dX3_quarrelsWithEarlier_19 : decode cX3_quarrelsWithEarlier 19 = .ok (.iload_n 1, 1) := by decide +kernel
theorem dX3_quarrelsWithEarlier_20 : decode cX3_quarrelsWithEarlier 20 = .ok (.iaload, 1) := by decide +kernel
theorem dX3_quarrelsWithEarlier_21 : decode cX3_quarrelsWithEarlier 21 = .ok (.if_icmp .ne 16, 3) := by decide +kernel
theorem dX3_quarrelsWithEarlier_24 : decode cX3_quarrelsWithEarlier 24 = .ok (.iload_n 2, 1) := by decide +kernel
theorem dX3_quarrelsWithEarlier_25 : decode cX3_quarrelsWithEarlier 25 = .ok (.aload_n 0, 1) := by decide +kernel
theorem dX3_quarrelsWithEarlier_26 : decode cX3_quarrelsWithEarlier 26 = .ok (.getfield 9, 3) := by decide +kernel
theorem dX3_quarrelsWithEarlier_29 : decode cX3_quarrelsWithEarlier 29 = .ok (.iload_n 1, 1) := by decide +kernel
theorem dX3_quarrelsWithEarlier_30 : decode cX3_quarrelsWithEarlier 30 = .ok (.iaload, 1) := by decide +kernel
theorem dX3_quarrelsWithEarlier_31 : decode cX3_quarrelsWithEarlier 31 = .ok (.iload_n 3, 1) := by decide +kernel
theorem dX3_quarrelsWithEarlier_32 : decode cX3_quarrelsWithEarlier 32 = .ok (.ishr, 1) := by decide +kernel
theorem dX3_quarrelsWithEarlier_33 : decode cX3_quarrelsWithEarlier 33 = .ok (.iconst 1, 1) := by decide +kernel
theorem dX3_quarrelsWithEarlier_34 : decode cX3_quarrelsWithEarlier 34 = .ok (.iand, 1) := by decide +kernel
theorem dX3_quarrelsWithEarlier_35 : decode cX3_quarrelsWithEarlier 35 = .ok (.iadd, 1) := by decide +kernel
theorem dX3_quarrelsWithEarlier_36 : decode cX3_quarrelsWithEarlier 36 = .ok (.istore_n 2, 1) := by decide +kernel
theorem dX3_quarrelsWithEarlier_37 : decode cX3_quarrelsWithEarlier 37 = .ok (.iinc 3 1, 3) := by decide +kernel
theorem dX3_quarrelsWithEarlier_40 : decode cX3_quarrelsWithEarlier 40 = .ok (.goto (-36), 3) := by decide +kernel
theorem dX3_quarrelsWithEarlier_43 : decode cX3_quarrelsWithEarlier 43 = .ok (.iload_n 2, 1) := by decide +kernel
theorem dX3_quarrelsWithEarlier_44 : decode cX3_quarrelsWithEarlier 44 = .ok (.ireturn, 1) := by decide +kernel
theorem dX3_putOnTopic_0 : decode cX3_putOnTopic 0 = .ok (.iload_n 3, 1) := by decide +kernel
theorem dX3_putOnTopic_1 : decode cX3_putOnTopic 1 = .ok (.aload_n 0, 1) := by decide +kernel
theorem dX3_putOnTopic_2 : decode cX3_putOnTopic 2 = .ok (.getfield 45, 3) := by decide +kernel
theorem dX3_putOnTopic_5 : decode cX3_putOnTopic 5 = .ok (.if_icmp .lt 4, 3) := by decide +kernel
theorem dX3_putOnTopic_8 : decode cX3_putOnTopic 8 = .ok (.return_, 1) := by decide +kernel
theorem dX3_putOnTopic_9 : decode cX3_putOnTopic 9 = .ok (.iload_n 1, 1) := by decide +kernel
theorem dX3_putOnTopic_10 : decode cX3_putOnTopic 10 = .ok (.aload_n 0, 1) := by decide +kernel
theorem dX3_putOnTopic_11 : decode cX3_putOnTopic 11 = .ok (.getfield 21, 3) := by decide +kernel
theorem dX3_putOnTopic_14 : decode cX3_putOnTopic 14 = .ok (.getfield 35, 3) := by decide +kernel
theorem dX3_putOnTopic_17 : decode cX3_putOnTopic 17 = .ok (.if_icmp .lt 9, 3) := by decide +kernel
theorem dX3_putOnTopic_20 : decode cX3_putOnTopic 20 = .ok (.aload_n 0, 1) := by decide +kernel
theorem dX3_putOnTopic_21 : decode cX3_putOnTopic 21 = .ok (.iload_n 3, 1) := by decide +kernel
theorem dX3_putOnTopic_22 : decode cX3_putOnTopic 22 = .ok (.invokevirtual 52, 3) := by decide +kernel
theorem dX3_putOnTopic_25 : decode cX3_putOnTopic 25 = .ok (.return_, 1) := by decide +kernel
theorem dX3_putOnTopic_26 : decode cX3_putOnTopic 26 = .ok (.iconst 0, 1) := by decide +kernel
theorem dX3_putOnTopic_27 : decode cX3_putOnTopic 27 = .ok (.istore 4, 2) := by decide +kernel
theorem dX3_putOnTopic_29 : decode cX3_putOnTopic 29 = .ok (.iload 4, 2) := by decide +kernel
theorem dX3_putOnTopic_31 : decode cX3_putOnTopic 31 = .ok (.iload_n 2, 1) := by decide +kernel
theorem dX3_putOnTopic_32 : decode cX3_putOnTopic 32 = .ok (.if_icmp .gt 52, 3) := by decide +kernel
theorem dX3_putOnTopic_35 : decode cX3_putOnTopic 35 = .ok (.iload 4, 2) := by decide +kernel
theorem dX3_putOnTopic_37 : decode cX3_putOnTopic 37 = .ok (.aload_n 0, 1) := by decide +kernel
theorem dX3_putOnTopic_38 : decode cX3_putOnTopic 38 = .ok (.getfield 42, 3) := by decide +kernel
theorem dX3_putOnTopic_41 : decode cX3_putOnTopic 41 = .ok (.if_icmp .ge 43, 3) := by decide +kernel
theorem dX3_putOnTopic_44 : decode cX3_putOnTopic 44 = .ok (.aload_n 0, 1) := by decide +kernel
theorem dX3_putOnTopic_45 : decode cX3_putOnTopic 45 = .ok (.getfield 15, 3) := by decide +kernel
theorem dX3_putOnTopic_48 : decode cX3_putOnTopic 48 = .ok (.iload_n 1, 1) := by decide +kernel
theorem dX3_putOnTopic_49 : decode cX3_putOnTopic 49 = .ok (.iload 4, 2) := by decide +kernel
theorem dX3_putOnTopic_51 : decode cX3_putOnTopic 51 = .ok (.iastore, 1) := by decide +kernel
theorem dX3_putOnTopic_52 : decode cX3_putOnTopic 52 = .ok (.aload_n 0, 1) := by decide +kernel
theorem dX3_putOnTopic_53 : decode cX3_putOnTopic 53 = .ok (.iload_n 1, 1) := by decide +kernel
theorem dX3_putOnTopic_54 : decode cX3_putOnTopic 54 = .ok (.invokevirtual 56, 3) := by decide +kernel
theorem dX3_putOnTopic_57 : decode cX3_putOnTopic 57 = .ok (.istore 5, 2) := by decide +kernel
theorem dX3_putOnTopic_59 : decode cX3_putOnTopic 59 = .ok (.aload_n 0, 1) := by decide +kernel
theorem dX3_putOnTopic_60 : decode cX3_putOnTopic 60 = .ok (.iload_n 1, 1) := by decide +kernel
theorem dX3_putOnTopic_61 : decode cX3_putOnTopic 61 = .ok (.iconst 1, 1) := by decide +kernel
theorem dX3_putOnTopic_62 : decode cX3_putOnTopic 62 = .ok (.iadd, 1) := by decide +kernel
theorem dX3_putOnTopic_63 : decode cX3_putOnTopic 63 = .ok (.iload_n 2, 1) := by decide +kernel
theorem dX3_putOnTopic_64 : decode cX3_putOnTopic 64 = .ok (.iload 4, 2) := by decide +kernel
theorem dX3_putOnTopic_66 : decode cX3_putOnTopic 66 = .ok (.iconst 1, 1) := by decide +kernel
theorem dX3_putOnTopic_67 : decode cX3_putOnTopic 67 = .ok (.iadd, 1) := by decide +kernel
theorem dX3_putOnTopic_68 : decode cX3_putOnTopic 68 = .ok (.invokestatic 59, 3) := by decide +kernel
theorem dX3_putOnTopic_71 : decode cX3_putOnTopic 71 = .ok (.iload_n 3, 1) := by decide +kernel
theorem dX3_putOnTopic_72 : decode cX3_putOnTopic 72 = .ok (.iload 5, 2) := by decide +kernel
theorem dX3_putOnTopic_74 : decode cX3_putOnTopic 74 = .ok (.iadd, 1) := by decide +kernel
theorem dX3_putOnTopic_75 : decode cX3_putOnTopic 75 = .ok (.invokevirtual 48, 3) := by decide +kernel
theorem dX3_putOnTopic_78 : decode cX3_putOnTopic 78 = .ok (.iinc 4 1, 3) := by decide +kernel
theorem dX3_putOnTopic_81 : decode cX3_putOnTopic 81 = .ok (.goto (-52), 3) := by decide +kernel
theorem dX3_putOnTopic_84 : decode cX3_putOnTopic 84 = .ok (.return_, 1) := by decide +kernel
theorem dX3_fewestOn_0 : decode cX3_fewestOn 0 = .ok (.aload_n 0, 1) := by decide +kernel
theorem dX3_fewestOn_1 : decode cX3_fewestOn 1 = .ok (.iload_n 1, 1) := by decide +kernel
theorem dX3_fewestOn_2 : decode cX3_fewestOn 2 = .ok (.putfield 42, 3) := by decide +kernel
theorem dX3_fewestOn_5 : decode cX3_fewestOn 5 = .ok (.aload_n 0, 1) := by decide +kernel
theorem dX3_fewestOn_6 : decode cX3_fewestOn 6 = .ok (.aload_n 0, 1) := by decide +kernel
theorem dX3_fewestOn_7 : decode cX3_fewestOn 7 = .ok (.getfield 21, 3) := by decide +kernel
theorem dX3_fewestOn_10 : decode cX3_fewestOn 10 = .ok (.getfield 25, 3) := by decide +kernel
theorem dX3_fewestOn_13 : decode cX3_fewestOn 13 = .ok (.iconst 1, 1) := by decide +kernel
theorem dX3_fewestOn_14 : decode cX3_fewestOn 14 = .ok (.iadd, 1) := by decide +kernel
theorem dX3_fewestOn_15 : decode cX3_fewestOn 15 = .ok (.putfield 45, 3) := by decide +kernel
theorem dX3_fewestOn_18 : decode cX3_fewestOn 18 = .ok (.aload_n 0, 1) := by decide +kernel
theorem dX3_fewestOn_19 : decode cX3_fewestOn 19 = .ok (.iconst 0, 1) := by decide +kernel
theorem dX3_fewestOn_20 : decode cX3_fewestOn 20 = .ok (.iconst 0, 1) := by decide +kernel
theorem dX3_fewestOn_21 : decode cX3_fewestOn 21 = .ok (.iconst 0, 1) := by decide +kernel
theorem dX3_fewestOn_22 : decode cX3_fewestOn 22 = .ok (.invokevirtual 48, 3) := by decide +kernel
theorem dX3_fewestOn_25 : decode cX3_fewestOn 25 = .ok (.aload_n 0, 1) := by decide +kernel
theorem dX3_fewestOn_26 : decode cX3_fewestOn 26 = .ok (.getfield 45, 3) := by decide +kernel
theorem dX3_fewestOn_29 : decode cX3_fewestOn 29 = .ok (.ireturn, 1) := by decide +kernel
theorem dX3_topicsForPeace_0 : decode cX3_topicsForPeace 0 = .ok (.iconst 1, 1) := by decide +kernel
theorem dX3_topicsForPeace_1 : decode cX3_topicsForPeace 1 = .ok (.istore_n 1, 1) := by decide +kernel
theorem dX3_topicsForPeace_2 : decode cX3_topicsForPeace 2 = .ok (.iload_n 1, 1) := by decide +kernel
theorem dX3_topicsForPeace_3 : decode cX3_topicsForPeace 3 = .ok (.aload_n 0, 1) := by decide +kernel
theorem dX3_topicsForPeace_4 : decode cX3_topicsForPeace 4 = .ok (.getfield 21, 3) := by decide +kernel
theorem dX3_topicsForPeace_7 : decode cX3_topicsForPeace 7 = .ok (.getfield 35, 3) := by decide +kernel
theorem dX3_topicsForPeace_10 : decode cX3_topicsForPeace 10 = .ok (.if_icmp .ge 19, 3) := by decide +kernel
theorem dX3_topicsForPeace_13 : decode cX3_topicsForPeace 13 = .ok (.aload_n 0, 1) := by decide +kernel
theorem dX3_topicsForPeace_14 : decode cX3_topicsForPeace 14 = .ok (.iload_n 1, 1) := by decide +kernel
theorem dX3_topicsForPeace_15 : decode cX3_topicsForPeace 15 = .ok (.invokevirtual 38, 3) := by decide +kernel
theorem dX3_topicsForPeace_18 : decode cX3_topicsForPeace 18 = .ok (.ifCond .ne 5, 3) := by decide +kernel
theorem dX3_topicsForPeace_21 : decode cX3_topicsForPeace 21 = .ok (.iload_n 1, 1) := by decide +kernel
theorem dX3_topicsForPeace_22 : decode cX3_topicsForPeace 22 = .ok (.ireturn, 1) := by decide +kernel
theorem dX3_topicsForPeace_23 : decode cX3_topicsForPeace 23 = .ok (.iinc 1 1, 3) := by decide +kernel
theorem dX3_topicsForPeace_26 : decode cX3_topicsForPeace 26 = .ok (.goto (-24), 3) := by decide +kernel
theorem dX3_topicsForPeace_29 : decode cX3_topicsForPeace 29 = .ok (.aload_n 0, 1) := by decide +kernel
theorem dX3_topicsForPeace_30 : decode cX3_topicsForPeace 30 = .ok (.getfield 21, 3) := by decide +kernel
theorem dX3_topicsForPeace_33 : decode cX3_topicsForPeace 33 = .ok (.getfield 35, 3) := by decide +kernel
theorem dX3_topicsForPeace_36 : decode cX3_topicsForPeace 36 = .ok (.ireturn, 1) := by decide +kernel
theorem dX3_putOnSeat_0 : decode cX3_putOnSeat 0 = .ok (.iload_n 3, 1) := by decide +kernel
theorem dX3_putOnSeat_1 : decode cX3_putOnSeat 1 = .ok (.aload_n 0, 1) := by decide +kernel
theorem dX3_putOnSeat_2 : decode cX3_putOnSeat 2 = .ok (.getfield 45, 3) := by decide +kernel
theorem dX3_putOnSeat_5 : decode cX3_putOnSeat 5 = .ok (.if_icmp .lt 4, 3) := by decide +kernel
theorem dX3_putOnSeat_8 : decode cX3_putOnSeat 8 = .ok (.return_, 1) := by decide +kernel
theorem dX3_putOnSeat_9 : decode cX3_putOnSeat 9 = .ok (.iload_n 1, 1) := by decide +kernel
theorem dX3_putOnSeat_10 : decode cX3_putOnSeat 10 = .ok (.aload_n 0, 1) := by decide +kernel
theorem dX3_putOnSeat_11 : decode cX3_putOnSeat 11 = .ok (.getfield 21, 3) := by decide +kernel
theorem dX3_putOnSeat_14 : decode cX3_putOnSeat 14 = .ok (.getfield 35, 3) := by decide +kernel
theorem dX3_putOnSeat_17 : decode cX3_putOnSeat 17 = .ok (.if_icmp .lt 60, 3) := by decide +kernel
theorem dX3_putOnSeat_20 : decode cX3_putOnSeat 20 = .ok (.aload_n 0, 1) := by decide +kernel
theorem dX3_putOnSeat_21 : decode cX3_putOnSeat 21 = .ok (.getfield 21, 3) := by decide +kernel
theorem dX3_putOnSeat_24 : decode cX3_putOnSeat 24 = .ok (.getfield 35, 3) := by decide +kernel
theorem dX3_putOnSeat_27 : decode cX3_putOnSeat 27 = .ok (.iconst 1, 1) := by decide +kernel
theorem dX3_putOnSeat_28 : decode cX3_putOnSeat 28 = .ok (.isub, 1) := by decide +kernel
theorem dX3_putOnSeat_29 : decode cX3_putOnSeat 29 = .ok (.istore 4, 2) := by decide +kernel
theorem dX3_putOnSeat_31 : decode cX3_putOnSeat 31 = .ok (.iload 4, 2) := by decide +kernel
theorem dX3_putOnSeat_33 : decode cX3_putOnSeat 33 = .ok (.iconst 1, 1) := by decide +kernel
theorem dX3_putOnSeat_34 : decode cX3_putOnSeat 34 = .ok (.if_icmp .le 20, 3) := by decide +kernel
theorem dX3_putOnSeat_37 : decode cX3_putOnSeat 37 = .ok (.aload_n 0, 1) := by decide +kernel
theorem dX3_putOnSeat_38 : decode cX3_putOnSeat 38 = .ok (.getfield 9, 3) := by decide +kernel
theorem dX3_putOnSeat_41 : decode cX3_putOnSeat 41 = .ok (.aload_n 0, 1) := by decide +kernel
theorem dX3_putOnSeat_42 : decode cX3_putOnSeat 42 = .ok (.getfield 15, 3) := by decide +kernel
theorem dX3_putOnSeat_45 : decode cX3_putOnSeat 45 = .ok (.iload 4, 2) := by decide +kernel
theorem dX3_putOnSeat_47 : decode cX3_putOnSeat 47 = .ok (.iaload, 1) := by decide +kernel
theorem dX3_putOnSeat_48 : decode cX3_putOnSeat 48 = .ok (.iaload, 1) := by decide +kernel
theorem dX3_putOnSeat_49 : decode cX3_putOnSeat 49 = .ok (.iconst 1, 1) := by decide +kernel
theorem dX3_putOnSeat_50 : decode cX3_putOnSeat 50 = .ok (.iand, 1) := by decide +kernel
theorem dX3_putOnSeat_51 : decode cX3_putOnSeat 51 = .ok (.goto 4, 3) := by decide +kernel
theorem dX3_putOnSeat_54 : decode cX3_putOnSeat 54 = .ok (.iconst 0, 1) := by decide +kernel
theorem dX3_putOnSeat_55 : decode cX3_putOnSeat 55 = .ok (.istore 5, 2) := by decide +kernel
theorem dX3_putOnSeat_57 : decode cX3_putOnSeat 57 = .ok (.iload_n 3, 1) := by decide +kernel
theorem dX3_putOnSeat_58 : decode cX3_putOnSeat 58 = .ok (.iload 5, 2) := by decide +kernel
theorem dX3_putOnSeat_60 : decode cX3_putOnSeat 60 = .ok (.iadd, 1) := by decide +kernel
theorem dX3_putOnSeat_61 : decode cX3_putOnSeat 61 = .ok (.aload_n 0, 1) := by decide +kernel
theorem dX3_putOnSeat_62 : decode cX3_putOnSeat 62 = .ok (.getfield 45, 3) := by decide +kernel
theorem dX3_putOnSeat_65 : decode cX3_putOnSeat 65 = .ok (.if_icmp .ge 11, 3) := by decide +kernel
theorem dX3_putOnSeat_68 : decode cX3_putOnSeat 68 = .ok (.aload_n 0, 1) := by decide +kernel
theorem dX3_putOnSeat_69 : decode cX3_putOnSeat 69 = .ok (.iload_n 3, 1) := by decide +kernel
theorem dX3_putOnSeat_70 : decode cX3_putOnSeat 70 = .ok (.iload 5, 2) := by decide +kernel
theorem dX3_putOnSeat_72 : decode cX3_putOnSeat 72 = .ok (.iadd, 1) := by decide +kernel
theorem dX3_putOnSeat_73 : decode cX3_putOnSeat 73 = .ok (.invokevirtual 52, 3) := by decide +kernel
theorem dX3_putOnSeat_76 : decode cX3_putOnSeat 76 = .ok (.return_, 1) := by decide +kernel
theorem dX3_putOnSeat_77 : decode cX3_putOnSeat 77 = .ok (.iconst 1, 1) := by decide +kernel
theorem dX3_putOnSeat_78 : decode cX3_putOnSeat 78 = .ok (.istore 4, 2) := by decide +kernel
theorem dX3_putOnSeat_80 : decode cX3_putOnSeat 80 = .ok (.iload 4, 2) := by decide +kernel
theorem dX3_putOnSeat_82 : decode cX3_putOnSeat 82 = .ok (.aload_n 0, 1) := by decide +kernel
theorem dX3_putOnSeat_83 : decode cX3_putOnSeat 83 = .ok (.getfield 21, 3) := by decide +kernel
theorem dX3_putOnSeat_86 : decode cX3_putOnSeat 86 = .ok (.getfield 35, 3) := by decide +kernel
theorem dX3_putOnSeat_89 : decode cX3_putOnSeat 89 = .ok (.if_icmp .ge 63, 3) := by decide +kernel
theorem dX3_putOnSeat_92 : decode cX3_putOnSeat 92 = .ok (.iload_n 2, 1) := by decide +kernel
theorem dX3_putOnSeat_93 : decode cX3_putOnSeat 93 = .ok (.iload 4, 2) := by decide +kernel
theorem dX3_putOnSeat_95 : decode cX3_putOnSeat 95 = .ok (.ishr, 1) := by decide +kernel
theorem dX3_putOnSeat_96 : decode cX3_putOnSeat 96 = .ok (.iconst 1, 1) := by decide +kernel
theorem dX3_putOnSeat_97 : decode cX3_putOnSeat 97 = .ok (.iand, 1) := by decide +kernel
theorem dX3_putOnSeat_98 : decode cX3_putOnSeat 98 = .ok (.ifCond .ne 48, 3) := by decide +kernel
theorem dX3_putOnSeat_101 : decode cX3_putOnSeat 101 = .ok (.aload_n 0, 1) := by decide +kernel
theorem dX3_putOnSeat_102 : decode cX3_putOnSeat 102 = .ok (.getfield 15, 3) := by decide +kernel
theorem dX3_putOnSeat_105 : decode cX3_putOnSeat 105 = .ok (.iload_n 1, 1) := by decide +kernel
theorem dX3_putOnSeat_106 : decode cX3_putOnSeat 106 = .ok (.iload 4, 2) := by decide +kernel
theorem dX3_putOnSeat_108 : decode cX3_putOnSeat 108 = .ok (.iastore, 1) := by decide +kernel
theorem dX3_putOnSeat_109 : decode cX3_putOnSeat 109 = .ok (.aload_n 0, 1) := by decide +kernel
theorem dX3_putOnSeat_110 : decode cX3_putOnSeat 110 = .ok (.getfield 9, 3) := by decide +kernel
theorem dX3_putOnSeat_113 : decode cX3_putOnSeat 113 = .ok (.iload 4, 2) := by decide +kernel
theorem dX3_putOnSeat_115 : decode cX3_putOnSeat 115 = .ok (.iaload, 1) := by decide +kernel
theorem dX3_putOnSeat_116 : decode cX3_putOnSeat 116 = .ok (.aload_n 0, 1) := by decide +kernel
theorem dX3_putOnSeat_117 : decode cX3_putOnSeat 117 = .ok (.getfield 15, 3) := by decide +kernel
theorem dX3_putOnSeat_120 : decode cX3_putOnSeat 120 = .ok (.iload_n 1, 1) := by decide +kernel
theorem dX3_putOnSeat_121 : decode cX3_putOnSeat 121 = .ok (.iconst 1, 1) := by decide +kernel
theorem dX3_putOnSeat_122 : decode cX3_putOnSeat 122 = .ok (.isub, 1) := by decide +kernel
theorem dX3_putOnSeat_123 : decode cX3_putOnSeat 123 = .ok (.iaload, 1) := by decide +kernel
theorem dX3_putOnSeat_124 : decode cX3_putOnSeat 124 = .ok (.ishr, 1) := by decide +kernel
theorem dX3_putOnSeat_125 : decode cX3_putOnSeat 125 = .ok (.iconst 1, 1) := by decide +kernel
theorem dX3_putOnSeat_126 : decode cX3_putOnSeat 126 = .ok (.iand, 1) := by decide +kernel
theorem dX3_putOnSeat_127 : decode cX3_putOnSeat 127 = .ok (.istore 5, 2) := by decide +kernel
theorem dX3_putOnSeat_129 : decode cX3_putOnSeat 129 = .ok (.aload_n 0, 1) := by decide +kernel
theorem dX3_putOnSeat_130 : decode cX3_putOnSeat 130 = .ok (.iload_n 1, 1) := by decide +kernel
theorem dX3_putOnSeat_131 : decode cX3_putOnSeat 131 = .ok (.iconst 1, 1) := by decide +kernel
theorem dX3_putOnSeat_132 : decode cX3_putOnSeat 132 = .ok (.iadd, 1) := by decide +kernel
theorem dX3_putOnSeat_133 : decode cX3_putOnSeat 133 = .ok (.iload_n 2, 1) := by decide +kernel
theorem dX3_putOnSeat_134 : decode cX3_putOnSeat 134 = .ok (.iconst 1, 1) := by decide +kernel
theorem dX3_putOnSeat_135 : decode cX3_putOnSeat 135 = .ok (.iload 4, 2) := by decide +kernel
theorem dX3_putOnSeat_137 : decode cX3_putOnSeat 137 = .ok (.ishl, 1) := by decide +kernel
theorem dX3_putOnSeat_138 : decode cX3_putOnSeat 138 = .ok (.ior, 1) := by decide +kernel
theorem dX3_putOnSeat_139 : decode cX3_putOnSeat 139 = .ok (.iload_n 3, 1) := by decide +kernel
theorem dX3_putOnSeat_140 : decode cX3_putOnSeat 140 = .ok (.iload 5, 2) := by decide +kernel
theorem dX3_putOnSeat_142 : decode cX3_putOnSeat 142 = .ok (.iadd, 1) := by decide +kernel
theorem dX3_putOnSeat_143 : decode cX3_putOnSeat 143 = .ok (.invokevirtual 65, 3) := by decide +kernel
theorem dX3_putOnSeat_146 : decode cX3_putOnSeat 146 = .ok (.iinc 4 1, 3) := by decide +kernel
theorem dX3_putOnSeat_149 : decode cX3_putOnSeat 149 = .ok (.goto (-69), 3) := by decide +kernel
theorem dX3_putOnSeat_152 : decode cX3_putOnSeat 152 = .ok (.return_, 1) := by decide +kernel
theorem dX3_fewestBeside_0 : decode cX3_fewestBeside 0 = .ok (.aload_n 0, 1) := by decide +kernel
theorem dX3_fewestBeside_1 : decode cX3_fewestBeside 1 = .ok (.aload_n 0, 1) := by decide +kernel
theorem dX3_fewestBeside_2 : decode cX3_fewestBeside 2 = .ok (.getfield 21, 3) := by decide +kernel
theorem dX3_fewestBeside_5 : decode cX3_fewestBeside 5 = .ok (.getfield 25, 3) := by decide +kernel
theorem dX3_fewestBeside_8 : decode cX3_fewestBeside 8 = .ok (.iconst 1, 1) := by decide +kernel
theorem dX3_fewestBeside_9 : decode cX3_fewestBeside 9 = .ok (.iadd, 1) := by decide +kernel
theorem dX3_fewestBeside_10 : decode cX3_fewestBeside 10 = .ok (.putfield 45, 3) := by decide +kernel
theorem dX3_fewestBeside_13 : decode cX3_fewestBeside 13 = .ok (.aload_n 0, 1) := by decide +kernel
theorem dX3_fewestBeside_14 : decode cX3_fewestBeside 14 = .ok (.getfield 15, 3) := by decide +kernel
theorem dX3_fewestBeside_17 : decode cX3_fewestBeside 17 = .ok (.iconst 0, 1) := by decide +kernel
theorem dX3_fewestBeside_18 : decode cX3_fewestBeside 18 = .ok (.iconst 0, 1) := by decide +kernel
theorem dX3_fewestBeside_19 : decode cX3_fewestBeside 19 = .ok (.iastore, 1) := by decide +kernel
theorem dX3_fewestBeside_20 : decode cX3_fewestBeside 20 = .ok (.aload_n 0, 1) := by decide +kernel
theorem dX3_fewestBeside_21 : decode cX3_fewestBeside 21 = .ok (.iconst 1, 1) := by decide +kernel
theorem dX3_fewestBeside_22 : decode cX3_fewestBeside 22 = .ok (.iconst 1, 1) := by decide +kernel
theorem dX3_fewestBeside_23 : decode cX3_fewestBeside 23 = .ok (.iconst 0, 1) := by decide +kernel
theorem dX3_fewestBeside_24 : decode cX3_fewestBeside 24 = .ok (.invokevirtual 65, 3) := by decide +kernel
theorem dX3_fewestBeside_27 : decode cX3_fewestBeside 27 = .ok (.aload_n 0, 1) := by decide +kernel
theorem dX3_fewestBeside_28 : decode cX3_fewestBeside 28 = .ok (.getfield 45, 3) := by decide +kernel
theorem dX3_fewestBeside_31 : decode cX3_fewestBeside 31 = .ok (.ireturn, 1) := by decide +kernel
theorem dX4_passWord_0 : decode cX4_passWord 0 = .ok (.aload_n 0, 1) := by decide +kernel
theorem dX4_passWord_1 : decode cX4_passWord 1 = .ok (.getfield 46, 3) := by decide +kernel
theorem dX4_passWord_4 : decode cX4_passWord 4 = .ok (.iload_n 1, 1) := by decide +kernel
theorem dX4_passWord_5 : decode cX4_passWord 5 = .ok (.if_icmp .eq 9, 3) := by decide +kernel
theorem dX4_passWord_8 : decode cX4_passWord 8 = .ok (.aload_n 0, 1) := by decide +kernel
theorem dX4_passWord_9 : decode cX4_passWord 9 = .ok (.iconst 2, 1) := by decide +kernel
theorem dX4_passWord_10 : decode cX4_passWord 10 = .ok (.invokevirtual 78, 3) := by decide +kernel
theorem dX4_passWord_13 : decode cX4_passWord 13 = .ok (.ireturn, 1) := by decide +kernel
theorem dX4_passWord_14 : decode cX4_passWord 14 = .ok (.aload_n 0, 1) := by decide +kernel
theorem dX4_passWord_15 : decode cX4_passWord 15 = .ok (.invokevirtual 37, 3) := by decide +kernel
theorem dX4_passWord_18 : decode cX4_passWord 18 = .ok (.iconst 1, 1) := by decide +kernel
theorem dX4_passWord_19 : decode cX4_passWord 19 = .ok (.ireturn, 1) := by decide +kernel
theorem dX4_topicNamed_0 : decode cX4_topicNamed 0 = .ok (.aload_n 0, 1) := by decide +kernel
theorem dX4_topicNamed_1 : decode cX4_topicNamed 1 = .ok (.aload_n 1, 1) := by decide +kernel
theorem dX4_topicNamed_2 : decode cX4_topicNamed 2 = .ok (.iconst 0, 1) := by decide +kernel
theorem dX4_topicNamed_3 : decode cX4_topicNamed 3 = .ok (.aload_n 1, 1) := by decide +kernel
theorem dX4_topicNamed_4 : decode cX4_topicNamed 4 = .ok (.getfield 92, 3) := by decide +kernel
theorem dX4_topicNamed_7 : decode cX4_topicNamed 7 = .ok (.invokevirtual 95, 3) := by decide +kernel
theorem dX4_topicNamed_10 : decode cX4_topicNamed 10 = .ok (.ireturn, 1) := by decide +kernel
theorem dX7_worthAt_0 : decode cX7_worthAt 0 = .ok (.iload_n 1, 1) := by decide +kernel
theorem dX7_worthAt_1 : decode cX7_worthAt 1 = .ok (.ifCond .ne 7, 3) := by decide +kernel
theorem dX7_worthAt_4 : decode cX7_worthAt 4 = .ok (.iconst 0, 1) := by decide +kernel
theorem dX7_worthAt_5 : decode cX7_worthAt 5 = .ok (.goto 11, 3) := by decide +kernel
theorem dX7_worthAt_8 : decode cX7_worthAt 8 = .ok (.aload_n 0, 1) := by decide +kernel
theorem dX7_worthAt_9 : decode cX7_worthAt 9 = .ok (.getfield 15, 3) := by decide +kernel
theorem dX7_worthAt_12 : decode cX7_worthAt 12 = .ok (.iload_n 1, 1) := by decide +kernel
theorem dX7_worthAt_13 : decode cX7_worthAt 13 = .ok (.iconst 1, 1) := by decide +kernel
theorem dX7_worthAt_14 : decode cX7_worthAt 14 = .ok (.isub, 1) := by decide +kernel
theorem dX7_worthAt_15 : decode cX7_worthAt 15 = .ok (.iaload, 1) := by decide +kernel
theorem dX7_worthAt_16 : decode cX7_worthAt 16 = .ok (.ireturn, 1) := by decide +kernel
theorem dX5_weigh_0 : decode cX5_weigh 0 = .ok (.aload_n 0, 1) := by decide +kernel
theorem dX5_weigh_1 : decode cX5_weigh 1 = .ok (.getfield 18, 3) := by decide +kernel
theorem dX5_weigh_4 : decode cX5_weigh 4 = .ok (.iconst 0, 1) := by decide +kernel
theorem dX5_weigh_5 : decode cX5_weigh 5 = .ok (.lconst 0, 1) := by decide +kernel
theorem dX5_weigh_6 : decode cX5_weigh 6 = .ok (.lastore, 1) := by decide +kernel
theorem dX5_weigh_7 : decode cX5_weigh 7 = .ok (.lconst 1, 1) := by decide +kernel
theorem dX5_weigh_8 : decode cX5_weigh 8 = .ok (.lstore_n 3, 1) := by decide +kernel
theorem dX5_weigh_9 : decode cX5_weigh 9 = .ok (.iconst 1, 1) := by decide +kernel
theorem dX5_weigh_10 : decode cX5_weigh 10 = .ok (.istore 5, 2) := by decide +kernel
theorem dX5_weigh_12 : decode cX5_weigh 12 = .ok (.iload 5, 2) := by decide +kernel
theorem dX5_weigh_14 : decode cX5_weigh 14 = .ok (.aload_n 1, 1) := by decide +kernel
theorem dX5_weigh_15 : decode cX5_weigh 15 = .ok (.getfield 24, 3) := by decide +kernel
theorem dX5_weigh_18 : decode cX5_weigh 18 = .ok (.if_icmp .gt 98, 3) := by decide +kernel
theorem dX5_weigh_21 : decode cX5_weigh 21 = .ok (.aload_n 1, 1) := by decide +kernel
theorem dX5_weigh_22 : decode cX5_weigh 22 = .ok (.aload_n 1, 1) := by decide +kernel
theorem dX5_weigh_23 : decode cX5_weigh 23 = .ok (.iload 5, 2) := by decide +kernel
theorem dX5_weigh_25 : decode cX5_weigh 25 = .ok (.invokevirtual 28, 3) := by decide +kernel
theorem dX5_weigh_28 : decode cX5_weigh 28 = .ok (.invokevirtual 32, 3) := by decide +kernel
theorem dX5_weigh_31 : decode cX5_weigh 31 = .ok (.istore 6, 2) := by decide +kernel
theorem dX5_weigh_33 : decode cX5_weigh 33 = .ok (.aload_n 0, 1) := by decide +kernel
theorem dX5_weigh_34 : decode cX5_weigh 34 = .ok (.getfield 9, 3) := by decide +kernel
theorem dX5_weigh_37 : decode cX5_weigh 37 = .ok (.iload 5, 2) := by decide +kernel
theorem dX5_weigh_39 : decode cX5_weigh 39 = .ok (.bipush 16, 2) := by decide +kernel
theorem dX5_weigh_41 : decode cX5_weigh 41 = .ok (.aload_n 1, 1) := by decide +kernel
theorem dX5_weigh_42 : decode cX5_weigh 42 = .ok (.getfield 35, 3) := by decide +kernel
theorem dX5_weigh_45 : decode cX5_weigh 45 = .ok (.iload_n 2, 1) := by decide +kernel
theorem dX5_weigh_46 : decode cX5_weigh 46 = .ok (.iaload, 1) := by decide +kernel
theorem dX5_weigh_47 : decode cX5_weigh 47 = .ok (.isub, 1) := by decide +kernel
theorem dX5_weigh_48 : decode cX5_weigh 48 = .ok (.iload 6, 2) := by decide +kernel
theorem dX5_weigh_50 : decode cX5_weigh 50 = .ok (.imul, 1) := by decide +kernel
theorem dX5_weigh_51 : decode cX5_weigh 51 = .ok (.i2l, 1) := by decide +kernel
theorem dX5_weigh_52 : decode cX5_weigh 52 = .ok (.lload_n 3, 1) := by decide +kernel
theorem dX5_weigh_53 : decode cX5_weigh 53 = .ok (.lmul, 1) := by decide +kernel
theorem dX5_weigh_54 : decode cX5_weigh 54 = .ok (.lastore, 1) := by decide +kernel
theorem dX5_weigh_55 : decode cX5_weigh 55 = .ok (.aload_n 0, 1) := by decide +kernel
theorem dX5_weigh_56 : decode cX5_weigh 56 = .ok (.getfield 15, 3) := by decide +kernel
theorem dX5_weigh_59 : decode cX5_weigh 59 = .ok (.iload 5, 2) := by decide +kernel
theorem dX5_weigh_61 : decode cX5_weigh 61 = .ok (.bipush 16, 2) := by decide +kernel
theorem dX5_weigh_63 : decode cX5_weigh 63 = .ok (.aload_n 1, 1) := by decide +kernel
theorem dX5_weigh_64 : decode cX5_weigh 64 = .ok (.getfield 39, 3) := by decide +kernel
theorem dX5_weigh_67 : decode cX5_weigh 67 = .ok (.isub, 1) := by decide +kernel
theorem dX5_weigh_68 : decode cX5_weigh 68 = .ok (.i2l, 1) := by decide +kernel
theorem dX5_weigh_69 : decode cX5_weigh 69 = .ok (.aload_n 0, 1) := by decide +kernel
theorem dX5_weigh_70 : decode cX5_weigh 70 = .ok (.getfield 18, 3) := by decide +kernel
theorem dX5_weigh_73 : decode cX5_weigh 73 = .ok (.iload 5, 2) := by decide +kernel
theorem dX5_weigh_75 : decode cX5_weigh 75 = .ok (.iconst 1, 1) := by decide +kernel
theorem dX5_weigh_76 : decode cX5_weigh 76 = .ok (.isub, 1) := by decide +kernel
theorem dX5_weigh_77 : decode cX5_weigh 77 = .ok (.laload, 1) := by decide +kernel
theorem dX5_weigh_78 : decode cX5_weigh 78 = .ok (.lmul, 1) := by decide +kernel
theorem dX5_weigh_79 : decode cX5_weigh 79 = .ok (.lastore, 1) := by decide +kernel
theorem dX5_weigh_80 : decode cX5_weigh 80 = .ok (.aload_n 0, 1) := by decide +kernel
theorem dX5_weigh_81 : decode cX5_weigh 81 = .ok (.getfield 18, 3) := by decide +kernel
theorem dX5_weigh_84 : decode cX5_weigh 84 = .ok (.iload 5, 2) := by decide +kernel
theorem dX5_weigh_86 : decode cX5_weigh 86 = .ok (.aload_n 0, 1) := by decide +kernel
theorem dX5_weigh_87 : decode cX5_weigh 87 = .ok (.getfield 9, 3) := by decide +kernel
theorem dX5_weigh_90 : decode cX5_weigh 90 = .ok (.iload 5, 2) := by decide +kernel
theorem dX5_weigh_92 : decode cX5_weigh 92 = .ok (.laload, 1) := by decide +kernel
theorem dX5_weigh_93 : decode cX5_weigh 93 = .ok (.aload_n 0, 1) := by decide +kernel
theorem dX5_weigh_94 : decode cX5_weigh 94 = .ok (.getfield 15, 3) := by decide +kernel
theorem dX5_weigh_97 : decode cX5_weigh 97 = .ok (.iload 5, 2) := by decide +kernel
theorem dX5_weigh_99 : decode cX5_weigh 99 = .ok (.laload, 1) := by decide +kernel
theorem dX5_weigh_100 : decode cX5_weigh 100 = .ok (.invokestatic 42, 3) := by decide +kernel
theorem dX5_weigh_103 : decode cX5_weigh 103 = .ok (.lastore, 1) := by decide +kernel
theorem dX5_weigh_104 : decode cX5_weigh 104 = .ok (.lload_n 3, 1) := by decide +kernel
theorem dX5_weigh_105 : decode cX5_weigh 105 = .ok (.ldc2_w 48, 3) := by decide +kernel
theorem dX5_weigh_108 : decode cX5_weigh 108 = .ok (.lmul, 1) := by decide +kernel
theorem dX5_weigh_109 : decode cX5_weigh 109 = .ok (.lstore_n 3, 1) := by decide +kernel
theorem dX5_weigh_110 : decode cX5_weigh 110 = .ok (.iinc 5 1, 3) := by decide +kernel
theorem dX5_weigh_113 : decode cX5_weigh 113 = .ok (.goto (-101), 3) := by decide +kernel
theorem dX5_weigh_116 : decode cX5_weigh 116 = .ok (.return_, 1) := by decide +kernel
theorem dX5_firstPull_0 : decode cX5_firstPull 0 = .ok (.iload_n 1, 1) := by decide +kernel
theorem dX5_firstPull_1 : decode cX5_firstPull 1 = .ok (.istore_n 2, 1) := by decide +kernel
theorem dX5_firstPull_2 : decode cX5_firstPull 2 = .ok (.iload_n 2, 1) := by decide +kernel
theorem dX5_firstPull_3 : decode cX5_firstPull 3 = .ok (.iconst 1, 1) := by decide +kernel
theorem dX5_firstPull_4 : decode cX5_firstPull 4 = .ok (.if_icmp .le 27, 3) := by decide +kernel
theorem dX5_firstPull_7 : decode cX5_firstPull 7 = .ok (.aload_n 0, 1) := by decide +kernel
theorem dX5_firstPull_8 : decode cX5_firstPull 8 = .ok (.getfield 9, 3) := by decide +kernel
theorem dX5_firstPull_11 : decode cX5_firstPull 11 = .ok (.iload_n 2, 1) := by decide +kernel
theorem dX5_firstPull_12 : decode cX5_firstPull 12 = .ok (.laload, 1) := by decide +kernel
theorem dX5_firstPull_13 : decode cX5_firstPull 13 = .ok (.aload_n 0, 1) := by decide +kernel
theorem dX5_firstPull_14 : decode cX5_firstPull 14 = .ok (.getfield 15, 3) := by decide +kernel
theorem dX5_firstPull_17 : decode cX5_firstPull 17 = .ok (.iload_n 2, 1) := by decide +kernel
theorem dX5_firstPull_18 : decode cX5_firstPull 18 = .ok (.laload, 1) := by decide +kernel
theorem dX5_firstPull_19 : decode cX5_firstPull 19 = .ok (.lcmp, 1) := by decide +kernel
theorem dX5_firstPull_20 : decode cX5_firstPull 20 = .ok (.ifCond .lt 5, 3) := by decide +kernel
theorem dX5_firstPull_23 : decode cX5_firstPull 23 = .ok (.iload_n 2, 1) := by decide +kernel
theorem dX5_firstPull_24 : decode cX5_firstPull 24 = .ok (.ireturn, 1) := by decide +kernel
theorem dX5_firstPull_25 : decode cX5_firstPull 25 = .ok (.iinc 2 (-1), 3) := by decide +kernel
theorem dX5_firstPull_28 : decode cX5_firstPull 28 = .ok (.goto (-26), 3) := by decide +kernel
theorem dX5_firstPull_31 : decode cX5_firstPull 31 = .ok (.iconst 1, 1) := by decide +kernel
theorem dX5_firstPull_32 : decode cX5_firstPull 32 = .ok (.ireturn, 1) := by decide +kernel
theorem dX5_holding_0 : decode cX5_holding 0 = .ok (.aload_n 0, 1) := by decide +kernel
theorem dX5_holding_1 : decode cX5_holding 1 = .ok (.getfield 21, 3) := by decide +kernel
theorem dX5_holding_4 : decode cX5_holding 4 = .ok (.iconst 0, 1) := by decide +kernel
theorem dX5_holding_5 : decode cX5_holding 5 = .ok (.lconst 1, 1) := by decide +kernel
theorem dX5_holding_6 : decode cX5_holding 6 = .ok (.lastore, 1) := by decide +kernel
theorem dX5_holding_7 : decode cX5_holding 7 = .ok (.iconst 0, 1) := by decide +kernel
theorem dX5_holding_8 : decode cX5_holding 8 = .ok (.istore_n 3, 1) := by decide +kernel
theorem dX5_holding_9 : decode cX5_holding 9 = .ok (.iload_n 3, 1) := by decide +kernel
theorem dX5_holding_10 : decode cX5_holding 10 = .ok (.aload_n 1, 1) := by decide +kernel
theorem dX5_holding_11 : decode cX5_holding 11 = .ok (.getfield 50, 3) := by decide +kernel
theorem dX5_holding_14 : decode cX5_holding 14 = .ok (.if_icmp .ge 99, 3) := by decide +kernel
theorem dX5_holding_17 : decode cX5_holding 17 = .ok (.aload_n 1, 1) := by decide +kernel
theorem dX5_holding_18 : decode cX5_holding 18 = .ok (.getfield 35, 3) := by decide +kernel
theorem dX5_holding_21 : decode cX5_holding 21 = .ok (.iload_n 3, 1) := by decide +kernel
theorem dX5_holding_22 : decode cX5_holding 22 = .ok (.iaload, 1) := by decide +kernel
theorem dX5_holding_23 : decode cX5_holding 23 = .ok (.istore 4, 2) := by decide +kernel
theorem dX5_holding_25 : decode cX5_holding 25 = .ok (.aload_n 0, 1) := by decide +kernel
theorem dX5_holding_26 : decode cX5_holding 26 = .ok (.getfield 21, 3) := by decide +kernel
theorem dX5_holding_29 : decode cX5_holding 29 = .ok (.iload_n 3, 1) := by decide +kernel
theorem dX5_holding_30 : decode cX5_holding 30 = .ok (.iconst 1, 1) := by decide +kernel
theorem dX5_holding_31 : decode cX5_holding 31 = .ok (.iadd, 1) := by decide +kernel
theorem dX5_holding_32 : decode cX5_holding 32 = .ok (.aload_n 0, 1) := by decide +kernel
theorem dX5_holding_33 : decode cX5_holding 33 = .ok (.getfield 21, 3) := by decide +kernel
theorem dX5_holding_36 : decode cX5_holding 36 = .ok (.iload_n 3, 1) := by decide +kernel
theorem dX5_holding_37 : decode cX5_holding 37 = .ok (.laload, 1) := by decide +kernel
theorem dX5_holding_38 : decode cX5_holding 38 = .ok (.bipush 16, 2) := by decide +kernel
theorem dX5_holding_40 : decode cX5_holding 40 = .ok (.iload 4, 2) := by decide +kernel
theorem dX5_holding_42 : decode cX5_holding 42 = .ok (.isub, 1) := by decide +kernel
theorem dX5_holding_43 : decode cX5_holding 43 = .ok (.i2l, 1) := by decide +kernel
theorem dX5_holding_44 : decode cX5_holding 44 = .ok (.lmul, 1) := by decide +kernel
theorem dX5_holding_45 : decode cX5_holding 45 = .ok (.lastore, 1) := by decide +kernel
theorem dX5_holding_46 : decode cX5_holding 46 = .ok (.iload_n 3, 1) := by decide +kernel
theorem dX5_holding_47 : decode cX5_holding 47 = .ok (.istore 5, 2) := by decide +kernel
theorem dX5_holding_49 : decode cX5_holding 49 = .ok (.iload 5, 2) := by decide +kernel
theorem dX5_holding_51 : decode cX5_holding 51 = .ok (.ifCond .le 44, 3) := by decide +kernel
theorem dX5_holding_54 : decode cX5_holding 54 = .ok (.aload_n 0, 1) := by decide +kernel
theorem dX5_holding_55 : decode cX5_holding 55 = .ok (.getfield 21, 3) := by decide +kernel
theorem dX5_holding_58 : decode cX5_holding 58 = .ok (.iload 5, 2) := by decide +kernel
theorem dX5_holding_60 : decode cX5_holding 60 = .ok (.aload_n 0, 1) := by decide +kernel
theorem dX5_holding_61 : decode cX5_holding 61 = .ok (.getfield 21, 3) := by decide +kernel
theorem dX5_holding_64 : decode cX5_holding 64 = .ok (.iload 5, 2) := by decide +kernel
theorem dX5_holding_66 : decode cX5_holding 66 = .ok (.laload, 1) := by decide +kernel
theorem dX5_holding_67 : decode cX5_holding 67 = .ok (.iload 4, 2) := by decide +kernel
theorem dX5_holding_69 : decode cX5_holding 69 = .ok (.i2l, 1) := by decide +kernel
theorem dX5_holding_70 : decode cX5_holding 70 = .ok (.lmul, 1) := by decide +kernel
theorem dX5_holding_71 : decode cX5_holding 71 = .ok (.aload_n 0, 1) := by decide +kernel
theorem dX5_holding_72 : decode cX5_holding 72 = .ok (.getfield 21, 3) := by decide +kernel
theorem dX5_holding_75 : decode cX5_holding 75 = .ok (.iload 5, 2) := by decide +kernel
theorem dX5_holding_77 : decode cX5_holding 77 = .ok (.iconst 1, 1) := by decide +kernel
theorem dX5_holding_78 : decode cX5_holding 78 = .ok (.isub, 1) := by decide +kernel
theorem dX5_holding_79 : decode cX5_holding 79 = .ok (.laload, 1) := by decide +kernel
theorem dX5_holding_80 : decode cX5_holding 80 = .ok (.bipush 16, 2) := by decide +kernel
theorem dX5_holding_82 : decode cX5_holding 82 = .ok (.iload 4, 2) := by decide +kernel
theorem dX5_holding_84 : decode cX5_holding 84 = .ok (.isub, 1) := by decide +kernel
theorem dX5_holding_85 : decode cX5_holding 85 = .ok (.i2l, 1) := by decide +kernel
theorem dX5_holding_86 : decode cX5_holding 86 = .ok (.lmul, 1) := by decide +kernel
theorem dX5_holding_87 : decode cX5_holding 87 = .ok (.ladd, 1) := by decide +kernel
theorem dX5_holding_88 : decode cX5_holding 88 = .ok (.lastore, 1) := by decide +kernel
theorem dX5_holding_89 : decode cX5_holding 89 = .ok (.iinc 5 (-1), 3) := by decide +kernel
theorem dX5_holding_92 : decode cX5_holding 92 = .ok (.goto (-43), 3) := by decide +kernel
theorem dX5_holding_95 : decode cX5_holding 95 = .ok (.aload_n 0, 1) := by decide +kernel
theorem dX5_holding_96 : decode cX5_holding 96 = .ok (.getfield 21, 3) := by decide +kernel
theorem dX5_holding_99 : decode cX5_holding 99 = .ok (.iconst 0, 1) := by decide +kernel
theorem dX5_holding_100 : decode cX5_holding 100 = .ok (.dup2, 1) := by decide +kernel
theorem dX5_holding_101 : decode cX5_holding 101 = .ok (.laload, 1) := by decide +kernel
theorem dX5_holding_102 : decode cX5_holding 102 = .ok (.iload 4, 2) := by decide +kernel
theorem dX5_holding_104 : decode cX5_holding 104 = .ok (.i2l, 1) := by decide +kernel
theorem dX5_holding_105 : decode cX5_holding 105 = .ok (.lmul, 1) := by decide +kernel
theorem dX5_holding_106 : decode cX5_holding 106 = .ok (.lastore, 1) := by decide +kernel
theorem dX5_holding_107 : decode cX5_holding 107 = .ok (.iinc 3 1, 3) := by decide +kernel
theorem dX5_holding_110 : decode cX5_holding 110 = .ok (.goto (-101), 3) := by decide +kernel
theorem dX5_holding_113 : decode cX5_holding 113 = .ok (.lconst 0, 1) := by decide +kernel
theorem dX5_holding_114 : decode cX5_holding 114 = .ok (.lstore_n 3, 1) := by decide +kernel
theorem dX5_holding_115 : decode cX5_holding 115 = .ok (.iload_n 2, 1) := by decide +kernel
theorem dX5_holding_116 : decode cX5_holding 116 = .ok (.istore 5, 2) := by decide +kernel
theorem dX5_holding_118 : decode cX5_holding 118 = .ok (.iload 5, 2) := by decide +kernel
theorem dX5_holding_120 : decode cX5_holding 120 = .ok (.aload_n 1, 1) := by decide +kernel
theorem dX5_holding_121 : decode cX5_holding 121 = .ok (.getfield 50, 3) := by decide +kernel
theorem dX5_holding_124 : decode cX5_holding 124 = .ok (.if_icmp .gt 19, 3) := by decide +kernel
theorem dX5_holding_127 : decode cX5_holding 127 = .ok (.lload_n 3, 1) := by decide +kernel
theorem dX5_holding_128 : decode cX5_holding 128 = .ok (.aload_n 0, 1) := by decide +kernel
theorem dX5_holding_129 : decode cX5_holding 129 = .ok (.getfield 21, 3) := by decide +kernel
theorem dX5_holding_132 : decode cX5_holding 132 = .ok (.iload 5, 2) := by decide +kernel
theorem dX5_holding_134 : decode cX5_holding 134 = .ok (.laload, 1) := by decide +kernel
theorem dX5_holding_135 : decode cX5_holding 135 = .ok (.ladd, 1) := by decide +kernel
theorem dX5_holding_136 : decode cX5_holding 136 = .ok (.lstore_n 3, 1) := by decide +kernel
theorem dX5_holding_137 : decode cX5_holding 137 = .ok (.iinc 5 1, 3) := by decide +kernel
theorem dX5_holding_140 : decode cX5_holding 140 = .ok (.goto (-22), 3) := by decide +kernel
theorem dX5_holding_143 : decode cX5_holding 143 = .ok (.lload_n 3, 1) := by decide +kernel
theorem dX5_holding_144 : decode cX5_holding 144 = .ok (.lreturn, 1) := by decide +kernel
theorem dX7_copyFrom_0 : decode cX7_copyFrom 0 = .ok (.aload_n 0, 1) := by decide +kernel
theorem dX7_copyFrom_1 : decode cX7_copyFrom 1 = .ok (.aload_n 1, 1) := by decide +kernel
theorem dX7_copyFrom_2 : decode cX7_copyFrom 2 = .ok (.getfield 11, 3) := by decide +kernel
theorem dX7_copyFrom_5 : decode cX7_copyFrom 5 = .ok (.putfield 11, 3) := by decide +kernel
theorem dX7_copyFrom_8 : decode cX7_copyFrom 8 = .ok (.aload_n 0, 1) := by decide +kernel
theorem dX7_copyFrom_9 : decode cX7_copyFrom 9 = .ok (.aload_n 1, 1) := by decide +kernel
theorem dX7_copyFrom_10 : decode cX7_copyFrom 10 = .ok (.getfield 47, 3) := by decide +kernel
theorem dX7_copyFrom_13 : decode cX7_copyFrom 13 = .ok (.putfield 47, 3) := by decide +kernel
theorem dX7_copyFrom_16 : decode cX7_copyFrom 16 = .ok (.aload_n 0, 1) := by decide +kernel
theorem dX7_copyFrom_17 : decode cX7_copyFrom 17 = .ok (.aload_n 1, 1) := by decide +kernel
theorem dX7_copyFrom_18 : decode cX7_copyFrom 18 = .ok (.getfield 50, 3) := by decide +kernel
theorem dX7_copyFrom_21 : decode cX7_copyFrom 21 = .ok (.putfield 50, 3) := by decide +kernel
theorem dX7_copyFrom_24 : decode cX7_copyFrom 24 = .ok (.aload_n 0, 1) := by decide +kernel
theorem dX7_copyFrom_25 : decode cX7_copyFrom 25 = .ok (.aload_n 1, 1) := by decide +kernel
theorem dX7_copyFrom_26 : decode cX7_copyFrom 26 = .ok (.getfield 53, 3) := by decide +kernel
theorem dX7_copyFrom_29 : decode cX7_copyFrom 29 = .ok (.putfield 53, 3) := by decide +kernel
theorem dX7_copyFrom_32 : decode cX7_copyFrom 32 = .ok (.aload_n 0, 1) := by decide +kernel
theorem dX7_copyFrom_33 : decode cX7_copyFrom 33 = .ok (.aload_n 1, 1) := by decide +kernel
theorem dX7_copyFrom_34 : decode cX7_copyFrom 34 = .ok (.getfield 56, 3) := by decide +kernel
theorem dX7_copyFrom_37 : decode cX7_copyFrom 37 = .ok (.putfield 56, 3) := by decide +kernel
theorem dX7_copyFrom_40 : decode cX7_copyFrom 40 = .ok (.aload_n 0, 1) := by decide +kernel
theorem dX7_copyFrom_41 : decode cX7_copyFrom 41 = .ok (.aload_n 1, 1) := by decide +kernel
theorem dX7_copyFrom_42 : decode cX7_copyFrom 42 = .ok (.getfield 59, 3) := by decide +kernel
theorem dX7_copyFrom_45 : decode cX7_copyFrom 45 = .ok (.putfield 59, 3) := by decide +kernel
theorem dX7_copyFrom_48 : decode cX7_copyFrom 48 = .ok (.aload_n 0, 1) := by decide +kernel
theorem dX7_copyFrom_49 : decode cX7_copyFrom 49 = .ok (.aload_n 1, 1) := by decide +kernel
theorem dX7_copyFrom_50 : decode cX7_copyFrom 50 = .ok (.getfield 62, 3) := by decide +kernel
theorem dX7_copyFrom_53 : decode cX7_copyFrom 53 = .ok (.putfield 62, 3) := by decide +kernel
theorem dX7_copyFrom_56 : decode cX7_copyFrom 56 = .ok (.aload_n 0, 1) := by decide +kernel
theorem dX7_copyFrom_57 : decode cX7_copyFrom 57 = .ok (.aload_n 1, 1) := by decide +kernel
theorem dX7_copyFrom_58 : decode cX7_copyFrom 58 = .ok (.getfield 65, 3) := by decide +kernel
theorem dX7_copyFrom_61 : decode cX7_copyFrom 61 = .ok (.putfield 65, 3) := by decide +kernel
theorem dX7_copyFrom_64 : decode cX7_copyFrom 64 = .ok (.aload_n 1, 1) := by decide +kernel
theorem dX7_copyFrom_65 : decode cX7_copyFrom 65 = .ok (.getfield 15, 3) := by decide +kernel
theorem dX7_copyFrom_68 : decode cX7_copyFrom 68 = .ok (.iconst 0, 1) := by decide +kernel
theorem dX7_copyFrom_69 : decode cX7_copyFrom 69 = .ok (.aload_n 0, 1) := by decide +kernel
theorem dX7_copyFrom_70 : decode cX7_copyFrom 70 = .ok (.getfield 15, 3) := by decide +kernel
theorem dX7_copyFrom_73 : decode cX7_copyFrom 73 = .ok (.iconst 0, 1) := by decide +kernel
theorem dX7_copyFrom_74 : decode cX7_copyFrom 74 = .ok (.bipush 9, 2) := by decide +kernel
theorem dX7_copyFrom_76 : decode cX7_copyFrom 76 = .ok (.invokestatic 68, 3) := by decide +kernel
theorem dX7_copyFrom_79 : decode cX7_copyFrom 79 = .ok (.aload_n 1, 1) := by decide +kernel
theorem dX7_copyFrom_80 : decode cX7_copyFrom 80 = .ok (.getfield 19, 3) := by decide +kernel
theorem dX7_copyFrom_83 : decode cX7_copyFrom 83 = .ok (.iconst 0, 1) := by decide +kernel
theorem dX7_copyFrom_84 : decode cX7_copyFrom 84 = .ok (.aload_n 0, 1) := by decide +kernel
theorem dX7_copyFrom_85 : decode cX7_copyFrom 85 = .ok (.getfield 19, 3) := by decide +kernel
theorem dX7_copyFrom_88 : decode cX7_copyFrom 88 = .ok (.iconst 0, 1) := by decide +kernel
theorem dX7_copyFrom_89 : decode cX7_copyFrom 89 = .ok (.bipush 9, 2) := by decide +kernel
theorem dX7_copyFrom_91 : decode cX7_copyFrom 91 = .ok (.invokestatic 68, 3) := by decide +kernel
theorem dX7_copyFrom_94 : decode cX7_copyFrom 94 = .ok (.aload_n 1, 1) := by decide +kernel
theorem dX7_copyFrom_95 : decode cX7_copyFrom 95 = .ok (.getfield 22, 3) := by decide +kernel
theorem dX7_copyFrom_98 : decode cX7_copyFrom 98 = .ok (.iconst 0, 1) := by decide +kernel
theorem dX7_copyFrom_99 : decode cX7_copyFrom 99 = .ok (.aload_n 0, 1) := by decide +kernel
theorem dX7_copyFrom_100 : decode cX7_copyFrom 100 = .ok (.getfield 22, 3) := by decide +kernel
theorem dX7_copyFrom_103 : decode cX7_copyFrom 103 = .ok (.iconst 0, 1) := by decide +kernel
theorem dX7_copyFrom_104 : decode cX7_copyFrom 104 = .ok (.bipush 8, 2) := by decide +kernel
theorem dX7_copyFrom_106 : decode cX7_copyFrom 106 = .ok (.invokestatic 68, 3) := by decide +kernel
theorem dX7_copyFrom_109 : decode cX7_copyFrom 109 = .ok (.aload_n 1, 1) := by decide +kernel
theorem dX7_copyFrom_110 : decode cX7_copyFrom 110 = .ok (.getfield 25, 3) := by decide +kernel
theorem dX7_copyFrom_113 : decode cX7_copyFrom 113 = .ok (.iconst 0, 1) := by decide +kernel
theorem dX7_copyFrom_114 : decode cX7_copyFrom 114 = .ok (.aload_n 0, 1) := by decide +kernel
theorem dX7_copyFrom_115 : decode cX7_copyFrom 115 = .ok (.getfield 25, 3) := by decide +kernel
theorem dX7_copyFrom_118 : decode cX7_copyFrom 118 = .ok (.iconst 0, 1) := by decide +kernel
theorem dX7_copyFrom_119 : decode cX7_copyFrom 119 = .ok (.bipush 8, 2) := by decide +kernel
theorem dX7_copyFrom_121 : decode cX7_copyFrom 121 = .ok (.invokestatic 68, 3) := by decide +kernel
theorem dX7_copyFrom_124 : decode cX7_copyFrom 124 = .ok (.aload_n 1, 1) := by decide +kernel
theorem dX7_copyFrom_125 : decode cX7_copyFrom 125 = .ok (.getfield 28, 3) := by decide +kernel
theorem dX7_copyFrom_128 : decode cX7_copyFrom 128 = .ok (.iconst 0, 1) := by decide +kernel
theorem dX7_copyFrom_129 : decode cX7_copyFrom 129 = .ok (.aload_n 0, 1) := by decide +kernel
theorem dX7_copyFrom_130 : decode cX7_copyFrom 130 = .ok (.getfield 28, 3) := by decide +kernel
theorem dX7_copyFrom_133 : decode cX7_copyFrom 133 = .ok (.iconst 0, 1) := by decide +kernel
theorem dX7_copyFrom_134 : decode cX7_copyFrom 134 = .ok (.bipush 6, 2) := by decide +kernel
theorem dX7_copyFrom_136 : decode cX7_copyFrom 136 = .ok (.invokestatic 68, 3) := by decide +kernel
theorem dX7_copyFrom_139 : decode cX7_copyFrom 139 = .ok (.aload_n 1, 1) := by decide +kernel
theorem dX7_copyFrom_140 : decode cX7_copyFrom 140 = .ok (.getfield 31, 3) := by decide +kernel
theorem dX7_copyFrom_143 : decode cX7_copyFrom 143 = .ok (.iconst 0, 1) := by decide +kernel
theorem dX7_copyFrom_144 : decode cX7_copyFrom 144 = .ok (.aload_n 0, 1) := by decide +kernel
theorem dX7_copyFrom_145 : decode cX7_copyFrom 145 = .ok (.getfield 31, 3) := by decide +kernel
theorem dX7_copyFrom_148 : decode cX7_copyFrom 148 = .ok (.iconst 0, 1) := by decide +kernel
theorem dX7_copyFrom_149 : decode cX7_copyFrom 149 = .ok (.bipush 6, 2) := by decide +kernel
theorem dX7_copyFrom_151 : decode cX7_copyFrom 151 = .ok (.invokestatic 68, 3) := by decide +kernel
theorem dX7_copyFrom_154 : decode cX7_copyFrom 154 = .ok (.aload_n 1, 1) := by decide +kernel
theorem dX7_copyFrom_155 : decode cX7_copyFrom 155 = .ok (.getfield 34, 3) := by decide +kernel
theorem dX7_copyFrom_158 : decode cX7_copyFrom 158 = .ok (.iconst 0, 1) := by decide +kernel
theorem dX7_copyFrom_159 : decode cX7_copyFrom 159 = .ok (.aload_n 0, 1) := by decide +kernel
theorem dX7_copyFrom_160 : decode cX7_copyFrom 160 = .ok (.getfield 34, 3) := by decide +kernel
theorem dX7_copyFrom_163 : decode cX7_copyFrom 163 = .ok (.iconst 0, 1) := by decide +kernel
theorem dX7_copyFrom_164 : decode cX7_copyFrom 164 = .ok (.bipush 6, 2) := by decide +kernel
theorem dX7_copyFrom_166 : decode cX7_copyFrom 166 = .ok (.invokestatic 68, 3) := by decide +kernel
theorem dX7_copyFrom_169 : decode cX7_copyFrom 169 = .ok (.aload_n 1, 1) := by decide +kernel
theorem dX7_copyFrom_170 : decode cX7_copyFrom 170 = .ok (.getfield 37, 3) := by decide +kernel
theorem dX7_copyFrom_173 : decode cX7_copyFrom 173 = .ok (.iconst 0, 1) := by decide +kernel
theorem dX7_copyFrom_174 : decode cX7_copyFrom 174 = .ok (.aload_n 0, 1) := by decide +kernel
theorem dX7_copyFrom_175 : decode cX7_copyFrom 175 = .ok (.getfield 37, 3) := by decide +kernel
theorem dX7_copyFrom_178 : decode cX7_copyFrom 178 = .ok (.iconst 0, 1) := by decide +kernel
theorem dX7_copyFrom_179 : decode cX7_copyFrom 179 = .ok (.bipush 10, 2) := by decide +kernel
theorem dX7_copyFrom_181 : decode cX7_copyFrom 181 = .ok (.invokestatic 68, 3) := by decide +kernel
theorem dX7_copyFrom_184 : decode cX7_copyFrom 184 = .ok (.aload_n 1, 1) := by decide +kernel
theorem dX7_copyFrom_185 : decode cX7_copyFrom 185 = .ok (.getfield 40, 3) := by decide +kernel
theorem dX7_copyFrom_188 : decode cX7_copyFrom 188 = .ok (.iconst 0, 1) := by decide +kernel
theorem dX7_copyFrom_189 : decode cX7_copyFrom 189 = .ok (.aload_n 0, 1) := by decide +kernel
theorem dX7_copyFrom_190 : decode cX7_copyFrom 190 = .ok (.getfield 40, 3) := by decide +kernel
theorem dX7_copyFrom_193 : decode cX7_copyFrom 193 = .ok (.iconst 0, 1) := by decide +kernel
theorem dX7_copyFrom_194 : decode cX7_copyFrom 194 = .ok (.bipush 10, 2) := by decide +kernel
theorem dX7_copyFrom_196 : decode cX7_copyFrom 196 = .ok (.invokestatic 68, 3) := by decide +kernel
theorem dX7_copyFrom_199 : decode cX7_copyFrom 199 = .ok (.aload_n 1, 1) := by decide +kernel
theorem dX7_copyFrom_200 : decode cX7_copyFrom 200 = .ok (.getfield 43, 3) := by decide +kernel
theorem dX7_copyFrom_203 : decode cX7_copyFrom 203 = .ok (.iconst 0, 1) := by decide +kernel
theorem dX7_copyFrom_204 : decode cX7_copyFrom 204 = .ok (.aload_n 0, 1) := by decide +kernel
theorem dX7_copyFrom_205 : decode cX7_copyFrom 205 = .ok (.getfield 43, 3) := by decide +kernel
theorem dX7_copyFrom_208 : decode cX7_copyFrom 208 = .ok (.iconst 0, 1) := by decide +kernel
theorem dX7_copyFrom_209 : decode cX7_copyFrom 209 = .ok (.bipush 23, 2) := by decide +kernel
theorem dX7_copyFrom_211 : decode cX7_copyFrom 211 = .ok (.invokestatic 68, 3) := by decide +kernel
theorem dX7_copyFrom_214 : decode cX7_copyFrom 214 = .ok (.return_, 1) := by decide +kernel
theorem dX6_copyFrom_0 : decode cX6_copyFrom 0 = .ok (.aload_n 0, 1) := by decide +kernel
theorem dX6_copyFrom_1 : decode cX6_copyFrom 1 = .ok (.getfield 10, 3) := by decide +kernel
theorem dX6_copyFrom_4 : decode cX6_copyFrom 4 = .ok (.aload_n 1, 1) := by decide +kernel
theorem dX6_copyFrom_5 : decode cX6_copyFrom 5 = .ok (.getfield 10, 3) := by decide +kernel
theorem dX6_copyFrom_8 : decode cX6_copyFrom 8 = .ok (.invokevirtual 23, 3) := by decide +kernel
theorem dX6_copyFrom_11 : decode cX6_copyFrom 11 = .ok (.aload_n 0, 1) := by decide +kernel
theorem dX6_copyFrom_12 : decode cX6_copyFrom 12 = .ok (.getfield 19, 3) := by decide +kernel
theorem dX6_copyFrom_15 : decode cX6_copyFrom 15 = .ok (.aload_n 1, 1) := by decide +kernel
theorem dX6_copyFrom_16 : decode cX6_copyFrom 16 = .ok (.getfield 19, 3) := by decide +kernel
theorem dX6_copyFrom_19 : decode cX6_copyFrom 19 = .ok (.invokevirtual 27, 3) := by decide +kernel
theorem dX6_copyFrom_22 : decode cX6_copyFrom 22 = .ok (.return_, 1) := by decide +kernel
theorem dX7_clear_0 : decode cX7_clear 0 = .ok (.aload_n 0, 1) := by decide +kernel
theorem dX7_clear_1 : decode cX7_clear 1 = .ok (.iconst 4, 1) := by decide +kernel
theorem dX7_clear_2 : decode cX7_clear 2 = .ok (.putfield 11, 3) := by decide +kernel
theorem dX7_clear_5 : decode cX7_clear 5 = .ok (.aload_n 0, 1) := by decide +kernel
theorem dX7_clear_6 : decode cX7_clear 6 = .ok (.iconst 0, 1) := by decide +kernel
theorem dX7_clear_7 : decode cX7_clear 7 = .ok (.putfield 47, 3) := by decide +kernel
theorem dX7_clear_10 : decode cX7_clear 10 = .ok (.aload_n 0, 1) := by decide +kernel
theorem dX7_clear_11 : decode cX7_clear 11 = .ok (.iconst 0, 1) := by decide +kernel
theorem dX7_clear_12 : decode cX7_clear 12 = .ok (.putfield 50, 3) := by decide +kernel
theorem dX7_clear_15 : decode cX7_clear 15 = .ok (.aload_n 0, 1) := by decide +kernel
theorem dX7_clear_16 : decode cX7_clear 16 = .ok (.iconst 0, 1) := by decide +kernel
theorem dX7_clear_17 : decode cX7_clear 17 = .ok (.putfield 53, 3) := by decide +kernel
theorem dX7_clear_20 : decode cX7_clear 20 = .ok (.aload_n 0, 1) := by decide +kernel
theorem dX7_clear_21 : decode cX7_clear 21 = .ok (.iconst 0, 1) := by decide +kernel
theorem dX7_clear_22 : decode cX7_clear 22 = .ok (.putfield 56, 3) := by decide +kernel
theorem dX7_clear_25 : decode cX7_clear 25 = .ok (.aload_n 0, 1) := by decide +kernel
theorem dX7_clear_26 : decode cX7_clear 26 = .ok (.iconst 0, 1) := by decide +kernel
theorem dX7_clear_27 : decode cX7_clear 27 = .ok (.putfield 59, 3) := by decide +kernel
theorem dX7_clear_30 : decode cX7_clear 30 = .ok (.aload_n 0, 1) := by decide +kernel
theorem dX7_clear_31 : decode cX7_clear 31 = .ok (.iconst 0, 1) := by decide +kernel
theorem dX7_clear_32 : decode cX7_clear 32 = .ok (.putfield 62, 3) := by decide +kernel
theorem dX7_clear_35 : decode cX7_clear 35 = .ok (.aload_n 0, 1) := by decide +kernel
theorem dX7_clear_36 : decode cX7_clear 36 = .ok (.iconst 0, 1) := by decide +kernel
theorem dX7_clear_37 : decode cX7_clear 37 = .ok (.putfield 65, 3) := by decide +kernel
theorem dX7_clear_40 : decode cX7_clear 40 = .ok (.iconst 0, 1) := by decide +kernel
theorem dX7_clear_41 : decode cX7_clear 41 = .ok (.istore_n 1, 1) := by decide +kernel
theorem dX7_clear_42 : decode cX7_clear 42 = .ok (.iload_n 1, 1) := by decide +kernel
theorem dX7_clear_43 : decode cX7_clear 43 = .ok (.bipush 23, 2) := by decide +kernel
theorem dX7_clear_45 : decode cX7_clear 45 = .ok (.if_icmp .ge 16, 3) := by decide +kernel
theorem dX7_clear_48 : decode cX7_clear 48 = .ok (.aload_n 0, 1) := by decide +kernel
theorem dX7_clear_49 : decode cX7_clear 49 = .ok (.getfield 43, 3) := by decide +kernel
theorem dX7_clear_52 : decode cX7_clear 52 = .ok (.iload_n 1, 1) := by decide +kernel
theorem dX7_clear_53 : decode cX7_clear 53 = .ok (.lconst 0, 1) := by decide +kernel
theorem dX7_clear_54 : decode cX7_clear 54 = .ok (.lastore, 1) := by decide +kernel
theorem dX7_clear_55 : decode cX7_clear 55 = .ok (.iinc 1 1, 3) := by decide +kernel
theorem dX7_clear_58 : decode cX7_clear 58 = .ok (.goto (-16), 3) := by decide +kernel
theorem dX7_clear_61 : decode cX7_clear 61 = .ok (.return_, 1) := by decide +kernel
theorem dX7_isTopic_0 : decode cX7_isTopic 0 = .ok (.iload_n 1, 1) := by decide +kernel
theorem dX7_isTopic_1 : decode cX7_isTopic 1 = .ok (.ifCond .lt 15, 3) := by decide +kernel
theorem dX7_isTopic_4 : decode cX7_isTopic 4 = .ok (.iload_n 1, 1) := by decide +kernel
theorem dX7_isTopic_5 : decode cX7_isTopic 5 = .ok (.aload_n 0, 1) := by decide +kernel
theorem dX7_isTopic_6 : decode cX7_isTopic 6 = .ok (.getfield 47, 3) := by decide +kernel
theorem dX7_isTopic_9 : decode cX7_isTopic 9 = .ok (.if_icmp .ge 7, 3) := by decide +kernel
theorem dX7_isTopic_12 : decode cX7_isTopic 12 = .ok (.iconst 1, 1) := by decide +kernel
theorem dX7_isTopic_13 : decode cX7_isTopic 13 = .ok (.goto 4, 3) := by decide +kernel
theorem dX7_isTopic_16 : decode cX7_isTopic 16 = .ok (.iconst 0, 1) := by decide +kernel
theorem dX7_isTopic_17 : decode cX7_isTopic 17 = .ok (.ireturn, 1) := by decide +kernel
theorem dX7_isHeight_0 : decode cX7_isHeight 0 = .ok (.iload_n 1, 1) := by decide +kernel
theorem dX7_isHeight_1 : decode cX7_isHeight 1 = .ok (.ifCond .lt 15, 3) := by decide +kernel
theorem dX7_isHeight_4 : decode cX7_isHeight 4 = .ok (.iload_n 1, 1) := by decide +kernel
theorem dX7_isHeight_5 : decode cX7_isHeight 5 = .ok (.aload_n 0, 1) := by decide +kernel
theorem dX7_isHeight_6 : decode cX7_isHeight 6 = .ok (.getfield 47, 3) := by decide +kernel
theorem dX7_isHeight_9 : decode cX7_isHeight 9 = .ok (.if_icmp .gt 7, 3) := by decide +kernel
theorem dX7_isHeight_12 : decode cX7_isHeight 12 = .ok (.iconst 1, 1) := by decide +kernel
theorem dX7_isHeight_13 : decode cX7_isHeight 13 = .ok (.goto 4, 3) := by decide +kernel
theorem dX7_isHeight_16 : decode cX7_isHeight 16 = .ok (.iconst 0, 1) := by decide +kernel
theorem dX7_isHeight_17 : decode cX7_isHeight 17 = .ok (.ireturn, 1) := by decide +kernel
theorem dX7_isClaim_0 : decode cX7_isClaim 0 = .ok (.iload_n 1, 1) := by decide +kernel
theorem dX7_isClaim_1 : decode cX7_isClaim 1 = .ok (.ifCond .lt 15, 3) := by decide +kernel
theorem dX7_isClaim_4 : decode cX7_isClaim 4 = .ok (.iload_n 1, 1) := by decide +kernel
theorem dX7_isClaim_5 : decode cX7_isClaim 5 = .ok (.aload_n 0, 1) := by decide +kernel
theorem dX7_isClaim_6 : decode cX7_isClaim 6 = .ok (.getfield 50, 3) := by decide +kernel
theorem dX7_isClaim_9 : decode cX7_isClaim 9 = .ok (.if_icmp .ge 7, 3) := by decide +kernel
theorem dX7_isClaim_12 : decode cX7_isClaim 12 = .ok (.iconst 1, 1) := by decide +kernel
theorem dX7_isClaim_13 : decode cX7_isClaim 13 = .ok (.goto 4, 3) := by decide +kernel
theorem dX7_isClaim_16 : decode cX7_isClaim 16 = .ok (.iconst 0, 1) := by decide +kernel
theorem dX7_isClaim_17 : decode cX7_isClaim 17 = .ok (.ireturn, 1) := by decide +kernel
theorem dX7_isTalker_0 : decode cX7_isTalker 0 = .ok (.iload_n 1, 1) := by decide +kernel
theorem dX7_isTalker_1 : decode cX7_isTalker 1 = .ok (.ifCond .lt 15, 3) := by decide +kernel
theorem dX7_isTalker_4 : decode cX7_isTalker 4 = .ok (.iload_n 1, 1) := by decide +kernel
theorem dX7_isTalker_5 : decode cX7_isTalker 5 = .ok (.aload_n 0, 1) := by decide +kernel
theorem dX7_isTalker_6 : decode cX7_isTalker 6 = .ok (.getfield 56, 3) := by decide +kernel
theorem dX7_isTalker_9 : decode cX7_isTalker 9 = .ok (.if_icmp .ge 7, 3) := by decide +kernel
theorem dX7_isTalker_12 : decode cX7_isTalker 12 = .ok (.iconst 1, 1) := by decide +kernel
theorem dX7_isTalker_13 : decode cX7_isTalker 13 = .ok (.goto 4, 3) := by decide +kernel
theorem dX7_isTalker_16 : decode cX7_isTalker 16 = .ok (.iconst 0, 1) := by decide +kernel
theorem dX7_isTalker_17 : decode cX7_isTalker 17 = .ok (.ireturn, 1) := by decide +kernel
theorem dX7_isFeud_0 : decode cX7_isFeud 0 = .ok (.iconst 0, 1) := by decide +kernel
theorem dX7_isFeud_1 : decode cX7_isFeud 1 = .ok (.istore_n 3, 1) := by decide +kernel
theorem dX7_isFeud_2 : decode cX7_isFeud 2 = .ok (.iload_n 3, 1) := by decide +kernel
theorem dX7_isFeud_3 : decode cX7_isFeud 3 = .ok (.aload_n 0, 1) := by decide +kernel
theorem dX7_isFeud_4 : decode cX7_isFeud 4 = .ok (.getfield 62, 3) := by decide +kernel
theorem dX7_isFeud_7 : decode cX7_isFeud 7 = .ok (.if_icmp .ge 51, 3) := by decide +kernel
theorem dX7_isFeud_10 : decode cX7_isFeud 10 = .ok (.aload_n 0, 1) := by decide +kernel
theorem dX7_isFeud_11 : decode cX7_isFeud 11 = .ok (.getfield 37, 3) := by decide +kernel
theorem dX7_isFeud_14 : decode cX7_isFeud 14 = .ok (.iload_n 3, 1) := by decide +kernel
theorem dX7_isFeud_15 : decode cX7_isFeud 15 = .ok (.iaload, 1) := by decide +kernel
theorem dX7_isFeud_16 : decode cX7_isFeud 16 = .ok (.iload_n 1, 1) := by decide +kernel
theorem dX7_isFeud_17 : decode cX7_isFeud 17 = .ok (.if_icmp .ne 13, 3) := by decide +kernel
theorem dX7_isFeud_20 : decode cX7_isFeud 20 = .ok (.aload_n 0, 1) := by decide +kernel
theorem dX7_isFeud_21 : decode cX7_isFeud 21 = .ok (.getfield 40, 3) := by decide +kernel
theorem dX7_isFeud_24 : decode cX7_isFeud 24 = .ok (.iload_n 3, 1) := by decide +kernel
theorem dX7_isFeud_25 : decode cX7_isFeud 25 = .ok (.iaload, 1) := by decide +kernel
theorem dX7_isFeud_26 : decode cX7_isFeud 26 = .ok (.iload_n 2, 1) := by decide +kernel
theorem dX7_isFeud_27 : decode cX7_isFeud 27 = .ok (.if_icmp .eq 23, 3) := by decide +kernel
theorem dX7_isFeud_30 : decode cX7_isFeud 30 = .ok (.aload_n 0, 1) := by decide +kernel
theorem dX7_isFeud_31 : decode cX7_isFeud 31 = .ok (.getfield 37, 3) := by decide +kernel
theorem dX7_isFeud_34 : decode cX7_isFeud 34 = .ok (.iload_n 3, 1) := by decide +kernel
theorem dX7_isFeud_35 : decode cX7_isFeud 35 = .ok (.iaload, 1) := by decide +kernel
theorem dX7_isFeud_36 : decode cX7_isFeud 36 = .ok (.iload_n 2, 1) := by decide +kernel
theorem dX7_isFeud_37 : decode cX7_isFeud 37 = .ok (.if_icmp .ne 15, 3) := by decide +kernel
theorem dX7_isFeud_40 : decode cX7_isFeud 40 = .ok (.aload_n 0, 1) := by decide +kernel
theorem dX7_isFeud_41 : decode cX7_isFeud 41 = .ok (.getfield 40, 3) := by decide +kernel
theorem dX7_isFeud_44 : decode cX7_isFeud 44 = .ok (.iload_n 3, 1) := by decide +kernel
theorem dX7_isFeud_45 : decode cX7_isFeud 45 = .ok (.iaload, 1) := by decide +kernel
theorem dX7_isFeud_46 : decode cX7_isFeud 46 = .ok (.iload_n 1, 1) := by decide +kernel
theorem dX7_isFeud_47 : decode cX7_isFeud 47 = .ok (.if_icmp .ne 5, 3) := by decide +kernel
theorem dX7_isFeud_50 : decode cX7_isFeud 50 = .ok (.iconst 1, 1) := by decide +kernel
theorem dX7_isFeud_51 : decode cX7_isFeud 51 = .ok (.ireturn, 1) := by decide +kernel
theorem dX7_isFeud_52 : decode cX7_isFeud 52 = .ok (.iinc 3 1, 3) := by decide +kernel
theorem dX7_isFeud_55 : decode cX7_isFeud 55 = .ok (.goto (-53), 3) := by decide +kernel
theorem dX7_isFeud_58 : decode cX7_isFeud 58 = .ok (.iconst 0, 1) := by decide +kernel
theorem dX7_isFeud_59 : decode cX7_isFeud 59 = .ok (.ireturn, 1) := by decide +kernel
theorem dX7_addClaim_0 : decode cX7_addClaim 0 = .ok (.aload_n 0, 1) := by decide +kernel
theorem dX7_addClaim_1 : decode cX7_addClaim 1 = .ok (.getfield 22, 3) := by decide +kernel
theorem dX7_addClaim_4 : decode cX7_addClaim 4 = .ok (.aload_n 0, 1) := by decide +kernel
theorem dX7_addClaim_5 : decode cX7_addClaim 5 = .ok (.getfield 50, 3) := by decide +kernel
theorem dX7_addClaim_8 : decode cX7_addClaim 8 = .ok (.iload_n 1, 1) := by decide +kernel
theorem dX7_addClaim_9 : decode cX7_addClaim 9 = .ok (.iastore, 1) := by decide +kernel
theorem dX7_addClaim_10 : decode cX7_addClaim 10 = .ok (.aload_n 0, 1) := by decide +kernel
theorem dX7_addClaim_11 : decode cX7_addClaim 11 = .ok (.getfield 25, 3) := by decide +kernel
theorem dX7_addClaim_14 : decode cX7_addClaim 14 = .ok (.aload_n 0, 1) := by decide +kernel
theorem dX7_addClaim_15 : decode cX7_addClaim 15 = .ok (.getfield 50, 3) := by decide +kernel
theorem dX7_addClaim_18 : decode cX7_addClaim 18 = .ok (.iload_n 2, 1) := by decide +kernel
theorem dX7_addClaim_19 : decode cX7_addClaim 19 = .ok (.iastore, 1) := by decide +kernel
theorem dX7_addClaim_20 : decode cX7_addClaim 20 = .ok (.aload_n 0, 1) := by decide +kernel
theorem dX7_addClaim_21 : decode cX7_addClaim 21 = .ok (.getfield 43, 3) := by decide +kernel
theorem dX7_addClaim_24 : decode cX7_addClaim 24 = .ok (.bipush 9, 2) := by decide +kernel
theorem dX7_addClaim_26 : decode cX7_addClaim 26 = .ok (.aload_n 0, 1) := by decide +kernel
theorem dX7_addClaim_27 : decode cX7_addClaim 27 = .ok (.getfield 50, 3) := by decide +kernel
theorem dX7_addClaim_30 : decode cX7_addClaim 30 = .ok (.iadd, 1) := by decide +kernel
theorem dX7_addClaim_31 : decode cX7_addClaim 31 = .ok (.lload_n 3, 1) := by decide +kernel
theorem dX7_addClaim_32 : decode cX7_addClaim 32 = .ok (.lastore, 1) := by decide +kernel
theorem dX7_addClaim_33 : decode cX7_addClaim 33 = .ok (.aload_n 0, 1) := by decide +kernel
theorem dX7_addClaim_34 : decode cX7_addClaim 34 = .ok (.dup, 1) := by decide +kernel
theorem dX7_addClaim_35 : decode cX7_addClaim 35 = .ok (.getfield 50, 3) := by decide +kernel
theorem dX7_addClaim_38 : decode cX7_addClaim 38 = .ok (.iconst 1, 1) := by decide +kernel
theorem dX7_addClaim_39 : decode cX7_addClaim 39 = .ok (.iadd, 1) := by decide +kernel
theorem dX7_addClaim_40 : decode cX7_addClaim 40 = .ok (.putfield 50, 3) := by decide +kernel
theorem dX7_addClaim_43 : decode cX7_addClaim 43 = .ok (.return_, 1) := by decide +kernel
theorem dX7_addFeud_0 : decode cX7_addFeud 0 = .ok (.aload_n 0, 1) := by decide +kernel
theorem dX7_addFeud_1 : decode cX7_addFeud 1 = .ok (.getfield 37, 3) := by decide +kernel
theorem dX7_addFeud_4 : decode cX7_addFeud 4 = .ok (.aload_n 0, 1) := by decide +kernel
theorem dX7_addFeud_5 : decode cX7_addFeud 5 = .ok (.getfield 62, 3) := by decide +kernel
theorem dX7_addFeud_8 : decode cX7_addFeud 8 = .ok (.iload_n 1, 1) := by decide +kernel
theorem dX7_addFeud_9 : decode cX7_addFeud 9 = .ok (.iastore, 1) := by decide +kernel
theorem dX7_addFeud_10 : decode cX7_addFeud 10 = .ok (.aload_n 0, 1) := by decide +kernel
theorem dX7_addFeud_11 : decode cX7_addFeud 11 = .ok (.getfield 40, 3) := by decide +kernel
theorem dX7_addFeud_14 : decode cX7_addFeud 14 = .ok (.aload_n 0, 1) := by decide +kernel
theorem dX7_addFeud_15 : decode cX7_addFeud 15 = .ok (.getfield 62, 3) := by decide +kernel
theorem dX7_addFeud_18 : decode cX7_addFeud 18 = .ok (.iload_n 2, 1) := by decide +kernel
theorem dX7_addFeud_19 : decode cX7_addFeud 19 = .ok (.iastore, 1) := by decide +kernel
theorem dX7_addFeud_20 : decode cX7_addFeud 20 = .ok (.aload_n 0, 1) := by decide +kernel
theorem dX7_addFeud_21 : decode cX7_addFeud 21 = .ok (.dup, 1) := by decide +kernel
theorem dX7_addFeud_22 : decode cX7_addFeud 22 = .ok (.getfield 62, 3) := by decide +kernel
theorem dX7_addFeud_25 : decode cX7_addFeud 25 = .ok (.iconst 1, 1) := by decide +kernel
theorem dX7_addFeud_26 : decode cX7_addFeud 26 = .ok (.iadd, 1) := by decide +kernel
theorem dX7_addFeud_27 : decode cX7_addFeud 27 = .ok (.putfield 62, 3) := by decide +kernel
theorem dX7_addFeud_30 : decode cX7_addFeud 30 = .ok (.return_, 1) := by decide +kernel
theorem dX7_claimsAt_0 : decode cX7_claimsAt 0 = .ok (.iconst 0, 1) := by decide +kernel
theorem dX7_claimsAt_1 : decode cX7_claimsAt 1 = .ok (.istore_n 2, 1) := by decide +kernel
theorem dX7_claimsAt_2 : decode cX7_claimsAt 2 = .ok (.iconst 0, 1) := by decide +kernel
theorem dX7_claimsAt_3 : decode cX7_claimsAt 3 = .ok (.istore_n 3, 1) := by decide +kernel
theorem dX7_claimsAt_4 : decode cX7_claimsAt 4 = .ok (.iload_n 3, 1) := by decide +kernel
theorem dX7_claimsAt_5 : decode cX7_claimsAt 5 = .ok (.aload_n 0, 1) := by decide +kernel
theorem dX7_claimsAt_6 : decode cX7_claimsAt 6 = .ok (.getfield 50, 3) := by decide +kernel
theorem dX7_claimsAt_9 : decode cX7_claimsAt 9 = .ok (.if_icmp .ge 25, 3) := by decide +kernel
theorem dX7_claimsAt_12 : decode cX7_claimsAt 12 = .ok (.aload_n 0, 1) := by decide +kernel
theorem dX7_claimsAt_13 : decode cX7_claimsAt 13 = .ok (.getfield 22, 3) := by decide +kernel
theorem dX7_claimsAt_16 : decode cX7_claimsAt 16 = .ok (.iload_n 3, 1) := by decide +kernel
theorem dX7_claimsAt_17 : decode cX7_claimsAt 17 = .ok (.iaload, 1) := by decide +kernel
theorem dX7_claimsAt_18 : decode cX7_claimsAt 18 = .ok (.iload_n 1, 1) := by decide +kernel
theorem dX7_claimsAt_19 : decode cX7_claimsAt 19 = .ok (.if_icmp .ne 9, 3) := by decide +kernel
theorem dX7_claimsAt_22 : decode cX7_claimsAt 22 = .ok (.iload_n 2, 1) := by decide +kernel
theorem dX7_claimsAt_23 : decode cX7_claimsAt 23 = .ok (.iconst 1, 1) := by decide +kernel
theorem dX7_claimsAt_24 : decode cX7_claimsAt 24 = .ok (.iload_n 3, 1) := by decide +kernel
theorem dX7_claimsAt_25 : decode cX7_claimsAt 25 = .ok (.ishl, 1) := by decide +kernel
theorem dX7_claimsAt_26 : decode cX7_claimsAt 26 = .ok (.ior, 1) := by decide +kernel
theorem dX7_claimsAt_27 : decode cX7_claimsAt 27 = .ok (.istore_n 2, 1) := by decide +kernel
theorem dX7_claimsAt_28 : decode cX7_claimsAt 28 = .ok (.iinc 3 1, 3) := by decide +kernel
theorem dX7_claimsAt_31 : decode cX7_claimsAt 31 = .ok (.goto (-27), 3) := by decide +kernel
theorem dX7_claimsAt_34 : decode cX7_claimsAt 34 = .ok (.iload_n 2, 1) := by decide +kernel
theorem dX7_claimsAt_35 : decode cX7_claimsAt 35 = .ok (.ireturn, 1) := by decide +kernel
theorem dX7_talkersAt_0 : decode cX7_talkersAt 0 = .ok (.iconst 0, 1) := by decide +kernel
theorem dX7_talkersAt_1 : decode cX7_talkersAt 1 = .ok (.istore_n 2, 1) := by decide +kernel
theorem dX7_talkersAt_2 : decode cX7_talkersAt 2 = .ok (.iconst 0, 1) := by decide +kernel
theorem dX7_talkersAt_3 : decode cX7_talkersAt 3 = .ok (.istore_n 3, 1) := by decide +kernel
theorem dX7_talkersAt_4 : decode cX7_talkersAt 4 = .ok (.iload_n 3, 1) := by decide +kernel
theorem dX7_talkersAt_5 : decode cX7_talkersAt 5 = .ok (.aload_n 0, 1) := by decide +kernel
theorem dX7_talkersAt_6 : decode cX7_talkersAt 6 = .ok (.getfield 56, 3) := by decide +kernel
theorem dX7_talkersAt_9 : decode cX7_talkersAt 9 = .ok (.if_icmp .ge 25, 3) := by decide +kernel
theorem dX7_talkersAt_12 : decode cX7_talkersAt 12 = .ok (.aload_n 0, 1) := by decide +kernel
theorem dX7_talkersAt_13 : decode cX7_talkersAt 13 = .ok (.getfield 31, 3) := by decide +kernel
theorem dX7_talkersAt_16 : decode cX7_talkersAt 16 = .ok (.iload_n 3, 1) := by decide +kernel
theorem dX7_talkersAt_17 : decode cX7_talkersAt 17 = .ok (.iaload, 1) := by decide +kernel
theorem dX7_talkersAt_18 : decode cX7_talkersAt 18 = .ok (.iload_n 1, 1) := by decide +kernel
theorem dX7_talkersAt_19 : decode cX7_talkersAt 19 = .ok (.if_icmp .ne 9, 3) := by decide +kernel
theorem dX7_talkersAt_22 : decode cX7_talkersAt 22 = .ok (.iload_n 2, 1) := by decide +kernel
theorem dX7_talkersAt_23 : decode cX7_talkersAt 23 = .ok (.iconst 1, 1) := by decide +kernel
theorem dX7_talkersAt_24 : decode cX7_talkersAt 24 = .ok (.iload_n 3, 1) := by decide +kernel
theorem dX7_talkersAt_25 : decode cX7_talkersAt 25 = .ok (.ishl, 1) := by decide +kernel
theorem dX7_talkersAt_26 : decode cX7_talkersAt 26 = .ok (.ior, 1) := by decide +kernel
theorem dX7_talkersAt_27 : decode cX7_talkersAt 27 = .ok (.istore_n 2, 1) := by decide +kernel
theorem dX7_talkersAt_28 : decode cX7_talkersAt 28 = .ok (.iinc 3 1, 3) := by decide +kernel
theorem dX7_talkersAt_31 : decode cX7_talkersAt 31 = .ok (.goto (-27), 3) := by decide +kernel
theorem dX7_talkersAt_34 : decode cX7_talkersAt 34 = .ok (.iload_n 2, 1) := by decide +kernel
theorem dX7_talkersAt_35 : decode cX7_talkersAt 35 = .ok (.ireturn, 1) := by decide +kernel
theorem dX7_allHeights_0 : decode cX7_allHeights 0 = .ok (.iconst 0, 1) := by decide +kernel
theorem dX7_allHeights_1 : decode cX7_allHeights 1 = .ok (.istore_n 1, 1) := by decide +kernel
theorem dX7_allHeights_2 : decode cX7_allHeights 2 = .ok (.iconst 0, 1) := by decide +kernel
theorem dX7_allHeights_3 : decode cX7_allHeights 3 = .ok (.istore_n 2, 1) := by decide +kernel
theorem dX7_allHeights_4 : decode cX7_allHeights 4 = .ok (.iload_n 2, 1) := by decide +kernel
theorem dX7_allHeights_5 : decode cX7_allHeights 5 = .ok (.aload_n 0, 1) := by decide +kernel
theorem dX7_allHeights_6 : decode cX7_allHeights 6 = .ok (.getfield 56, 3) := by decide +kernel
theorem dX7_allHeights_9 : decode cX7_allHeights 9 = .ok (.if_icmp .ge 18, 3) := by decide +kernel
theorem dX7_allHeights_12 : decode cX7_allHeights 12 = .ok (.iload_n 1, 1) := by decide +kernel
theorem dX7_allHeights_13 : decode cX7_allHeights 13 = .ok (.aload_n 0, 1) := by decide +kernel
theorem dX7_allHeights_14 : decode cX7_allHeights 14 = .ok (.getfield 31, 3) := by decide +kernel
theorem dX7_allHeights_17 : decode cX7_allHeights 17 = .ok (.iload_n 2, 1) := by decide +kernel
theorem dX7_allHeights_18 : decode cX7_allHeights 18 = .ok (.iaload, 1) := by decide +kernel
theorem dX7_allHeights_19 : decode cX7_allHeights 19 = .ok (.iadd, 1) := by decide +kernel
theorem dX7_allHeights_20 : decode cX7_allHeights 20 = .ok (.istore_n 1, 1) := by decide +kernel
theorem dX7_allHeights_21 : decode cX7_allHeights 21 = .ok (.iinc 2 1, 3) := by decide +kernel
theorem dX7_allHeights_24 : decode cX7_allHeights 24 = .ok (.goto (-20), 3) := by decide +kernel
theorem dX7_allHeights_27 : decode cX7_allHeights 27 = .ok (.iload_n 1, 1) := by decide +kernel
theorem dX7_allHeights_28 : decode cX7_allHeights 28 = .ok (.ireturn, 1) := by decide +kernel
theorem dX7_fewestProps_0 : decode cX7_fewestProps 0 = .ok (.aload_n 0, 1) := by decide +kernel
theorem dX7_fewestProps_1 : decode cX7_fewestProps 1 = .ok (.invokevirtual 83, 3) := by decide +kernel
theorem dX7_fewestProps_4 : decode cX7_fewestProps 4 = .ok (.iload_n 1, 1) := by decide +kernel
theorem dX7_fewestProps_5 : decode cX7_fewestProps 5 = .ok (.ishr, 1) := by decide +kernel
theorem dX7_fewestProps_6 : decode cX7_fewestProps 6 = .ok (.iconst 1, 1) := by decide +kernel
theorem dX7_fewestProps_7 : decode cX7_fewestProps 7 = .ok (.iand, 1) := by decide +kernel
theorem dX7_fewestProps_8 : decode cX7_fewestProps 8 = .ok (.ifCond .eq 5, 3) := by decide +kernel
theorem dX7_fewestProps_11 : decode cX7_fewestProps 11 = .ok (.iconst 0, 1) := by decide +kernel
theorem dX7_fewestProps_12 : decode cX7_fewestProps 12 = .ok (.ireturn, 1) := by decide +kernel
theorem dX7_fewestProps_13 : decode cX7_fewestProps 13 = .ok (.iconst 0, 1) := by decide +kernel
theorem dX7_fewestProps_14 : decode cX7_fewestProps 14 = .ok (.istore_n 2, 1) := by decide +kernel
theorem dX7_fewestProps_15 : decode cX7_fewestProps 15 = .ok (.iload_n 2, 1) := by decide +kernel
theorem dX7_fewestProps_16 : decode cX7_fewestProps 16 = .ok (.iload_n 1, 1) := by decide +kernel
theorem dX7_fewestProps_17 : decode cX7_fewestProps 17 = .ok (.if_icmp .ge 33, 3) := by decide +kernel
theorem dX7_fewestProps_20 : decode cX7_fewestProps 20 = .ok (.aload_n 0, 1) := by decide +kernel
theorem dX7_fewestProps_21 : decode cX7_fewestProps 21 = .ok (.aload_n 0, 1) := by decide +kernel
theorem dX7_fewestProps_22 : decode cX7_fewestProps 22 = .ok (.getfield 53, 3) := by decide +kernel
theorem dX7_fewestProps_25 : decode cX7_fewestProps 25 = .ok (.iconst 1, 1) := by decide +kernel
theorem dX7_fewestProps_26 : decode cX7_fewestProps 26 = .ok (.iload_n 2, 1) := by decide +kernel
theorem dX7_fewestProps_27 : decode cX7_fewestProps 27 = .ok (.ishl, 1) := by decide +kernel
theorem dX7_fewestProps_28 : decode cX7_fewestProps 28 = .ok (.ior, 1) := by decide +kernel
theorem dX7_fewestProps_29 : decode cX7_fewestProps 29 = .ok (.iconst (-1), 1) := by decide +kernel
theorem dX7_fewestProps_30 : decode cX7_fewestProps 30 = .ok (.invokevirtual 80, 3) := by decide +kernel
theorem dX7_fewestProps_33 : decode cX7_fewestProps 33 = .ok (.iload_n 1, 1) := by decide +kernel
theorem dX7_fewestProps_34 : decode cX7_fewestProps 34 = .ok (.ishr, 1) := by decide +kernel
theorem dX7_fewestProps_35 : decode cX7_fewestProps 35 = .ok (.iconst 1, 1) := by decide +kernel
theorem dX7_fewestProps_36 : decode cX7_fewestProps 36 = .ok (.iand, 1) := by decide +kernel
theorem dX7_fewestProps_37 : decode cX7_fewestProps 37 = .ok (.ifCond .eq 7, 3) := by decide +kernel
theorem dX7_fewestProps_40 : decode cX7_fewestProps 40 = .ok (.iconst 1, 1) := by decide +kernel
theorem dX7_fewestProps_41 : decode cX7_fewestProps 41 = .ok (.iload_n 2, 1) := by decide +kernel
theorem dX7_fewestProps_42 : decode cX7_fewestProps 42 = .ok (.ishl, 1) := by decide +kernel
theorem dX7_fewestProps_43 : decode cX7_fewestProps 43 = .ok (.ireturn, 1) := by decide +kernel
theorem dX7_fewestProps_44 : decode cX7_fewestProps 44 = .ok (.iinc 2 1, 3) := by decide +kernel
theorem dX7_fewestProps_47 : decode cX7_fewestProps 47 = .ok (.goto (-32), 3) := by decide +kernel
theorem dX7_fewestProps_50 : decode cX7_fewestProps 50 = .ok (.iconst 1, 1) := by decide +kernel
theorem dX7_fewestProps_51 : decode cX7_fewestProps 51 = .ok (.iload_n 1, 1) := by decide +kernel
theorem dX7_fewestProps_52 : decode cX7_fewestProps 52 = .ok (.ishl, 1) := by decide +kernel
theorem dX7_fewestProps_53 : decode cX7_fewestProps 53 = .ok (.ireturn, 1) := by decide +kernel
theorem dX8_readOdds_0 : decode cX8_readOdds 0 = .ok (.aload_n 0, 1) := by decide +kernel
theorem dX8_readOdds_1 : decode cX8_readOdds 1 = .ok (.getfield 21, 3) := by decide +kernel
theorem dX8_readOdds_4 : decode cX8_readOdds 4 = .ok (.ifCond .eq 9, 3) := by decide +kernel
theorem dX8_readOdds_7 : decode cX8_readOdds 7 = .ok (.aload_n 0, 1) := by decide +kernel
theorem dX8_readOdds_8 : decode cX8_readOdds 8 = .ok (.iconst 5, 1) := by decide +kernel
theorem dX8_readOdds_9 : decode cX8_readOdds 9 = .ok (.invokevirtual 52, 3) := by decide +kernel
theorem dX8_readOdds_12 : decode cX8_readOdds 12 = .ok (.ireturn, 1) := by decide +kernel
theorem dX8_readOdds_13 : decode cX8_readOdds 13 = .ok (.aload_n 0, 1) := by decide +kernel
theorem dX8_readOdds_14 : decode cX8_readOdds 14 = .ok (.invokevirtual 59, 3) := by decide +kernel
theorem dX8_readOdds_17 : decode cX8_readOdds 17 = .ok (.aload_n 0, 1) := by decide +kernel
theorem dX8_readOdds_18 : decode cX8_readOdds 18 = .ok (.iconst 0, 1) := by decide +kernel
theorem dX8_readOdds_19 : decode cX8_readOdds 19 = .ok (.bipush 16, 2) := by decide +kernel
theorem dX8_readOdds_21 : decode cX8_readOdds 21 = .ok (.invokevirtual 62, 3) := by decide +kernel
theorem dX8_readOdds_24 : decode cX8_readOdds 24 = .ok (.ifCond .ne 5, 3) := by decide +kernel
theorem dX8_readOdds_27 : decode cX8_readOdds 27 = .ok (.iconst 0, 1) := by decide +kernel
theorem dX8_readOdds_28 : decode cX8_readOdds 28 = .ok (.ireturn, 1) := by decide +kernel
theorem dX8_readOdds_29 : decode cX8_readOdds 29 = .ok (.aload_n 0, 1) := by decide +kernel
theorem dX8_readOdds_30 : decode cX8_readOdds 30 = .ok (.getfield 9, 3) := by decide +kernel
theorem dX8_readOdds_33 : decode cX8_readOdds 33 = .ok (.aload_n 0, 1) := by decide +kernel
theorem dX8_readOdds_34 : decode cX8_readOdds 34 = .ok (.getfield 66, 3) := by decide +kernel
theorem dX8_readOdds_37 : decode cX8_readOdds 37 = .ok (.putfield 69, 3) := by decide +kernel
theorem dX8_readOdds_40 : decode cX8_readOdds 40 = .ok (.aload_n 0, 1) := by decide +kernel
theorem dX8_readOdds_41 : decode cX8_readOdds 41 = .ok (.iconst 1, 1) := by decide +kernel
theorem dX8_readOdds_42 : decode cX8_readOdds 42 = .ok (.putfield 21, 3) := by decide +kernel
theorem dX8_readOdds_45 : decode cX8_readOdds 45 = .ok (.aload_n 0, 1) := by decide +kernel
theorem dX8_readOdds_46 : decode cX8_readOdds 46 = .ok (.invokevirtual 59, 3) := by decide +kernel
theorem dX8_readOdds_49 : decode cX8_readOdds 49 = .ok (.iconst 1, 1) := by decide +kernel
theorem dX8_readOdds_50 : decode cX8_readOdds 50 = .ok (.ireturn, 1) := by decide +kernel
theorem dX8_isNewNameHere_0 : decode cX8_isNewNameHere 0 = .ok (.aload_n 0, 1) := by decide +kernel
theorem dX8_isNewNameHere_1 : decode cX8_isNewNameHere 1 = .ok (.invokevirtual 72, 3) := by decide +kernel
theorem dX8_isNewNameHere_4 : decode cX8_isNewNameHere 4 = .ok (.ifCond .ne 9, 3) := by decide +kernel
theorem dX8_isNewNameHere_7 : decode cX8_isNewNameHere 7 = .ok (.aload_n 0, 1) := by decide +kernel
theorem dX8_isNewNameHere_8 : decode cX8_isNewNameHere 8 = .ok (.iconst 2, 1) := by decide +kernel
theorem dX8_isNewNameHere_9 : decode cX8_isNewNameHere 9 = .ok (.invokevirtual 52, 3) := by decide +kernel
theorem dX8_isNewNameHere_12 : decode cX8_isNewNameHere 12 = .ok (.ireturn, 1) := by decide +kernel
theorem dX8_isNewNameHere_13 : decode cX8_isNewNameHere 13 = .ok (.aload_n 0, 1) := by decide +kernel
theorem dX8_isNewNameHere_14 : decode cX8_isNewNameHere 14 = .ok (.getfield 9, 3) := by decide +kernel
theorem dX8_isNewNameHere_17 : decode cX8_isNewNameHere 17 = .ok (.iconst 0, 1) := by decide +kernel
theorem dX8_isNewNameHere_18 : decode cX8_isNewNameHere 18 = .ok (.aload_n 0, 1) := by decide +kernel
theorem dX8_isNewNameHere_19 : decode cX8_isNewNameHere 19 = .ok (.getfield 9, 3) := by decide +kernel
theorem dX8_isNewNameHere_22 : decode cX8_isNewNameHere 22 = .ok (.getfield 75, 3) := by decide +kernel
theorem dX8_isNewNameHere_25 : decode cX8_isNewNameHere 25 = .ok (.arraylength, 1) := by decide +kernel
theorem dX8_isNewNameHere_26 : decode cX8_isNewNameHere 26 = .ok (.aload_n 0, 1) := by decide +kernel
theorem dX8_isNewNameHere_27 : decode cX8_isNewNameHere 27 = .ok (.getfield 79, 3) := by decide +kernel
theorem dX8_isNewNameHere_30 : decode cX8_isNewNameHere 30 = .ok (.invokevirtual 83, 3) := by decide +kernel
theorem dX8_isNewNameHere_33 : decode cX8_isNewNameHere 33 = .ok (.iconst (-1), 1) := by decide +kernel
theorem dX8_isNewNameHere_34 : decode cX8_isNewNameHere 34 = .ok (.if_icmp .eq 7, 3) := by decide +kernel
theorem dX8_isNewNameHere_37 : decode cX8_isNewNameHere 37 = .ok (.iconst 1, 1) := by decide +kernel
theorem dX8_isNewNameHere_38 : decode cX8_isNewNameHere 38 = .ok (.goto 4, 3) := by decide +kernel
theorem dX8_isNewNameHere_41 : decode cX8_isNewNameHere 41 = .ok (.iconst 0, 1) := by decide +kernel
theorem dX8_isNewNameHere_42 : decode cX8_isNewNameHere 42 = .ok (.istore_n 1, 1) := by decide +kernel
theorem dX8_isNewNameHere_43 : decode cX8_isNewNameHere 43 = .ok (.iload_n 1, 1) := by decide +kernel
theorem dX8_isNewNameHere_44 : decode cX8_isNewNameHere 44 = .ok (.ifCond .eq 11, 3) := by decide +kernel
theorem dX8_isNewNameHere_47 : decode cX8_isNewNameHere 47 = .ok (.aload_n 0, 1) := by decide +kernel
theorem dX8_isNewNameHere_48 : decode cX8_isNewNameHere 48 = .ok (.iconst 3, 1) := by decide +kernel
theorem dX8_isNewNameHere_49 : decode cX8_isNewNameHere 49 = .ok (.invokevirtual 52, 3) := by decide +kernel
theorem dX8_isNewNameHere_52 : decode cX8_isNewNameHere 52 = .ok (.ifCond .eq 7, 3) := by decide +kernel
theorem dX8_isNewNameHere_55 : decode cX8_isNewNameHere 55 = .ok (.iconst 1, 1) := by decide +kernel
theorem dX8_isNewNameHere_56 : decode cX8_isNewNameHere 56 = .ok (.goto 4, 3) := by decide +kernel
theorem dX8_isNewNameHere_59 : decode cX8_isNewNameHere 59 = .ok (.iconst 0, 1) := by decide +kernel
theorem dX8_isNewNameHere_60 : decode cX8_isNewNameHere 60 = .ok (.ireturn, 1) := by decide +kernel
theorem dX8_readTopic_0 : decode cX8_readTopic 0 = .ok (.aload_n 0, 1) := by decide +kernel
theorem dX8_readTopic_1 : decode cX8_readTopic 1 = .ok (.getfield 9, 3) := by decide +kernel
theorem dX8_readTopic_4 : decode cX8_readTopic 4 = .ok (.getfield 87, 3) := by decide +kernel
theorem dX8_readTopic_7 : decode cX8_readTopic 7 = .ok (.bipush 9, 2) := by decide +kernel
theorem dX8_readTopic_9 : decode cX8_readTopic 9 = .ok (.if_icmp .ne 10, 3) := by decide +kernel
theorem dX8_readTopic_12 : decode cX8_readTopic 12 = .ok (.aload_n 0, 1) := by decide +kernel
theorem dX8_readTopic_13 : decode cX8_readTopic 13 = .ok (.bipush 6, 2) := by decide +kernel
theorem dX8_readTopic_15 : decode cX8_readTopic 15 = .ok (.invokevirtual 52, 3) := by decide +kernel
theorem dX8_readTopic_18 : decode cX8_readTopic 18 = .ok (.ireturn, 1) := by decide +kernel
theorem dX8_readTopic_19 : decode cX8_readTopic 19 = .ok (.aload_n 0, 1) := by decide +kernel
theorem dX8_readTopic_20 : decode cX8_readTopic 20 = .ok (.invokevirtual 59, 3) := by decide +kernel
theorem dX8_readTopic_23 : decode cX8_readTopic 23 = .ok (.aload_n 0, 1) := by decide +kernel
theorem dX8_readTopic_24 : decode cX8_readTopic 24 = .ok (.invokevirtual 90, 3) := by decide +kernel
theorem dX8_readTopic_27 : decode cX8_readTopic 27 = .ok (.ifCond .ne 5, 3) := by decide +kernel
theorem dX8_readTopic_30 : decode cX8_readTopic 30 = .ok (.iconst 0, 1) := by decide +kernel
theorem dX8_readTopic_31 : decode cX8_readTopic 31 = .ok (.ireturn, 1) := by decide +kernel
theorem dX8_readTopic_32 : decode cX8_readTopic 32 = .ok (.aload_n 0, 1) := by decide +kernel
theorem dX8_readTopic_33 : decode cX8_readTopic 33 = .ok (.getfield 9, 3) := by decide +kernel
theorem dX8_readTopic_36 : decode cX8_readTopic 36 = .ok (.getfield 75, 3) := by decide +kernel
theorem dX8_readTopic_39 : decode cX8_readTopic 39 = .ok (.aload_n 0, 1) := by decide +kernel
theorem dX8_readTopic_40 : decode cX8_readTopic 40 = .ok (.getfield 9, 3) := by decide +kernel
theorem dX8_readTopic_43 : decode cX8_readTopic 43 = .ok (.getfield 87, 3) := by decide +kernel
theorem dX8_readTopic_46 : decode cX8_readTopic 46 = .ok (.aload_n 0, 1) := by decide +kernel
theorem dX8_readTopic_47 : decode cX8_readTopic 47 = .ok (.getfield 79, 3) := by decide +kernel
theorem dX8_readTopic_50 : decode cX8_readTopic 50 = .ok (.lastore, 1) := by decide +kernel
theorem dX8_readTopic_51 : decode cX8_readTopic 51 = .ok (.aload_n 0, 1) := by decide +kernel
theorem dX8_readTopic_52 : decode cX8_readTopic 52 = .ok (.invokevirtual 59, 3) := by decide +kernel
theorem dX8_readTopic_55 : decode cX8_readTopic 55 = .ok (.aload_n 0, 1) := by decide +kernel
theorem dX8_readTopic_56 : decode cX8_readTopic 56 = .ok (.iconst 2, 1) := by decide +kernel
theorem dX8_readTopic_57 : decode cX8_readTopic 57 = .ok (.invokevirtual 93, 3) := by decide +kernel
theorem dX8_readTopic_60 : decode cX8_readTopic 60 = .ok (.ifCond .eq 13, 3) := by decide +kernel
theorem dX8_readTopic_63 : decode cX8_readTopic 63 = .ok (.aload_n 0, 1) := by decide +kernel
theorem dX8_readTopic_64 : decode cX8_readTopic 64 = .ok (.iconst 0, 1) := by decide +kernel
theorem dX8_readTopic_65 : decode cX8_readTopic 65 = .ok (.bipush 20, 2) := by decide +kernel
theorem dX8_readTopic_67 : decode cX8_readTopic 67 = .ok (.invokevirtual 62, 3) := by decide +kernel
theorem dX8_readTopic_70 : decode cX8_readTopic 70 = .ok (.ifCond .ne 5, 3) := by decide +kernel
theorem dX8_readTopic_73 : decode cX8_readTopic 73 = .ok (.iconst 0, 1) := by decide +kernel
theorem dX8_readTopic_74 : decode cX8_readTopic 74 = .ok (.ireturn, 1) := by decide +kernel
theorem dX8_readTopic_75 : decode cX8_readTopic 75 = .ok (.aload_n 0, 1) := by decide +kernel
theorem dX8_readTopic_76 : decode cX8_readTopic 76 = .ok (.getfield 9, 3) := by decide +kernel
theorem dX8_readTopic_79 : decode cX8_readTopic 79 = .ok (.getfield 96, 3) := by decide +kernel
theorem dX8_readTopic_82 : decode cX8_readTopic 82 = .ok (.aload_n 0, 1) := by decide +kernel
theorem dX8_readTopic_83 : decode cX8_readTopic 83 = .ok (.getfield 9, 3) := by decide +kernel
theorem dX8_readTopic_86 : decode cX8_readTopic 86 = .ok (.getfield 87, 3) := by decide +kernel
theorem dX8_readTopic_89 : decode cX8_readTopic 89 = .ok (.aload_n 0, 1) := by decide +kernel
theorem dX8_readTopic_90 : decode cX8_readTopic 90 = .ok (.getfield 66, 3) := by decide +kernel
theorem dX8_readTopic_93 : decode cX8_readTopic 93 = .ok (.iastore, 1) := by decide +kernel
theorem dX8_readTopic_94 : decode cX8_readTopic 94 = .ok (.aload_n 0, 1) := by decide +kernel
theorem dX8_readTopic_95 : decode cX8_readTopic 95 = .ok (.invokevirtual 59, 3) := by decide +kernel
theorem dX8_readTopic_98 : decode cX8_readTopic 98 = .ok (.aload_n 0, 1) := by decide +kernel
theorem dX8_readTopic_99 : decode cX8_readTopic 99 = .ok (.iconst 3, 1) := by decide +kernel
theorem dX8_readTopic_100 : decode cX8_readTopic 100 = .ok (.invokevirtual 93, 3) := by decide +kernel
theorem dX8_readTopic_103 : decode cX8_readTopic 103 = .ok (.ifCond .eq 12, 3) := by decide +kernel
theorem dX8_readTopic_106 : decode cX8_readTopic 106 = .ok (.aload_n 0, 1) := by decide +kernel
theorem dX8_readTopic_107 : decode cX8_readTopic 107 = .ok (.iconst 0, 1) := by decide +kernel
theorem dX8_readTopic_108 : decode cX8_readTopic 108 = .ok (.iconst 3, 1) := by decide +kernel
theorem dX8_readTopic_109 : decode cX8_readTopic 109 = .ok (.invokevirtual 62, 3) := by decide +kernel
theorem dX8_readTopic_112 : decode cX8_readTopic 112 = .ok (.ifCond .ne 5, 3) := by decide +kernel
theorem dX8_readTopic_115 : decode cX8_readTopic 115 = .ok (.iconst 0, 1) := by decide +kernel
theorem dX8_readTopic_116 : decode cX8_readTopic 116 = .ok (.ireturn, 1) := by decide +kernel
theorem dX8_readTopic_117 : decode cX8_readTopic 117 = .ok (.aload_n 0, 1) := by decide +kernel
theorem dX8_readTopic_118 : decode cX8_readTopic 118 = .ok (.getfield 9, 3) := by decide +kernel
theorem dX8_readTopic_121 : decode cX8_readTopic 121 = .ok (.getfield 100, 3) := by decide +kernel
theorem dX8_readTopic_124 : decode cX8_readTopic 124 = .ok (.aload_n 0, 1) := by decide +kernel
theorem dX8_readTopic_125 : decode cX8_readTopic 125 = .ok (.getfield 9, 3) := by decide +kernel
theorem dX8_readTopic_128 : decode cX8_readTopic 128 = .ok (.getfield 87, 3) := by decide +kernel
theorem dX8_readTopic_131 : decode cX8_readTopic 131 = .ok (.aload_n 0, 1) := by decide +kernel
theorem dX8_readTopic_132 : decode cX8_readTopic 132 = .ok (.getfield 66, 3) := by decide +kernel
theorem dX8_readTopic_135 : decode cX8_readTopic 135 = .ok (.iastore, 1) := by decide +kernel
theorem dX8_readTopic_136 : decode cX8_readTopic 136 = .ok (.aload_n 0, 1) := by decide +kernel
theorem dX8_readTopic_137 : decode cX8_readTopic 137 = .ok (.getfield 9, 3) := by decide +kernel
theorem dX8_readTopic_140 : decode cX8_readTopic 140 = .ok (.dup, 1) := by decide +kernel
theorem dX8_readTopic_141 : decode cX8_readTopic 141 = .ok (.getfield 87, 3) := by decide +kernel
theorem dX8_readTopic_144 : decode cX8_readTopic 144 = .ok (.iconst 1, 1) := by decide +kernel
theorem dX8_readTopic_145 : decode cX8_readTopic 145 = .ok (.iadd, 1) := by decide +kernel
theorem dX8_readTopic_146 : decode cX8_readTopic 146 = .ok (.putfield 87, 3) := by decide +kernel
theorem dX8_readTopic_149 : decode cX8_readTopic 149 = .ok (.aload_n 0, 1) := by decide +kernel
theorem dX8_readTopic_150 : decode cX8_readTopic 150 = .ok (.invokevirtual 59, 3) := by decide +kernel
theorem dX8_readTopic_153 : decode cX8_readTopic 153 = .ok (.iconst 1, 1) := by decide +kernel
theorem dX8_readTopic_154 : decode cX8_readTopic 154 = .ok (.ireturn, 1) := by decide +kernel
theorem dX8_readNeeds_0 : decode cX8_readNeeds 0 = .ok (.iconst 0, 1) := by decide +kernel
theorem dX8_readNeeds_1 : decode cX8_readNeeds 1 = .ok (.istore_n 1, 1) := by decide +kernel
theorem dX8_readNeeds_2 : decode cX8_readNeeds 2 = .ok (.aload_n 0, 1) := by decide +kernel
theorem dX8_readNeeds_3 : decode cX8_readNeeds 3 = .ok (.invokevirtual 59, 3) := by decide +kernel
theorem dX8_readNeeds_6 : decode cX8_readNeeds 6 = .ok (.iconst 0, 1) := by decide +kernel
theorem dX8_readNeeds_7 : decode cX8_readNeeds 7 = .ok (.istore_n 2, 1) := by decide +kernel
theorem dX8_readNeeds_8 : decode cX8_readNeeds 8 = .ok (.iload_n 2, 1) := by decide +kernel
theorem dX8_readNeeds_9 : decode cX8_readNeeds 9 = .ok (.sipush 900, 3) := by decide +kernel
theorem dX8_readNeeds_12 : decode cX8_readNeeds 12 = .ok (.if_icmp .gt 58, 3) := by decide +kernel
theorem dX8_readNeeds_15 : decode cX8_readNeeds 15 = .ok (.aload_n 0, 1) := by decide +kernel
theorem dX8_readNeeds_16 : decode cX8_readNeeds 16 = .ok (.invokevirtual 72, 3) := by decide +kernel
theorem dX8_readNeeds_19 : decode cX8_readNeeds 19 = .ok (.ifCond .eq 51, 3) := by decide +kernel
theorem dX8_readNeeds_22 : decode cX8_readNeeds 22 = .ok (.aload_n 0, 1) := by decide +kernel
theorem dX8_readNeeds_23 : decode cX8_readNeeds 23 = .ok (.aload_n 0, 1) := by decide +kernel
theorem dX8_readNeeds_24 : decode cX8_readNeeds 24 = .ok (.getfield 9, 3) := by decide +kernel
theorem dX8_readNeeds_27 : decode cX8_readNeeds 27 = .ok (.invokevirtual 121, 3) := by decide +kernel
theorem dX8_readNeeds_30 : decode cX8_readNeeds 30 = .ok (.istore_n 3, 1) := by decide +kernel
theorem dX8_readNeeds_31 : decode cX8_readNeeds 31 = .ok (.iload_n 3, 1) := by decide +kernel
theorem dX8_readNeeds_32 : decode cX8_readNeeds 32 = .ok (.iconst (-1), 1) := by decide +kernel
theorem dX8_readNeeds_33 : decode cX8_readNeeds 33 = .ok (.if_icmp .ne 5, 3) := by decide +kernel
theorem dX8_readNeeds_36 : decode cX8_readNeeds 36 = .ok (.iconst (-1), 1) := by decide +kernel
theorem dX8_readNeeds_37 : decode cX8_readNeeds 37 = .ok (.ireturn, 1) := by decide +kernel
theorem dX8_readNeeds_38 : decode cX8_readNeeds 38 = .ok (.iload_n 1, 1) := by decide +kernel
theorem dX8_readNeeds_39 : decode cX8_readNeeds 39 = .ok (.iload_n 3, 1) := by decide +kernel
theorem dX8_readNeeds_40 : decode cX8_readNeeds 40 = .ok (.ishr, 1) := by decide +kernel
theorem dX8_readNeeds_41 : decode cX8_readNeeds 41 = .ok (.iconst 1, 1) := by decide +kernel
theorem dX8_readNeeds_42 : decode cX8_readNeeds 42 = .ok (.iand, 1) := by decide +kernel
theorem dX8_readNeeds_43 : decode cX8_readNeeds 43 = .ok (.ifCond .eq 11, 3) := by decide +kernel
theorem dX8_readNeeds_46 : decode cX8_readNeeds 46 = .ok (.aload_n 0, 1) := by decide +kernel
theorem dX8_readNeeds_47 : decode cX8_readNeeds 47 = .ok (.iconst 5, 1) := by decide +kernel
theorem dX8_readNeeds_48 : decode cX8_readNeeds 48 = .ok (.invokevirtual 52, 3) := by decide +kernel
theorem dX8_readNeeds_51 : decode cX8_readNeeds 51 = .ok (.pop, 1) := by decide +kernel
theorem dX8_readNeeds_52 : decode cX8_readNeeds 52 = .ok (.iconst (-1), 1) := by decide +kernel
theorem dX8_readNeeds_53 : decode cX8_readNeeds 53 = .ok (.ireturn, 1) := by decide +kernel
theorem dX8_readNeeds_54 : decode cX8_readNeeds 54 = .ok (.iload_n 1, 1) := by decide +kernel
theorem dX8_readNeeds_55 : decode cX8_readNeeds 55 = .ok (.iconst 1, 1) := by decide +kernel
theorem dX8_readNeeds_56 : decode cX8_readNeeds 56 = .ok (.iload_n 3, 1) := by decide +kernel
theorem dX8_readNeeds_57 : decode cX8_readNeeds 57 = .ok (.ishl, 1) := by decide +kernel
theorem dX8_readNeeds_58 : decode cX8_readNeeds 58 = .ok (.ior, 1) := by decide +kernel
theorem dX8_readNeeds_59 : decode cX8_readNeeds 59 = .ok (.istore_n 1, 1) := by decide +kernel
theorem dX8_readNeeds_60 : decode cX8_readNeeds 60 = .ok (.aload_n 0, 1) := by decide +kernel
theorem dX8_readNeeds_61 : decode cX8_readNeeds 61 = .ok (.invokevirtual 59, 3) := by decide +kernel
theorem dX8_readNeeds_64 : decode cX8_readNeeds 64 = .ok (.iinc 2 1, 3) := by decide +kernel
theorem dX8_readNeeds_67 : decode cX8_readNeeds 67 = .ok (.goto (-59), 3) := by decide +kernel
theorem dX8_readNeeds_70 : decode cX8_readNeeds 70 = .ok (.iload_n 1, 1) := by decide +kernel
theorem dX8_readNeeds_71 : decode cX8_readNeeds 71 = .ok (.ireturn, 1) := by decide +kernel
theorem dX8_readClaim_0 : decode cX8_readClaim 0 = .ok (.aload_n 0, 1) := by decide +kernel
theorem dX8_readClaim_1 : decode cX8_readClaim 1 = .ok (.getfield 9, 3) := by decide +kernel
theorem dX8_readClaim_4 : decode cX8_readClaim 4 = .ok (.getfield 103, 3) := by decide +kernel
theorem dX8_readClaim_7 : decode cX8_readClaim 7 = .ok (.bipush 8, 2) := by decide +kernel
theorem dX8_readClaim_9 : decode cX8_readClaim 9 = .ok (.if_icmp .ne 10, 3) := by decide +kernel
theorem dX8_readClaim_12 : decode cX8_readClaim 12 = .ok (.aload_n 0, 1) := by decide +kernel
theorem dX8_readClaim_13 : decode cX8_readClaim 13 = .ok (.bipush 6, 2) := by decide +kernel
theorem dX8_readClaim_15 : decode cX8_readClaim 15 = .ok (.invokevirtual 52, 3) := by decide +kernel
theorem dX8_readClaim_18 : decode cX8_readClaim 18 = .ok (.ireturn, 1) := by decide +kernel
theorem dX8_readClaim_19 : decode cX8_readClaim 19 = .ok (.aload_n 0, 1) := by decide +kernel
theorem dX8_readClaim_20 : decode cX8_readClaim 20 = .ok (.invokevirtual 59, 3) := by decide +kernel
theorem dX8_readClaim_23 : decode cX8_readClaim 23 = .ok (.aload_n 0, 1) := by decide +kernel
theorem dX8_readClaim_24 : decode cX8_readClaim 24 = .ok (.invokevirtual 90, 3) := by decide +kernel
theorem dX8_readClaim_27 : decode cX8_readClaim 27 = .ok (.ifCond .ne 5, 3) := by decide +kernel
theorem dX8_readClaim_30 : decode cX8_readClaim 30 = .ok (.iconst 0, 1) := by decide +kernel
theorem dX8_readClaim_31 : decode cX8_readClaim 31 = .ok (.ireturn, 1) := by decide +kernel
theorem dX8_readClaim_32 : decode cX8_readClaim 32 = .ok (.aload_n 0, 1) := by decide +kernel
theorem dX8_readClaim_33 : decode cX8_readClaim 33 = .ok (.getfield 79, 3) := by decide +kernel
theorem dX8_readClaim_36 : decode cX8_readClaim 36 = .ok (.lstore_n 1, 1) := by decide +kernel
theorem dX8_readClaim_37 : decode cX8_readClaim 37 = .ok (.aload_n 0, 1) := by decide +kernel
theorem dX8_readClaim_38 : decode cX8_readClaim 38 = .ok (.invokevirtual 59, 3) := by decide +kernel
theorem dX8_readClaim_41 : decode cX8_readClaim 41 = .ok (.aload_n 0, 1) := by decide +kernel
theorem dX8_readClaim_42 : decode cX8_readClaim 42 = .ok (.iconst 5, 1) := by decide +kernel
theorem dX8_readClaim_43 : decode cX8_readClaim 43 = .ok (.invokevirtual 93, 3) := by decide +kernel
theorem dX8_readClaim_46 : decode cX8_readClaim 46 = .ok (.ifCond .ne 5, 3) := by decide +kernel
theorem dX8_readClaim_49 : decode cX8_readClaim 49 = .ok (.iconst 0, 1) := by decide +kernel
theorem dX8_readClaim_50 : decode cX8_readClaim 50 = .ok (.ireturn, 1) := by decide +kernel
theorem dX8_readClaim_51 : decode cX8_readClaim 51 = .ok (.aload_n 0, 1) := by decide +kernel
theorem dX8_readClaim_52 : decode cX8_readClaim 52 = .ok (.aload_n 0, 1) := by decide +kernel
theorem dX8_readClaim_53 : decode cX8_readClaim 53 = .ok (.getfield 9, 3) := by decide +kernel
theorem dX8_readClaim_56 : decode cX8_readClaim 56 = .ok (.invokevirtual 106, 3) := by decide +kernel
theorem dX8_readClaim_59 : decode cX8_readClaim 59 = .ok (.istore_n 3, 1) := by decide +kernel
theorem dX8_readClaim_60 : decode cX8_readClaim 60 = .ok (.iload_n 3, 1) := by decide +kernel
theorem dX8_readClaim_61 : decode cX8_readClaim 61 = .ok (.iconst (-1), 1) := by decide +kernel
theorem dX8_readClaim_62 : decode cX8_readClaim 62 = .ok (.if_icmp .ne 5, 3) := by decide +kernel
theorem dX8_readClaim_65 : decode cX8_readClaim 65 = .ok (.iconst 0, 1) := by decide +kernel
theorem dX8_readClaim_66 : decode cX8_readClaim 66 = .ok (.ireturn, 1) := by decide +kernel
theorem dX8_readClaim_67 : decode cX8_readClaim 67 = .ok (.aload_n 0, 1) := by decide +kernel
theorem dX8_readClaim_68 : decode cX8_readClaim 68 = .ok (.invokevirtual 59, 3) := by decide +kernel
theorem dX8_readClaim_71 : decode cX8_readClaim 71 = .ok (.aload_n 0, 1) := by decide +kernel
theorem dX8_readClaim_72 : decode cX8_readClaim 72 = .ok (.getfield 33, 3) := by decide +kernel
theorem dX8_readClaim_75 : decode cX8_readClaim 75 = .ok (.bipush 6, 2) := by decide +kernel
theorem dX8_readClaim_77 : decode cX8_readClaim 77 = .ok (.if_icmp .ne 7, 3) := by decide +kernel
theorem dX8_readClaim_80 : decode cX8_readClaim 80 = .ok (.iconst 1, 1) := by decide +kernel
theorem dX8_readClaim_81 : decode cX8_readClaim 81 = .ok (.goto 4, 3) := by decide +kernel
theorem dX8_readClaim_84 : decode cX8_readClaim 84 = .ok (.iconst 0, 1) := by decide +kernel
theorem dX8_readClaim_85 : decode cX8_readClaim 85 = .ok (.istore 4, 2) := by decide +kernel
theorem dX8_readClaim_87 : decode cX8_readClaim 87 = .ok (.iload 4, 2) := by decide +kernel
theorem dX8_readClaim_89 : decode cX8_readClaim 89 = .ok (.ifCond .eq 7, 3) := by decide +kernel
theorem dX8_readClaim_92 : decode cX8_readClaim 92 = .ok (.aload_n 0, 1) := by decide +kernel
theorem dX8_readClaim_93 : decode cX8_readClaim 93 = .ok (.invokevirtual 59, 3) := by decide +kernel
theorem dX8_readClaim_96 : decode cX8_readClaim 96 = .ok (.aload_n 0, 1) := by decide +kernel
theorem dX8_readClaim_97 : decode cX8_readClaim 97 = .ok (.getfield 33, 3) := by decide +kernel
theorem dX8_readClaim_100 : decode cX8_readClaim 100 = .ok (.bipush 7, 2) := by decide +kernel
theorem dX8_readClaim_102 : decode cX8_readClaim 102 = .ok (.if_icmp .ne 10, 3) := by decide +kernel
theorem dX8_readClaim_105 : decode cX8_readClaim 105 = .ok (.aload_n 0, 1) := by decide +kernel
theorem dX8_readClaim_106 : decode cX8_readClaim 106 = .ok (.invokevirtual 110, 3) := by decide +kernel
theorem dX8_readClaim_109 : decode cX8_readClaim 109 = .ok (.goto 4, 3) := by decide +kernel
theorem dX8_readClaim_112 : decode cX8_readClaim 112 = .ok (.iconst 0, 1) := by decide +kernel
theorem dX8_readClaim_113 : decode cX8_readClaim 113 = .ok (.istore 5, 2) := by decide +kernel
theorem dX8_readClaim_115 : decode cX8_readClaim 115 = .ok (.iload 5, 2) := by decide +kernel
theorem dX8_readClaim_117 : decode cX8_readClaim 117 = .ok (.iconst (-1), 1) := by decide +kernel
theorem dX8_readClaim_118 : decode cX8_readClaim 118 = .ok (.if_icmp .ne 5, 3) := by decide +kernel
theorem dX8_readClaim_121 : decode cX8_readClaim 121 = .ok (.iconst 0, 1) := by decide +kernel
theorem dX8_readClaim_122 : decode cX8_readClaim 122 = .ok (.ireturn, 1) := by decide +kernel
theorem dX8_readClaim_123 : decode cX8_readClaim 123 = .ok (.iload 4, 2) := by decide +kernel
theorem dX8_readClaim_125 : decode cX8_readClaim 125 = .ok (.ifCond .eq 24, 3) := by decide +kernel
theorem dX8_readClaim_128 : decode cX8_readClaim 128 = .ok (.aload_n 0, 1) := by decide +kernel
theorem dX8_readClaim_129 : decode cX8_readClaim 129 = .ok (.getfield 9, 3) := by decide +kernel
theorem dX8_readClaim_132 : decode cX8_readClaim 132 = .ok (.dup, 1) := by decide +kernel
theorem dX8_readClaim_133 : decode cX8_readClaim 133 = .ok (.getfield 114, 3) := by decide +kernel
theorem dX8_readClaim_136 : decode cX8_readClaim 136 = .ok (.iconst 1, 1) := by decide +kernel
theorem dX8_readClaim_137 : decode cX8_readClaim 137 = .ok (.aload_n 0, 1) := by decide +kernel
theorem dX8_readClaim_138 : decode cX8_readClaim 138 = .ok (.getfield 9, 3) := by decide +kernel
theorem dX8_readClaim_141 : decode cX8_readClaim 141 = .ok (.getfield 103, 3) := by decide +kernel
theorem dX8_readClaim_144 : decode cX8_readClaim 144 = .ok (.ishl, 1) := by decide +kernel
theorem dX8_readClaim_145 : decode cX8_readClaim 145 = .ok (.ior, 1) := by decide +kernel
theorem dX8_readClaim_146 : decode cX8_readClaim 146 = .ok (.putfield 114, 3) := by decide +kernel
theorem dX8_readClaim_149 : decode cX8_readClaim 149 = .ok (.aload_n 0, 1) := by decide +kernel
theorem dX8_readClaim_150 : decode cX8_readClaim 150 = .ok (.getfield 9, 3) := by decide +kernel
theorem dX8_readClaim_153 : decode cX8_readClaim 153 = .ok (.iload_n 3, 1) := by decide +kernel
theorem dX8_readClaim_154 : decode cX8_readClaim 154 = .ok (.iload 5, 2) := by decide +kernel
theorem dX8_readClaim_156 : decode cX8_readClaim 156 = .ok (.lload_n 1, 1) := by decide +kernel
theorem dX8_readClaim_157 : decode cX8_readClaim 157 = .ok (.invokevirtual 117, 3) := by decide +kernel
theorem dX8_readClaim_160 : decode cX8_readClaim 160 = .ok (.iconst 1, 1) := by decide +kernel
theorem dX8_readClaim_161 : decode cX8_readClaim 161 = .ok (.ireturn, 1) := by decide +kernel
theorem dX8_isFreeSeatHere_0 : decode cX8_isFreeSeatHere 0 = .ok (.aload_n 0, 1) := by decide +kernel
theorem dX8_isFreeSeatHere_1 : decode cX8_isFreeSeatHere 1 = .ok (.iconst 0, 1) := by decide +kernel
theorem dX8_isFreeSeatHere_2 : decode cX8_isFreeSeatHere 2 = .ok (.bipush 9, 2) := by decide +kernel
theorem dX8_isFreeSeatHere_4 : decode cX8_isFreeSeatHere 4 = .ok (.invokevirtual 62, 3) := by decide +kernel
theorem dX8_isFreeSeatHere_7 : decode cX8_isFreeSeatHere 7 = .ok (.ifCond .ne 5, 3) := by decide +kernel
theorem dX8_isFreeSeatHere_10 : decode cX8_isFreeSeatHere 10 = .ok (.iconst 0, 1) := by decide +kernel
theorem dX8_isFreeSeatHere_11 : decode cX8_isFreeSeatHere 11 = .ok (.ireturn, 1) := by decide +kernel
theorem dX8_isFreeSeatHere_12 : decode cX8_isFreeSeatHere 12 = .ok (.iconst 0, 1) := by decide +kernel
theorem dX8_isFreeSeatHere_13 : decode cX8_isFreeSeatHere 13 = .ok (.istore_n 1, 1) := by decide +kernel
theorem dX8_isFreeSeatHere_14 : decode cX8_isFreeSeatHere 14 = .ok (.iload_n 1, 1) := by decide +kernel
theorem dX8_isFreeSeatHere_15 : decode cX8_isFreeSeatHere 15 = .ok (.aload_n 0, 1) := by decide +kernel
theorem dX8_isFreeSeatHere_16 : decode cX8_isFreeSeatHere 16 = .ok (.getfield 9, 3) := by decide +kernel
theorem dX8_isFreeSeatHere_19 : decode cX8_isFreeSeatHere 19 = .ok (.getfield 124, 3) := by decide +kernel
theorem dX8_isFreeSeatHere_22 : decode cX8_isFreeSeatHere 22 = .ok (.if_icmp .ge 31, 3) := by decide +kernel
theorem dX8_isFreeSeatHere_25 : decode cX8_isFreeSeatHere 25 = .ok (.aload_n 0, 1) := by decide +kernel
theorem dX8_isFreeSeatHere_26 : decode cX8_isFreeSeatHere 26 = .ok (.getfield 9, 3) := by decide +kernel
theorem dX8_isFreeSeatHere_29 : decode cX8_isFreeSeatHere 29 = .ok (.getfield 130, 3) := by decide +kernel
theorem dX8_isFreeSeatHere_32 : decode cX8_isFreeSeatHere 32 = .ok (.iload_n 1, 1) := by decide +kernel
theorem dX8_isFreeSeatHere_33 : decode cX8_isFreeSeatHere 33 = .ok (.iaload, 1) := by decide +kernel
theorem dX8_isFreeSeatHere_34 : decode cX8_isFreeSeatHere 34 = .ok (.aload_n 0, 1) := by decide +kernel
theorem dX8_isFreeSeatHere_35 : decode cX8_isFreeSeatHere 35 = .ok (.getfield 66, 3) := by decide +kernel
theorem dX8_isFreeSeatHere_38 : decode cX8_isFreeSeatHere 38 = .ok (.if_icmp .ne 9, 3) := by decide +kernel
theorem dX8_isFreeSeatHere_41 : decode cX8_isFreeSeatHere 41 = .ok (.aload_n 0, 1) := by decide +kernel
theorem dX8_isFreeSeatHere_42 : decode cX8_isFreeSeatHere 42 = .ok (.iconst 5, 1) := by decide +kernel
theorem dX8_isFreeSeatHere_43 : decode cX8_isFreeSeatHere 43 = .ok (.invokevirtual 52, 3) := by decide +kernel
theorem dX8_isFreeSeatHere_46 : decode cX8_isFreeSeatHere 46 = .ok (.ireturn, 1) := by decide +kernel
theorem dX8_isFreeSeatHere_47 : decode cX8_isFreeSeatHere 47 = .ok (.iinc 1 1, 3) := by decide +kernel
theorem dX8_isFreeSeatHere_50 : decode cX8_isFreeSeatHere 50 = .ok (.goto (-36), 3) := by decide +kernel
theorem dX8_isFreeSeatHere_53 : decode cX8_isFreeSeatHere 53 = .ok (.iconst 1, 1) := by decide +kernel
theorem dX8_isFreeSeatHere_54 : decode cX8_isFreeSeatHere 54 = .ok (.ireturn, 1) := by decide +kernel
theorem dX8_readFails_0 : decode cX8_readFails 0 = .ok (.aload_n 0, 1) := by decide +kernel
theorem dX8_readFails_1 : decode cX8_readFails 1 = .ok (.invokevirtual 59, 3) := by decide +kernel
theorem dX8_readFails_4 : decode cX8_readFails 4 = .ok (.aload_n 0, 1) := by decide +kernel
theorem dX8_readFails_5 : decode cX8_readFails 5 = .ok (.iconst 0, 1) := by decide +kernel
theorem dX8_readFails_6 : decode cX8_readFails 6 = .ok (.bipush 16, 2) := by decide +kernel
theorem dX8_readFails_8 : decode cX8_readFails 8 = .ok (.invokevirtual 62, 3) := by decide +kernel
theorem dX8_readFails_11 : decode cX8_readFails 11 = .ok (.ifCond .ne 5, 3) := by decide +kernel
theorem dX8_readFails_14 : decode cX8_readFails 14 = .ok (.iconst 0, 1) := by decide +kernel
theorem dX8_readFails_15 : decode cX8_readFails 15 = .ok (.ireturn, 1) := by decide +kernel
theorem dX8_readFails_16 : decode cX8_readFails 16 = .ok (.aload_n 0, 1) := by decide +kernel
theorem dX8_readFails_17 : decode cX8_readFails 17 = .ok (.getfield 9, 3) := by decide +kernel
theorem dX8_readFails_20 : decode cX8_readFails 20 = .ok (.getfield 136, 3) := by decide +kernel
theorem dX8_readFails_23 : decode cX8_readFails 23 = .ok (.iload_n 1, 1) := by decide +kernel
theorem dX8_readFails_24 : decode cX8_readFails 24 = .ok (.aload_n 0, 1) := by decide +kernel
theorem dX8_readFails_25 : decode cX8_readFails 25 = .ok (.getfield 66, 3) := by decide +kernel
theorem dX8_readFails_28 : decode cX8_readFails 28 = .ok (.iastore, 1) := by decide +kernel
theorem dX8_readFails_29 : decode cX8_readFails 29 = .ok (.aload_n 0, 1) := by decide +kernel
theorem dX8_readFails_30 : decode cX8_readFails 30 = .ok (.invokevirtual 59, 3) := by decide +kernel
theorem dX8_readFails_33 : decode cX8_readFails 33 = .ok (.iconst 1, 1) := by decide +kernel
theorem dX8_readFails_34 : decode cX8_readFails 34 = .ok (.ireturn, 1) := by decide +kernel
theorem dX8_readTalker_0 : decode cX8_readTalker 0 = .ok (.aload_n 0, 1) := by decide +kernel
theorem dX8_readTalker_1 : decode cX8_readTalker 1 = .ok (.getfield 9, 3) := by decide +kernel
theorem dX8_readTalker_4 : decode cX8_readTalker 4 = .ok (.getfield 124, 3) := by decide +kernel
theorem dX8_readTalker_7 : decode cX8_readTalker 7 = .ok (.istore_n 1, 1) := by decide +kernel
theorem dX8_readTalker_8 : decode cX8_readTalker 8 = .ok (.iload_n 1, 1) := by decide +kernel
theorem dX8_readTalker_9 : decode cX8_readTalker 9 = .ok (.bipush 6, 2) := by decide +kernel
theorem dX8_readTalker_11 : decode cX8_readTalker 11 = .ok (.if_icmp .ne 10, 3) := by decide +kernel
theorem dX8_readTalker_14 : decode cX8_readTalker 14 = .ok (.aload_n 0, 1) := by decide +kernel
theorem dX8_readTalker_15 : decode cX8_readTalker 15 = .ok (.bipush 6, 2) := by decide +kernel
theorem dX8_readTalker_17 : decode cX8_readTalker 17 = .ok (.invokevirtual 52, 3) := by decide +kernel
theorem dX8_readTalker_20 : decode cX8_readTalker 20 = .ok (.ireturn, 1) := by decide +kernel
theorem dX8_readTalker_21 : decode cX8_readTalker 21 = .ok (.aload_n 0, 1) := by decide +kernel
theorem dX8_readTalker_22 : decode cX8_readTalker 22 = .ok (.invokevirtual 59, 3) := by decide +kernel
theorem dX8_readTalker_25 : decode cX8_readTalker 25 = .ok (.aload_n 0, 1) := by decide +kernel
theorem dX8_readTalker_26 : decode cX8_readTalker 26 = .ok (.invokevirtual 90, 3) := by decide +kernel
theorem dX8_readTalker_29 : decode cX8_readTalker 29 = .ok (.ifCond .ne 5, 3) := by decide +kernel
theorem dX8_readTalker_32 : decode cX8_readTalker 32 = .ok (.iconst 0, 1) := by decide +kernel
theorem dX8_readTalker_33 : decode cX8_readTalker 33 = .ok (.ireturn, 1) := by decide +kernel
theorem dX8_readTalker_34 : decode cX8_readTalker 34 = .ok (.aload_n 0, 1) := by decide +kernel
theorem dX8_readTalker_35 : decode cX8_readTalker 35 = .ok (.getfield 9, 3) := by decide +kernel
theorem dX8_readTalker_38 : decode cX8_readTalker 38 = .ok (.getfield 75, 3) := by decide +kernel
theorem dX8_readTalker_41 : decode cX8_readTalker 41 = .ok (.bipush 17, 2) := by decide +kernel
theorem dX8_readTalker_43 : decode cX8_readTalker 43 = .ok (.iload_n 1, 1) := by decide +kernel
theorem dX8_readTalker_44 : decode cX8_readTalker 44 = .ok (.iadd, 1) := by decide +kernel
theorem dX8_readTalker_45 : decode cX8_readTalker 45 = .ok (.aload_n 0, 1) := by decide +kernel
theorem dX8_readTalker_46 : decode cX8_readTalker 46 = .ok (.getfield 79, 3) := by decide +kernel
theorem dX8_readTalker_49 : decode cX8_readTalker 49 = .ok (.lastore, 1) := by decide +kernel
theorem dX8_readTalker_50 : decode cX8_readTalker 50 = .ok (.aload_n 0, 1) := by decide +kernel
theorem dX8_readTalker_51 : decode cX8_readTalker 51 = .ok (.invokevirtual 59, 3) := by decide +kernel
theorem dX8_readTalker_54 : decode cX8_readTalker 54 = .ok (.aload_n 0, 1) := by decide +kernel
theorem dX8_readTalker_55 : decode cX8_readTalker 55 = .ok (.bipush 9, 2) := by decide +kernel
theorem dX8_readTalker_57 : decode cX8_readTalker 57 = .ok (.invokevirtual 93, 3) := by decide +kernel
theorem dX8_readTalker_60 : decode cX8_readTalker 60 = .ok (.ifCond .eq 10, 3) := by decide +kernel
theorem dX8_readTalker_63 : decode cX8_readTalker 63 = .ok (.aload_n 0, 1) := by decide +kernel
theorem dX8_readTalker_64 : decode cX8_readTalker 64 = .ok (.invokevirtual 127, 3) := by decide +kernel
theorem dX8_readTalker_67 : decode cX8_readTalker 67 = .ok (.ifCond .ne 5, 3) := by decide +kernel
theorem dX8_readTalker_70 : decode cX8_readTalker 70 = .ok (.iconst 0, 1) := by decide +kernel
theorem dX8_readTalker_71 : decode cX8_readTalker 71 = .ok (.ireturn, 1) := by decide +kernel
theorem dX8_readTalker_72 : decode cX8_readTalker 72 = .ok (.aload_n 0, 1) := by decide +kernel
theorem dX8_readTalker_73 : decode cX8_readTalker 73 = .ok (.getfield 9, 3) := by decide +kernel
theorem dX8_readTalker_76 : decode cX8_readTalker 76 = .ok (.getfield 130, 3) := by decide +kernel
theorem dX8_readTalker_79 : decode cX8_readTalker 79 = .ok (.iload_n 1, 1) := by decide +kernel
theorem dX8_readTalker_80 : decode cX8_readTalker 80 = .ok (.aload_n 0, 1) := by decide +kernel
theorem dX8_readTalker_81 : decode cX8_readTalker 81 = .ok (.getfield 66, 3) := by decide +kernel
theorem dX8_readTalker_84 : decode cX8_readTalker 84 = .ok (.iastore, 1) := by decide +kernel
theorem dX8_readTalker_85 : decode cX8_readTalker 85 = .ok (.aload_n 0, 1) := by decide +kernel
theorem dX8_readTalker_86 : decode cX8_readTalker 86 = .ok (.invokevirtual 59, 3) := by decide +kernel
theorem dX8_readTalker_89 : decode cX8_readTalker 89 = .ok (.aload_n 0, 1) := by decide +kernel
theorem dX8_readTalker_90 : decode cX8_readTalker 90 = .ok (.bipush 10, 2) := by decide +kernel
theorem dX8_readTalker_92 : decode cX8_readTalker 92 = .ok (.invokevirtual 93, 3) := by decide +kernel
theorem dX8_readTalker_95 : decode cX8_readTalker 95 = .ok (.ifCond .ne 5, 3) := by decide +kernel
theorem dX8_readTalker_98 : decode cX8_readTalker 98 = .ok (.iconst 0, 1) := by decide +kernel
theorem dX8_readTalker_99 : decode cX8_readTalker 99 = .ok (.ireturn, 1) := by decide +kernel
theorem dX8_readTalker_100 : decode cX8_readTalker 100 = .ok (.aload_n 0, 1) := by decide +kernel
theorem dX8_readTalker_101 : decode cX8_readTalker 101 = .ok (.aload_n 0, 1) := by decide +kernel
theorem dX8_readTalker_102 : decode cX8_readTalker 102 = .ok (.getfield 9, 3) := by decide +kernel
theorem dX8_readTalker_105 : decode cX8_readTalker 105 = .ok (.invokevirtual 106, 3) := by decide +kernel
theorem dX8_readTalker_108 : decode cX8_readTalker 108 = .ok (.istore_n 2, 1) := by decide +kernel
theorem dX8_readTalker_109 : decode cX8_readTalker 109 = .ok (.iload_n 2, 1) := by decide +kernel
theorem dX8_readTalker_110 : decode cX8_readTalker 110 = .ok (.iconst (-1), 1) := by decide +kernel
theorem dX8_readTalker_111 : decode cX8_readTalker 111 = .ok (.if_icmp .ne 5, 3) := by decide +kernel
theorem dX8_readTalker_114 : decode cX8_readTalker 114 = .ok (.iconst 0, 1) := by decide +kernel
theorem dX8_readTalker_115 : decode cX8_readTalker 115 = .ok (.ireturn, 1) := by decide +kernel
theorem dX8_readTalker_116 : decode cX8_readTalker 116 = .ok (.aload_n 0, 1) := by decide +kernel
theorem dX8_readTalker_117 : decode cX8_readTalker 117 = .ok (.getfield 9, 3) := by decide +kernel
theorem dX8_readTalker_120 : decode cX8_readTalker 120 = .ok (.getfield 133, 3) := by decide +kernel
theorem dX8_readTalker_123 : decode cX8_readTalker 123 = .ok (.iload_n 1, 1) := by decide +kernel
theorem dX8_readTalker_124 : decode cX8_readTalker 124 = .ok (.iload_n 2, 1) := by decide +kernel
theorem dX8_readTalker_125 : decode cX8_readTalker 125 = .ok (.iconst 1, 1) := by decide +kernel
theorem dX8_readTalker_126 : decode cX8_readTalker 126 = .ok (.iadd, 1) := by decide +kernel
theorem dX8_readTalker_127 : decode cX8_readTalker 127 = .ok (.iastore, 1) := by decide +kernel
theorem dX8_readTalker_128 : decode cX8_readTalker 128 = .ok (.aload_n 0, 1) := by decide +kernel
theorem dX8_readTalker_129 : decode cX8_readTalker 129 = .ok (.getfield 9, 3) := by decide +kernel
theorem dX8_readTalker_132 : decode cX8_readTalker 132 = .ok (.getfield 136, 3) := by decide +kernel
theorem dX8_readTalker_135 : decode cX8_readTalker 135 = .ok (.iload_n 1, 1) := by decide +kernel
theorem dX8_readTalker_136 : decode cX8_readTalker 136 = .ok (.iconst 0, 1) := by decide +kernel
theorem dX8_readTalker_137 : decode cX8_readTalker 137 = .ok (.iastore, 1) := by decide +kernel
theorem dX8_readTalker_138 : decode cX8_readTalker 138 = .ok (.aload_n 0, 1) := by decide +kernel
theorem dX8_readTalker_139 : decode cX8_readTalker 139 = .ok (.invokevirtual 59, 3) := by decide +kernel
theorem dX8_readTalker_142 : decode cX8_readTalker 142 = .ok (.aload_n 0, 1) := by decide +kernel
theorem dX8_readTalker_143 : decode cX8_readTalker 143 = .ok (.getfield 33, 3) := by decide +kernel
theorem dX8_readTalker_146 : decode cX8_readTalker 146 = .ok (.bipush 11, 2) := by decide +kernel
theorem dX8_readTalker_148 : decode cX8_readTalker 148 = .ok (.if_icmp .ne 13, 3) := by decide +kernel
theorem dX8_readTalker_151 : decode cX8_readTalker 151 = .ok (.aload_n 0, 1) := by decide +kernel
theorem dX8_readTalker_152 : decode cX8_readTalker 152 = .ok (.iload_n 1, 1) := by decide +kernel
theorem dX8_readTalker_153 : decode cX8_readTalker 153 = .ok (.invokevirtual 139, 3) := by decide +kernel
theorem dX8_readTalker_156 : decode cX8_readTalker 156 = .ok (.ifCond .ne 5, 3) := by decide +kernel
theorem dX8_readTalker_159 : decode cX8_readTalker 159 = .ok (.iconst 0, 1) := by decide +kernel
theorem dX8_readTalker_160 : decode cX8_readTalker 160 = .ok (.ireturn, 1) := by decide +kernel
theorem dX8_readTalker_161 : decode cX8_readTalker 161 = .ok (.aload_n 0, 1) := by decide +kernel
theorem dX8_readTalker_162 : decode cX8_readTalker 162 = .ok (.getfield 9, 3) := by decide +kernel
theorem dX8_readTalker_165 : decode cX8_readTalker 165 = .ok (.dup, 1) := by decide +kernel
theorem dX8_readTalker_166 : decode cX8_readTalker 166 = .ok (.getfield 124, 3) := by decide +kernel
theorem dX8_readTalker_169 : decode cX8_readTalker 169 = .ok (.iconst 1, 1) := by decide +kernel
theorem dX8_readTalker_170 : decode cX8_readTalker 170 = .ok (.iadd, 1) := by decide +kernel
theorem dX8_readTalker_171 : decode cX8_readTalker 171 = .ok (.putfield 124, 3) := by decide +kernel
theorem dX8_readTalker_174 : decode cX8_readTalker 174 = .ok (.iconst 1, 1) := by decide +kernel
theorem dX8_readTalker_175 : decode cX8_readTalker 175 = .ok (.ireturn, 1) := by decide +kernel
theorem dX8_readFeud_0 : decode cX8_readFeud 0 = .ok (.aload_n 0, 1) := by decide +kernel
theorem dX8_readFeud_1 : decode cX8_readFeud 1 = .ok (.getfield 9, 3) := by decide +kernel
theorem dX8_readFeud_4 : decode cX8_readFeud 4 = .ok (.getfield 142, 3) := by decide +kernel
theorem dX8_readFeud_7 : decode cX8_readFeud 7 = .ok (.bipush 10, 2) := by decide +kernel
theorem dX8_readFeud_9 : decode cX8_readFeud 9 = .ok (.if_icmp .ne 10, 3) := by decide +kernel
theorem dX8_readFeud_12 : decode cX8_readFeud 12 = .ok (.aload_n 0, 1) := by decide +kernel
theorem dX8_readFeud_13 : decode cX8_readFeud 13 = .ok (.bipush 6, 2) := by decide +kernel
theorem dX8_readFeud_15 : decode cX8_readFeud 15 = .ok (.invokevirtual 52, 3) := by decide +kernel
theorem dX8_readFeud_18 : decode cX8_readFeud 18 = .ok (.ireturn, 1) := by decide +kernel
theorem dX8_readFeud_19 : decode cX8_readFeud 19 = .ok (.aload_n 0, 1) := by decide +kernel
theorem dX8_readFeud_20 : decode cX8_readFeud 20 = .ok (.invokevirtual 59, 3) := by decide +kernel
theorem dX8_readFeud_23 : decode cX8_readFeud 23 = .ok (.aload_n 0, 1) := by decide +kernel
theorem dX8_readFeud_24 : decode cX8_readFeud 24 = .ok (.aload_n 0, 1) := by decide +kernel
theorem dX8_readFeud_25 : decode cX8_readFeud 25 = .ok (.getfield 9, 3) := by decide +kernel
theorem dX8_readFeud_28 : decode cX8_readFeud 28 = .ok (.invokevirtual 145, 3) := by decide +kernel
theorem dX8_readFeud_31 : decode cX8_readFeud 31 = .ok (.istore_n 1, 1) := by decide +kernel
theorem dX8_readFeud_32 : decode cX8_readFeud 32 = .ok (.iload_n 1, 1) := by decide +kernel
theorem dX8_readFeud_33 : decode cX8_readFeud 33 = .ok (.iconst (-1), 1) := by decide +kernel
theorem dX8_readFeud_34 : decode cX8_readFeud 34 = .ok (.if_icmp .ne 5, 3) := by decide +kernel
theorem dX8_readFeud_37 : decode cX8_readFeud 37 = .ok (.iconst 0, 1) := by decide +kernel
theorem dX8_readFeud_38 : decode cX8_readFeud 38 = .ok (.ireturn, 1) := by decide +kernel
theorem dX8_readFeud_39 : decode cX8_readFeud 39 = .ok (.aload_n 0, 1) := by decide +kernel
theorem dX8_readFeud_40 : decode cX8_readFeud 40 = .ok (.invokevirtual 59, 3) := by decide +kernel
theorem dX8_readFeud_43 : decode cX8_readFeud 43 = .ok (.aload_n 0, 1) := by decide +kernel
theorem dX8_readFeud_44 : decode cX8_readFeud 44 = .ok (.aload_n 0, 1) := by decide +kernel
theorem dX8_readFeud_45 : decode cX8_readFeud 45 = .ok (.getfield 9, 3) := by decide +kernel
theorem dX8_readFeud_48 : decode cX8_readFeud 48 = .ok (.invokevirtual 145, 3) := by decide +kernel
theorem dX8_readFeud_51 : decode cX8_readFeud 51 = .ok (.istore_n 2, 1) := by decide +kernel
theorem dX8_readFeud_52 : decode cX8_readFeud 52 = .ok (.iload_n 2, 1) := by decide +kernel
theorem dX8_readFeud_53 : decode cX8_readFeud 53 = .ok (.iconst (-1), 1) := by decide +kernel
theorem dX8_readFeud_54 : decode cX8_readFeud 54 = .ok (.if_icmp .ne 5, 3) := by decide +kernel
theorem dX8_readFeud_57 : decode cX8_readFeud 57 = .ok (.iconst 0, 1) := by decide +kernel
theorem dX8_readFeud_58 : decode cX8_readFeud 58 = .ok (.ireturn, 1) := by decide +kernel
theorem dX8_readFeud_59 : decode cX8_readFeud 59 = .ok (.iload_n 1, 1) := by decide +kernel
theorem dX8_readFeud_60 : decode cX8_readFeud 60 = .ok (.iload_n 2, 1) := by decide +kernel
theorem dX8_readFeud_61 : decode cX8_readFeud 61 = .ok (.if_icmp .eq 15, 3) := by decide +kernel
theorem dX8_readFeud_64 : decode cX8_readFeud 64 = .ok (.aload_n 0, 1) := by decide +kernel
theorem dX8_readFeud_65 : decode cX8_readFeud 65 = .ok (.getfield 9, 3) := by decide +kernel
theorem dX8_readFeud_68 : decode cX8_readFeud 68 = .ok (.iload_n 1, 1) := by decide +kernel
theorem dX8_readFeud_69 : decode cX8_readFeud 69 = .ok (.iload_n 2, 1) := by decide +kernel
theorem dX8_readFeud_70 : decode cX8_readFeud 70 = .ok (.invokevirtual 148, 3) := by decide +kernel
theorem dX8_readFeud_73 : decode cX8_readFeud 73 = .ok (.ifCond .eq 9, 3) := by decide +kernel
theorem dX8_readFeud_76 : decode cX8_readFeud 76 = .ok (.aload_n 0, 1) := by decide +kernel
theorem dX8_readFeud_77 : decode cX8_readFeud 77 = .ok (.iconst 5, 1) := by decide +kernel
theorem dX8_readFeud_78 : decode cX8_readFeud 78 = .ok (.invokevirtual 52, 3) := by decide +kernel
theorem dX8_readFeud_81 : decode cX8_readFeud 81 = .ok (.ireturn, 1) := by decide +kernel
theorem dX8_readFeud_82 : decode cX8_readFeud 82 = .ok (.aload_n 0, 1) := by decide +kernel
theorem dX8_readFeud_83 : decode cX8_readFeud 83 = .ok (.getfield 9, 3) := by decide +kernel
theorem dX8_readFeud_86 : decode cX8_readFeud 86 = .ok (.iload_n 1, 1) := by decide +kernel
theorem dX8_readFeud_87 : decode cX8_readFeud 87 = .ok (.iload_n 2, 1) := by decide +kernel
theorem dX8_readFeud_88 : decode cX8_readFeud 88 = .ok (.invokevirtual 151, 3) := by decide +kernel
theorem dX8_readFeud_91 : decode cX8_readFeud 91 = .ok (.aload_n 0, 1) := by decide +kernel
theorem dX8_readFeud_92 : decode cX8_readFeud 92 = .ok (.invokevirtual 59, 3) := by decide +kernel
theorem dX8_readFeud_95 : decode cX8_readFeud 95 = .ok (.iconst 1, 1) := by decide +kernel
theorem dX8_readFeud_96 : decode cX8_readFeud 96 = .ok (.ireturn, 1) := by decide +kernel
theorem dX8_readTable_0 : decode cX8_readTable 0 = .ok (.aload_n 0, 1) := by decide +kernel
theorem dX8_readTable_1 : decode cX8_readTable 1 = .ok (.aload_n 2, 1) := by decide +kernel
theorem dX8_readTable_2 : decode cX8_readTable 2 = .ok (.putfield 9, 3) := by decide +kernel
theorem dX8_readTable_5 : decode cX8_readTable 5 = .ok (.aload_n 0, 1) := by decide +kernel
theorem dX8_readTable_6 : decode cX8_readTable 6 = .ok (.getfield 9, 3) := by decide +kernel
theorem dX8_readTable_9 : decode cX8_readTable 9 = .ok (.invokevirtual 15, 3) := by decide +kernel
theorem dX8_readTable_12 : decode cX8_readTable 12 = .ok (.aload_n 0, 1) := by decide +kernel
theorem dX8_readTable_13 : decode cX8_readTable 13 = .ok (.iconst 0, 1) := by decide +kernel
theorem dX8_readTable_14 : decode cX8_readTable 14 = .ok (.putfield 21, 3) := by decide +kernel
theorem dX8_readTable_17 : decode cX8_readTable 17 = .ok (.aload_n 0, 1) := by decide +kernel
theorem dX8_readTable_18 : decode cX8_readTable 18 = .ok (.iload_n 1, 1) := by decide +kernel
theorem dX8_readTable_19 : decode cX8_readTable 19 = .ok (.invokevirtual 25, 3) := by decide +kernel
theorem dX8_readTable_22 : decode cX8_readTable 22 = .ok (.iconst 0, 1) := by decide +kernel
theorem dX8_readTable_23 : decode cX8_readTable 23 = .ok (.istore_n 3, 1) := by decide +kernel
theorem dX8_readTable_24 : decode cX8_readTable 24 = .ok (.iload_n 3, 1) := by decide +kernel
theorem dX8_readTable_25 : decode cX8_readTable 25 = .ok (.sipush 900, 3) := by decide +kernel
theorem dX8_readTable_28 : decode cX8_readTable 28 = .ok (.if_icmp .gt 152, 3) := by decide +kernel
theorem dX8_readTable_31 : decode cX8_readTable 31 = .ok (.aload_n 0, 1) := by decide +kernel
theorem dX8_readTable_32 : decode cX8_readTable 32 = .ok (.getfield 29, 3) := by decide +kernel
theorem dX8_readTable_35 : decode cX8_readTable 35 = .ok (.ifCond .eq 145, 3) := by decide +kernel
theorem dX8_readTable_38 : decode cX8_readTable 38 = .ok (.aload_n 0, 1) := by decide +kernel
theorem dX8_readTable_39 : decode cX8_readTable 39 = .ok (.getfield 33, 3) := by decide +kernel
theorem dX8_readTable_42 : decode cX8_readTable 42 = .ok (.tableswitch 111 0 12 #[66, 75, 111, 111, 84, 111, 111, 111, 93, 111, 111, 111, 102], 66) := by decide +kernel
theorem dX8_readTable_108 : decode cX8_readTable 108 = .ok (.aload_n 0, 1) := by decide +kernel
theorem dX8_readTable_109 : decode cX8_readTable 109 = .ok (.invokevirtual 36, 3) := by decide +kernel
theorem dX8_readTable_112 : decode cX8_readTable 112 = .ok (.istore 4, 2) := by decide +kernel
theorem dX8_readTable_114 : decode cX8_readTable 114 = .ok (.goto 46, 3) := by decide +kernel
theorem dX8_readTable_117 : decode cX8_readTable 117 = .ok (.aload_n 0, 1) := by decide +kernel
theorem dX8_readTable_118 : decode cX8_readTable 118 = .ok (.invokevirtual 40, 3) := by decide +kernel
theorem dX8_readTable_121 : decode cX8_readTable 121 = .ok (.istore 4, 2) := by decide +kernel
theorem dX8_readTable_123 : decode cX8_readTable 123 = .ok (.goto 37, 3) := by decide +kernel
theorem dX8_readTable_126 : decode cX8_readTable 126 = .ok (.aload_n 0, 1) := by decide +kernel
theorem dX8_readTable_127 : decode cX8_readTable 127 = .ok (.invokevirtual 43, 3) := by decide +kernel
theorem dX8_readTable_130 : decode cX8_readTable 130 = .ok (.istore 4, 2) := by decide +kernel
theorem dX8_readTable_132 : decode cX8_readTable 132 = .ok (.goto 28, 3) := by decide +kernel
theorem dX8_readTable_135 : decode cX8_readTable 135 = .ok (.aload_n 0, 1) := by decide +kernel
theorem dX8_readTable_136 : decode cX8_readTable 136 = .ok (.invokevirtual 46, 3) := by decide +kernel
theorem dX8_readTable_139 : decode cX8_readTable 139 = .ok (.istore 4, 2) := by decide +kernel
theorem dX8_readTable_141 : decode cX8_readTable 141 = .ok (.goto 19, 3) := by decide +kernel
theorem dX8_readTable_144 : decode cX8_readTable 144 = .ok (.aload_n 0, 1) := by decide +kernel
theorem dX8_readTable_145 : decode cX8_readTable 145 = .ok (.invokevirtual 49, 3) := by decide +kernel
theorem dX8_readTable_148 : decode cX8_readTable 148 = .ok (.istore 4, 2) := by decide +kernel
theorem dX8_readTable_150 : decode cX8_readTable 150 = .ok (.goto 10, 3) := by decide +kernel
theorem dX8_readTable_153 : decode cX8_readTable 153 = .ok (.aload_n 0, 1) := by decide +kernel
theorem dX8_readTable_154 : decode cX8_readTable 154 = .ok (.iconst 2, 1) := by decide +kernel
theorem dX8_readTable_155 : decode cX8_readTable 155 = .ok (.invokevirtual 52, 3) := by decide +kernel
theorem dX8_readTable_158 : decode cX8_readTable 158 = .ok (.istore 4, 2) := by decide +kernel
theorem dX8_readTable_160 : decode cX8_readTable 160 = .ok (.iload 4, 2) := by decide +kernel
theorem dX8_readTable_162 : decode cX8_readTable 162 = .ok (.ifCond .eq 10, 3) := by decide +kernel
theorem dX8_readTable_165 : decode cX8_readTable 165 = .ok (.aload_n 0, 1) := by decide +kernel
theorem dX8_readTable_166 : decode cX8_readTable 166 = .ok (.invokevirtual 56, 3) := by decide +kernel
theorem dX8_readTable_169 : decode cX8_readTable 169 = .ok (.ifCond .ne 5, 3) := by decide +kernel
theorem dX8_readTable_172 : decode cX8_readTable 172 = .ok (.iconst 0, 1) := by decide +kernel
theorem dX8_readTable_173 : decode cX8_readTable 173 = .ok (.ireturn, 1) := by decide +kernel
theorem dX8_readTable_174 : decode cX8_readTable 174 = .ok (.iinc 3 1, 3) := by decide +kernel
theorem dX8_readTable_177 : decode cX8_readTable 177 = .ok (.goto (-153), 3) := by decide +kernel
theorem dX8_readTable_180 : decode cX8_readTable 180 = .ok (.iconst 1, 1) := by decide +kernel
theorem dX8_readTable_181 : decode cX8_readTable 181 = .ok (.ireturn, 1) := by decide +kernel
theorem dX9_isMissing_0 : decode cX9_isMissing 0 = .ok (.aload_n 0, 1) := by decide +kernel
theorem dX9_isMissing_1 : decode cX9_isMissing 1 = .ok (.getfield 15, 3) := by decide +kernel
theorem dX9_isMissing_4 : decode cX9_isMissing 4 = .ok (.iconst (-1), 1) := by decide +kernel
theorem dX9_isMissing_5 : decode cX9_isMissing 5 = .ok (.if_icmp .ne 7, 3) := by decide +kernel
theorem dX9_isMissing_8 : decode cX9_isMissing 8 = .ok (.iconst 1, 1) := by decide +kernel
theorem dX9_isMissing_9 : decode cX9_isMissing 9 = .ok (.goto 4, 3) := by decide +kernel
theorem dX9_isMissing_12 : decode cX9_isMissing 12 = .ok (.iconst 0, 1) := by decide +kernel
theorem dX9_isMissing_13 : decode cX9_isMissing 13 = .ok (.ireturn, 1) := by decide +kernel
theorem dX9_holds_0 : decode cX9_holds 0 = .ok (.iload_n 1, 1) := by decide +kernel
theorem dX9_holds_1 : decode cX9_holds 1 = .ok (.ifCond .lt 25, 3) := by decide +kernel
theorem dX9_holds_4 : decode cX9_holds 4 = .ok (.iload_n 2, 1) := by decide +kernel
theorem dX9_holds_5 : decode cX9_holds 5 = .ok (.aload_n 0, 1) := by decide +kernel
theorem dX9_holds_6 : decode cX9_holds 6 = .ok (.getfield 15, 3) := by decide +kernel
theorem dX9_holds_9 : decode cX9_holds 9 = .ok (.if_icmp .gt 17, 3) := by decide +kernel
theorem dX9_holds_12 : decode cX9_holds 12 = .ok (.iload_n 1, 1) := by decide +kernel
theorem dX9_holds_13 : decode cX9_holds 13 = .ok (.aload_n 0, 1) := by decide +kernel
theorem dX9_holds_14 : decode cX9_holds 14 = .ok (.getfield 15, 3) := by decide +kernel
theorem dX9_holds_17 : decode cX9_holds 17 = .ok (.iload_n 2, 1) := by decide +kernel
theorem dX9_holds_18 : decode cX9_holds 18 = .ok (.isub, 1) := by decide +kernel
theorem dX9_holds_19 : decode cX9_holds 19 = .ok (.if_icmp .gt 7, 3) := by decide +kernel
theorem dX9_holds_22 : decode cX9_holds 22 = .ok (.iconst 1, 1) := by decide +kernel
theorem dX9_holds_23 : decode cX9_holds 23 = .ok (.goto 4, 3) := by decide +kernel
theorem dX9_holds_26 : decode cX9_holds 26 = .ok (.iconst 0, 1) := by decide +kernel
theorem dX9_holds_27 : decode cX9_holds 27 = .ok (.ireturn, 1) := by decide +kernel
theorem dX9_begin_0 : decode cX9_begin 0 = .ok (.aload_n 0, 1) := by decide +kernel
theorem dX9_begin_1 : decode cX9_begin 1 = .ok (.iload_n 1, 1) := by decide +kernel
theorem dX9_begin_2 : decode cX9_begin 2 = .ok (.putfield 19, 3) := by decide +kernel
theorem dX9_begin_5 : decode cX9_begin 5 = .ok (.aload_n 0, 1) := by decide +kernel
theorem dX9_begin_6 : decode cX9_begin 6 = .ok (.iload_n 2, 1) := by decide +kernel
theorem dX9_begin_7 : decode cX9_begin 7 = .ok (.putfield 15, 3) := by decide +kernel
theorem dX9_begin_10 : decode cX9_begin 10 = .ok (.iconst 0, 1) := by decide +kernel
theorem dX9_begin_11 : decode cX9_begin 11 = .ok (.istore_n 3, 1) := by decide +kernel
theorem dX9_begin_12 : decode cX9_begin 12 = .ok (.iload_n 3, 1) := by decide +kernel
theorem dX9_begin_13 : decode cX9_begin 13 = .ok (.iload_n 2, 1) := by decide +kernel
theorem dX9_begin_14 : decode cX9_begin 14 = .ok (.if_icmp .ge 16, 3) := by decide +kernel
theorem dX9_begin_17 : decode cX9_begin 17 = .ok (.aload_n 0, 1) := by decide +kernel
theorem dX9_begin_18 : decode cX9_begin 18 = .ok (.getfield 11, 3) := by decide +kernel
theorem dX9_begin_21 : decode cX9_begin 21 = .ok (.iload_n 3, 1) := by decide +kernel
theorem dX9_begin_22 : decode cX9_begin 22 = .ok (.lconst 0, 1) := by decide +kernel
theorem dX9_begin_23 : decode cX9_begin 23 = .ok (.lastore, 1) := by decide +kernel
theorem dX9_begin_24 : decode cX9_begin 24 = .ok (.iinc 3 1, 3) := by decide +kernel
theorem dX9_begin_27 : decode cX9_begin 27 = .ok (.goto (-15), 3) := by decide +kernel
theorem dX9_begin_30 : decode cX9_begin 30 = .ok (.return_, 1) := by decide +kernel
theorem dX9_put_0 : decode cX9_put 0 = .ok (.aload_n 0, 1) := by decide +kernel
theorem dX9_put_1 : decode cX9_put 1 = .ok (.getfield 19, 3) := by decide +kernel
theorem dX9_put_4 : decode cX9_put 4 = .ok (.tableswitch 66 0 2 #[28, 41, 54], 28) := by decide +kernel
theorem dX9_put_32 : decode cX9_put 32 = .ok (.aload_n 0, 1) := by decide +kernel
theorem dX9_put_33 : decode cX9_put 33 = .ok (.getfield 11, 3) := by decide +kernel
theorem dX9_put_36 : decode cX9_put 36 = .ok (.iload_n 1, 1) := by decide +kernel
theorem dX9_put_37 : decode cX9_put 37 = .ok (.lload_n 2, 1) := by decide +kernel
theorem dX9_put_38 : decode cX9_put 38 = .ok (.l2i, 1) := by decide +kernel
theorem dX9_put_39 : decode cX9_put 39 = .ok (.i2b, 1) := by decide +kernel
theorem dX9_put_40 : decode cX9_put 40 = .ok (.i2l, 1) := by decide +kernel
theorem dX9_put_41 : decode cX9_put 41 = .ok (.lastore, 1) := by decide +kernel
theorem dX9_put_42 : decode cX9_put 42 = .ok (.goto 35, 3) := by decide +kernel
theorem dX9_put_45 : decode cX9_put 45 = .ok (.aload_n 0, 1) := by decide +kernel
theorem dX9_put_46 : decode cX9_put 46 = .ok (.getfield 11, 3) := by decide +kernel
theorem dX9_put_49 : decode cX9_put 49 = .ok (.iload_n 1, 1) := by decide +kernel
theorem dX9_put_50 : decode cX9_put 50 = .ok (.lload_n 2, 1) := by decide +kernel
theorem dX9_put_51 : decode cX9_put 51 = .ok (.l2i, 1) := by decide +kernel
theorem dX9_put_52 : decode cX9_put 52 = .ok (.i2s, 1) := by decide +kernel
theorem dX9_put_53 : decode cX9_put 53 = .ok (.i2l, 1) := by decide +kernel
theorem dX9_put_54 : decode cX9_put 54 = .ok (.lastore, 1) := by decide +kernel
theorem dX9_put_55 : decode cX9_put 55 = .ok (.goto 22, 3) := by decide +kernel
theorem dX9_put_58 : decode cX9_put 58 = .ok (.aload_n 0, 1) := by decide +kernel
theorem dX9_put_59 : decode cX9_put 59 = .ok (.getfield 11, 3) := by decide +kernel
theorem dX9_put_62 : decode cX9_put 62 = .ok (.iload_n 1, 1) := by decide +kernel
theorem dX9_put_63 : decode cX9_put 63 = .ok (.lload_n 2, 1) := by decide +kernel
theorem dX9_put_64 : decode cX9_put 64 = .ok (.l2i, 1) := by decide +kernel
theorem dX9_put_65 : decode cX9_put 65 = .ok (.i2l, 1) := by decide +kernel
theorem dX9_put_66 : decode cX9_put 66 = .ok (.lastore, 1) := by decide +kernel
theorem dX9_put_67 : decode cX9_put 67 = .ok (.goto 10, 3) := by decide +kernel
theorem dX9_put_70 : decode cX9_put 70 = .ok (.aload_n 0, 1) := by decide +kernel
theorem dX9_put_71 : decode cX9_put 71 = .ok (.getfield 11, 3) := by decide +kernel
theorem dX9_put_74 : decode cX9_put 74 = .ok (.iload_n 1, 1) := by decide +kernel
theorem dX9_put_75 : decode cX9_put 75 = .ok (.lload_n 2, 1) := by decide +kernel
theorem dX9_put_76 : decode cX9_put 76 = .ok (.lastore, 1) := by decide +kernel
theorem dX9_put_77 : decode cX9_put 77 = .ok (.return_, 1) := by decide +kernel
theorem dX10_findEnds_0 : decode cX10_findEnds 0 = .ok (.aload_n 0, 1) := by decide +kernel
theorem dX10_findEnds_1 : decode cX10_findEnds 1 = .ok (.aload_n 1, 1) := by decide +kernel
theorem dX10_findEnds_2 : decode cX10_findEnds 2 = .ok (.putfield 20, 3) := by decide +kernel
theorem dX10_findEnds_5 : decode cX10_findEnds 5 = .ok (.aload_n 0, 1) := by decide +kernel
theorem dX10_findEnds_6 : decode cX10_findEnds 6 = .ok (.aload_n 0, 1) := by decide +kernel
theorem dX10_findEnds_7 : decode cX10_findEnds 7 = .ok (.getfield 20, 3) := by decide +kernel
theorem dX10_findEnds_10 : decode cX10_findEnds 10 = .ok (.invokevirtual 24, 3) := by decide +kernel
theorem dX10_findEnds_13 : decode cX10_findEnds 13 = .ok (.putfield 28, 3) := by decide +kernel
theorem dX10_findEnds_16 : decode cX10_findEnds 16 = .ok (.iconst 0, 1) := by decide +kernel
theorem dX10_findEnds_17 : decode cX10_findEnds 17 = .ok (.istore_n 2, 1) := by decide +kernel
theorem dX10_findEnds_18 : decode cX10_findEnds 18 = .ok (.iload_n 2, 1) := by decide +kernel
theorem dX10_findEnds_19 : decode cX10_findEnds 19 = .ok (.aload_n 0, 1) := by decide +kernel
theorem dX10_findEnds_20 : decode cX10_findEnds 20 = .ok (.getfield 20, 3) := by decide +kernel
theorem dX10_findEnds_23 : decode cX10_findEnds 23 = .ok (.getfield 31, 3) := by decide +kernel
theorem dX10_findEnds_26 : decode cX10_findEnds 26 = .ok (.if_icmp .ge 104, 3) := by decide +kernel
theorem dX10_findEnds_29 : decode cX10_findEnds 29 = .ok (.aload_n 0, 1) := by decide +kernel
theorem dX10_findEnds_30 : decode cX10_findEnds 30 = .ok (.getfield 28, 3) := by decide +kernel
theorem dX10_findEnds_33 : decode cX10_findEnds 33 = .ok (.iload_n 2, 1) := by decide +kernel
theorem dX10_findEnds_34 : decode cX10_findEnds 34 = .ok (.ishr, 1) := by decide +kernel
theorem dX10_findEnds_35 : decode cX10_findEnds 35 = .ok (.iconst 1, 1) := by decide +kernel
theorem dX10_findEnds_36 : decode cX10_findEnds 36 = .ok (.iand, 1) := by decide +kernel
theorem dX10_findEnds_37 : decode cX10_findEnds 37 = .ok (.ifCond .eq 7, 3) := by decide +kernel
theorem dX10_findEnds_40 : decode cX10_findEnds 40 = .ok (.iconst 1, 1) := by decide +kernel
theorem dX10_findEnds_41 : decode cX10_findEnds 41 = .ok (.goto 4, 3) := by decide +kernel
theorem dX10_findEnds_44 : decode cX10_findEnds 44 = .ok (.iconst 0, 1) := by decide +kernel
theorem dX10_findEnds_45 : decode cX10_findEnds 45 = .ok (.istore_n 3, 1) := by decide +kernel
theorem dX10_findEnds_46 : decode cX10_findEnds 46 = .ok (.iconst 0, 1) := by decide +kernel
theorem dX10_findEnds_47 : decode cX10_findEnds 47 = .ok (.istore 4, 2) := by decide +kernel
theorem dX10_findEnds_49 : decode cX10_findEnds 49 = .ok (.iload 4, 2) := by decide +kernel
theorem dX10_findEnds_51 : decode cX10_findEnds 51 = .ok (.iconst 4, 1) := by decide +kernel
theorem dX10_findEnds_52 : decode cX10_findEnds 52 = .ok (.if_icmp .ge 72, 3) := by decide +kernel
theorem dX10_findEnds_55 : decode cX10_findEnds 55 = .ok (.iconst 0, 1) := by decide +kernel
theorem dX10_findEnds_56 : decode cX10_findEnds 56 = .ok (.aload_n 0, 1) := by decide +kernel
theorem dX10_findEnds_57 : decode cX10_findEnds 57 = .ok (.getfield 20, 3) := by decide +kernel
theorem dX10_findEnds_60 : decode cX10_findEnds 60 = .ok (.iload_n 2, 1) := by decide +kernel
theorem dX10_findEnds_61 : decode cX10_findEnds 61 = .ok (.invokevirtual 34, 3) := by decide +kernel
theorem dX10_findEnds_64 : decode cX10_findEnds 64 = .ok (.iload 4, 2) := by decide +kernel
theorem dX10_findEnds_66 : decode cX10_findEnds 66 = .ok (.isub, 1) := by decide +kernel
theorem dX10_findEnds_67 : decode cX10_findEnds 67 = .ok (.invokestatic 38, 3) := by decide +kernel
theorem dX10_findEnds_70 : decode cX10_findEnds 70 = .ok (.istore 5, 2) := by decide +kernel
theorem dX10_findEnds_72 : decode cX10_findEnds 72 = .ok (.iload_n 3, 1) := by decide +kernel
theorem dX10_findEnds_73 : decode cX10_findEnds 73 = .ok (.ifCond .eq 7, 3) := by decide +kernel
theorem dX10_findEnds_76 : decode cX10_findEnds 76 = .ok (.iconst (-1), 1) := by decide +kernel
theorem dX10_findEnds_77 : decode cX10_findEnds 77 = .ok (.goto 12, 3) := by decide +kernel
theorem dX10_findEnds_80 : decode cX10_findEnds 80 = .ok (.aload_n 0, 1) := by decide +kernel
theorem dX10_findEnds_81 : decode cX10_findEnds 81 = .ok (.getfield 20, 3) := by decide +kernel
theorem dX10_findEnds_84 : decode cX10_findEnds 84 = .ok (.iload 5, 2) := by decide +kernel
theorem dX10_findEnds_86 : decode cX10_findEnds 86 = .ok (.invokevirtual 44, 3) := by decide +kernel
theorem dX10_findEnds_89 : decode cX10_findEnds 89 = .ok (.istore 6, 2) := by decide +kernel
theorem dX10_findEnds_91 : decode cX10_findEnds 91 = .ok (.aload_n 0, 1) := by decide +kernel
theorem dX10_findEnds_92 : decode cX10_findEnds 92 = .ok (.getfield 13, 3) := by decide +kernel
theorem dX10_findEnds_95 : decode cX10_findEnds 95 = .ok (.iload_n 2, 1) := by decide +kernel
theorem dX10_findEnds_96 : decode cX10_findEnds 96 = .ok (.iconst 4, 1) := by decide +kernel
theorem dX10_findEnds_97 : decode cX10_findEnds 97 = .ok (.imul, 1) := by decide +kernel
theorem dX10_findEnds_98 : decode cX10_findEnds 98 = .ok (.iload 4, 2) := by decide +kernel
theorem dX10_findEnds_100 : decode cX10_findEnds 100 = .ok (.iadd, 1) := by decide +kernel
theorem dX10_findEnds_101 : decode cX10_findEnds 101 = .ok (.iload_n 3, 1) := by decide +kernel
theorem dX10_findEnds_102 : decode cX10_findEnds 102 = .ok (.ifCond .eq 13, 3) := by decide +kernel
theorem dX10_findEnds_105 : decode cX10_findEnds 105 = .ok (.iload 4, 2) := by decide +kernel
theorem dX10_findEnds_107 : decode cX10_findEnds 107 = .ok (.ifCond .ne 8, 3) := by decide +kernel
theorem dX10_findEnds_110 : decode cX10_findEnds 110 = .ok (.iload 5, 2) := by decide +kernel
theorem dX10_findEnds_112 : decode cX10_findEnds 112 = .ok (.goto 5, 3) := by decide +kernel
theorem dX10_findEnds_115 : decode cX10_findEnds 115 = .ok (.iload 6, 2) := by decide +kernel
theorem dX10_findEnds_117 : decode cX10_findEnds 117 = .ok (.iastore, 1) := by decide +kernel
theorem dX10_findEnds_118 : decode cX10_findEnds 118 = .ok (.iinc 4 1, 3) := by decide +kernel
theorem dX10_findEnds_121 : decode cX10_findEnds 121 = .ok (.goto (-72), 3) := by decide +kernel
theorem dX10_findEnds_124 : decode cX10_findEnds 124 = .ok (.iinc 2 1, 3) := by decide +kernel
theorem dX10_findEnds_127 : decode cX10_findEnds 127 = .ok (.goto (-109), 3) := by decide +kernel
theorem dX10_findEnds_130 : decode cX10_findEnds 130 = .ok (.return_, 1) := by decide +kernel
theorem dX10_shortestBy_0 : decode cX10_shortestBy 0 = .ok (.sipush 1000, 3) := by decide +kernel
theorem dX10_shortestBy_3 : decode cX10_shortestBy 3 = .ok (.istore_n 2, 1) := by decide +kernel
theorem dX10_shortestBy_4 : decode cX10_shortestBy 4 = .ok (.iconst 0, 1) := by decide +kernel
theorem dX10_shortestBy_5 : decode cX10_shortestBy 5 = .ok (.istore_n 3, 1) := by decide +kernel
theorem dX10_shortestBy_6 : decode cX10_shortestBy 6 = .ok (.iload_n 3, 1) := by decide +kernel
theorem dX10_shortestBy_7 : decode cX10_shortestBy 7 = .ok (.aload_n 0, 1) := by decide +kernel
theorem dX10_shortestBy_8 : decode cX10_shortestBy 8 = .ok (.getfield 20, 3) := by decide +kernel
theorem dX10_shortestBy_11 : decode cX10_shortestBy 11 = .ok (.getfield 31, 3) := by decide +kernel
theorem dX10_shortestBy_14 : decode cX10_shortestBy 14 = .ok (.iconst 4, 1) := by decide +kernel
theorem dX10_shortestBy_15 : decode cX10_shortestBy 15 = .ok (.imul, 1) := by decide +kernel
theorem dX10_shortestBy_16 : decode cX10_shortestBy 16 = .ok (.if_icmp .ge 51, 3) := by decide +kernel
theorem dX10_shortestBy_19 : decode cX10_shortestBy 19 = .ok (.aload_n 0, 1) := by decide +kernel
theorem dX10_shortestBy_20 : decode cX10_shortestBy 20 = .ok (.getfield 13, 3) := by decide +kernel
theorem dX10_shortestBy_23 : decode cX10_shortestBy 23 = .ok (.iload_n 3, 1) := by decide +kernel
theorem dX10_shortestBy_24 : decode cX10_shortestBy 24 = .ok (.iaload, 1) := by decide +kernel
theorem dX10_shortestBy_25 : decode cX10_shortestBy 25 = .ok (.iconst (-1), 1) := by decide +kernel
theorem dX10_shortestBy_26 : decode cX10_shortestBy 26 = .ok (.if_icmp .eq 35, 3) := by decide +kernel
theorem dX10_shortestBy_29 : decode cX10_shortestBy 29 = .ok (.aload_n 0, 1) := by decide +kernel
theorem dX10_shortestBy_30 : decode cX10_shortestBy 30 = .ok (.getfield 20, 3) := by decide +kernel
theorem dX10_shortestBy_33 : decode cX10_shortestBy 33 = .ok (.iload_n 3, 1) := by decide +kernel
theorem dX10_shortestBy_34 : decode cX10_shortestBy 34 = .ok (.iconst 4, 1) := by decide +kernel
theorem dX10_shortestBy_35 : decode cX10_shortestBy 35 = .ok (.idiv, 1) := by decide +kernel
theorem dX10_shortestBy_36 : decode cX10_shortestBy 36 = .ok (.iload_n 1, 1) := by decide +kernel
theorem dX10_shortestBy_37 : decode cX10_shortestBy 37 = .ok (.invokevirtual 60, 3) := by decide +kernel
theorem dX10_shortestBy_40 : decode cX10_shortestBy 40 = .ok (.ifCond .eq 21, 3) := by decide +kernel
theorem dX10_shortestBy_43 : decode cX10_shortestBy 43 = .ok (.iload_n 2, 1) := by decide +kernel
theorem dX10_shortestBy_44 : decode cX10_shortestBy 44 = .ok (.aload_n 0, 1) := by decide +kernel
theorem dX10_shortestBy_45 : decode cX10_shortestBy 45 = .ok (.getfield 17, 3) := by decide +kernel
theorem dX10_shortestBy_48 : decode cX10_shortestBy 48 = .ok (.aload_n 0, 1) := by decide +kernel
theorem dX10_shortestBy_49 : decode cX10_shortestBy 49 = .ok (.getfield 13, 3) := by decide +kernel
theorem dX10_shortestBy_52 : decode cX10_shortestBy 52 = .ok (.iload_n 3, 1) := by decide +kernel
theorem dX10_shortestBy_53 : decode cX10_shortestBy 53 = .ok (.iaload, 1) := by decide +kernel
theorem dX10_shortestBy_54 : decode cX10_shortestBy 54 = .ok (.iaload, 1) := by decide +kernel
theorem dX10_shortestBy_55 : decode cX10_shortestBy 55 = .ok (.iconst 1, 1) := by decide +kernel
theorem dX10_shortestBy_56 : decode cX10_shortestBy 56 = .ok (.iadd, 1) := by decide +kernel
theorem dX10_shortestBy_57 : decode cX10_shortestBy 57 = .ok (.invokestatic 57, 3) := by decide +kernel
theorem dX10_shortestBy_60 : decode cX10_shortestBy 60 = .ok (.istore_n 2, 1) := by decide +kernel
theorem dX10_shortestBy_61 : decode cX10_shortestBy 61 = .ok (.iinc 3 1, 3) := by decide +kernel
theorem dX10_shortestBy_64 : decode cX10_shortestBy 64 = .ok (.goto (-58), 3) := by decide +kernel
theorem dX10_shortestBy_67 : decode cX10_shortestBy 67 = .ok (.iload_n 2, 1) := by decide +kernel
theorem dX10_shortestBy_68 : decode cX10_shortestBy 68 = .ok (.ireturn, 1) := by decide +kernel
theorem dX10_sayingsTo_0 : decode cX10_sayingsTo 0 = .ok (.aload_n 0, 1) := by decide +kernel
theorem dX10_sayingsTo_1 : decode cX10_sayingsTo 1 = .ok (.aload_n 1, 1) := by decide +kernel
theorem dX10_sayingsTo_2 : decode cX10_sayingsTo 2 = .ok (.invokevirtual 47, 3) := by decide +kernel
theorem dX10_sayingsTo_5 : decode cX10_sayingsTo 5 = .ok (.iconst 0, 1) := by decide +kernel
theorem dX10_sayingsTo_6 : decode cX10_sayingsTo 6 = .ok (.istore 4, 2) := by decide +kernel
theorem dX10_sayingsTo_8 : decode cX10_sayingsTo 8 = .ok (.iload 4, 2) := by decide +kernel
theorem dX10_sayingsTo_10 : decode cX10_sayingsTo 10 = .ok (.aload_n 0, 1) := by decide +kernel
theorem dX10_sayingsTo_11 : decode cX10_sayingsTo 11 = .ok (.getfield 20, 3) := by decide +kernel
theorem dX10_sayingsTo_14 : decode cX10_sayingsTo 14 = .ok (.getfield 51, 3) := by decide +kernel
theorem dX10_sayingsTo_17 : decode cX10_sayingsTo 17 = .ok (.if_icmp .gt 29, 3) := by decide +kernel
theorem dX10_sayingsTo_20 : decode cX10_sayingsTo 20 = .ok (.aload_n 0, 1) := by decide +kernel
theorem dX10_sayingsTo_21 : decode cX10_sayingsTo 21 = .ok (.getfield 17, 3) := by decide +kernel
theorem dX10_sayingsTo_24 : decode cX10_sayingsTo 24 = .ok (.iload 4, 2) := by decide +kernel
theorem dX10_sayingsTo_26 : decode cX10_sayingsTo 26 = .ok (.iload 4, 2) := by decide +kernel
theorem dX10_sayingsTo_28 : decode cX10_sayingsTo 28 = .ok (.iload_n 3, 1) := by decide +kernel
theorem dX10_sayingsTo_29 : decode cX10_sayingsTo 29 = .ok (.if_icmp .ne 7, 3) := by decide +kernel
theorem dX10_sayingsTo_32 : decode cX10_sayingsTo 32 = .ok (.iconst 0, 1) := by decide +kernel
theorem dX10_sayingsTo_33 : decode cX10_sayingsTo 33 = .ok (.goto 6, 3) := by decide +kernel
theorem dX10_sayingsTo_36 : decode cX10_sayingsTo 36 = .ok (.sipush 1000, 3) := by decide +kernel
theorem dX10_sayingsTo_39 : decode cX10_sayingsTo 39 = .ok (.iastore, 1) := by decide +kernel
theorem dX10_sayingsTo_40 : decode cX10_sayingsTo 40 = .ok (.iinc 4 1, 3) := by decide +kernel
theorem dX10_sayingsTo_43 : decode cX10_sayingsTo 43 = .ok (.goto (-35), 3) := by decide +kernel
theorem dX10_sayingsTo_46 : decode cX10_sayingsTo 46 = .ok (.iconst 0, 1) := by decide +kernel
theorem dX10_sayingsTo_47 : decode cX10_sayingsTo 47 = .ok (.istore 4, 2) := by decide +kernel
theorem dX10_sayingsTo_49 : decode cX10_sayingsTo 49 = .ok (.iload 4, 2) := by decide +kernel
theorem dX10_sayingsTo_51 : decode cX10_sayingsTo 51 = .ok (.aload_n 0, 1) := by decide +kernel
theorem dX10_sayingsTo_52 : decode cX10_sayingsTo 52 = .ok (.getfield 20, 3) := by decide +kernel
theorem dX10_sayingsTo_55 : decode cX10_sayingsTo 55 = .ok (.getfield 51, 3) := by decide +kernel
theorem dX10_sayingsTo_58 : decode cX10_sayingsTo 58 = .ok (.if_icmp .ge 53, 3) := by decide +kernel
theorem dX10_sayingsTo_61 : decode cX10_sayingsTo 61 = .ok (.iconst 1, 1) := by decide +kernel
theorem dX10_sayingsTo_62 : decode cX10_sayingsTo 62 = .ok (.istore 5, 2) := by decide +kernel
theorem dX10_sayingsTo_64 : decode cX10_sayingsTo 64 = .ok (.iload 5, 2) := by decide +kernel
theorem dX10_sayingsTo_66 : decode cX10_sayingsTo 66 = .ok (.aload_n 0, 1) := by decide +kernel
theorem dX10_sayingsTo_67 : decode cX10_sayingsTo 67 = .ok (.getfield 20, 3) := by decide +kernel
theorem dX10_sayingsTo_70 : decode cX10_sayingsTo 70 = .ok (.getfield 51, 3) := by decide +kernel
theorem dX10_sayingsTo_73 : decode cX10_sayingsTo 73 = .ok (.if_icmp .gt 32, 3) := by decide +kernel
theorem dX10_sayingsTo_76 : decode cX10_sayingsTo 76 = .ok (.aload_n 0, 1) := by decide +kernel
theorem dX10_sayingsTo_77 : decode cX10_sayingsTo 77 = .ok (.getfield 17, 3) := by decide +kernel
theorem dX10_sayingsTo_80 : decode cX10_sayingsTo 80 = .ok (.iload 5, 2) := by decide +kernel
theorem dX10_sayingsTo_82 : decode cX10_sayingsTo 82 = .ok (.aload_n 0, 1) := by decide +kernel
theorem dX10_sayingsTo_83 : decode cX10_sayingsTo 83 = .ok (.getfield 17, 3) := by decide +kernel
theorem dX10_sayingsTo_86 : decode cX10_sayingsTo 86 = .ok (.iload 5, 2) := by decide +kernel
theorem dX10_sayingsTo_88 : decode cX10_sayingsTo 88 = .ok (.iaload, 1) := by decide +kernel
theorem dX10_sayingsTo_89 : decode cX10_sayingsTo 89 = .ok (.aload_n 0, 1) := by decide +kernel
theorem dX10_sayingsTo_90 : decode cX10_sayingsTo 90 = .ok (.iload 5, 2) := by decide +kernel
theorem dX10_sayingsTo_92 : decode cX10_sayingsTo 92 = .ok (.invokevirtual 54, 3) := by decide +kernel
theorem dX10_sayingsTo_95 : decode cX10_sayingsTo 95 = .ok (.invokestatic 57, 3) := by decide +kernel
theorem dX10_sayingsTo_98 : decode cX10_sayingsTo 98 = .ok (.iastore, 1) := by decide +kernel
theorem dX10_sayingsTo_99 : decode cX10_sayingsTo 99 = .ok (.iinc 5 1, 3) := by decide +kernel
theorem dX10_sayingsTo_102 : decode cX10_sayingsTo 102 = .ok (.goto (-38), 3) := by decide +kernel
theorem dX10_sayingsTo_105 : decode cX10_sayingsTo 105 = .ok (.iinc 4 1, 3) := by decide +kernel
theorem dX10_sayingsTo_108 : decode cX10_sayingsTo 108 = .ok (.goto (-59), 3) := by decide +kernel
theorem dX10_sayingsTo_111 : decode cX10_sayingsTo 111 = .ok (.aload_n 0, 1) := by decide +kernel
theorem dX10_sayingsTo_112 : decode cX10_sayingsTo 112 = .ok (.getfield 17, 3) := by decide +kernel
theorem dX10_sayingsTo_115 : decode cX10_sayingsTo 115 = .ok (.iload_n 2, 1) := by decide +kernel
theorem dX10_sayingsTo_116 : decode cX10_sayingsTo 116 = .ok (.iaload, 1) := by decide +kernel
theorem dX10_sayingsTo_117 : decode cX10_sayingsTo 117 = .ok (.sipush 1000, 3) := by decide +kernel
theorem dX10_sayingsTo_120 : decode cX10_sayingsTo 120 = .ok (.if_icmp .ge 12, 3) := by decide +kernel
theorem dX10_sayingsTo_123 : decode cX10_sayingsTo 123 = .ok (.aload_n 0, 1) := by decide +kernel
theorem dX10_sayingsTo_124 : decode cX10_sayingsTo 124 = .ok (.getfield 17, 3) := by decide +kernel
theorem dX10_sayingsTo_127 : decode cX10_sayingsTo 127 = .ok (.iload_n 2, 1) := by decide +kernel
theorem dX10_sayingsTo_128 : decode cX10_sayingsTo 128 = .ok (.iaload, 1) := by decide +kernel
theorem dX10_sayingsTo_129 : decode cX10_sayingsTo 129 = .ok (.goto 4, 3) := by decide +kernel
theorem dX10_sayingsTo_132 : decode cX10_sayingsTo 132 = .ok (.iconst (-1), 1) := by decide +kernel
theorem dX10_sayingsTo_133 : decode cX10_sayingsTo 133 = .ok (.ireturn, 1) := by decide +kernel
theorem dX10_nextSaying_0 : decode cX10_nextSaying 0 = .ok (.iconst 0, 1) := by decide +kernel
theorem dX10_nextSaying_1 : decode cX10_nextSaying 1 = .ok (.istore_n 2, 1) := by decide +kernel
theorem dX10_nextSaying_2 : decode cX10_nextSaying 2 = .ok (.iload_n 2, 1) := by decide +kernel
theorem dX10_nextSaying_3 : decode cX10_nextSaying 3 = .ok (.aload_n 0, 1) := by decide +kernel
theorem dX10_nextSaying_4 : decode cX10_nextSaying 4 = .ok (.getfield 20, 3) := by decide +kernel
theorem dX10_nextSaying_7 : decode cX10_nextSaying 7 = .ok (.getfield 31, 3) := by decide +kernel
theorem dX10_nextSaying_10 : decode cX10_nextSaying 10 = .ok (.iconst 4, 1) := by decide +kernel
theorem dX10_nextSaying_11 : decode cX10_nextSaying 11 = .ok (.imul, 1) := by decide +kernel
theorem dX10_nextSaying_12 : decode cX10_nextSaying 12 = .ok (.if_icmp .ge 67, 3) := by decide +kernel
theorem dX10_nextSaying_15 : decode cX10_nextSaying 15 = .ok (.aload_n 0, 1) := by decide +kernel
theorem dX10_nextSaying_16 : decode cX10_nextSaying 16 = .ok (.getfield 13, 3) := by decide +kernel
theorem dX10_nextSaying_19 : decode cX10_nextSaying 19 = .ok (.iload_n 2, 1) := by decide +kernel
theorem dX10_nextSaying_20 : decode cX10_nextSaying 20 = .ok (.iaload, 1) := by decide +kernel
theorem dX10_nextSaying_21 : decode cX10_nextSaying 21 = .ok (.iconst (-1), 1) := by decide +kernel
theorem dX10_nextSaying_22 : decode cX10_nextSaying 22 = .ok (.if_icmp .eq 21, 3) := by decide +kernel
theorem dX10_nextSaying_25 : decode cX10_nextSaying 25 = .ok (.aload_n 0, 1) := by decide +kernel
theorem dX10_nextSaying_26 : decode cX10_nextSaying 26 = .ok (.getfield 20, 3) := by decide +kernel
theorem dX10_nextSaying_29 : decode cX10_nextSaying 29 = .ok (.iload_n 2, 1) := by decide +kernel
theorem dX10_nextSaying_30 : decode cX10_nextSaying 30 = .ok (.iconst 4, 1) := by decide +kernel
theorem dX10_nextSaying_31 : decode cX10_nextSaying 31 = .ok (.idiv, 1) := by decide +kernel
theorem dX10_nextSaying_32 : decode cX10_nextSaying 32 = .ok (.iload_n 1, 1) := by decide +kernel
theorem dX10_nextSaying_33 : decode cX10_nextSaying 33 = .ok (.invokevirtual 60, 3) := by decide +kernel
theorem dX10_nextSaying_36 : decode cX10_nextSaying 36 = .ok (.ifCond .eq 7, 3) := by decide +kernel
theorem dX10_nextSaying_39 : decode cX10_nextSaying 39 = .ok (.iconst 1, 1) := by decide +kernel
theorem dX10_nextSaying_40 : decode cX10_nextSaying 40 = .ok (.goto 4, 3) := by decide +kernel
theorem dX10_nextSaying_43 : decode cX10_nextSaying 43 = .ok (.iconst 0, 1) := by decide +kernel
theorem dX10_nextSaying_44 : decode cX10_nextSaying 44 = .ok (.istore_n 3, 1) := by decide +kernel
theorem dX10_nextSaying_45 : decode cX10_nextSaying 45 = .ok (.iload_n 3, 1) := by decide +kernel
theorem dX10_nextSaying_46 : decode cX10_nextSaying 46 = .ok (.ifCond .eq 27, 3) := by decide +kernel
theorem dX10_nextSaying_49 : decode cX10_nextSaying 49 = .ok (.aload_n 0, 1) := by decide +kernel
theorem dX10_nextSaying_50 : decode cX10_nextSaying 50 = .ok (.getfield 17, 3) := by decide +kernel
theorem dX10_nextSaying_53 : decode cX10_nextSaying 53 = .ok (.aload_n 0, 1) := by decide +kernel
theorem dX10_nextSaying_54 : decode cX10_nextSaying 54 = .ok (.getfield 13, 3) := by decide +kernel
theorem dX10_nextSaying_57 : decode cX10_nextSaying 57 = .ok (.iload_n 2, 1) := by decide +kernel
theorem dX10_nextSaying_58 : decode cX10_nextSaying 58 = .ok (.iaload, 1) := by decide +kernel
theorem dX10_nextSaying_59 : decode cX10_nextSaying 59 = .ok (.iaload, 1) := by decide +kernel
theorem dX10_nextSaying_60 : decode cX10_nextSaying 60 = .ok (.aload_n 0, 1) := by decide +kernel
theorem dX10_nextSaying_61 : decode cX10_nextSaying 61 = .ok (.getfield 17, 3) := by decide +kernel
theorem dX10_nextSaying_64 : decode cX10_nextSaying 64 = .ok (.iload_n 1, 1) := by decide +kernel
theorem dX10_nextSaying_65 : decode cX10_nextSaying 65 = .ok (.iaload, 1) := by decide +kernel
theorem dX10_nextSaying_66 : decode cX10_nextSaying 66 = .ok (.iconst 1, 1) := by decide +kernel
theorem dX10_nextSaying_67 : decode cX10_nextSaying 67 = .ok (.isub, 1) := by decide +kernel
theorem dX10_nextSaying_68 : decode cX10_nextSaying 68 = .ok (.if_icmp .ne 5, 3) := by decide +kernel
theorem dX10_nextSaying_71 : decode cX10_nextSaying 71 = .ok (.iload_n 2, 1) := by decide +kernel
theorem dX10_nextSaying_72 : decode cX10_nextSaying 72 = .ok (.ireturn, 1) := by decide +kernel
theorem dX10_nextSaying_73 : decode cX10_nextSaying 73 = .ok (.iinc 2 1, 3) := by decide +kernel
theorem dX10_nextSaying_76 : decode cX10_nextSaying 76 = .ok (.goto (-74), 3) := by decide +kernel
theorem dX10_nextSaying_79 : decode cX10_nextSaying 79 = .ok (.iconst (-1), 1) := by decide +kernel
theorem dX10_nextSaying_80 : decode cX10_nextSaying 80 = .ok (.ireturn, 1) := by decide +kernel
theorem dX10_tellSaying_0 : decode cX10_tellSaying 0 = .ok (.aload_n 0, 1) := by decide +kernel
theorem dX10_tellSaying_1 : decode cX10_tellSaying 1 = .ok (.iload_n 1, 1) := by decide +kernel
theorem dX10_tellSaying_2 : decode cX10_tellSaying 2 = .ok (.invokevirtual 64, 3) := by decide +kernel
theorem dX10_tellSaying_5 : decode cX10_tellSaying 5 = .ok (.istore 4, 2) := by decide +kernel
theorem dX10_tellSaying_7 : decode cX10_tellSaying 7 = .ok (.iconst 0, 1) := by decide +kernel
theorem dX10_tellSaying_8 : decode cX10_tellSaying 8 = .ok (.istore 5, 2) := by decide +kernel
theorem dX10_tellSaying_10 : decode cX10_tellSaying 10 = .ok (.iload 5, 2) := by decide +kernel
theorem dX10_tellSaying_12 : decode cX10_tellSaying 12 = .ok (.iload_n 2, 1) := by decide +kernel
theorem dX10_tellSaying_13 : decode cX10_tellSaying 13 = .ok (.if_icmp .ge 28, 3) := by decide +kernel
theorem dX10_tellSaying_16 : decode cX10_tellSaying 16 = .ok (.iload 4, 2) := by decide +kernel
theorem dX10_tellSaying_18 : decode cX10_tellSaying 18 = .ok (.iconst (-1), 1) := by decide +kernel
theorem dX10_tellSaying_19 : decode cX10_tellSaying 19 = .ok (.if_icmp .eq 22, 3) := by decide +kernel
theorem dX10_tellSaying_22 : decode cX10_tellSaying 22 = .ok (.aload_n 0, 1) := by decide +kernel
theorem dX10_tellSaying_23 : decode cX10_tellSaying 23 = .ok (.aload_n 0, 1) := by decide +kernel
theorem dX10_tellSaying_24 : decode cX10_tellSaying 24 = .ok (.getfield 13, 3) := by decide +kernel
theorem dX10_tellSaying_27 : decode cX10_tellSaying 27 = .ok (.iload 4, 2) := by decide +kernel
theorem dX10_tellSaying_29 : decode cX10_tellSaying 29 = .ok (.iaload, 1) := by decide +kernel
theorem dX10_tellSaying_30 : decode cX10_tellSaying 30 = .ok (.invokevirtual 64, 3) := by decide +kernel
theorem dX10_tellSaying_33 : decode cX10_tellSaying 33 = .ok (.istore 4, 2) := by decide +kernel
theorem dX10_tellSaying_35 : decode cX10_tellSaying 35 = .ok (.iinc 5 1, 3) := by decide +kernel
theorem dX10_tellSaying_38 : decode cX10_tellSaying 38 = .ok (.goto (-28), 3) := by decide +kernel
theorem dX10_tellSaying_41 : decode cX10_tellSaying 41 = .ok (.iload 4, 2) := by decide +kernel
theorem dX10_tellSaying_43 : decode cX10_tellSaying 43 = .ok (.iconst (-1), 1) := by decide +kernel
theorem dX10_tellSaying_44 : decode cX10_tellSaying 44 = .ok (.if_icmp .eq 8, 3) := by decide +kernel
theorem dX10_tellSaying_47 : decode cX10_tellSaying 47 = .ok (.iload_n 3, 1) := by decide +kernel
theorem dX10_tellSaying_48 : decode cX10_tellSaying 48 = .ok (.iconst 2, 1) := by decide +kernel
theorem dX10_tellSaying_49 : decode cX10_tellSaying 49 = .ok (.if_icmp .ne 21, 3) := by decide +kernel
theorem dX10_tellSaying_52 : decode cX10_tellSaying 52 = .ok (.iload 4, 2) := by decide +kernel
theorem dX10_tellSaying_54 : decode cX10_tellSaying 54 = .ok (.iconst (-1), 1) := by decide +kernel
theorem dX10_tellSaying_55 : decode cX10_tellSaying 55 = .ok (.if_icmp .ne 7, 3) := by decide +kernel
theorem dX10_tellSaying_58 : decode cX10_tellSaying 58 = .ok (.iconst (-1), 1) := by decide +kernel
theorem dX10_tellSaying_59 : decode cX10_tellSaying 59 = .ok (.goto 10, 3) := by decide +kernel
theorem dX10_tellSaying_62 : decode cX10_tellSaying 62 = .ok (.aload_n 0, 1) := by decide +kernel
theorem dX10_tellSaying_63 : decode cX10_tellSaying 63 = .ok (.getfield 13, 3) := by decide +kernel
theorem dX10_tellSaying_66 : decode cX10_tellSaying 66 = .ok (.iload 4, 2) := by decide +kernel
theorem dX10_tellSaying_68 : decode cX10_tellSaying 68 = .ok (.iaload, 1) := by decide +kernel
theorem dX10_tellSaying_69 : decode cX10_tellSaying 69 = .ok (.ireturn, 1) := by decide +kernel
theorem dX10_tellSaying_70 : decode cX10_tellSaying 70 = .ok (.iload_n 3, 1) := by decide +kernel
theorem dX10_tellSaying_71 : decode cX10_tellSaying 71 = .ok (.ifCond .ne 10, 3) := by decide +kernel
theorem dX10_tellSaying_74 : decode cX10_tellSaying 74 = .ok (.iload 4, 2) := by decide +kernel
theorem dX10_tellSaying_76 : decode cX10_tellSaying 76 = .ok (.iconst 4, 1) := by decide +kernel
theorem dX10_tellSaying_77 : decode cX10_tellSaying 77 = .ok (.idiv, 1) := by decide +kernel
theorem dX10_tellSaying_78 : decode cX10_tellSaying 78 = .ok (.goto 7, 3) := by decide +kernel
theorem dX10_tellSaying_81 : decode cX10_tellSaying 81 = .ok (.iload 4, 2) := by decide +kernel
theorem dX10_tellSaying_83 : decode cX10_tellSaying 83 = .ok (.iconst 4, 1) := by decide +kernel
theorem dX10_tellSaying_84 : decode cX10_tellSaying 84 = .ok (.irem, 1) := by decide +kernel
theorem dX10_tellSaying_85 : decode cX10_tellSaying 85 = .ok (.ireturn, 1) := by decide +kernel
theorem dX10_couplesOf_0 : decode cX10_couplesOf 0 = .ok (.iconst 0, 1) := by decide +kernel
theorem dX10_couplesOf_1 : decode cX10_couplesOf 1 = .ok (.istore_n 3, 1) := by decide +kernel
theorem dX10_couplesOf_2 : decode cX10_couplesOf 2 = .ok (.iconst 0, 1) := by decide +kernel
theorem dX10_couplesOf_3 : decode cX10_couplesOf 3 = .ok (.istore 4, 2) := by decide +kernel
theorem dX10_couplesOf_5 : decode cX10_couplesOf 5 = .ok (.iload 4, 2) := by decide +kernel
theorem dX10_couplesOf_7 : decode cX10_couplesOf 7 = .ok (.iconst 4, 1) := by decide +kernel
theorem dX10_couplesOf_8 : decode cX10_couplesOf 8 = .ok (.if_icmp .ge 50, 3) := by decide +kernel
theorem dX10_couplesOf_11 : decode cX10_couplesOf 11 = .ok (.aload_n 0, 1) := by decide +kernel
theorem dX10_couplesOf_12 : decode cX10_couplesOf 12 = .ok (.getfield 28, 3) := by decide +kernel
theorem dX10_couplesOf_15 : decode cX10_couplesOf 15 = .ok (.iload_n 2, 1) := by decide +kernel
theorem dX10_couplesOf_16 : decode cX10_couplesOf 16 = .ok (.ishr, 1) := by decide +kernel
theorem dX10_couplesOf_17 : decode cX10_couplesOf 17 = .ok (.iconst 1, 1) := by decide +kernel
theorem dX10_couplesOf_18 : decode cX10_couplesOf 18 = .ok (.iand, 1) := by decide +kernel
theorem dX10_couplesOf_19 : decode cX10_couplesOf 19 = .ok (.ifCond .ne 7, 3) := by decide +kernel
theorem dX10_couplesOf_22 : decode cX10_couplesOf 22 = .ok (.iconst 1, 1) := by decide +kernel
theorem dX10_couplesOf_23 : decode cX10_couplesOf 23 = .ok (.goto 4, 3) := by decide +kernel
theorem dX10_couplesOf_26 : decode cX10_couplesOf 26 = .ok (.iconst 0, 1) := by decide +kernel
theorem dX10_couplesOf_27 : decode cX10_couplesOf 27 = .ok (.istore 5, 2) := by decide +kernel
theorem dX10_couplesOf_29 : decode cX10_couplesOf 29 = .ok (.iload 5, 2) := by decide +kernel
theorem dX10_couplesOf_31 : decode cX10_couplesOf 31 = .ok (.ifCond .eq 21, 3) := by decide +kernel
theorem dX10_couplesOf_34 : decode cX10_couplesOf 34 = .ok (.aload_n 0, 1) := by decide +kernel
theorem dX10_couplesOf_35 : decode cX10_couplesOf 35 = .ok (.getfield 13, 3) := by decide +kernel
theorem dX10_couplesOf_38 : decode cX10_couplesOf 38 = .ok (.iload_n 2, 1) := by decide +kernel
theorem dX10_couplesOf_39 : decode cX10_couplesOf 39 = .ok (.iconst 4, 1) := by decide +kernel
theorem dX10_couplesOf_40 : decode cX10_couplesOf 40 = .ok (.imul, 1) := by decide +kernel
theorem dX10_couplesOf_41 : decode cX10_couplesOf 41 = .ok (.iload 4, 2) := by decide +kernel
theorem dX10_couplesOf_43 : decode cX10_couplesOf 43 = .ok (.iadd, 1) := by decide +kernel
theorem dX10_couplesOf_44 : decode cX10_couplesOf 44 = .ok (.iaload, 1) := by decide +kernel
theorem dX10_couplesOf_45 : decode cX10_couplesOf 45 = .ok (.iload_n 1, 1) := by decide +kernel
theorem dX10_couplesOf_46 : decode cX10_couplesOf 46 = .ok (.if_icmp .ne 6, 3) := by decide +kernel
theorem dX10_couplesOf_49 : decode cX10_couplesOf 49 = .ok (.iinc 3 1, 3) := by decide +kernel
theorem dX10_couplesOf_52 : decode cX10_couplesOf 52 = .ok (.iinc 4 1, 3) := by decide +kernel
theorem dX10_couplesOf_55 : decode cX10_couplesOf 55 = .ok (.goto (-50), 3) := by decide +kernel
theorem dX10_couplesOf_58 : decode cX10_couplesOf 58 = .ok (.iload_n 3, 1) := by decide +kernel
theorem dX10_couplesOf_59 : decode cX10_couplesOf 59 = .ok (.ireturn, 1) := by decide +kernel
theorem dX10_couples_0 : decode cX10_couples 0 = .ok (.iconst 0, 1) := by decide +kernel
theorem dX10_couples_1 : decode cX10_couples 1 = .ok (.istore_n 2, 1) := by decide +kernel
theorem dX10_couples_2 : decode cX10_couples 2 = .ok (.iconst 0, 1) := by decide +kernel
theorem dX10_couples_3 : decode cX10_couples 3 = .ok (.istore_n 3, 1) := by decide +kernel
theorem dX10_couples_4 : decode cX10_couples 4 = .ok (.iload_n 3, 1) := by decide +kernel
theorem dX10_couples_5 : decode cX10_couples 5 = .ok (.aload_n 0, 1) := by decide +kernel
theorem dX10_couples_6 : decode cX10_couples 6 = .ok (.getfield 20, 3) := by decide +kernel
theorem dX10_couples_9 : decode cX10_couples 9 = .ok (.getfield 31, 3) := by decide +kernel
theorem dX10_couples_12 : decode cX10_couples 12 = .ok (.if_icmp .ge 18, 3) := by decide +kernel
theorem dX10_couples_15 : decode cX10_couples 15 = .ok (.iload_n 2, 1) := by decide +kernel
theorem dX10_couples_16 : decode cX10_couples 16 = .ok (.aload_n 0, 1) := by decide +kernel
theorem dX10_couples_17 : decode cX10_couples 17 = .ok (.iload_n 1, 1) := by decide +kernel
theorem dX10_couples_18 : decode cX10_couples 18 = .ok (.iload_n 3, 1) := by decide +kernel
theorem dX10_couples_19 : decode cX10_couples 19 = .ok (.invokevirtual 67, 3) := by decide +kernel
theorem dX10_couples_22 : decode cX10_couples 22 = .ok (.iadd, 1) := by decide +kernel
theorem dX10_couples_23 : decode cX10_couples 23 = .ok (.istore_n 2, 1) := by decide +kernel
theorem dX10_couples_24 : decode cX10_couples 24 = .ok (.iinc 3 1, 3) := by decide +kernel
theorem dX10_couples_27 : decode cX10_couples 27 = .ok (.goto (-23), 3) := by decide +kernel
theorem dX10_couples_30 : decode cX10_couples 30 = .ok (.iload_n 2, 1) := by decide +kernel
theorem dX10_couples_31 : decode cX10_couples 31 = .ok (.ireturn, 1) := by decide +kernel
theorem dX10_beginGame_0 : decode cX10_beginGame 0 = .ok (.aload_n 0, 1) := by decide +kernel
theorem dX10_beginGame_1 : decode cX10_beginGame 1 = .ok (.aload_n 1, 1) := by decide +kernel
theorem dX10_beginGame_2 : decode cX10_beginGame 2 = .ok (.putfield 20, 3) := by decide +kernel
theorem dX10_beginGame_5 : decode cX10_beginGame 5 = .ok (.aload_n 0, 1) := by decide +kernel
theorem dX10_beginGame_6 : decode cX10_beginGame 6 = .ok (.aload_n 0, 1) := by decide +kernel
theorem dX10_beginGame_7 : decode cX10_beginGame 7 = .ok (.getfield 20, 3) := by decide +kernel
theorem dX10_beginGame_10 : decode cX10_beginGame 10 = .ok (.invokevirtual 24, 3) := by decide +kernel
theorem dX10_beginGame_13 : decode cX10_beginGame 13 = .ok (.putfield 28, 3) := by decide +kernel
theorem dX10_beginGame_16 : decode cX10_beginGame 16 = .ok (.return_, 1) := by decide +kernel
theorem dX10_mostWorthFrom_0 : decode cX10_mostWorthFrom 0 = .ok (.aload_n 0, 1) := by decide +kernel
theorem dX10_mostWorthFrom_1 : decode cX10_mostWorthFrom 1 = .ok (.getfield 20, 3) := by decide +kernel
theorem dX10_mostWorthFrom_4 : decode cX10_mostWorthFrom 4 = .ok (.iload_n 1, 1) := by decide +kernel
theorem dX10_mostWorthFrom_5 : decode cX10_mostWorthFrom 5 = .ok (.invokevirtual 79, 3) := by decide +kernel
theorem dX10_mostWorthFrom_8 : decode cX10_mostWorthFrom 8 = .ok (.istore_n 3, 1) := by decide +kernel
theorem dX10_mostWorthFrom_9 : decode cX10_mostWorthFrom 9 = .ok (.iconst 0, 1) := by decide +kernel
theorem dX10_mostWorthFrom_10 : decode cX10_mostWorthFrom 10 = .ok (.istore 4, 2) := by decide +kernel
theorem dX10_mostWorthFrom_12 : decode cX10_mostWorthFrom 12 = .ok (.iload 4, 2) := by decide +kernel
theorem dX10_mostWorthFrom_14 : decode cX10_mostWorthFrom 14 = .ok (.aload_n 0, 1) := by decide +kernel
theorem dX10_mostWorthFrom_15 : decode cX10_mostWorthFrom 15 = .ok (.getfield 20, 3) := by decide +kernel
theorem dX10_mostWorthFrom_18 : decode cX10_mostWorthFrom 18 = .ok (.getfield 31, 3) := by decide +kernel
theorem dX10_mostWorthFrom_21 : decode cX10_mostWorthFrom 21 = .ok (.if_icmp .ge 59, 3) := by decide +kernel
theorem dX10_mostWorthFrom_24 : decode cX10_mostWorthFrom 24 = .ok (.iload_n 2, 1) := by decide +kernel
theorem dX10_mostWorthFrom_25 : decode cX10_mostWorthFrom 25 = .ok (.ifCond .le 55, 3) := by decide +kernel
theorem dX10_mostWorthFrom_28 : decode cX10_mostWorthFrom 28 = .ok (.aload_n 0, 1) := by decide +kernel
theorem dX10_mostWorthFrom_29 : decode cX10_mostWorthFrom 29 = .ok (.getfield 28, 3) := by decide +kernel
theorem dX10_mostWorthFrom_32 : decode cX10_mostWorthFrom 32 = .ok (.iload 4, 2) := by decide +kernel
theorem dX10_mostWorthFrom_34 : decode cX10_mostWorthFrom 34 = .ok (.ishr, 1) := by decide +kernel
theorem dX10_mostWorthFrom_35 : decode cX10_mostWorthFrom 35 = .ok (.iconst 1, 1) := by decide +kernel
theorem dX10_mostWorthFrom_36 : decode cX10_mostWorthFrom 36 = .ok (.iand, 1) := by decide +kernel
theorem dX10_mostWorthFrom_37 : decode cX10_mostWorthFrom 37 = .ok (.ifCond .eq 37, 3) := by decide +kernel
theorem dX10_mostWorthFrom_40 : decode cX10_mostWorthFrom 40 = .ok (.aload_n 0, 1) := by decide +kernel
theorem dX10_mostWorthFrom_41 : decode cX10_mostWorthFrom 41 = .ok (.getfield 20, 3) := by decide +kernel
theorem dX10_mostWorthFrom_44 : decode cX10_mostWorthFrom 44 = .ok (.iload 4, 2) := by decide +kernel
theorem dX10_mostWorthFrom_46 : decode cX10_mostWorthFrom 46 = .ok (.iload_n 1, 1) := by decide +kernel
theorem dX10_mostWorthFrom_47 : decode cX10_mostWorthFrom 47 = .ok (.invokevirtual 60, 3) := by decide +kernel
theorem dX10_mostWorthFrom_50 : decode cX10_mostWorthFrom 50 = .ok (.ifCond .eq 24, 3) := by decide +kernel
theorem dX10_mostWorthFrom_53 : decode cX10_mostWorthFrom 53 = .ok (.iload_n 3, 1) := by decide +kernel
theorem dX10_mostWorthFrom_54 : decode cX10_mostWorthFrom 54 = .ok (.aload_n 0, 1) := by decide +kernel
theorem dX10_mostWorthFrom_55 : decode cX10_mostWorthFrom 55 = .ok (.aload_n 0, 1) := by decide +kernel
theorem dX10_mostWorthFrom_56 : decode cX10_mostWorthFrom 56 = .ok (.getfield 20, 3) := by decide +kernel
theorem dX10_mostWorthFrom_59 : decode cX10_mostWorthFrom 59 = .ok (.iload 4, 2) := by decide +kernel
theorem dX10_mostWorthFrom_61 : decode cX10_mostWorthFrom 61 = .ok (.invokevirtual 34, 3) := by decide +kernel
theorem dX10_mostWorthFrom_64 : decode cX10_mostWorthFrom 64 = .ok (.iload_n 2, 1) := by decide +kernel
theorem dX10_mostWorthFrom_65 : decode cX10_mostWorthFrom 65 = .ok (.iconst 1, 1) := by decide +kernel
theorem dX10_mostWorthFrom_66 : decode cX10_mostWorthFrom 66 = .ok (.isub, 1) := by decide +kernel
theorem dX10_mostWorthFrom_67 : decode cX10_mostWorthFrom 67 = .ok (.invokevirtual 76, 3) := by decide +kernel
theorem dX10_mostWorthFrom_70 : decode cX10_mostWorthFrom 70 = .ok (.invokestatic 38, 3) := by decide +kernel
theorem dX10_mostWorthFrom_73 : decode cX10_mostWorthFrom 73 = .ok (.istore_n 3, 1) := by decide +kernel
theorem dX10_mostWorthFrom_74 : decode cX10_mostWorthFrom 74 = .ok (.iinc 4 1, 3) := by decide +kernel
theorem dX10_mostWorthFrom_77 : decode cX10_mostWorthFrom 77 = .ok (.goto (-65), 3) := by decide +kernel
theorem dX10_mostWorthFrom_80 : decode cX10_mostWorthFrom 80 = .ok (.iload_n 3, 1) := by decide +kernel
theorem dX10_mostWorthFrom_81 : decode cX10_mostWorthFrom 81 = .ok (.ireturn, 1) := by decide +kernel
theorem dX10_mostWorth_0 : decode cX10_mostWorth 0 = .ok (.aload_n 0, 1) := by decide +kernel
theorem dX10_mostWorth_1 : decode cX10_mostWorth 1 = .ok (.getfield 20, 3) := by decide +kernel
theorem dX10_mostWorth_4 : decode cX10_mostWorth 4 = .ok (.getfield 70, 3) := by decide +kernel
theorem dX10_mostWorth_7 : decode cX10_mostWorth 7 = .ok (.iload_n 1, 1) := by decide +kernel
theorem dX10_mostWorth_8 : decode cX10_mostWorth 8 = .ok (.iaload, 1) := by decide +kernel
theorem dX10_mostWorth_9 : decode cX10_mostWorth 9 = .ok (.istore_n 3, 1) := by decide +kernel
theorem dX10_mostWorth_10 : decode cX10_mostWorth 10 = .ok (.aload_n 0, 1) := by decide +kernel
theorem dX10_mostWorth_11 : decode cX10_mostWorth 11 = .ok (.getfield 20, 3) := by decide +kernel
theorem dX10_mostWorth_14 : decode cX10_mostWorth 14 = .ok (.iload_n 1, 1) := by decide +kernel
theorem dX10_mostWorth_15 : decode cX10_mostWorth 15 = .ok (.invokevirtual 73, 3) := by decide +kernel
theorem dX10_mostWorth_18 : decode cX10_mostWorth 18 = .ok (.ifCond .eq 7, 3) := by decide +kernel
theorem dX10_mostWorth_21 : decode cX10_mostWorth 21 = .ok (.iconst 1, 1) := by decide +kernel
theorem dX10_mostWorth_22 : decode cX10_mostWorth 22 = .ok (.goto 4, 3) := by decide +kernel
theorem dX10_mostWorth_25 : decode cX10_mostWorth 25 = .ok (.iconst 0, 1) := by decide +kernel
theorem dX10_mostWorth_26 : decode cX10_mostWorth 26 = .ok (.istore 4, 2) := by decide +kernel
theorem dX10_mostWorth_28 : decode cX10_mostWorth 28 = .ok (.iload 4, 2) := by decide +kernel
theorem dX10_mostWorth_30 : decode cX10_mostWorth 30 = .ok (.ifCond .eq 12, 3) := by decide +kernel
theorem dX10_mostWorth_33 : decode cX10_mostWorth 33 = .ok (.aload_n 0, 1) := by decide +kernel
theorem dX10_mostWorth_34 : decode cX10_mostWorth 34 = .ok (.iload_n 3, 1) := by decide +kernel
theorem dX10_mostWorth_35 : decode cX10_mostWorth 35 = .ok (.iload_n 2, 1) := by decide +kernel
theorem dX10_mostWorth_36 : decode cX10_mostWorth 36 = .ok (.invokevirtual 76, 3) := by decide +kernel
theorem dX10_mostWorth_39 : decode cX10_mostWorth 39 = .ok (.goto 11, 3) := by decide +kernel
theorem dX10_mostWorth_42 : decode cX10_mostWorth 42 = .ok (.aload_n 0, 1) := by decide +kernel
theorem dX10_mostWorth_43 : decode cX10_mostWorth 43 = .ok (.getfield 20, 3) := by decide +kernel
theorem dX10_mostWorth_46 : decode cX10_mostWorth 46 = .ok (.iload_n 3, 1) := by decide +kernel
theorem dX10_mostWorth_47 : decode cX10_mostWorth 47 = .ok (.invokevirtual 79, 3) := by decide +kernel
theorem dX10_mostWorth_50 : decode cX10_mostWorth 50 = .ok (.ireturn, 1) := by decide +kernel
theorem dX10_firstMove_0 : decode cX10_firstMove 0 = .ok (.aload_n 0, 1) := by decide +kernel
theorem dX10_firstMove_1 : decode cX10_firstMove 1 = .ok (.iload_n 1, 1) := by decide +kernel
theorem dX10_firstMove_2 : decode cX10_firstMove 2 = .ok (.iload_n 2, 1) := by decide +kernel
theorem dX10_firstMove_3 : decode cX10_firstMove 3 = .ok (.invokevirtual 82, 3) := by decide +kernel
theorem dX10_firstMove_6 : decode cX10_firstMove 6 = .ok (.istore_n 3, 1) := by decide +kernel
theorem dX10_firstMove_7 : decode cX10_firstMove 7 = .ok (.aload_n 0, 1) := by decide +kernel
theorem dX10_firstMove_8 : decode cX10_firstMove 8 = .ok (.getfield 20, 3) := by decide +kernel
theorem dX10_firstMove_11 : decode cX10_firstMove 11 = .ok (.iload_n 1, 1) := by decide +kernel
theorem dX10_firstMove_12 : decode cX10_firstMove 12 = .ok (.invokevirtual 73, 3) := by decide +kernel
theorem dX10_firstMove_15 : decode cX10_firstMove 15 = .ok (.aload_n 0, 1) := by decide +kernel
theorem dX10_firstMove_16 : decode cX10_firstMove 16 = .ok (.getfield 28, 3) := by decide +kernel
theorem dX10_firstMove_19 : decode cX10_firstMove 19 = .ok (.iand, 1) := by decide +kernel
theorem dX10_firstMove_20 : decode cX10_firstMove 20 = .ok (.istore 4, 2) := by decide +kernel
theorem dX10_firstMove_22 : decode cX10_firstMove 22 = .ok (.iconst 0, 1) := by decide +kernel
theorem dX10_firstMove_23 : decode cX10_firstMove 23 = .ok (.istore 5, 2) := by decide +kernel
theorem dX10_firstMove_25 : decode cX10_firstMove 25 = .ok (.iload 5, 2) := by decide +kernel
theorem dX10_firstMove_27 : decode cX10_firstMove 27 = .ok (.aload_n 0, 1) := by decide +kernel
theorem dX10_firstMove_28 : decode cX10_firstMove 28 = .ok (.getfield 20, 3) := by decide +kernel
theorem dX10_firstMove_31 : decode cX10_firstMove 31 = .ok (.getfield 31, 3) := by decide +kernel
theorem dX10_firstMove_34 : decode cX10_firstMove 34 = .ok (.if_icmp .ge 54, 3) := by decide +kernel
theorem dX10_firstMove_37 : decode cX10_firstMove 37 = .ok (.iload 4, 2) := by decide +kernel
theorem dX10_firstMove_39 : decode cX10_firstMove 39 = .ok (.iload 5, 2) := by decide +kernel
theorem dX10_firstMove_41 : decode cX10_firstMove 41 = .ok (.ishr, 1) := by decide +kernel
theorem dX10_firstMove_42 : decode cX10_firstMove 42 = .ok (.iconst 1, 1) := by decide +kernel
theorem dX10_firstMove_43 : decode cX10_firstMove 43 = .ok (.iand, 1) := by decide +kernel
theorem dX10_firstMove_44 : decode cX10_firstMove 44 = .ok (.ifCond .eq 7, 3) := by decide +kernel
theorem dX10_firstMove_47 : decode cX10_firstMove 47 = .ok (.iconst 1, 1) := by decide +kernel
theorem dX10_firstMove_48 : decode cX10_firstMove 48 = .ok (.goto 4, 3) := by decide +kernel
theorem dX10_firstMove_51 : decode cX10_firstMove 51 = .ok (.iconst 0, 1) := by decide +kernel
theorem dX10_firstMove_52 : decode cX10_firstMove 52 = .ok (.istore 6, 2) := by decide +kernel
theorem dX10_firstMove_54 : decode cX10_firstMove 54 = .ok (.iload 6, 2) := by decide +kernel
theorem dX10_firstMove_56 : decode cX10_firstMove 56 = .ok (.ifCond .eq 26, 3) := by decide +kernel
theorem dX10_firstMove_59 : decode cX10_firstMove 59 = .ok (.aload_n 0, 1) := by decide +kernel
theorem dX10_firstMove_60 : decode cX10_firstMove 60 = .ok (.aload_n 0, 1) := by decide +kernel
theorem dX10_firstMove_61 : decode cX10_firstMove 61 = .ok (.getfield 20, 3) := by decide +kernel
theorem dX10_firstMove_64 : decode cX10_firstMove 64 = .ok (.iload 5, 2) := by decide +kernel
theorem dX10_firstMove_66 : decode cX10_firstMove 66 = .ok (.invokevirtual 34, 3) := by decide +kernel
theorem dX10_firstMove_69 : decode cX10_firstMove 69 = .ok (.iload_n 2, 1) := by decide +kernel
theorem dX10_firstMove_70 : decode cX10_firstMove 70 = .ok (.iconst 1, 1) := by decide +kernel
theorem dX10_firstMove_71 : decode cX10_firstMove 71 = .ok (.isub, 1) := by decide +kernel
theorem dX10_firstMove_72 : decode cX10_firstMove 72 = .ok (.invokevirtual 76, 3) := by decide +kernel
theorem dX10_firstMove_75 : decode cX10_firstMove 75 = .ok (.iload_n 3, 1) := by decide +kernel
theorem dX10_firstMove_76 : decode cX10_firstMove 76 = .ok (.if_icmp .ne 6, 3) := by decide +kernel
theorem dX10_firstMove_79 : decode cX10_firstMove 79 = .ok (.iload 5, 2) := by decide +kernel
theorem dX10_firstMove_81 : decode cX10_firstMove 81 = .ok (.ireturn, 1) := by decide +kernel
theorem dX10_firstMove_82 : decode cX10_firstMove 82 = .ok (.iinc 5 1, 3) := by decide +kernel
theorem dX10_firstMove_85 : decode cX10_firstMove 85 = .ok (.goto (-60), 3) := by decide +kernel
theorem dX10_firstMove_88 : decode cX10_firstMove 88 = .ok (.iconst (-1), 1) := by decide +kernel
theorem dX10_firstMove_89 : decode cX10_firstMove 89 = .ok (.ireturn, 1) := by decide +kernel
theorem dX11_status_0 : decode cX11_status 0 = .ok (.aload_n 0, 1) := by decide +kernel
theorem dX11_status_1 : decode cX11_status 1 = .ok (.getfield 92, 3) := by decide +kernel
theorem dX11_status_4 : decode cX11_status 4 = .ok (.ireturn, 1) := by decide +kernel
theorem dX11_top_0 : decode cX11_top 0 = .ok (.aload_n 0, 1) := by decide +kernel
theorem dX11_top_1 : decode cX11_top 1 = .ok (.getfield 95, 3) := by decide +kernel
theorem dX11_top_4 : decode cX11_top 4 = .ok (.lreturn, 1) := by decide +kernel
theorem dX11_bottom_0 : decode cX11_bottom 0 = .ok (.aload_n 0, 1) := by decide +kernel
theorem dX11_bottom_1 : decode cX11_bottom 1 = .ok (.getfield 81, 3) := by decide +kernel
theorem dX11_bottom_4 : decode cX11_bottom 4 = .ok (.lreturn, 1) := by decide +kernel
theorem dX11_isTray_0 : decode cX11_isTray 0 = .ok (.iload_n 0, 1) := by decide +kernel
theorem dX11_isTray_1 : decode cX11_isTray 1 = .ok (.ifCond .lt 12, 3) := by decide +kernel
theorem dX11_isTray_4 : decode cX11_isTray 4 = .ok (.iload_n 0, 1) := by decide +kernel
theorem dX11_isTray_5 : decode cX11_isTray 5 = .ok (.iconst 4, 1) := by decide +kernel
theorem dX11_isTray_6 : decode cX11_isTray 6 = .ok (.if_icmp .ge 7, 3) := by decide +kernel
theorem dX11_isTray_9 : decode cX11_isTray 9 = .ok (.iconst 1, 1) := by decide +kernel
theorem dX11_isTray_10 : decode cX11_isTray 10 = .ok (.goto 4, 3) := by decide +kernel
theorem dX11_isTray_13 : decode cX11_isTray 13 = .ok (.iconst 0, 1) := by decide +kernel
theorem dX11_isTray_14 : decode cX11_isTray 14 = .ok (.ireturn, 1) := by decide +kernel
theorem dX11_deny_0 : decode cX11_deny 0 = .ok (.aload_n 0, 1) := by decide +kernel
theorem dX11_deny_1 : decode cX11_deny 1 = .ok (.iload_n 1, 1) := by decide +kernel
theorem dX11_deny_2 : decode cX11_deny 2 = .ok (.putfield 92, 3) := by decide +kernel
theorem dX11_deny_5 : decode cX11_deny 5 = .ok (.iconst 0, 1) := by decide +kernel
theorem dX11_deny_6 : decode cX11_deny 6 = .ok (.ireturn, 1) := by decide +kernel
theorem dX11_grant_0 : decode cX11_grant 0 = .ok (.aload_n 0, 1) := by decide +kernel
theorem dX11_grant_1 : decode cX11_grant 1 = .ok (.iconst 0, 1) := by decide +kernel
theorem dX11_grant_2 : decode cX11_grant 2 = .ok (.putfield 92, 3) := by decide +kernel
theorem dX11_grant_5 : decode cX11_grant 5 = .ok (.iconst 1, 1) := by decide +kernel
theorem dX11_grant_6 : decode cX11_grant 6 = .ok (.ireturn, 1) := by decide +kernel
theorem dX11_tray_0 : decode cX11_tray 0 = .ok (.iload_n 1, 1) := by decide +kernel
theorem dX11_tray_1 : decode cX11_tray 1 = .ok (.invokestatic 98, 3) := by decide +kernel
theorem dX11_tray_4 : decode cX11_tray 4 = .ok (.ifCond .eq 12, 3) := by decide +kernel
theorem dX11_tray_7 : decode cX11_tray 7 = .ok (.iload_n 2, 1) := by decide +kernel
theorem dX11_tray_8 : decode cX11_tray 8 = .ok (.ifCond .lt 8, 3) := by decide +kernel
theorem dX11_tray_11 : decode cX11_tray 11 = .ok (.iload_n 2, 1) := by decide +kernel
theorem dX11_tray_12 : decode cX11_tray 12 = .ok (.iconst 3, 1) := by decide +kernel
theorem dX11_tray_13 : decode cX11_tray 13 = .ok (.if_icmp .le 9, 3) := by decide +kernel
theorem dX11_tray_16 : decode cX11_tray 16 = .ok (.aload_n 0, 1) := by decide +kernel
theorem dX11_tray_17 : decode cX11_tray 17 = .ok (.iconst 1, 1) := by decide +kernel
theorem dX11_tray_18 : decode cX11_tray 18 = .ok (.invokevirtual 102, 3) := by decide +kernel
theorem dX11_tray_21 : decode cX11_tray 21 = .ok (.ireturn, 1) := by decide +kernel
theorem dX11_tray_22 : decode cX11_tray 22 = .ok (.iload_n 3, 1) := by decide +kernel
theorem dX11_tray_23 : decode cX11_tray 23 = .ok (.bipush 60, 2) := by decide +kernel
theorem dX11_tray_25 : decode cX11_tray 25 = .ok (.if_icmp .le 9, 3) := by decide +kernel
theorem dX11_tray_28 : decode cX11_tray 28 = .ok (.aload_n 0, 1) := by decide +kernel
theorem dX11_tray_29 : decode cX11_tray 29 = .ok (.iconst 5, 1) := by decide +kernel
theorem dX11_tray_30 : decode cX11_tray 30 = .ok (.invokevirtual 102, 3) := by decide +kernel
theorem dX11_tray_33 : decode cX11_tray 33 = .ok (.ireturn, 1) := by decide +kernel
theorem dX11_tray_34 : decode cX11_tray 34 = .ok (.iload_n 3, 1) := by decide +kernel
theorem dX11_tray_35 : decode cX11_tray 35 = .ok (.ifCond .ge 10, 3) := by decide +kernel
theorem dX11_tray_38 : decode cX11_tray 38 = .ok (.aload_n 0, 1) := by decide +kernel
theorem dX11_tray_39 : decode cX11_tray 39 = .ok (.bipush 6, 2) := by decide +kernel
theorem dX11_tray_41 : decode cX11_tray 41 = .ok (.invokevirtual 102, 3) := by decide +kernel
theorem dX11_tray_44 : decode cX11_tray 44 = .ok (.ireturn, 1) := by decide +kernel
theorem dX11_tray_45 : decode cX11_tray 45 = .ok (.aload_n 0, 1) := by decide +kernel
theorem dX11_tray_46 : decode cX11_tray 46 = .ok (.getfield 11, 3) := by decide +kernel
theorem dX11_tray_49 : decode cX11_tray 49 = .ok (.iload_n 1, 1) := by decide +kernel
theorem dX11_tray_50 : decode cX11_tray 50 = .ok (.aaload, 1) := by decide +kernel
theorem dX11_tray_51 : decode cX11_tray 51 = .ok (.iload_n 2, 1) := by decide +kernel
theorem dX11_tray_52 : decode cX11_tray 52 = .ok (.iload_n 3, 1) := by decide +kernel
theorem dX11_tray_53 : decode cX11_tray 53 = .ok (.invokevirtual 105, 3) := by decide +kernel
theorem dX11_tray_56 : decode cX11_tray 56 = .ok (.aload_n 0, 1) := by decide +kernel
theorem dX11_tray_57 : decode cX11_tray 57 = .ok (.invokevirtual 109, 3) := by decide +kernel
theorem dX11_tray_60 : decode cX11_tray 60 = .ok (.ireturn, 1) := by decide +kernel
theorem dX11_placeStatus_0 : decode cX11_placeStatus 0 = .ok (.iload_n 1, 1) := by decide +kernel
theorem dX11_placeStatus_1 : decode cX11_placeStatus 1 = .ok (.invokestatic 98, 3) := by decide +kernel
theorem dX11_placeStatus_4 : decode cX11_placeStatus 4 = .ok (.ifCond .ne 5, 3) := by decide +kernel
theorem dX11_placeStatus_7 : decode cX11_placeStatus 7 = .ok (.iconst 1, 1) := by decide +kernel
theorem dX11_placeStatus_8 : decode cX11_placeStatus 8 = .ok (.ireturn, 1) := by decide +kernel
theorem dX11_placeStatus_9 : decode cX11_placeStatus 9 = .ok (.aload_n 0, 1) := by decide +kernel
theorem dX11_placeStatus_10 : decode cX11_placeStatus 10 = .ok (.getfield 11, 3) := by decide +kernel
theorem dX11_placeStatus_13 : decode cX11_placeStatus 13 = .ok (.iload_n 1, 1) := by decide +kernel
theorem dX11_placeStatus_14 : decode cX11_placeStatus 14 = .ok (.aaload, 1) := by decide +kernel
theorem dX11_placeStatus_15 : decode cX11_placeStatus 15 = .ok (.invokevirtual 129, 3) := by decide +kernel
theorem dX11_placeStatus_18 : decode cX11_placeStatus 18 = .ok (.ifCond .eq 5, 3) := by decide +kernel
theorem dX11_placeStatus_21 : decode cX11_placeStatus 21 = .ok (.iconst 3, 1) := by decide +kernel
theorem dX11_placeStatus_22 : decode cX11_placeStatus 22 = .ok (.ireturn, 1) := by decide +kernel
theorem dX11_placeStatus_23 : decode cX11_placeStatus 23 = .ok (.aload_n 0, 1) := by decide +kernel
theorem dX11_placeStatus_24 : decode cX11_placeStatus 24 = .ok (.getfield 11, 3) := by decide +kernel
theorem dX11_placeStatus_27 : decode cX11_placeStatus 27 = .ok (.iload_n 1, 1) := by decide +kernel
theorem dX11_placeStatus_28 : decode cX11_placeStatus 28 = .ok (.aaload, 1) := by decide +kernel
theorem dX11_placeStatus_29 : decode cX11_placeStatus 29 = .ok (.iload_n 2, 1) := by decide +kernel
theorem dX11_placeStatus_30 : decode cX11_placeStatus 30 = .ok (.iconst 1, 1) := by decide +kernel
theorem dX11_placeStatus_31 : decode cX11_placeStatus 31 = .ok (.invokevirtual 135, 3) := by decide +kernel
theorem dX11_placeStatus_34 : decode cX11_placeStatus 34 = .ok (.ifCond .eq 7, 3) := by decide +kernel
theorem dX11_placeStatus_37 : decode cX11_placeStatus 37 = .ok (.iconst 0, 1) := by decide +kernel
theorem dX11_placeStatus_38 : decode cX11_placeStatus 38 = .ok (.goto 4, 3) := by decide +kernel
theorem dX11_placeStatus_41 : decode cX11_placeStatus 41 = .ok (.iconst 4, 1) := by decide +kernel
theorem dX11_placeStatus_42 : decode cX11_placeStatus 42 = .ok (.ireturn, 1) := by decide +kernel
theorem dX11_write_0 : decode cX11_write 0 = .ok (.aload_n 0, 1) := by decide +kernel
theorem dX11_write_1 : decode cX11_write 1 = .ok (.iload_n 1, 1) := by decide +kernel
theorem dX11_write_2 : decode cX11_write 2 = .ok (.iload_n 2, 1) := by decide +kernel
theorem dX11_write_3 : decode cX11_write 3 = .ok (.invokevirtual 113, 3) := by decide +kernel
theorem dX11_write_6 : decode cX11_write 6 = .ok (.istore 5, 2) := by decide +kernel
theorem dX11_write_8 : decode cX11_write 8 = .ok (.iload 5, 2) := by decide +kernel
theorem dX11_write_10 : decode cX11_write 10 = .ok (.ifCond .eq 10, 3) := by decide +kernel
theorem dX11_write_13 : decode cX11_write 13 = .ok (.aload_n 0, 1) := by decide +kernel
theorem dX11_write_14 : decode cX11_write 14 = .ok (.iload 5, 2) := by decide +kernel
theorem dX11_write_16 : decode cX11_write 16 = .ok (.invokevirtual 102, 3) := by decide +kernel
theorem dX11_write_19 : decode cX11_write 19 = .ok (.ireturn, 1) := by decide +kernel
theorem dX11_write_20 : decode cX11_write 20 = .ok (.aload_n 0, 1) := by decide +kernel
theorem dX11_write_21 : decode cX11_write 21 = .ok (.getfield 11, 3) := by decide +kernel
theorem dX11_write_24 : decode cX11_write 24 = .ok (.iload_n 1, 1) := by decide +kernel
theorem dX11_write_25 : decode cX11_write 25 = .ok (.aaload, 1) := by decide +kernel
theorem dX11_write_26 : decode cX11_write 26 = .ok (.iload_n 2, 1) := by decide +kernel
theorem dX11_write_27 : decode cX11_write 27 = .ok (.lload_n 3, 1) := by decide +kernel
theorem dX11_write_28 : decode cX11_write 28 = .ok (.invokevirtual 117, 3) := by decide +kernel
theorem dX11_write_31 : decode cX11_write 31 = .ok (.aload_n 0, 1) := by decide +kernel
theorem dX11_write_32 : decode cX11_write 32 = .ok (.invokevirtual 109, 3) := by decide +kernel
theorem dX11_write_35 : decode cX11_write 35 = .ok (.ireturn, 1) := by decide +kernel
theorem dX11_refuse_0 : decode cX11_refuse 0 = .ok (.aload_n 0, 1) := by decide +kernel
theorem dX11_refuse_1 : decode cX11_refuse 1 = .ok (.iload_n 1, 1) := by decide +kernel
theorem dX11_refuse_2 : decode cX11_refuse 2 = .ok (.putfield 92, 3) := by decide +kernel
theorem dX11_refuse_5 : decode cX11_refuse 5 = .ok (.iconst (-1), 1) := by decide +kernel
theorem dX11_refuse_6 : decode cX11_refuse 6 = .ok (.ireturn, 1) := by decide +kernel
theorem dX11_read_0 : decode cX11_read 0 = .ok (.aload_n 0, 1) := by decide +kernel
theorem dX11_read_1 : decode cX11_read 1 = .ok (.iload_n 1, 1) := by decide +kernel
theorem dX11_read_2 : decode cX11_read 2 = .ok (.iload_n 2, 1) := by decide +kernel
theorem dX11_read_3 : decode cX11_read 3 = .ok (.invokevirtual 113, 3) := by decide +kernel
theorem dX11_read_6 : decode cX11_read 6 = .ok (.istore_n 3, 1) := by decide +kernel
theorem dX11_read_7 : decode cX11_read 7 = .ok (.iload_n 3, 1) := by decide +kernel
theorem dX11_read_8 : decode cX11_read 8 = .ok (.ifCond .eq 10, 3) := by decide +kernel
theorem dX11_read_11 : decode cX11_read 11 = .ok (.aload_n 0, 1) := by decide +kernel
theorem dX11_read_12 : decode cX11_read 12 = .ok (.iload_n 3, 1) := by decide +kernel
theorem dX11_read_13 : decode cX11_read 13 = .ok (.invokevirtual 121, 3) := by decide +kernel
theorem dX11_read_16 : decode cX11_read 16 = .ok (.i2l, 1) := by decide +kernel
theorem dX11_read_17 : decode cX11_read 17 = .ok (.lreturn, 1) := by decide +kernel
theorem dX11_read_18 : decode cX11_read 18 = .ok (.aload_n 0, 1) := by decide +kernel
theorem dX11_read_19 : decode cX11_read 19 = .ok (.iconst 0, 1) := by decide +kernel
theorem dX11_read_20 : decode cX11_read 20 = .ok (.putfield 92, 3) := by decide +kernel
theorem dX11_read_23 : decode cX11_read 23 = .ok (.aload_n 0, 1) := by decide +kernel
theorem dX11_read_24 : decode cX11_read 24 = .ok (.getfield 11, 3) := by decide +kernel
theorem dX11_read_27 : decode cX11_read 27 = .ok (.iload_n 1, 1) := by decide +kernel
theorem dX11_read_28 : decode cX11_read 28 = .ok (.aaload, 1) := by decide +kernel
theorem dX11_read_29 : decode cX11_read 29 = .ok (.getfield 125, 3) := by decide +kernel
theorem dX11_read_32 : decode cX11_read 32 = .ok (.iload_n 2, 1) := by decide +kernel
theorem dX11_read_33 : decode cX11_read 33 = .ok (.laload, 1) := by decide +kernel
theorem dX11_read_34 : decode cX11_read 34 = .ok (.lreturn, 1) := by decide +kernel
theorem dX11_pour_0 : decode cX11_pour 0 = .ok (.iload_n 1, 1) := by decide +kernel
theorem dX11_pour_1 : decode cX11_pour 1 = .ok (.invokestatic 98, 3) := by decide +kernel
theorem dX11_pour_4 : decode cX11_pour 4 = .ok (.ifCond .eq 10, 3) := by decide +kernel
theorem dX11_pour_7 : decode cX11_pour 7 = .ok (.iload_n 3, 1) := by decide +kernel
theorem dX11_pour_8 : decode cX11_pour 8 = .ok (.invokestatic 98, 3) := by decide +kernel
theorem dX11_pour_11 : decode cX11_pour 11 = .ok (.ifCond .ne 9, 3) := by decide +kernel
theorem dX11_pour_14 : decode cX11_pour 14 = .ok (.aload_n 0, 1) := by decide +kernel
theorem dX11_pour_15 : decode cX11_pour 15 = .ok (.iconst 1, 1) := by decide +kernel
theorem dX11_pour_16 : decode cX11_pour 16 = .ok (.invokevirtual 102, 3) := by decide +kernel
theorem dX11_pour_19 : decode cX11_pour 19 = .ok (.ireturn, 1) := by decide +kernel
theorem dX11_pour_20 : decode cX11_pour 20 = .ok (.aload_n 0, 1) := by decide +kernel
theorem dX11_pour_21 : decode cX11_pour 21 = .ok (.getfield 11, 3) := by decide +kernel
theorem dX11_pour_24 : decode cX11_pour 24 = .ok (.iload_n 1, 1) := by decide +kernel
theorem dX11_pour_25 : decode cX11_pour 25 = .ok (.aaload, 1) := by decide +kernel
theorem dX11_pour_26 : decode cX11_pour 26 = .ok (.astore 6, 2) := by decide +kernel
theorem dX11_pour_28 : decode cX11_pour 28 = .ok (.aload_n 0, 1) := by decide +kernel
theorem dX11_pour_29 : decode cX11_pour 29 = .ok (.getfield 11, 3) := by decide +kernel
theorem dX11_pour_32 : decode cX11_pour 32 = .ok (.iload_n 3, 1) := by decide +kernel
theorem dX11_pour_33 : decode cX11_pour 33 = .ok (.aaload, 1) := by decide +kernel
theorem dX11_pour_34 : decode cX11_pour 34 = .ok (.astore 7, 2) := by decide +kernel
theorem dX11_pour_36 : decode cX11_pour 36 = .ok (.aload 6, 2) := by decide +kernel
theorem dX11_pour_38 : decode cX11_pour 38 = .ok (.invokevirtual 129, 3) := by decide +kernel
theorem dX11_pour_41 : decode cX11_pour 41 = .ok (.ifCond .ne 11, 3) := by decide +kernel
theorem dX11_pour_44 : decode cX11_pour 44 = .ok (.aload 7, 2) := by decide +kernel
theorem dX11_pour_46 : decode cX11_pour 46 = .ok (.invokevirtual 129, 3) := by decide +kernel
theorem dX11_pour_49 : decode cX11_pour 49 = .ok (.ifCond .eq 9, 3) := by decide +kernel
theorem dX11_pour_52 : decode cX11_pour 52 = .ok (.aload_n 0, 1) := by decide +kernel
theorem dX11_pour_53 : decode cX11_pour 53 = .ok (.iconst 3, 1) := by decide +kernel
theorem dX11_pour_54 : decode cX11_pour 54 = .ok (.invokevirtual 102, 3) := by decide +kernel
theorem dX11_pour_57 : decode cX11_pour 57 = .ok (.ireturn, 1) := by decide +kernel
theorem dX11_pour_58 : decode cX11_pour 58 = .ok (.aload 6, 2) := by decide +kernel
theorem dX11_pour_60 : decode cX11_pour 60 = .ok (.getfield 132, 3) := by decide +kernel
theorem dX11_pour_63 : decode cX11_pour 63 = .ok (.aload 7, 2) := by decide +kernel
theorem dX11_pour_65 : decode cX11_pour 65 = .ok (.getfield 132, 3) := by decide +kernel
theorem dX11_pour_68 : decode cX11_pour 68 = .ok (.if_icmp .eq 10, 3) := by decide +kernel
theorem dX11_pour_71 : decode cX11_pour 71 = .ok (.aload_n 0, 1) := by decide +kernel
theorem dX11_pour_72 : decode cX11_pour 72 = .ok (.bipush 11, 2) := by decide +kernel
theorem dX11_pour_74 : decode cX11_pour 74 = .ok (.invokevirtual 102, 3) := by decide +kernel
theorem dX11_pour_77 : decode cX11_pour 77 = .ok (.ireturn, 1) := by decide +kernel
theorem dX11_pour_78 : decode cX11_pour 78 = .ok (.iload 5, 2) := by decide +kernel
theorem dX11_pour_80 : decode cX11_pour 80 = .ok (.ifCond .ge 10, 3) := by decide +kernel
theorem dX11_pour_83 : decode cX11_pour 83 = .ok (.aload_n 0, 1) := by decide +kernel
theorem dX11_pour_84 : decode cX11_pour 84 = .ok (.bipush 6, 2) := by decide +kernel
theorem dX11_pour_86 : decode cX11_pour 86 = .ok (.invokevirtual 102, 3) := by decide +kernel
theorem dX11_pour_89 : decode cX11_pour 89 = .ok (.ireturn, 1) := by decide +kernel
theorem dX11_pour_90 : decode cX11_pour 90 = .ok (.aload 6, 2) := by decide +kernel
theorem dX11_pour_92 : decode cX11_pour 92 = .ok (.iload_n 2, 1) := by decide +kernel
theorem dX11_pour_93 : decode cX11_pour 93 = .ok (.iload 5, 2) := by decide +kernel
theorem dX11_pour_95 : decode cX11_pour 95 = .ok (.invokevirtual 135, 3) := by decide +kernel
theorem dX11_pour_98 : decode cX11_pour 98 = .ok (.ifCond .eq 15, 3) := by decide +kernel
theorem dX11_pour_101 : decode cX11_pour 101 = .ok (.aload 7, 2) := by decide +kernel
theorem dX11_pour_103 : decode cX11_pour 103 = .ok (.iload 4, 2) := by decide +kernel
theorem dX11_pour_105 : decode cX11_pour 105 = .ok (.iload 5, 2) := by decide +kernel
theorem dX11_pour_107 : decode cX11_pour 107 = .ok (.invokevirtual 135, 3) := by decide +kernel
theorem dX11_pour_110 : decode cX11_pour 110 = .ok (.ifCond .ne 9, 3) := by decide +kernel
theorem dX11_pour_113 : decode cX11_pour 113 = .ok (.aload_n 0, 1) := by decide +kernel
theorem dX11_pour_114 : decode cX11_pour 114 = .ok (.iconst 4, 1) := by decide +kernel
theorem dX11_pour_115 : decode cX11_pour 115 = .ok (.invokevirtual 102, 3) := by decide +kernel
theorem dX11_pour_118 : decode cX11_pour 118 = .ok (.ireturn, 1) := by decide +kernel
theorem dX11_pour_119 : decode cX11_pour 119 = .ok (.aload 6, 2) := by decide +kernel
theorem dX11_pour_121 : decode cX11_pour 121 = .ok (.getfield 125, 3) := by decide +kernel
theorem dX11_pour_124 : decode cX11_pour 124 = .ok (.iload_n 2, 1) := by decide +kernel
theorem dX11_pour_125 : decode cX11_pour 125 = .ok (.aload 7, 2) := by decide +kernel
theorem dX11_pour_127 : decode cX11_pour 127 = .ok (.getfield 125, 3) := by decide +kernel
theorem dX11_pour_130 : decode cX11_pour 130 = .ok (.iload 4, 2) := by decide +kernel
theorem dX11_pour_132 : decode cX11_pour 132 = .ok (.iload 5, 2) := by decide +kernel
theorem dX11_pour_134 : decode cX11_pour 134 = .ok (.invokestatic 139, 3) := by decide +kernel
theorem dX11_pour_137 : decode cX11_pour 137 = .ok (.aload_n 0, 1) := by decide +kernel
theorem dX11_pour_138 : decode cX11_pour 138 = .ok (.invokevirtual 109, 3) := by decide +kernel
theorem dX11_pour_141 : decode cX11_pour 141 = .ok (.ireturn, 1) := by decide +kernel
theorem dX11_putOnTape_0 : decode cX11_putOnTape 0 = .ok (.bipush 24, 2) := by decide +kernel
theorem dX11_putOnTape_2 : decode cX11_putOnTape 2 = .ok (.istore_n 2, 1) := by decide +kernel
theorem dX11_putOnTape_3 : decode cX11_putOnTape 3 = .ok (.iload_n 2, 1) := by decide +kernel
theorem dX11_putOnTape_4 : decode cX11_putOnTape 4 = .ok (.ifCond .lt 32, 3) := by decide +kernel
theorem dX11_putOnTape_7 : decode cX11_putOnTape 7 = .ok (.aload_n 0, 1) := by decide +kernel
theorem dX11_putOnTape_8 : decode cX11_putOnTape 8 = .ok (.getfield 16, 3) := by decide +kernel
theorem dX11_putOnTape_11 : decode cX11_putOnTape 11 = .ok (.aload_n 0, 1) := by decide +kernel
theorem dX11_putOnTape_12 : decode cX11_putOnTape 12 = .ok (.getfield 145, 3) := by decide +kernel
theorem dX11_putOnTape_15 : decode cX11_putOnTape 15 = .ok (.iload_n 1, 1) := by decide +kernel
theorem dX11_putOnTape_16 : decode cX11_putOnTape 16 = .ok (.iload_n 2, 1) := by decide +kernel
theorem dX11_putOnTape_17 : decode cX11_putOnTape 17 = .ok (.ishr, 1) := by decide +kernel
theorem dX11_putOnTape_18 : decode cX11_putOnTape 18 = .ok (.i2b, 1) := by decide +kernel
theorem dX11_putOnTape_19 : decode cX11_putOnTape 19 = .ok (.bastore, 1) := by decide +kernel
theorem dX11_putOnTape_20 : decode cX11_putOnTape 20 = .ok (.aload_n 0, 1) := by decide +kernel
theorem dX11_putOnTape_21 : decode cX11_putOnTape 21 = .ok (.dup, 1) := by decide +kernel
theorem dX11_putOnTape_22 : decode cX11_putOnTape 22 = .ok (.getfield 145, 3) := by decide +kernel
theorem dX11_putOnTape_25 : decode cX11_putOnTape 25 = .ok (.iconst 1, 1) := by decide +kernel
theorem dX11_putOnTape_26 : decode cX11_putOnTape 26 = .ok (.iadd, 1) := by decide +kernel
theorem dX11_putOnTape_27 : decode cX11_putOnTape 27 = .ok (.putfield 145, 3) := by decide +kernel
theorem dX11_putOnTape_30 : decode cX11_putOnTape 30 = .ok (.iinc 2 (-8), 3) := by decide +kernel
theorem dX11_putOnTape_33 : decode cX11_putOnTape 33 = .ok (.goto (-30), 3) := by decide +kernel
theorem dX11_putOnTape_36 : decode cX11_putOnTape 36 = .ok (.return_, 1) := by decide +kernel
theorem dX11_feed_0 : decode cX11_feed 0 = .ok (.aload_n 0, 1) := by decide +kernel
theorem dX11_feed_1 : decode cX11_feed 1 = .ok (.getfield 145, 3) := by decide +kernel
theorem dX11_feed_4 : decode cX11_feed 4 = .ok (.bipush 20, 2) := by decide +kernel
theorem dX11_feed_6 : decode cX11_feed 6 = .ok (.iadd, 1) := by decide +kernel
theorem dX11_feed_7 : decode cX11_feed 7 = .ok (.sipush 900, 3) := by decide +kernel
theorem dX11_feed_10 : decode cX11_feed 10 = .ok (.if_icmp .le 5, 3) := by decide +kernel
theorem dX11_feed_13 : decode cX11_feed 13 = .ok (.iconst (-1), 1) := by decide +kernel
theorem dX11_feed_14 : decode cX11_feed 14 = .ok (.ireturn, 1) := by decide +kernel
theorem dX11_feed_15 : decode cX11_feed 15 = .ok (.aload_n 0, 1) := by decide +kernel
theorem dX11_feed_16 : decode cX11_feed 16 = .ok (.iload_n 1, 1) := by decide +kernel
theorem dX11_feed_17 : decode cX11_feed 17 = .ok (.invokevirtual 148, 3) := by decide +kernel
theorem dX11_feed_20 : decode cX11_feed 20 = .ok (.aload_n 0, 1) := by decide +kernel
theorem dX11_feed_21 : decode cX11_feed 21 = .ok (.iload_n 2, 1) := by decide +kernel
theorem dX11_feed_22 : decode cX11_feed 22 = .ok (.invokevirtual 148, 3) := by decide +kernel
theorem dX11_feed_25 : decode cX11_feed 25 = .ok (.aload_n 0, 1) := by decide +kernel
theorem dX11_feed_26 : decode cX11_feed 26 = .ok (.iload_n 3, 1) := by decide +kernel
theorem dX11_feed_27 : decode cX11_feed 27 = .ok (.invokevirtual 148, 3) := by decide +kernel
theorem dX11_feed_30 : decode cX11_feed 30 = .ok (.aload_n 0, 1) := by decide +kernel
theorem dX11_feed_31 : decode cX11_feed 31 = .ok (.iload 4, 2) := by decide +kernel
theorem dX11_feed_33 : decode cX11_feed 33 = .ok (.invokevirtual 148, 3) := by decide +kernel
theorem dX11_feed_36 : decode cX11_feed 36 = .ok (.aload_n 0, 1) := by decide +kernel
theorem dX11_feed_37 : decode cX11_feed 37 = .ok (.iload 5, 2) := by decide +kernel
theorem dX11_feed_39 : decode cX11_feed 39 = .ok (.invokevirtual 148, 3) := by decide +kernel
theorem dX11_feed_42 : decode cX11_feed 42 = .ok (.aload_n 0, 1) := by decide +kernel
theorem dX11_feed_43 : decode cX11_feed 43 = .ok (.getfield 145, 3) := by decide +kernel
theorem dX11_feed_46 : decode cX11_feed 46 = .ok (.ireturn, 1) := by decide +kernel
theorem dX11_keepFault_0 : decode cX11_keepFault 0 = .ok (.aload_n 0, 1) := by decide +kernel
theorem dX11_keepFault_1 : decode cX11_keepFault 1 = .ok (.aload_n 1, 1) := by decide +kernel
theorem dX11_keepFault_2 : decode cX11_keepFault 2 = .ok (.getfield 423, 3) := by decide +kernel
theorem dX11_keepFault_5 : decode cX11_keepFault 5 = .ok (.putfield 85, 3) := by decide +kernel
theorem dX11_keepFault_8 : decode cX11_keepFault 8 = .ok (.aload_n 0, 1) := by decide +kernel
theorem dX11_keepFault_9 : decode cX11_keepFault 9 = .ok (.aload_n 1, 1) := by decide +kernel
theorem dX11_keepFault_10 : decode cX11_keepFault 10 = .ok (.getfield 428, 3) := by decide +kernel
theorem dX11_keepFault_13 : decode cX11_keepFault 13 = .ok (.putfield 89, 3) := by decide +kernel
theorem dX11_keepFault_16 : decode cX11_keepFault 16 = .ok (.return_, 1) := by decide +kernel
theorem dX11_answer_0 : decode cX11_answer 0 = .ok (.aload_n 0, 1) := by decide +kernel
theorem dX11_answer_1 : decode cX11_answer 1 = .ok (.iconst 0, 1) := by decide +kernel
theorem dX11_answer_2 : decode cX11_answer 2 = .ok (.putfield 92, 3) := by decide +kernel
theorem dX11_answer_5 : decode cX11_answer 5 = .ok (.iload_n 1, 1) := by decide +kernel
theorem dX11_answer_6 : decode cX11_answer 6 = .ok (.ireturn, 1) := by decide +kernel
theorem dX11_table_0 : decode cX11_table 0 = .ok (.iload_n 1, 1) := by decide +kernel
theorem dX11_table_1 : decode cX11_table 1 = .ok (.ifCond .lt 11, 3) := by decide +kernel
theorem dX11_table_4 : decode cX11_table 4 = .ok (.iload_n 1, 1) := by decide +kernel
theorem dX11_table_5 : decode cX11_table 5 = .ok (.aload_n 0, 1) := by decide +kernel
theorem dX11_table_6 : decode cX11_table 6 = .ok (.getfield 145, 3) := by decide +kernel
theorem dX11_table_9 : decode cX11_table 9 = .ok (.if_icmp .le 9, 3) := by decide +kernel
theorem dX11_table_12 : decode cX11_table 12 = .ok (.aload_n 0, 1) := by decide +kernel
theorem dX11_table_13 : decode cX11_table 13 = .ok (.iconst 5, 1) := by decide +kernel
theorem dX11_table_14 : decode cX11_table 14 = .ok (.invokevirtual 121, 3) := by decide +kernel
theorem dX11_table_17 : decode cX11_table 17 = .ok (.ireturn, 1) := by decide +kernel
theorem dX11_table_18 : decode cX11_table 18 = .ok (.aload_n 0, 1) := by decide +kernel
theorem dX11_table_19 : decode cX11_table 19 = .ok (.iconst 0, 1) := by decide +kernel
theorem dX11_table_20 : decode cX11_table 20 = .ok (.putfield 145, 3) := by decide +kernel
theorem dX11_table_23 : decode cX11_table 23 = .ok (.aload_n 0, 1) := by decide +kernel
theorem dX11_table_24 : decode cX11_table 24 = .ok (.getfield 25, 3) := by decide +kernel
theorem dX11_table_27 : decode cX11_table 27 = .ok (.iload_n 1, 1) := by decide +kernel
theorem dX11_table_28 : decode cX11_table 28 = .ok (.aload_n 0, 1) := by decide +kernel
theorem dX11_table_29 : decode cX11_table 29 = .ok (.getfield 43, 3) := by decide +kernel
theorem dX11_table_32 : decode cX11_table 32 = .ok (.getfield 152, 3) := by decide +kernel
theorem dX11_table_35 : decode cX11_table 35 = .ok (.invokevirtual 156, 3) := by decide +kernel
theorem dX11_table_38 : decode cX11_table 38 = .ok (.istore_n 2, 1) := by decide +kernel
theorem dX11_table_39 : decode cX11_table 39 = .ok (.aload_n 0, 1) := by decide +kernel
theorem dX11_table_40 : decode cX11_table 40 = .ok (.aload_n 0, 1) := by decide +kernel
theorem dX11_table_41 : decode cX11_table 41 = .ok (.getfield 25, 3) := by decide +kernel
theorem dX11_table_44 : decode cX11_table 44 = .ok (.invokevirtual 160, 3) := by decide +kernel
theorem dX11_table_47 : decode cX11_table 47 = .ok (.iload_n 2, 1) := by decide +kernel
theorem dX11_table_48 : decode cX11_table 48 = .ok (.ifCond .ne 10, 3) := by decide +kernel
theorem dX11_table_51 : decode cX11_table 51 = .ok (.aload_n 0, 1) := by decide +kernel
theorem dX11_table_52 : decode cX11_table 52 = .ok (.bipush 10, 2) := by decide +kernel
theorem dX11_table_54 : decode cX11_table 54 = .ok (.invokevirtual 121, 3) := by decide +kernel
theorem dX11_table_57 : decode cX11_table 57 = .ok (.ireturn, 1) := by decide +kernel
theorem dX11_table_58 : decode cX11_table 58 = .ok (.aload_n 0, 1) := by decide +kernel
theorem dX11_table_59 : decode cX11_table 59 = .ok (.getfield 39, 3) := by decide +kernel
theorem dX11_table_62 : decode cX11_table 62 = .ok (.getfield 152, 3) := by decide +kernel
theorem dX11_table_65 : decode cX11_table 65 = .ok (.aload_n 0, 1) := by decide +kernel
theorem dX11_table_66 : decode cX11_table 66 = .ok (.getfield 43, 3) := by decide +kernel
theorem dX11_table_69 : decode cX11_table 69 = .ok (.getfield 152, 3) := by decide +kernel
theorem dX11_table_72 : decode cX11_table 72 = .ok (.invokevirtual 164, 3) := by decide +kernel
theorem dX11_table_75 : decode cX11_table 75 = .ok (.aload_n 0, 1) := by decide +kernel
theorem dX11_table_76 : decode cX11_table 76 = .ok (.getfield 39, 3) := by decide +kernel
theorem dX11_table_79 : decode cX11_table 79 = .ok (.getfield 170, 3) := by decide +kernel
theorem dX11_table_82 : decode cX11_table 82 = .ok (.invokevirtual 174, 3) := by decide +kernel
theorem dX11_table_85 : decode cX11_table 85 = .ok (.aload_n 0, 1) := by decide +kernel
theorem dX11_table_86 : decode cX11_table 86 = .ok (.aload_n 0, 1) := by decide +kernel
theorem dX11_table_87 : decode cX11_table 87 = .ok (.getfield 39, 3) := by decide +kernel
theorem dX11_table_90 : decode cX11_table 90 = .ok (.getfield 152, 3) := by decide +kernel
theorem dX11_table_93 : decode cX11_table 93 = .ok (.getfield 179, 3) := by decide +kernel
theorem dX11_table_96 : decode cX11_table 96 = .ok (.invokevirtual 182, 3) := by decide +kernel
theorem dX11_table_99 : decode cX11_table 99 = .ok (.ireturn, 1) := by decide +kernel
theorem dX11_evenings_0 : decode cX11_evenings 0 = .ok (.iload_n 1, 1) := by decide +kernel
theorem dX11_evenings_1 : decode cX11_evenings 1 = .ok (.ifCond .lt 18, 3) := by decide +kernel
theorem dX11_evenings_4 : decode cX11_evenings 4 = .ok (.iload_n 1, 1) := by decide +kernel
theorem dX11_evenings_5 : decode cX11_evenings 5 = .ok (.aload_n 0, 1) := by decide +kernel
theorem dX11_evenings_6 : decode cX11_evenings 6 = .ok (.getfield 145, 3) := by decide +kernel
theorem dX11_evenings_9 : decode cX11_evenings 9 = .ok (.if_icmp .gt 10, 3) := by decide +kernel
theorem dX11_evenings_12 : decode cX11_evenings 12 = .ok (.iload_n 1, 1) := by decide +kernel
theorem dX11_evenings_13 : decode cX11_evenings 13 = .ok (.sipush 300, 3) := by decide +kernel
theorem dX11_evenings_16 : decode cX11_evenings 16 = .ok (.if_icmp .le 9, 3) := by decide +kernel
theorem dX11_evenings_19 : decode cX11_evenings 19 = .ok (.aload_n 0, 1) := by decide +kernel
theorem dX11_evenings_20 : decode cX11_evenings 20 = .ok (.iconst 5, 1) := by decide +kernel
theorem dX11_evenings_21 : decode cX11_evenings 21 = .ok (.invokevirtual 121, 3) := by decide +kernel
theorem dX11_evenings_24 : decode cX11_evenings 24 = .ok (.ireturn, 1) := by decide +kernel
theorem dX11_evenings_25 : decode cX11_evenings 25 = .ok (.aload_n 0, 1) := by decide +kernel
theorem dX11_evenings_26 : decode cX11_evenings 26 = .ok (.iconst 0, 1) := by decide +kernel
theorem dX11_evenings_27 : decode cX11_evenings 27 = .ok (.putfield 145, 3) := by decide +kernel
theorem dX11_evenings_30 : decode cX11_evenings 30 = .ok (.aload_n 0, 1) := by decide +kernel
theorem dX11_evenings_31 : decode cX11_evenings 31 = .ok (.getfield 32, 3) := by decide +kernel
theorem dX11_evenings_34 : decode cX11_evenings 34 = .ok (.iload_n 1, 1) := by decide +kernel
theorem dX11_evenings_35 : decode cX11_evenings 35 = .ok (.aload_n 0, 1) := by decide +kernel
theorem dX11_evenings_36 : decode cX11_evenings 36 = .ok (.getfield 39, 3) := by decide +kernel
theorem dX11_evenings_39 : decode cX11_evenings 39 = .ok (.getfield 152, 3) := by decide +kernel
theorem dX11_evenings_42 : decode cX11_evenings 42 = .ok (.aload_n 0, 1) := by decide +kernel
theorem dX11_evenings_43 : decode cX11_evenings 43 = .ok (.getfield 43, 3) := by decide +kernel
theorem dX11_evenings_46 : decode cX11_evenings 46 = .ok (.getfield 170, 3) := by decide +kernel
theorem dX11_evenings_49 : decode cX11_evenings 49 = .ok (.invokevirtual 185, 3) := by decide +kernel
theorem dX11_evenings_52 : decode cX11_evenings 52 = .ok (.istore_n 2, 1) := by decide +kernel
theorem dX11_evenings_53 : decode cX11_evenings 53 = .ok (.aload_n 0, 1) := by decide +kernel
theorem dX11_evenings_54 : decode cX11_evenings 54 = .ok (.aload_n 0, 1) := by decide +kernel
theorem dX11_evenings_55 : decode cX11_evenings 55 = .ok (.getfield 32, 3) := by decide +kernel
theorem dX11_evenings_58 : decode cX11_evenings 58 = .ok (.invokevirtual 160, 3) := by decide +kernel
theorem dX11_evenings_61 : decode cX11_evenings 61 = .ok (.iload_n 2, 1) := by decide +kernel
theorem dX11_evenings_62 : decode cX11_evenings 62 = .ok (.ifCond .ne 10, 3) := by decide +kernel
theorem dX11_evenings_65 : decode cX11_evenings 65 = .ok (.aload_n 0, 1) := by decide +kernel
theorem dX11_evenings_66 : decode cX11_evenings 66 = .ok (.bipush 10, 2) := by decide +kernel
theorem dX11_evenings_68 : decode cX11_evenings 68 = .ok (.invokevirtual 121, 3) := by decide +kernel
theorem dX11_evenings_71 : decode cX11_evenings 71 = .ok (.ireturn, 1) := by decide +kernel
theorem dX11_evenings_72 : decode cX11_evenings 72 = .ok (.aload_n 0, 1) := by decide +kernel
theorem dX11_evenings_73 : decode cX11_evenings 73 = .ok (.getfield 39, 3) := by decide +kernel
theorem dX11_evenings_76 : decode cX11_evenings 76 = .ok (.getfield 170, 3) := by decide +kernel
theorem dX11_evenings_79 : decode cX11_evenings 79 = .ok (.aload_n 0, 1) := by decide +kernel
theorem dX11_evenings_80 : decode cX11_evenings 80 = .ok (.getfield 43, 3) := by decide +kernel
theorem dX11_evenings_83 : decode cX11_evenings 83 = .ok (.getfield 170, 3) := by decide +kernel
theorem dX11_evenings_86 : decode cX11_evenings 86 = .ok (.invokevirtual 189, 3) := by decide +kernel
theorem dX11_evenings_89 : decode cX11_evenings 89 = .ok (.aload_n 0, 1) := by decide +kernel
theorem dX11_evenings_90 : decode cX11_evenings 90 = .ok (.aload_n 0, 1) := by decide +kernel
theorem dX11_evenings_91 : decode cX11_evenings 91 = .ok (.getfield 39, 3) := by decide +kernel
theorem dX11_evenings_94 : decode cX11_evenings 94 = .ok (.getfield 170, 3) := by decide +kernel
theorem dX11_evenings_97 : decode cX11_evenings 97 = .ok (.getfield 192, 3) := by decide +kernel
theorem dX11_evenings_100 : decode cX11_evenings 100 = .ok (.invokevirtual 182, 3) := by decide +kernel
theorem dX11_evenings_103 : decode cX11_evenings 103 = .ok (.ireturn, 1) := by decide +kernel
theorem dX11_fault_0 : decode cX11_fault 0 = .ok (.iload_n 1, 1) := by decide +kernel
theorem dX11_fault_1 : decode cX11_fault 1 = .ok (.ifCond .ne 8, 3) := by decide +kernel
theorem dX11_fault_4 : decode cX11_fault 4 = .ok (.aload_n 0, 1) := by decide +kernel
theorem dX11_fault_5 : decode cX11_fault 5 = .ok (.getfield 85, 3) := by decide +kernel
theorem dX11_fault_8 : decode cX11_fault 8 = .ok (.ireturn, 1) := by decide +kernel
theorem dX11_fault_9 : decode cX11_fault 9 = .ok (.iload_n 1, 1) := by decide +kernel
theorem dX11_fault_10 : decode cX11_fault 10 = .ok (.iconst 1, 1) := by decide +kernel
theorem dX11_fault_11 : decode cX11_fault 11 = .ok (.if_icmp .ne 10, 3) := by decide +kernel
theorem dX11_fault_14 : decode cX11_fault 14 = .ok (.aload_n 0, 1) := by decide +kernel
theorem dX11_fault_15 : decode cX11_fault 15 = .ok (.getfield 89, 3) := by decide +kernel
theorem dX11_fault_18 : decode cX11_fault 18 = .ok (.goto 4, 3) := by decide +kernel
theorem dX11_fault_21 : decode cX11_fault 21 = .ok (.iconst (-1), 1) := by decide +kernel
theorem dX11_fault_22 : decode cX11_fault 22 = .ok (.ireturn, 1) := by decide +kernel
theorem dX11_many_0 : decode cX11_many 0 = .ok (.aload_n 0, 1) := by decide +kernel
theorem dX11_many_1 : decode cX11_many 1 = .ok (.getfield 39, 3) := by decide +kernel
theorem dX11_many_4 : decode cX11_many 4 = .ok (.getfield 152, 3) := by decide +kernel
theorem dX11_many_7 : decode cX11_many 7 = .ok (.astore_n 2, 1) := by decide +kernel
theorem dX11_many_8 : decode cX11_many 8 = .ok (.iload_n 1, 1) := by decide +kernel
theorem dX11_many_9 : decode cX11_many 9 = .ok (.tableswitch 146 0 9 #[55, 64, 73, 82, 91, 100, 109, 118, 127, 136], 55) := by decide +kernel
theorem dX11_many_64 : decode cX11_many 64 = .ok (.aload_n 0, 1) := by decide +kernel
theorem dX11_many_65 : decode cX11_many 65 = .ok (.aload_n 2, 1) := by decide +kernel
theorem dX11_many_66 : decode cX11_many 66 = .ok (.getfield 195, 3) := by decide +kernel
theorem dX11_many_69 : decode cX11_many 69 = .ok (.invokevirtual 182, 3) := by decide +kernel
theorem dX11_many_72 : decode cX11_many 72 = .ok (.ireturn, 1) := by decide +kernel
theorem dX11_many_73 : decode cX11_many 73 = .ok (.aload_n 0, 1) := by decide +kernel
theorem dX11_many_74 : decode cX11_many 74 = .ok (.aload_n 2, 1) := by decide +kernel
theorem dX11_many_75 : decode cX11_many 75 = .ok (.getfield 198, 3) := by decide +kernel
theorem dX11_many_78 : decode cX11_many 78 = .ok (.invokevirtual 182, 3) := by decide +kernel
theorem dX11_many_81 : decode cX11_many 81 = .ok (.ireturn, 1) := by decide +kernel
theorem dX11_many_82 : decode cX11_many 82 = .ok (.aload_n 0, 1) := by decide +kernel
theorem dX11_many_83 : decode cX11_many 83 = .ok (.aload_n 2, 1) := by decide +kernel
theorem dX11_many_84 : decode cX11_many 84 = .ok (.getfield 179, 3) := by decide +kernel
theorem dX11_many_87 : decode cX11_many 87 = .ok (.invokevirtual 182, 3) := by decide +kernel
theorem dX11_many_90 : decode cX11_many 90 = .ok (.ireturn, 1) := by decide +kernel
theorem dX11_many_91 : decode cX11_many 91 = .ok (.aload_n 0, 1) := by decide +kernel
theorem dX11_many_92 : decode cX11_many 92 = .ok (.aload_n 2, 1) := by decide +kernel
theorem dX11_many_93 : decode cX11_many 93 = .ok (.getfield 201, 3) := by decide +kernel
theorem dX11_many_96 : decode cX11_many 96 = .ok (.invokevirtual 182, 3) := by decide +kernel
theorem dX11_many_99 : decode cX11_many 99 = .ok (.ireturn, 1) := by decide +kernel
theorem dX11_many_100 : decode cX11_many 100 = .ok (.aload_n 0, 1) := by decide +kernel
theorem dX11_many_101 : decode cX11_many 101 = .ok (.aload_n 2, 1) := by decide +kernel
theorem dX11_many_102 : decode cX11_many 102 = .ok (.getfield 203, 3) := by decide +kernel
theorem dX11_many_105 : decode cX11_many 105 = .ok (.invokevirtual 182, 3) := by decide +kernel
theorem dX11_many_108 : decode cX11_many 108 = .ok (.ireturn, 1) := by decide +kernel
theorem dX11_many_109 : decode cX11_many 109 = .ok (.aload_n 0, 1) := by decide +kernel
theorem dX11_many_110 : decode cX11_many 110 = .ok (.aload_n 2, 1) := by decide +kernel
theorem dX11_many_111 : decode cX11_many 111 = .ok (.getfield 206, 3) := by decide +kernel
theorem dX11_many_114 : decode cX11_many 114 = .ok (.invokevirtual 182, 3) := by decide +kernel
theorem dX11_many_117 : decode cX11_many 117 = .ok (.ireturn, 1) := by decide +kernel
theorem dX11_many_118 : decode cX11_many 118 = .ok (.aload_n 0, 1) := by decide +kernel
theorem dX11_many_119 : decode cX11_many 119 = .ok (.aload_n 2, 1) := by decide +kernel
theorem dX11_many_120 : decode cX11_many 120 = .ok (.invokevirtual 209, 3) := by decide +kernel
theorem dX11_many_123 : decode cX11_many 123 = .ok (.invokevirtual 182, 3) := by decide +kernel
theorem dX11_many_126 : decode cX11_many 126 = .ok (.ireturn, 1) := by decide +kernel
theorem dX11_many_127 : decode cX11_many 127 = .ok (.aload_n 0, 1) := by decide +kernel
theorem dX11_many_128 : decode cX11_many 128 = .ok (.aload_n 2, 1) := by decide +kernel
theorem dX11_many_129 : decode cX11_many 129 = .ok (.getfield 213, 3) := by decide +kernel
theorem dX11_many_132 : decode cX11_many 132 = .ok (.invokevirtual 182, 3) := by decide +kernel
theorem dX11_many_135 : decode cX11_many 135 = .ok (.ireturn, 1) := by decide +kernel
theorem dX11_many_136 : decode cX11_many 136 = .ok (.aload_n 0, 1) := by decide +kernel
theorem dX11_many_137 : decode cX11_many 137 = .ok (.aload_n 2, 1) := by decide +kernel
theorem dX11_many_138 : decode cX11_many 138 = .ok (.getfield 216, 3) := by decide +kernel
theorem dX11_many_141 : decode cX11_many 141 = .ok (.invokevirtual 182, 3) := by decide +kernel
theorem dX11_many_144 : decode cX11_many 144 = .ok (.ireturn, 1) := by decide +kernel
theorem dX11_many_145 : decode cX11_many 145 = .ok (.aload_n 0, 1) := by decide +kernel
theorem dX11_many_146 : decode cX11_many 146 = .ok (.aload_n 2, 1) := by decide +kernel
theorem dX11_many_147 : decode cX11_many 147 = .ok (.iconst 0, 1) := by decide +kernel
theorem dX11_many_148 : decode cX11_many 148 = .ok (.invokevirtual 219, 3) := by decide +kernel
theorem dX11_many_151 : decode cX11_many 151 = .ok (.invokevirtual 182, 3) := by decide +kernel
theorem dX11_many_154 : decode cX11_many 154 = .ok (.ireturn, 1) := by decide +kernel
theorem dX11_many_155 : decode cX11_many 155 = .ok (.aload_n 0, 1) := by decide +kernel
theorem dX11_many_156 : decode cX11_many 156 = .ok (.iconst 5, 1) := by decide +kernel
theorem dX11_many_157 : decode cX11_many 157 = .ok (.invokevirtual 121, 3) := by decide +kernel
theorem dX11_many_160 : decode cX11_many 160 = .ok (.ireturn, 1) := by decide +kernel
theorem dX11_topic_0 : decode cX11_topic 0 = .ok (.aload_n 0, 1) := by decide +kernel
theorem dX11_topic_1 : decode cX11_topic 1 = .ok (.getfield 39, 3) := by decide +kernel
theorem dX11_topic_4 : decode cX11_topic 4 = .ok (.getfield 152, 3) := by decide +kernel
theorem dX11_topic_7 : decode cX11_topic 7 = .ok (.astore_n 3, 1) := by decide +kernel
theorem dX11_topic_8 : decode cX11_topic 8 = .ok (.aload_n 3, 1) := by decide +kernel
theorem dX11_topic_9 : decode cX11_topic 9 = .ok (.iload_n 1, 1) := by decide +kernel
theorem dX11_topic_10 : decode cX11_topic 10 = .ok (.invokevirtual 222, 3) := by decide +kernel
theorem dX11_topic_13 : decode cX11_topic 13 = .ok (.ifCond .ne 9, 3) := by decide +kernel
theorem dX11_topic_16 : decode cX11_topic 16 = .ok (.aload_n 0, 1) := by decide +kernel
theorem dX11_topic_17 : decode cX11_topic 17 = .ok (.iconst 2, 1) := by decide +kernel
theorem dX11_topic_18 : decode cX11_topic 18 = .ok (.invokevirtual 121, 3) := by decide +kernel
theorem dX11_topic_21 : decode cX11_topic 21 = .ok (.ireturn, 1) := by decide +kernel
theorem dX11_topic_22 : decode cX11_topic 22 = .ok (.iload_n 2, 1) := by decide +kernel
theorem dX11_topic_23 : decode cX11_topic 23 = .ok (.tableswitch 73 0 3 #[29, 40, 51, 61], 29) := by decide +kernel
theorem dX11_topic_52 : decode cX11_topic 52 = .ok (.aload_n 0, 1) := by decide +kernel
theorem dX11_topic_53 : decode cX11_topic 53 = .ok (.aload_n 3, 1) := by decide +kernel
theorem dX11_topic_54 : decode cX11_topic 54 = .ok (.getfield 225, 3) := by decide +kernel
theorem dX11_topic_57 : decode cX11_topic 57 = .ok (.iload_n 1, 1) := by decide +kernel
theorem dX11_topic_58 : decode cX11_topic 58 = .ok (.iaload, 1) := by decide +kernel
theorem dX11_topic_59 : decode cX11_topic 59 = .ok (.invokevirtual 182, 3) := by decide +kernel
theorem dX11_topic_62 : decode cX11_topic 62 = .ok (.ireturn, 1) := by decide +kernel
theorem dX11_topic_63 : decode cX11_topic 63 = .ok (.aload_n 0, 1) := by decide +kernel
theorem dX11_topic_64 : decode cX11_topic 64 = .ok (.aload_n 3, 1) := by decide +kernel
theorem dX11_topic_65 : decode cX11_topic 65 = .ok (.getfield 229, 3) := by decide +kernel
theorem dX11_topic_68 : decode cX11_topic 68 = .ok (.iload_n 1, 1) := by decide +kernel
theorem dX11_topic_69 : decode cX11_topic 69 = .ok (.iaload, 1) := by decide +kernel
theorem dX11_topic_70 : decode cX11_topic 70 = .ok (.invokevirtual 182, 3) := by decide +kernel
theorem dX11_topic_73 : decode cX11_topic 73 = .ok (.ireturn, 1) := by decide +kernel
theorem dX11_topic_74 : decode cX11_topic 74 = .ok (.aload_n 0, 1) := by decide +kernel
theorem dX11_topic_75 : decode cX11_topic 75 = .ok (.aload_n 3, 1) := by decide +kernel
theorem dX11_topic_76 : decode cX11_topic 76 = .ok (.iload_n 1, 1) := by decide +kernel
theorem dX11_topic_77 : decode cX11_topic 77 = .ok (.invokevirtual 232, 3) := by decide +kernel
theorem dX11_topic_80 : decode cX11_topic 80 = .ok (.invokevirtual 182, 3) := by decide +kernel
theorem dX11_topic_83 : decode cX11_topic 83 = .ok (.ireturn, 1) := by decide +kernel
theorem dX11_topic_84 : decode cX11_topic 84 = .ok (.aload_n 0, 1) := by decide +kernel
theorem dX11_topic_85 : decode cX11_topic 85 = .ok (.aload_n 3, 1) := by decide +kernel
theorem dX11_topic_86 : decode cX11_topic 86 = .ok (.iload_n 1, 1) := by decide +kernel
theorem dX11_topic_87 : decode cX11_topic 87 = .ok (.iconst 1, 1) := by decide +kernel
theorem dX11_topic_88 : decode cX11_topic 88 = .ok (.iadd, 1) := by decide +kernel
theorem dX11_topic_89 : decode cX11_topic 89 = .ok (.invokevirtual 219, 3) := by decide +kernel
theorem dX11_topic_92 : decode cX11_topic 92 = .ok (.invokevirtual 182, 3) := by decide +kernel
theorem dX11_topic_95 : decode cX11_topic 95 = .ok (.ireturn, 1) := by decide +kernel
theorem dX11_topic_96 : decode cX11_topic 96 = .ok (.aload_n 0, 1) := by decide +kernel
theorem dX11_topic_97 : decode cX11_topic 97 = .ok (.iconst 5, 1) := by decide +kernel
theorem dX11_topic_98 : decode cX11_topic 98 = .ok (.invokevirtual 121, 3) := by decide +kernel
theorem dX11_topic_101 : decode cX11_topic 101 = .ok (.ireturn, 1) := by decide +kernel
theorem dX11_claim_0 : decode cX11_claim 0 = .ok (.aload_n 0, 1) := by decide +kernel
theorem dX11_claim_1 : decode cX11_claim 1 = .ok (.getfield 39, 3) := by decide +kernel
theorem dX11_claim_4 : decode cX11_claim 4 = .ok (.getfield 152, 3) := by decide +kernel
theorem dX11_claim_7 : decode cX11_claim 7 = .ok (.astore_n 3, 1) := by decide +kernel
theorem dX11_claim_8 : decode cX11_claim 8 = .ok (.aload_n 3, 1) := by decide +kernel
theorem dX11_claim_9 : decode cX11_claim 9 = .ok (.iload_n 1, 1) := by decide +kernel
theorem dX11_claim_10 : decode cX11_claim 10 = .ok (.invokevirtual 235, 3) := by decide +kernel
theorem dX11_claim_13 : decode cX11_claim 13 = .ok (.ifCond .ne 9, 3) := by decide +kernel
theorem dX11_claim_16 : decode cX11_claim 16 = .ok (.aload_n 0, 1) := by decide +kernel
theorem dX11_claim_17 : decode cX11_claim 17 = .ok (.iconst 2, 1) := by decide +kernel
theorem dX11_claim_18 : decode cX11_claim 18 = .ok (.invokevirtual 121, 3) := by decide +kernel
theorem dX11_claim_21 : decode cX11_claim 21 = .ok (.ireturn, 1) := by decide +kernel
theorem dX11_claim_22 : decode cX11_claim 22 = .ok (.iload_n 2, 1) := by decide +kernel
theorem dX11_claim_23 : decode cX11_claim 23 = .ok (.tableswitch 77 0 3 #[29, 40, 51, 64], 29) := by decide +kernel
theorem dX11_claim_52 : decode cX11_claim 52 = .ok (.aload_n 0, 1) := by decide +kernel
theorem dX11_claim_53 : decode cX11_claim 53 = .ok (.aload_n 3, 1) := by decide +kernel
theorem dX11_claim_54 : decode cX11_claim 54 = .ok (.getfield 238, 3) := by decide +kernel
theorem dX11_claim_57 : decode cX11_claim 57 = .ok (.iload_n 1, 1) := by decide +kernel
theorem dX11_claim_58 : decode cX11_claim 58 = .ok (.iaload, 1) := by decide +kernel
theorem dX11_claim_59 : decode cX11_claim 59 = .ok (.invokevirtual 182, 3) := by decide +kernel
theorem dX11_claim_62 : decode cX11_claim 62 = .ok (.ireturn, 1) := by decide +kernel
theorem dX11_claim_63 : decode cX11_claim 63 = .ok (.aload_n 0, 1) := by decide +kernel
theorem dX11_claim_64 : decode cX11_claim 64 = .ok (.aload_n 3, 1) := by decide +kernel
theorem dX11_claim_65 : decode cX11_claim 65 = .ok (.getfield 241, 3) := by decide +kernel
theorem dX11_claim_68 : decode cX11_claim 68 = .ok (.iload_n 1, 1) := by decide +kernel
theorem dX11_claim_69 : decode cX11_claim 69 = .ok (.iaload, 1) := by decide +kernel
theorem dX11_claim_70 : decode cX11_claim 70 = .ok (.invokevirtual 182, 3) := by decide +kernel
theorem dX11_claim_73 : decode cX11_claim 73 = .ok (.ireturn, 1) := by decide +kernel
theorem dX11_claim_74 : decode cX11_claim 74 = .ok (.aload_n 0, 1) := by decide +kernel
theorem dX11_claim_75 : decode cX11_claim 75 = .ok (.aload_n 3, 1) := by decide +kernel
theorem dX11_claim_76 : decode cX11_claim 76 = .ok (.getfield 213, 3) := by decide +kernel
theorem dX11_claim_79 : decode cX11_claim 79 = .ok (.iload_n 1, 1) := by decide +kernel
theorem dX11_claim_80 : decode cX11_claim 80 = .ok (.ishr, 1) := by decide +kernel
theorem dX11_claim_81 : decode cX11_claim 81 = .ok (.iconst 1, 1) := by decide +kernel
theorem dX11_claim_82 : decode cX11_claim 82 = .ok (.iand, 1) := by decide +kernel
theorem dX11_claim_83 : decode cX11_claim 83 = .ok (.invokevirtual 182, 3) := by decide +kernel
theorem dX11_claim_86 : decode cX11_claim 86 = .ok (.ireturn, 1) := by decide +kernel
theorem dX11_claim_87 : decode cX11_claim 87 = .ok (.aload_n 0, 1) := by decide +kernel
theorem dX11_claim_88 : decode cX11_claim 88 = .ok (.aload_n 3, 1) := by decide +kernel
theorem dX11_claim_89 : decode cX11_claim 89 = .ok (.invokevirtual 209, 3) := by decide +kernel
theorem dX11_claim_92 : decode cX11_claim 92 = .ok (.iload_n 1, 1) := by decide +kernel
theorem dX11_claim_93 : decode cX11_claim 93 = .ok (.ishr, 1) := by decide +kernel
theorem dX11_claim_94 : decode cX11_claim 94 = .ok (.iconst 1, 1) := by decide +kernel
theorem dX11_claim_95 : decode cX11_claim 95 = .ok (.iand, 1) := by decide +kernel
theorem dX11_claim_96 : decode cX11_claim 96 = .ok (.invokevirtual 182, 3) := by decide +kernel
theorem dX11_claim_99 : decode cX11_claim 99 = .ok (.ireturn, 1) := by decide +kernel
theorem dX11_claim_100 : decode cX11_claim 100 = .ok (.aload_n 0, 1) := by decide +kernel
theorem dX11_claim_101 : decode cX11_claim 101 = .ok (.iconst 5, 1) := by decide +kernel
theorem dX11_claim_102 : decode cX11_claim 102 = .ok (.invokevirtual 121, 3) := by decide +kernel
theorem dX11_claim_105 : decode cX11_claim 105 = .ok (.ireturn, 1) := by decide +kernel
theorem dX11_talker_0 : decode cX11_talker 0 = .ok (.aload_n 0, 1) := by decide +kernel
theorem dX11_talker_1 : decode cX11_talker 1 = .ok (.getfield 39, 3) := by decide +kernel
theorem dX11_talker_4 : decode cX11_talker 4 = .ok (.getfield 152, 3) := by decide +kernel
theorem dX11_talker_7 : decode cX11_talker 7 = .ok (.astore_n 3, 1) := by decide +kernel
theorem dX11_talker_8 : decode cX11_talker 8 = .ok (.aload_n 3, 1) := by decide +kernel
theorem dX11_talker_9 : decode cX11_talker 9 = .ok (.iload_n 1, 1) := by decide +kernel
theorem dX11_talker_10 : decode cX11_talker 10 = .ok (.invokevirtual 244, 3) := by decide +kernel
theorem dX11_talker_13 : decode cX11_talker 13 = .ok (.ifCond .ne 9, 3) := by decide +kernel
theorem dX11_talker_16 : decode cX11_talker 16 = .ok (.aload_n 0, 1) := by decide +kernel
theorem dX11_talker_17 : decode cX11_talker 17 = .ok (.iconst 2, 1) := by decide +kernel
theorem dX11_talker_18 : decode cX11_talker 18 = .ok (.invokevirtual 121, 3) := by decide +kernel
theorem dX11_talker_21 : decode cX11_talker 21 = .ok (.ireturn, 1) := by decide +kernel
theorem dX11_talker_22 : decode cX11_talker 22 = .ok (.iload_n 2, 1) := by decide +kernel
theorem dX11_talker_23 : decode cX11_talker 23 = .ok (.tableswitch 89 0 4 #[33, 44, 55, 68, 79], 33) := by decide +kernel
theorem dX11_talker_56 : decode cX11_talker 56 = .ok (.aload_n 0, 1) := by decide +kernel
theorem dX11_talker_57 : decode cX11_talker 57 = .ok (.aload_n 3, 1) := by decide +kernel
theorem dX11_talker_58 : decode cX11_talker 58 = .ok (.getfield 247, 3) := by decide +kernel
theorem dX11_talker_61 : decode cX11_talker 61 = .ok (.iload_n 1, 1) := by decide +kernel
theorem dX11_talker_62 : decode cX11_talker 62 = .ok (.iaload, 1) := by decide +kernel
theorem dX11_talker_63 : decode cX11_talker 63 = .ok (.invokevirtual 182, 3) := by decide +kernel
theorem dX11_talker_66 : decode cX11_talker 66 = .ok (.ireturn, 1) := by decide +kernel
theorem dX11_talker_67 : decode cX11_talker 67 = .ok (.aload_n 0, 1) := by decide +kernel
theorem dX11_talker_68 : decode cX11_talker 68 = .ok (.aload_n 3, 1) := by decide +kernel
theorem dX11_talker_69 : decode cX11_talker 69 = .ok (.getfield 250, 3) := by decide +kernel
theorem dX11_talker_72 : decode cX11_talker 72 = .ok (.iload_n 1, 1) := by decide +kernel
theorem dX11_talker_73 : decode cX11_talker 73 = .ok (.iaload, 1) := by decide +kernel
theorem dX11_talker_74 : decode cX11_talker 74 = .ok (.invokevirtual 182, 3) := by decide +kernel
theorem dX11_talker_77 : decode cX11_talker 77 = .ok (.ireturn, 1) := by decide +kernel
theorem dX11_talker_78 : decode cX11_talker 78 = .ok (.aload_n 0, 1) := by decide +kernel
theorem dX11_talker_79 : decode cX11_talker 79 = .ok (.aload_n 3, 1) := by decide +kernel
theorem dX11_talker_80 : decode cX11_talker 80 = .ok (.getfield 216, 3) := by decide +kernel
theorem dX11_talker_83 : decode cX11_talker 83 = .ok (.iload_n 1, 1) := by decide +kernel
theorem dX11_talker_84 : decode cX11_talker 84 = .ok (.ishr, 1) := by decide +kernel
theorem dX11_talker_85 : decode cX11_talker 85 = .ok (.iconst 1, 1) := by decide +kernel
theorem dX11_talker_86 : decode cX11_talker 86 = .ok (.iand, 1) := by decide +kernel
theorem dX11_talker_87 : decode cX11_talker 87 = .ok (.invokevirtual 182, 3) := by decide +kernel
theorem dX11_talker_90 : decode cX11_talker 90 = .ok (.ireturn, 1) := by decide +kernel
theorem dX11_talker_91 : decode cX11_talker 91 = .ok (.aload_n 0, 1) := by decide +kernel
theorem dX11_talker_92 : decode cX11_talker 92 = .ok (.aload_n 3, 1) := by decide +kernel
theorem dX11_talker_93 : decode cX11_talker 93 = .ok (.getfield 253, 3) := by decide +kernel
theorem dX11_talker_96 : decode cX11_talker 96 = .ok (.iload_n 1, 1) := by decide +kernel
theorem dX11_talker_97 : decode cX11_talker 97 = .ok (.iaload, 1) := by decide +kernel
theorem dX11_talker_98 : decode cX11_talker 98 = .ok (.invokevirtual 182, 3) := by decide +kernel
theorem dX11_talker_101 : decode cX11_talker 101 = .ok (.ireturn, 1) := by decide +kernel
theorem dX11_talker_102 : decode cX11_talker 102 = .ok (.aload_n 0, 1) := by decide +kernel
theorem dX11_talker_103 : decode cX11_talker 103 = .ok (.aload_n 3, 1) := by decide +kernel
theorem dX11_talker_104 : decode cX11_talker 104 = .ok (.iload_n 1, 1) := by decide +kernel
theorem dX11_talker_105 : decode cX11_talker 105 = .ok (.invokevirtual 256, 3) := by decide +kernel
theorem dX11_talker_108 : decode cX11_talker 108 = .ok (.invokevirtual 182, 3) := by decide +kernel
theorem dX11_talker_111 : decode cX11_talker 111 = .ok (.ireturn, 1) := by decide +kernel
theorem dX11_talker_112 : decode cX11_talker 112 = .ok (.aload_n 0, 1) := by decide +kernel
theorem dX11_talker_113 : decode cX11_talker 113 = .ok (.iconst 5, 1) := by decide +kernel
theorem dX11_talker_114 : decode cX11_talker 114 = .ok (.invokevirtual 121, 3) := by decide +kernel
theorem dX11_talker_117 : decode cX11_talker 117 = .ok (.ireturn, 1) := by decide +kernel
theorem dX11_feud_0 : decode cX11_feud 0 = .ok (.aload_n 0, 1) := by decide +kernel
theorem dX11_feud_1 : decode cX11_feud 1 = .ok (.getfield 39, 3) := by decide +kernel
theorem dX11_feud_4 : decode cX11_feud 4 = .ok (.getfield 152, 3) := by decide +kernel
theorem dX11_feud_7 : decode cX11_feud 7 = .ok (.astore_n 3, 1) := by decide +kernel
theorem dX11_feud_8 : decode cX11_feud 8 = .ok (.iload_n 1, 1) := by decide +kernel
theorem dX11_feud_9 : decode cX11_feud 9 = .ok (.ifCond .lt 11, 3) := by decide +kernel
theorem dX11_feud_12 : decode cX11_feud 12 = .ok (.iload_n 1, 1) := by decide +kernel
theorem dX11_feud_13 : decode cX11_feud 13 = .ok (.aload_n 3, 1) := by decide +kernel
theorem dX11_feud_14 : decode cX11_feud 14 = .ok (.getfield 201, 3) := by decide +kernel
theorem dX11_feud_17 : decode cX11_feud 17 = .ok (.if_icmp .lt 9, 3) := by decide +kernel
theorem dX11_feud_20 : decode cX11_feud 20 = .ok (.aload_n 0, 1) := by decide +kernel
theorem dX11_feud_21 : decode cX11_feud 21 = .ok (.iconst 2, 1) := by decide +kernel
theorem dX11_feud_22 : decode cX11_feud 22 = .ok (.invokevirtual 121, 3) := by decide +kernel
theorem dX11_feud_25 : decode cX11_feud 25 = .ok (.ireturn, 1) := by decide +kernel
theorem dX11_feud_26 : decode cX11_feud 26 = .ok (.iload_n 2, 1) := by decide +kernel
theorem dX11_feud_27 : decode cX11_feud 27 = .ok (.lookupswitch 47 #[(0, 25), (1, 36)], 25) := by decide +kernel
theorem dX11_feud_52 : decode cX11_feud 52 = .ok (.aload_n 0, 1) := by decide +kernel
theorem dX11_feud_53 : decode cX11_feud 53 = .ok (.aload_n 3, 1) := by decide +kernel
theorem dX11_feud_54 : decode cX11_feud 54 = .ok (.getfield 259, 3) := by decide +kernel
theorem dX11_feud_57 : decode cX11_feud 57 = .ok (.iload_n 1, 1) := by decide +kernel
theorem dX11_feud_58 : decode cX11_feud 58 = .ok (.iaload, 1) := by decide +kernel
theorem dX11_feud_59 : decode cX11_feud 59 = .ok (.invokevirtual 182, 3) := by decide +kernel
theorem dX11_feud_62 : decode cX11_feud 62 = .ok (.ireturn, 1) := by decide +kernel
theorem dX11_feud_63 : decode cX11_feud 63 = .ok (.aload_n 0, 1) := by decide +kernel
theorem dX11_feud_64 : decode cX11_feud 64 = .ok (.aload_n 3, 1) := by decide +kernel
theorem dX11_feud_65 : decode cX11_feud 65 = .ok (.getfield 262, 3) := by decide +kernel
theorem dX11_feud_68 : decode cX11_feud 68 = .ok (.iload_n 1, 1) := by decide +kernel
theorem dX11_feud_69 : decode cX11_feud 69 = .ok (.iaload, 1) := by decide +kernel
theorem dX11_feud_70 : decode cX11_feud 70 = .ok (.invokevirtual 182, 3) := by decide +kernel
theorem dX11_feud_73 : decode cX11_feud 73 = .ok (.ireturn, 1) := by decide +kernel
theorem dX11_feud_74 : decode cX11_feud 74 = .ok (.aload_n 0, 1) := by decide +kernel
theorem dX11_feud_75 : decode cX11_feud 75 = .ok (.iconst 5, 1) := by decide +kernel
theorem dX11_feud_76 : decode cX11_feud 76 = .ok (.invokevirtual 121, 3) := by decide +kernel
theorem dX11_feud_79 : decode cX11_feud 79 = .ok (.ireturn, 1) := by decide +kernel
theorem dX11_copyHeights_0 : decode cX11_copyHeights 0 = .ok (.iload_n 1, 1) := by decide +kernel
theorem dX11_copyHeights_1 : decode cX11_copyHeights 1 = .ok (.invokestatic 98, 3) := by decide +kernel
theorem dX11_copyHeights_4 : decode cX11_copyHeights 4 = .ok (.ifCond .ne 9, 3) := by decide +kernel
theorem dX11_copyHeights_7 : decode cX11_copyHeights 7 = .ok (.aload_n 0, 1) := by decide +kernel
theorem dX11_copyHeights_8 : decode cX11_copyHeights 8 = .ok (.iconst 1, 1) := by decide +kernel
theorem dX11_copyHeights_9 : decode cX11_copyHeights 9 = .ok (.invokevirtual 121, 3) := by decide +kernel
theorem dX11_copyHeights_12 : decode cX11_copyHeights 12 = .ok (.ireturn, 1) := by decide +kernel
theorem dX11_copyHeights_13 : decode cX11_copyHeights 13 = .ok (.aload_n 0, 1) := by decide +kernel
theorem dX11_copyHeights_14 : decode cX11_copyHeights 14 = .ok (.getfield 11, 3) := by decide +kernel
theorem dX11_copyHeights_17 : decode cX11_copyHeights 17 = .ok (.iload_n 1, 1) := by decide +kernel
theorem dX11_copyHeights_18 : decode cX11_copyHeights 18 = .ok (.aaload, 1) := by decide +kernel
theorem dX11_copyHeights_19 : decode cX11_copyHeights 19 = .ok (.astore_n 2, 1) := by decide +kernel
theorem dX11_copyHeights_20 : decode cX11_copyHeights 20 = .ok (.aload_n 2, 1) := by decide +kernel
theorem dX11_copyHeights_21 : decode cX11_copyHeights 21 = .ok (.invokevirtual 129, 3) := by decide +kernel
theorem dX11_copyHeights_24 : decode cX11_copyHeights 24 = .ok (.ifCond .eq 9, 3) := by decide +kernel
theorem dX11_copyHeights_27 : decode cX11_copyHeights 27 = .ok (.aload_n 0, 1) := by decide +kernel
theorem dX11_copyHeights_28 : decode cX11_copyHeights 28 = .ok (.iconst 3, 1) := by decide +kernel
theorem dX11_copyHeights_29 : decode cX11_copyHeights 29 = .ok (.invokevirtual 121, 3) := by decide +kernel
theorem dX11_copyHeights_32 : decode cX11_copyHeights 32 = .ok (.ireturn, 1) := by decide +kernel
theorem dX11_copyHeights_33 : decode cX11_copyHeights 33 = .ok (.aload_n 0, 1) := by decide +kernel
theorem dX11_copyHeights_34 : decode cX11_copyHeights 34 = .ok (.getfield 39, 3) := by decide +kernel
theorem dX11_copyHeights_37 : decode cX11_copyHeights 37 = .ok (.getfield 152, 3) := by decide +kernel
theorem dX11_copyHeights_40 : decode cX11_copyHeights 40 = .ok (.getfield 179, 3) := by decide +kernel
theorem dX11_copyHeights_43 : decode cX11_copyHeights 43 = .ok (.istore_n 3, 1) := by decide +kernel
theorem dX11_copyHeights_44 : decode cX11_copyHeights 44 = .ok (.iload_n 3, 1) := by decide +kernel
theorem dX11_copyHeights_45 : decode cX11_copyHeights 45 = .ok (.aload_n 2, 1) := by decide +kernel
theorem dX11_copyHeights_46 : decode cX11_copyHeights 46 = .ok (.getfield 265, 3) := by decide +kernel
theorem dX11_copyHeights_49 : decode cX11_copyHeights 49 = .ok (.if_icmp .le 9, 3) := by decide +kernel
theorem dX11_copyHeights_52 : decode cX11_copyHeights 52 = .ok (.aload_n 0, 1) := by decide +kernel
theorem dX11_copyHeights_53 : decode cX11_copyHeights 53 = .ok (.iconst 4, 1) := by decide +kernel
theorem dX11_copyHeights_54 : decode cX11_copyHeights 54 = .ok (.invokevirtual 121, 3) := by decide +kernel
theorem dX11_copyHeights_57 : decode cX11_copyHeights 57 = .ok (.ireturn, 1) := by decide +kernel
theorem dX11_copyHeights_58 : decode cX11_copyHeights 58 = .ok (.iconst 0, 1) := by decide +kernel
theorem dX11_copyHeights_59 : decode cX11_copyHeights 59 = .ok (.istore 4, 2) := by decide +kernel
theorem dX11_copyHeights_61 : decode cX11_copyHeights 61 = .ok (.iload 4, 2) := by decide +kernel
theorem dX11_copyHeights_63 : decode cX11_copyHeights 63 = .ok (.iload_n 3, 1) := by decide +kernel
theorem dX11_copyHeights_64 : decode cX11_copyHeights 64 = .ok (.if_icmp .ge 29, 3) := by decide +kernel
theorem dX11_copyHeights_67 : decode cX11_copyHeights 67 = .ok (.aload_n 2, 1) := by decide +kernel
theorem dX11_copyHeights_68 : decode cX11_copyHeights 68 = .ok (.iload 4, 2) := by decide +kernel
theorem dX11_copyHeights_70 : decode cX11_copyHeights 70 = .ok (.aload_n 0, 1) := by decide +kernel
theorem dX11_copyHeights_71 : decode cX11_copyHeights 71 = .ok (.getfield 39, 3) := by decide +kernel
theorem dX11_copyHeights_74 : decode cX11_copyHeights 74 = .ok (.getfield 152, 3) := by decide +kernel
theorem dX11_copyHeights_77 : decode cX11_copyHeights 77 = .ok (.getfield 250, 3) := by decide +kernel
theorem dX11_copyHeights_80 : decode cX11_copyHeights 80 = .ok (.iload 4, 2) := by decide +kernel
theorem dX11_copyHeights_82 : decode cX11_copyHeights 82 = .ok (.iaload, 1) := by decide +kernel
theorem dX11_copyHeights_83 : decode cX11_copyHeights 83 = .ok (.i2l, 1) := by decide +kernel
theorem dX11_copyHeights_84 : decode cX11_copyHeights 84 = .ok (.invokevirtual 117, 3) := by decide +kernel
theorem dX11_copyHeights_87 : decode cX11_copyHeights 87 = .ok (.iinc 4 1, 3) := by decide +kernel
theorem dX11_copyHeights_90 : decode cX11_copyHeights 90 = .ok (.goto (-29), 3) := by decide +kernel
theorem dX11_copyHeights_93 : decode cX11_copyHeights 93 = .ok (.aload_n 0, 1) := by decide +kernel
theorem dX11_copyHeights_94 : decode cX11_copyHeights 94 = .ok (.iload_n 3, 1) := by decide +kernel
theorem dX11_copyHeights_95 : decode cX11_copyHeights 95 = .ok (.invokevirtual 182, 3) := by decide +kernel
theorem dX11_copyHeights_98 : decode cX11_copyHeights 98 = .ok (.ireturn, 1) := by decide +kernel
theorem dX11_say_0 : decode cX11_say 0 = .ok (.aload_n 0, 1) := by decide +kernel
theorem dX11_say_1 : decode cX11_say 1 = .ok (.getfield 39, 3) := by decide +kernel
theorem dX11_say_4 : decode cX11_say 4 = .ok (.getfield 152, 3) := by decide +kernel
theorem dX11_say_7 : decode cX11_say 7 = .ok (.astore_n 3, 1) := by decide +kernel
theorem dX11_say_8 : decode cX11_say 8 = .ok (.aload_n 3, 1) := by decide +kernel
theorem dX11_say_9 : decode cX11_say 9 = .ok (.iload_n 1, 1) := by decide +kernel
theorem dX11_say_10 : decode cX11_say 10 = .ok (.invokevirtual 244, 3) := by decide +kernel
theorem dX11_say_13 : decode cX11_say 13 = .ok (.ifCond .eq 11, 3) := by decide +kernel
theorem dX11_say_16 : decode cX11_say 16 = .ok (.aload_n 3, 1) := by decide +kernel
theorem dX11_say_17 : decode cX11_say 17 = .ok (.iload_n 2, 1) := by decide +kernel
theorem dX11_say_18 : decode cX11_say 18 = .ok (.invokevirtual 235, 3) := by decide +kernel
theorem dX11_say_21 : decode cX11_say 21 = .ok (.ifCond .ne 9, 3) := by decide +kernel
theorem dX11_say_24 : decode cX11_say 24 = .ok (.aload_n 0, 1) := by decide +kernel
theorem dX11_say_25 : decode cX11_say 25 = .ok (.iconst 2, 1) := by decide +kernel
theorem dX11_say_26 : decode cX11_say 26 = .ok (.invokevirtual 121, 3) := by decide +kernel
theorem dX11_say_29 : decode cX11_say 29 = .ok (.ireturn, 1) := by decide +kernel
theorem dX11_say_30 : decode cX11_say 30 = .ok (.aload_n 3, 1) := by decide +kernel
theorem dX11_say_31 : decode cX11_say 31 = .ok (.iload_n 1, 1) := by decide +kernel
theorem dX11_say_32 : decode cX11_say 32 = .ok (.invokevirtual 256, 3) := by decide +kernel
theorem dX11_say_35 : decode cX11_say 35 = .ok (.iload_n 2, 1) := by decide +kernel
theorem dX11_say_36 : decode cX11_say 36 = .ok (.ishr, 1) := by decide +kernel
theorem dX11_say_37 : decode cX11_say 37 = .ok (.iconst 1, 1) := by decide +kernel
theorem dX11_say_38 : decode cX11_say 38 = .ok (.iand, 1) := by decide +kernel
theorem dX11_say_39 : decode cX11_say 39 = .ok (.ifCond .ne 10, 3) := by decide +kernel
theorem dX11_say_42 : decode cX11_say 42 = .ok (.aload_n 0, 1) := by decide +kernel
theorem dX11_say_43 : decode cX11_say 43 = .ok (.bipush 9, 2) := by decide +kernel
theorem dX11_say_45 : decode cX11_say 45 = .ok (.invokevirtual 121, 3) := by decide +kernel
theorem dX11_say_48 : decode cX11_say 48 = .ok (.ireturn, 1) := by decide +kernel
theorem dX11_say_49 : decode cX11_say 49 = .ok (.aload_n 3, 1) := by decide +kernel
theorem dX11_say_50 : decode cX11_say 50 = .ok (.iload_n 1, 1) := by decide +kernel
theorem dX11_say_51 : decode cX11_say 51 = .ok (.iload_n 2, 1) := by decide +kernel
theorem dX11_say_52 : decode cX11_say 52 = .ok (.invokevirtual 268, 3) := by decide +kernel
theorem dX11_say_55 : decode cX11_say 55 = .ok (.aload_n 0, 1) := by decide +kernel
theorem dX11_say_56 : decode cX11_say 56 = .ok (.aload_n 3, 1) := by decide +kernel
theorem dX11_say_57 : decode cX11_say 57 = .ok (.getfield 250, 3) := by decide +kernel
theorem dX11_say_60 : decode cX11_say 60 = .ok (.iload_n 1, 1) := by decide +kernel
theorem dX11_say_61 : decode cX11_say 61 = .ok (.iaload, 1) := by decide +kernel
theorem dX11_say_62 : decode cX11_say 62 = .ok (.invokevirtual 182, 3) := by decide +kernel
theorem dX11_say_65 : decode cX11_say 65 = .ok (.ireturn, 1) := by decide +kernel
theorem dX11_drop_0 : decode cX11_drop 0 = .ok (.aload_n 0, 1) := by decide +kernel
theorem dX11_drop_1 : decode cX11_drop 1 = .ok (.getfield 39, 3) := by decide +kernel
theorem dX11_drop_4 : decode cX11_drop 4 = .ok (.getfield 152, 3) := by decide +kernel
theorem dX11_drop_7 : decode cX11_drop 7 = .ok (.astore_n 3, 1) := by decide +kernel
theorem dX11_drop_8 : decode cX11_drop 8 = .ok (.aload_n 3, 1) := by decide +kernel
theorem dX11_drop_9 : decode cX11_drop 9 = .ok (.iload_n 1, 1) := by decide +kernel
theorem dX11_drop_10 : decode cX11_drop 10 = .ok (.invokevirtual 244, 3) := by decide +kernel
theorem dX11_drop_13 : decode cX11_drop 13 = .ok (.ifCond .ne 9, 3) := by decide +kernel
theorem dX11_drop_16 : decode cX11_drop 16 = .ok (.aload_n 0, 1) := by decide +kernel
theorem dX11_drop_17 : decode cX11_drop 17 = .ok (.iconst 2, 1) := by decide +kernel
theorem dX11_drop_18 : decode cX11_drop 18 = .ok (.invokevirtual 121, 3) := by decide +kernel
theorem dX11_drop_21 : decode cX11_drop 21 = .ok (.ireturn, 1) := by decide +kernel
theorem dX11_drop_22 : decode cX11_drop 22 = .ok (.iload_n 2, 1) := by decide +kernel
theorem dX11_drop_23 : decode cX11_drop 23 = .ok (.iconst 1, 1) := by decide +kernel
theorem dX11_drop_24 : decode cX11_drop 24 = .ok (.if_icmp .lt 9, 3) := by decide +kernel
theorem dX11_drop_27 : decode cX11_drop 27 = .ok (.iload_n 2, 1) := by decide +kernel
theorem dX11_drop_28 : decode cX11_drop 28 = .ok (.bipush 9, 2) := by decide +kernel
theorem dX11_drop_30 : decode cX11_drop 30 = .ok (.if_icmp .le 9, 3) := by decide +kernel
theorem dX11_drop_33 : decode cX11_drop 33 = .ok (.aload_n 0, 1) := by decide +kernel
theorem dX11_drop_34 : decode cX11_drop 34 = .ok (.iconst 5, 1) := by decide +kernel
theorem dX11_drop_35 : decode cX11_drop 35 = .ok (.invokevirtual 121, 3) := by decide +kernel
theorem dX11_drop_38 : decode cX11_drop 38 = .ok (.ireturn, 1) := by decide +kernel
theorem dX11_drop_39 : decode cX11_drop 39 = .ok (.aload_n 3, 1) := by decide +kernel
theorem dX11_drop_40 : decode cX11_drop 40 = .ok (.iload_n 1, 1) := by decide +kernel
theorem dX11_drop_41 : decode cX11_drop 41 = .ok (.invokevirtual 271, 3) := by decide +kernel
theorem dX11_drop_44 : decode cX11_drop 44 = .ok (.ifCond .ne 10, 3) := by decide +kernel
theorem dX11_drop_47 : decode cX11_drop 47 = .ok (.aload_n 0, 1) := by decide +kernel
theorem dX11_drop_48 : decode cX11_drop 48 = .ok (.bipush 9, 2) := by decide +kernel
theorem dX11_drop_50 : decode cX11_drop 50 = .ok (.invokevirtual 121, 3) := by decide +kernel
theorem dX11_drop_53 : decode cX11_drop 53 = .ok (.ireturn, 1) := by decide +kernel
theorem dX11_drop_54 : decode cX11_drop 54 = .ok (.aload_n 3, 1) := by decide +kernel
theorem dX11_drop_55 : decode cX11_drop 55 = .ok (.iload_n 1, 1) := by decide +kernel
theorem dX11_drop_56 : decode cX11_drop 56 = .ok (.iload_n 2, 1) := by decide +kernel
theorem dX11_drop_57 : decode cX11_drop 57 = .ok (.invokevirtual 274, 3) := by decide +kernel
theorem dX11_drop_60 : decode cX11_drop 60 = .ok (.aload_n 0, 1) := by decide +kernel
theorem dX11_drop_61 : decode cX11_drop 61 = .ok (.aload_n 3, 1) := by decide +kernel
theorem dX11_drop_62 : decode cX11_drop 62 = .ok (.getfield 250, 3) := by decide +kernel
theorem dX11_drop_65 : decode cX11_drop 65 = .ok (.iload_n 1, 1) := by decide +kernel
theorem dX11_drop_66 : decode cX11_drop 66 = .ok (.iaload, 1) := by decide +kernel
theorem dX11_drop_67 : decode cX11_drop 67 = .ok (.invokevirtual 182, 3) := by decide +kernel
theorem dX11_drop_70 : decode cX11_drop 70 = .ok (.ireturn, 1) := by decide +kernel
theorem dX11_pull_0 : decode cX11_pull 0 = .ok (.aload_n 0, 1) := by decide +kernel
theorem dX11_pull_1 : decode cX11_pull 1 = .ok (.getfield 39, 3) := by decide +kernel
theorem dX11_pull_4 : decode cX11_pull 4 = .ok (.getfield 152, 3) := by decide +kernel
theorem dX11_pull_7 : decode cX11_pull 7 = .ok (.astore_n 3, 1) := by decide +kernel
theorem dX11_pull_8 : decode cX11_pull 8 = .ok (.aload_n 3, 1) := by decide +kernel
theorem dX11_pull_9 : decode cX11_pull 9 = .ok (.iload_n 1, 1) := by decide +kernel
theorem dX11_pull_10 : decode cX11_pull 10 = .ok (.invokevirtual 244, 3) := by decide +kernel
theorem dX11_pull_13 : decode cX11_pull 13 = .ok (.ifCond .ne 9, 3) := by decide +kernel
theorem dX11_pull_16 : decode cX11_pull 16 = .ok (.aload_n 0, 1) := by decide +kernel
theorem dX11_pull_17 : decode cX11_pull 17 = .ok (.iconst 2, 1) := by decide +kernel
theorem dX11_pull_18 : decode cX11_pull 18 = .ok (.invokevirtual 121, 3) := by decide +kernel
theorem dX11_pull_21 : decode cX11_pull 21 = .ok (.ireturn, 1) := by decide +kernel
theorem dX11_pull_22 : decode cX11_pull 22 = .ok (.aload_n 3, 1) := by decide +kernel
theorem dX11_pull_23 : decode cX11_pull 23 = .ok (.iload_n 1, 1) := by decide +kernel
theorem dX11_pull_24 : decode cX11_pull 24 = .ok (.invokevirtual 271, 3) := by decide +kernel
theorem dX11_pull_27 : decode cX11_pull 27 = .ok (.ifCond .ne 10, 3) := by decide +kernel
theorem dX11_pull_30 : decode cX11_pull 30 = .ok (.aload_n 0, 1) := by decide +kernel
theorem dX11_pull_31 : decode cX11_pull 31 = .ok (.bipush 9, 2) := by decide +kernel
theorem dX11_pull_33 : decode cX11_pull 33 = .ok (.invokevirtual 121, 3) := by decide +kernel
theorem dX11_pull_36 : decode cX11_pull 36 = .ok (.ireturn, 1) := by decide +kernel
theorem dX11_pull_37 : decode cX11_pull 37 = .ok (.aload_n 3, 1) := by decide +kernel
theorem dX11_pull_38 : decode cX11_pull 38 = .ok (.iload_n 1, 1) := by decide +kernel
theorem dX11_pull_39 : decode cX11_pull 39 = .ok (.iload_n 2, 1) := by decide +kernel
theorem dX11_pull_40 : decode cX11_pull 40 = .ok (.invokevirtual 277, 3) := by decide +kernel
theorem dX11_pull_43 : decode cX11_pull 43 = .ok (.aload_n 0, 1) := by decide +kernel
theorem dX11_pull_44 : decode cX11_pull 44 = .ok (.aload_n 3, 1) := by decide +kernel
theorem dX11_pull_45 : decode cX11_pull 45 = .ok (.getfield 250, 3) := by decide +kernel
theorem dX11_pull_48 : decode cX11_pull 48 = .ok (.iload_n 1, 1) := by decide +kernel
theorem dX11_pull_49 : decode cX11_pull 49 = .ok (.iaload, 1) := by decide +kernel
theorem dX11_pull_50 : decode cX11_pull 50 = .ok (.invokevirtual 182, 3) := by decide +kernel
theorem dX11_pull_53 : decode cX11_pull 53 = .ok (.ireturn, 1) := by decide +kernel
theorem dX11_prop_0 : decode cX11_prop 0 = .ok (.aload_n 0, 1) := by decide +kernel
theorem dX11_prop_1 : decode cX11_prop 1 = .ok (.getfield 39, 3) := by decide +kernel
theorem dX11_prop_4 : decode cX11_prop 4 = .ok (.getfield 152, 3) := by decide +kernel
theorem dX11_prop_7 : decode cX11_prop 7 = .ok (.astore_n 2, 1) := by decide +kernel
theorem dX11_prop_8 : decode cX11_prop 8 = .ok (.aload_n 2, 1) := by decide +kernel
theorem dX11_prop_9 : decode cX11_prop 9 = .ok (.iload_n 1, 1) := by decide +kernel
theorem dX11_prop_10 : decode cX11_prop 10 = .ok (.invokevirtual 235, 3) := by decide +kernel
theorem dX11_prop_13 : decode cX11_prop 13 = .ok (.ifCond .ne 9, 3) := by decide +kernel
theorem dX11_prop_16 : decode cX11_prop 16 = .ok (.aload_n 0, 1) := by decide +kernel
theorem dX11_prop_17 : decode cX11_prop 17 = .ok (.iconst 2, 1) := by decide +kernel
theorem dX11_prop_18 : decode cX11_prop 18 = .ok (.invokevirtual 121, 3) := by decide +kernel
theorem dX11_prop_21 : decode cX11_prop 21 = .ok (.ireturn, 1) := by decide +kernel
theorem dX11_prop_22 : decode cX11_prop 22 = .ok (.aload_n 2, 1) := by decide +kernel
theorem dX11_prop_23 : decode cX11_prop 23 = .ok (.iload_n 1, 1) := by decide +kernel
theorem dX11_prop_24 : decode cX11_prop 24 = .ok (.invokevirtual 281, 3) := by decide +kernel
theorem dX11_prop_27 : decode cX11_prop 27 = .ok (.ifCond .eq 10, 3) := by decide +kernel
theorem dX11_prop_30 : decode cX11_prop 30 = .ok (.aload_n 0, 1) := by decide +kernel
theorem dX11_prop_31 : decode cX11_prop 31 = .ok (.bipush 9, 2) := by decide +kernel
theorem dX11_prop_33 : decode cX11_prop 33 = .ok (.invokevirtual 121, 3) := by decide +kernel
theorem dX11_prop_36 : decode cX11_prop 36 = .ok (.ireturn, 1) := by decide +kernel
theorem dX11_prop_37 : decode cX11_prop 37 = .ok (.aload_n 2, 1) := by decide +kernel
theorem dX11_prop_38 : decode cX11_prop 38 = .ok (.dup, 1) := by decide +kernel
theorem dX11_prop_39 : decode cX11_prop 39 = .ok (.getfield 213, 3) := by decide +kernel
theorem dX11_prop_42 : decode cX11_prop 42 = .ok (.iconst 1, 1) := by decide +kernel
theorem dX11_prop_43 : decode cX11_prop 43 = .ok (.iload_n 1, 1) := by decide +kernel
theorem dX11_prop_44 : decode cX11_prop 44 = .ok (.ishl, 1) := by decide +kernel
theorem dX11_prop_45 : decode cX11_prop 45 = .ok (.ior, 1) := by decide +kernel
theorem dX11_prop_46 : decode cX11_prop 46 = .ok (.putfield 213, 3) := by decide +kernel
theorem dX11_prop_49 : decode cX11_prop 49 = .ok (.aload_n 0, 1) := by decide +kernel
theorem dX11_prop_50 : decode cX11_prop 50 = .ok (.aload_n 2, 1) := by decide +kernel
theorem dX11_prop_51 : decode cX11_prop 51 = .ok (.invokevirtual 209, 3) := by decide +kernel
theorem dX11_prop_54 : decode cX11_prop 54 = .ok (.invokestatic 284, 3) := by decide +kernel
theorem dX11_prop_57 : decode cX11_prop 57 = .ok (.invokevirtual 182, 3) := by decide +kernel
theorem dX11_prop_60 : decode cX11_prop 60 = .ok (.ireturn, 1) := by decide +kernel
theorem dX11_cut_0 : decode cX11_cut 0 = .ok (.aload_n 0, 1) := by decide +kernel
theorem dX11_cut_1 : decode cX11_cut 1 = .ok (.getfield 39, 3) := by decide +kernel
theorem dX11_cut_4 : decode cX11_cut 4 = .ok (.getfield 152, 3) := by decide +kernel
theorem dX11_cut_7 : decode cX11_cut 7 = .ok (.astore_n 2, 1) := by decide +kernel
theorem dX11_cut_8 : decode cX11_cut 8 = .ok (.aload_n 2, 1) := by decide +kernel
theorem dX11_cut_9 : decode cX11_cut 9 = .ok (.iload_n 1, 1) := by decide +kernel
theorem dX11_cut_10 : decode cX11_cut 10 = .ok (.invokevirtual 235, 3) := by decide +kernel
theorem dX11_cut_13 : decode cX11_cut 13 = .ok (.ifCond .ne 9, 3) := by decide +kernel
theorem dX11_cut_16 : decode cX11_cut 16 = .ok (.aload_n 0, 1) := by decide +kernel
theorem dX11_cut_17 : decode cX11_cut 17 = .ok (.iconst 2, 1) := by decide +kernel
theorem dX11_cut_18 : decode cX11_cut 18 = .ok (.invokevirtual 121, 3) := by decide +kernel
theorem dX11_cut_21 : decode cX11_cut 21 = .ok (.ireturn, 1) := by decide +kernel
theorem dX11_cut_22 : decode cX11_cut 22 = .ok (.aload_n 2, 1) := by decide +kernel
theorem dX11_cut_23 : decode cX11_cut 23 = .ok (.iload_n 1, 1) := by decide +kernel
theorem dX11_cut_24 : decode cX11_cut 24 = .ok (.invokevirtual 281, 3) := by decide +kernel
theorem dX11_cut_27 : decode cX11_cut 27 = .ok (.ifCond .ne 10, 3) := by decide +kernel
theorem dX11_cut_30 : decode cX11_cut 30 = .ok (.aload_n 0, 1) := by decide +kernel
theorem dX11_cut_31 : decode cX11_cut 31 = .ok (.bipush 9, 2) := by decide +kernel
theorem dX11_cut_33 : decode cX11_cut 33 = .ok (.invokevirtual 121, 3) := by decide +kernel
theorem dX11_cut_36 : decode cX11_cut 36 = .ok (.ireturn, 1) := by decide +kernel
theorem dX11_cut_37 : decode cX11_cut 37 = .ok (.aload_n 2, 1) := by decide +kernel
theorem dX11_cut_38 : decode cX11_cut 38 = .ok (.dup, 1) := by decide +kernel
theorem dX11_cut_39 : decode cX11_cut 39 = .ok (.getfield 213, 3) := by decide +kernel
theorem dX11_cut_42 : decode cX11_cut 42 = .ok (.iconst 1, 1) := by decide +kernel
theorem dX11_cut_43 : decode cX11_cut 43 = .ok (.iload_n 1, 1) := by decide +kernel
theorem dX11_cut_44 : decode cX11_cut 44 = .ok (.ishl, 1) := by decide +kernel
theorem dX11_cut_45 : decode cX11_cut 45 = .ok (.iconst (-1), 1) := by decide +kernel
theorem dX11_cut_46 : decode cX11_cut 46 = .ok (.ixor, 1) := by decide +kernel
theorem dX11_cut_47 : decode cX11_cut 47 = .ok (.iand, 1) := by decide +kernel
theorem dX11_cut_48 : decode cX11_cut 48 = .ok (.putfield 213, 3) := by decide +kernel
theorem dX11_cut_51 : decode cX11_cut 51 = .ok (.aload_n 0, 1) := by decide +kernel
theorem dX11_cut_52 : decode cX11_cut 52 = .ok (.aload_n 2, 1) := by decide +kernel
theorem dX11_cut_53 : decode cX11_cut 53 = .ok (.invokevirtual 209, 3) := by decide +kernel
theorem dX11_cut_56 : decode cX11_cut 56 = .ok (.invokestatic 284, 3) := by decide +kernel
theorem dX11_cut_59 : decode cX11_cut 59 = .ok (.invokevirtual 182, 3) := by decide +kernel
theorem dX11_cut_62 : decode cX11_cut 62 = .ok (.ireturn, 1) := by decide +kernel
theorem dX11_lift_0 : decode cX11_lift 0 = .ok (.aload_n 0, 1) := by decide +kernel
theorem dX11_lift_1 : decode cX11_lift 1 = .ok (.getfield 39, 3) := by decide +kernel
theorem dX11_lift_4 : decode cX11_lift 4 = .ok (.getfield 152, 3) := by decide +kernel
theorem dX11_lift_7 : decode cX11_lift 7 = .ok (.astore_n 3, 1) := by decide +kernel
theorem dX11_lift_8 : decode cX11_lift 8 = .ok (.aload_n 3, 1) := by decide +kernel
theorem dX11_lift_9 : decode cX11_lift 9 = .ok (.iload_n 1, 1) := by decide +kernel
theorem dX11_lift_10 : decode cX11_lift 10 = .ok (.invokevirtual 244, 3) := by decide +kernel
theorem dX11_lift_13 : decode cX11_lift 13 = .ok (.ifCond .eq 11, 3) := by decide +kernel
theorem dX11_lift_16 : decode cX11_lift 16 = .ok (.aload_n 3, 1) := by decide +kernel
theorem dX11_lift_17 : decode cX11_lift 17 = .ok (.iload_n 2, 1) := by decide +kernel
theorem dX11_lift_18 : decode cX11_lift 18 = .ok (.invokevirtual 289, 3) := by decide +kernel
theorem dX11_lift_21 : decode cX11_lift 21 = .ok (.ifCond .ne 9, 3) := by decide +kernel
theorem dX11_lift_24 : decode cX11_lift 24 = .ok (.aload_n 0, 1) := by decide +kernel
theorem dX11_lift_25 : decode cX11_lift 25 = .ok (.iconst 2, 1) := by decide +kernel
theorem dX11_lift_26 : decode cX11_lift 26 = .ok (.invokevirtual 121, 3) := by decide +kernel
theorem dX11_lift_29 : decode cX11_lift 29 = .ok (.ireturn, 1) := by decide +kernel
theorem dX11_lift_30 : decode cX11_lift 30 = .ok (.iload_n 2, 1) := by decide +kernel
theorem dX11_lift_31 : decode cX11_lift 31 = .ok (.ifCond .ne 9, 3) := by decide +kernel
theorem dX11_lift_34 : decode cX11_lift 34 = .ok (.aload_n 0, 1) := by decide +kernel
theorem dX11_lift_35 : decode cX11_lift 35 = .ok (.iconst 5, 1) := by decide +kernel
theorem dX11_lift_36 : decode cX11_lift 36 = .ok (.invokevirtual 121, 3) := by decide +kernel
theorem dX11_lift_39 : decode cX11_lift 39 = .ok (.ireturn, 1) := by decide +kernel
theorem dX11_lift_40 : decode cX11_lift 40 = .ok (.aload_n 3, 1) := by decide +kernel
theorem dX11_lift_41 : decode cX11_lift 41 = .ok (.getfield 250, 3) := by decide +kernel
theorem dX11_lift_44 : decode cX11_lift 44 = .ok (.iload_n 1, 1) := by decide +kernel
theorem dX11_lift_45 : decode cX11_lift 45 = .ok (.iaload, 1) := by decide +kernel
theorem dX11_lift_46 : decode cX11_lift 46 = .ok (.istore 4, 2) := by decide +kernel
theorem dX11_lift_48 : decode cX11_lift 48 = .ok (.aload_n 3, 1) := by decide +kernel
theorem dX11_lift_49 : decode cX11_lift 49 = .ok (.getfield 250, 3) := by decide +kernel
theorem dX11_lift_52 : decode cX11_lift 52 = .ok (.iload_n 1, 1) := by decide +kernel
theorem dX11_lift_53 : decode cX11_lift 53 = .ok (.iload_n 2, 1) := by decide +kernel
theorem dX11_lift_54 : decode cX11_lift 54 = .ok (.iastore, 1) := by decide +kernel
theorem dX11_lift_55 : decode cX11_lift 55 = .ok (.aload_n 3, 1) := by decide +kernel
theorem dX11_lift_56 : decode cX11_lift 56 = .ok (.dup, 1) := by decide +kernel
theorem dX11_lift_57 : decode cX11_lift 57 = .ok (.getfield 216, 3) := by decide +kernel
theorem dX11_lift_60 : decode cX11_lift 60 = .ok (.iconst 1, 1) := by decide +kernel
theorem dX11_lift_61 : decode cX11_lift 61 = .ok (.iload_n 1, 1) := by decide +kernel
theorem dX11_lift_62 : decode cX11_lift 62 = .ok (.ishl, 1) := by decide +kernel
theorem dX11_lift_63 : decode cX11_lift 63 = .ok (.iconst (-1), 1) := by decide +kernel
theorem dX11_lift_64 : decode cX11_lift 64 = .ok (.ixor, 1) := by decide +kernel
theorem dX11_lift_65 : decode cX11_lift 65 = .ok (.iand, 1) := by decide +kernel
theorem dX11_lift_66 : decode cX11_lift 66 = .ok (.putfield 216, 3) := by decide +kernel
theorem dX11_lift_69 : decode cX11_lift 69 = .ok (.aload_n 0, 1) := by decide +kernel
theorem dX11_lift_70 : decode cX11_lift 70 = .ok (.iload 4, 2) := by decide +kernel
theorem dX11_lift_72 : decode cX11_lift 72 = .ok (.invokevirtual 182, 3) := by decide +kernel
theorem dX11_lift_75 : decode cX11_lift 75 = .ok (.ireturn, 1) := by decide +kernel
theorem dX11_rewrite_0 : decode cX11_rewrite 0 = .ok (.aload_n 0, 1) := by decide +kernel
theorem dX11_rewrite_1 : decode cX11_rewrite 1 = .ok (.getfield 39, 3) := by decide +kernel
theorem dX11_rewrite_4 : decode cX11_rewrite 4 = .ok (.getfield 152, 3) := by decide +kernel
theorem dX11_rewrite_7 : decode cX11_rewrite 7 = .ok (.astore 4, 2) := by decide +kernel
theorem dX11_rewrite_9 : decode cX11_rewrite 9 = .ok (.aload 4, 2) := by decide +kernel
theorem dX11_rewrite_11 : decode cX11_rewrite 11 = .ok (.iload_n 1, 1) := by decide +kernel
theorem dX11_rewrite_12 : decode cX11_rewrite 12 = .ok (.invokevirtual 222, 3) := by decide +kernel
theorem dX11_rewrite_15 : decode cX11_rewrite 15 = .ok (.ifCond .ne 9, 3) := by decide +kernel
theorem dX11_rewrite_18 : decode cX11_rewrite 18 = .ok (.aload_n 0, 1) := by decide +kernel
theorem dX11_rewrite_19 : decode cX11_rewrite 19 = .ok (.iconst 2, 1) := by decide +kernel
theorem dX11_rewrite_20 : decode cX11_rewrite 20 = .ok (.invokevirtual 121, 3) := by decide +kernel
theorem dX11_rewrite_23 : decode cX11_rewrite 23 = .ok (.ireturn, 1) := by decide +kernel
theorem dX11_rewrite_24 : decode cX11_rewrite 24 = .ok (.iload_n 2, 1) := by decide +kernel
theorem dX11_rewrite_25 : decode cX11_rewrite 25 = .ok (.ifCond .lt 12, 3) := by decide +kernel
theorem dX11_rewrite_28 : decode cX11_rewrite 28 = .ok (.iload_n 2, 1) := by decide +kernel
theorem dX11_rewrite_29 : decode cX11_rewrite 29 = .ok (.iconst 1, 1) := by decide +kernel
theorem dX11_rewrite_30 : decode cX11_rewrite 30 = .ok (.if_icmp .gt 7, 3) := by decide +kernel
theorem dX11_rewrite_33 : decode cX11_rewrite 33 = .ok (.iload_n 3, 1) := by decide +kernel
theorem dX11_rewrite_34 : decode cX11_rewrite 34 = .ok (.ifCond .ge 9, 3) := by decide +kernel
theorem dX11_rewrite_37 : decode cX11_rewrite 37 = .ok (.aload_n 0, 1) := by decide +kernel
theorem dX11_rewrite_38 : decode cX11_rewrite 38 = .ok (.iconst 5, 1) := by decide +kernel
theorem dX11_rewrite_39 : decode cX11_rewrite 39 = .ok (.invokevirtual 121, 3) := by decide +kernel
theorem dX11_rewrite_42 : decode cX11_rewrite 42 = .ok (.ireturn, 1) := by decide +kernel
theorem dX11_rewrite_43 : decode cX11_rewrite 43 = .ok (.iload_n 3, 1) := by decide +kernel
theorem dX11_rewrite_44 : decode cX11_rewrite 44 = .ok (.iload_n 2, 1) := by decide +kernel
theorem dX11_rewrite_45 : decode cX11_rewrite 45 = .ok (.ifCond .ne 8, 3) := by decide +kernel
theorem dX11_rewrite_48 : decode cX11_rewrite 48 = .ok (.bipush 20, 2) := by decide +kernel
theorem dX11_rewrite_50 : decode cX11_rewrite 50 = .ok (.goto 4, 3) := by decide +kernel
theorem dX11_rewrite_53 : decode cX11_rewrite 53 = .ok (.iconst 3, 1) := by decide +kernel
theorem dX11_rewrite_54 : decode cX11_rewrite 54 = .ok (.if_icmp .le 9, 3) := by decide +kernel
theorem dX11_rewrite_57 : decode cX11_rewrite 57 = .ok (.aload_n 0, 1) := by decide +kernel
theorem dX11_rewrite_58 : decode cX11_rewrite 58 = .ok (.iconst 5, 1) := by decide +kernel
theorem dX11_rewrite_59 : decode cX11_rewrite 59 = .ok (.invokevirtual 121, 3) := by decide +kernel
theorem dX11_rewrite_62 : decode cX11_rewrite 62 = .ok (.ireturn, 1) := by decide +kernel
theorem dX11_rewrite_63 : decode cX11_rewrite 63 = .ok (.iload_n 2, 1) := by decide +kernel
theorem dX11_rewrite_64 : decode cX11_rewrite 64 = .ok (.ifCond .ne 11, 3) := by decide +kernel
theorem dX11_rewrite_67 : decode cX11_rewrite 67 = .ok (.aload 4, 2) := by decide +kernel
theorem dX11_rewrite_69 : decode cX11_rewrite 69 = .ok (.getfield 225, 3) := by decide +kernel
theorem dX11_rewrite_72 : decode cX11_rewrite 72 = .ok (.goto 8, 3) := by decide +kernel
theorem dX11_rewrite_75 : decode cX11_rewrite 75 = .ok (.aload 4, 2) := by decide +kernel
theorem dX11_rewrite_77 : decode cX11_rewrite 77 = .ok (.getfield 229, 3) := by decide +kernel
theorem dX11_rewrite_80 : decode cX11_rewrite 80 = .ok (.astore 5, 2) := by decide +kernel
theorem dX11_rewrite_82 : decode cX11_rewrite 82 = .ok (.aload 5, 2) := by decide +kernel
theorem dX11_rewrite_84 : decode cX11_rewrite 84 = .ok (.iload_n 1, 1) := by decide +kernel
theorem dX11_rewrite_85 : decode cX11_rewrite 85 = .ok (.iaload, 1) := by decide +kernel
theorem dX11_rewrite_86 : decode cX11_rewrite 86 = .ok (.istore 6, 2) := by decide +kernel
theorem dX11_rewrite_88 : decode cX11_rewrite 88 = .ok (.aload 5, 2) := by decide +kernel
theorem dX11_rewrite_90 : decode cX11_rewrite 90 = .ok (.iload_n 1, 1) := by decide +kernel
theorem dX11_rewrite_91 : decode cX11_rewrite 91 = .ok (.iload_n 3, 1) := by decide +kernel
theorem dX11_rewrite_92 : decode cX11_rewrite 92 = .ok (.iastore, 1) := by decide +kernel
theorem dX11_rewrite_93 : decode cX11_rewrite 93 = .ok (.aload_n 0, 1) := by decide +kernel
theorem dX11_rewrite_94 : decode cX11_rewrite 94 = .ok (.iload 6, 2) := by decide +kernel
theorem dX11_rewrite_96 : decode cX11_rewrite 96 = .ok (.invokevirtual 182, 3) := by decide +kernel
theorem dX11_rewrite_99 : decode cX11_rewrite 99 = .ok (.ireturn, 1) := by decide +kernel
theorem dX11_think_0 : decode cX11_think 0 = .ok (.aload_n 0, 1) := by decide +kernel
theorem dX11_think_1 : decode cX11_think 1 = .ok (.getfield 39, 3) := by decide +kernel
theorem dX11_think_4 : decode cX11_think 4 = .ok (.getfield 152, 3) := by decide +kernel
theorem dX11_think_7 : decode cX11_think 7 = .ok (.astore_n 3, 1) := by decide +kernel
theorem dX11_think_8 : decode cX11_think 8 = .ok (.aload_n 3, 1) := by decide +kernel
theorem dX11_think_9 : decode cX11_think 9 = .ok (.iload_n 1, 1) := by decide +kernel
theorem dX11_think_10 : decode cX11_think 10 = .ok (.invokevirtual 222, 3) := by decide +kernel
theorem dX11_think_13 : decode cX11_think 13 = .ok (.ifCond .ne 9, 3) := by decide +kernel
theorem dX11_think_16 : decode cX11_think 16 = .ok (.aload_n 0, 1) := by decide +kernel
theorem dX11_think_17 : decode cX11_think 17 = .ok (.iconst 2, 1) := by decide +kernel
theorem dX11_think_18 : decode cX11_think 18 = .ok (.invokevirtual 121, 3) := by decide +kernel
theorem dX11_think_21 : decode cX11_think 21 = .ok (.ireturn, 1) := by decide +kernel
theorem dX11_think_22 : decode cX11_think 22 = .ok (.iload_n 2, 1) := by decide +kernel
theorem dX11_think_23 : decode cX11_think 23 = .ok (.ifCond .lt 13, 3) := by decide +kernel
theorem dX11_think_26 : decode cX11_think 26 = .ok (.iload_n 2, 1) := by decide +kernel
theorem dX11_think_27 : decode cX11_think 27 = .ok (.iconst 1, 1) := by decide +kernel
theorem dX11_think_28 : decode cX11_think 28 = .ok (.aload_n 3, 1) := by decide +kernel
theorem dX11_think_29 : decode cX11_think 29 = .ok (.getfield 198, 3) := by decide +kernel
theorem dX11_think_32 : decode cX11_think 32 = .ok (.ishl, 1) := by decide +kernel
theorem dX11_think_33 : decode cX11_think 33 = .ok (.if_icmp .lt 9, 3) := by decide +kernel
theorem dX11_think_36 : decode cX11_think 36 = .ok (.aload_n 0, 1) := by decide +kernel
theorem dX11_think_37 : decode cX11_think 37 = .ok (.iconst 5, 1) := by decide +kernel
theorem dX11_think_38 : decode cX11_think 38 = .ok (.invokevirtual 121, 3) := by decide +kernel
theorem dX11_think_41 : decode cX11_think 41 = .ok (.ireturn, 1) := by decide +kernel
theorem dX11_think_42 : decode cX11_think 42 = .ok (.aload_n 3, 1) := by decide +kernel
theorem dX11_think_43 : decode cX11_think 43 = .ok (.getfield 198, 3) := by decide +kernel
theorem dX11_think_46 : decode cX11_think 46 = .ok (.bipush 8, 2) := by decide +kernel
theorem dX11_think_48 : decode cX11_think 48 = .ok (.if_icmp .ne 10, 3) := by decide +kernel
theorem dX11_think_51 : decode cX11_think 51 = .ok (.aload_n 0, 1) := by decide +kernel
theorem dX11_think_52 : decode cX11_think 52 = .ok (.bipush 7, 2) := by decide +kernel
theorem dX11_think_54 : decode cX11_think 54 = .ok (.invokevirtual 121, 3) := by decide +kernel
theorem dX11_think_57 : decode cX11_think 57 = .ok (.ireturn, 1) := by decide +kernel
theorem dX11_think_58 : decode cX11_think 58 = .ok (.aload_n 3, 1) := by decide +kernel
theorem dX11_think_59 : decode cX11_think 59 = .ok (.iload_n 1, 1) := by decide +kernel
theorem dX11_think_60 : decode cX11_think 60 = .ok (.iload_n 2, 1) := by decide +kernel
theorem dX11_think_61 : decode cX11_think 61 = .ok (.lconst 0, 1) := by decide +kernel
theorem dX11_think_62 : decode cX11_think 62 = .ok (.invokevirtual 292, 3) := by decide +kernel
theorem dX11_think_65 : decode cX11_think 65 = .ok (.aload_n 0, 1) := by decide +kernel
theorem dX11_think_66 : decode cX11_think 66 = .ok (.aload_n 3, 1) := by decide +kernel
theorem dX11_think_67 : decode cX11_think 67 = .ok (.getfield 198, 3) := by decide +kernel
theorem dX11_think_70 : decode cX11_think 70 = .ok (.iconst 1, 1) := by decide +kernel
theorem dX11_think_71 : decode cX11_think 71 = .ok (.isub, 1) := by decide +kernel
theorem dX11_think_72 : decode cX11_think 72 = .ok (.invokevirtual 182, 3) := by decide +kernel
theorem dX11_think_75 : decode cX11_think 75 = .ok (.ireturn, 1) := by decide +kernel
theorem dX11_anger_0 : decode cX11_anger 0 = .ok (.aload_n 0, 1) := by decide +kernel
theorem dX11_anger_1 : decode cX11_anger 1 = .ok (.getfield 39, 3) := by decide +kernel
theorem dX11_anger_4 : decode cX11_anger 4 = .ok (.getfield 152, 3) := by decide +kernel
theorem dX11_anger_7 : decode cX11_anger 7 = .ok (.astore_n 3, 1) := by decide +kernel
theorem dX11_anger_8 : decode cX11_anger 8 = .ok (.aload_n 3, 1) := by decide +kernel
theorem dX11_anger_9 : decode cX11_anger 9 = .ok (.iload_n 1, 1) := by decide +kernel
theorem dX11_anger_10 : decode cX11_anger 10 = .ok (.invokevirtual 244, 3) := by decide +kernel
theorem dX11_anger_13 : decode cX11_anger 13 = .ok (.ifCond .eq 11, 3) := by decide +kernel
theorem dX11_anger_16 : decode cX11_anger 16 = .ok (.aload_n 3, 1) := by decide +kernel
theorem dX11_anger_17 : decode cX11_anger 17 = .ok (.iload_n 2, 1) := by decide +kernel
theorem dX11_anger_18 : decode cX11_anger 18 = .ok (.invokevirtual 244, 3) := by decide +kernel
theorem dX11_anger_21 : decode cX11_anger 21 = .ok (.ifCond .ne 9, 3) := by decide +kernel
theorem dX11_anger_24 : decode cX11_anger 24 = .ok (.aload_n 0, 1) := by decide +kernel
theorem dX11_anger_25 : decode cX11_anger 25 = .ok (.iconst 2, 1) := by decide +kernel
theorem dX11_anger_26 : decode cX11_anger 26 = .ok (.invokevirtual 121, 3) := by decide +kernel
theorem dX11_anger_29 : decode cX11_anger 29 = .ok (.ireturn, 1) := by decide +kernel
theorem dX11_anger_30 : decode cX11_anger 30 = .ok (.iload_n 1, 1) := by decide +kernel
theorem dX11_anger_31 : decode cX11_anger 31 = .ok (.iload_n 2, 1) := by decide +kernel
theorem dX11_anger_32 : decode cX11_anger 32 = .ok (.if_icmp .ne 9, 3) := by decide +kernel
theorem dX11_anger_35 : decode cX11_anger 35 = .ok (.aload_n 0, 1) := by decide +kernel
theorem dX11_anger_36 : decode cX11_anger 36 = .ok (.iconst 5, 1) := by decide +kernel
theorem dX11_anger_37 : decode cX11_anger 37 = .ok (.invokevirtual 121, 3) := by decide +kernel
theorem dX11_anger_40 : decode cX11_anger 40 = .ok (.ireturn, 1) := by decide +kernel
theorem dX11_anger_41 : decode cX11_anger 41 = .ok (.aload_n 3, 1) := by decide +kernel
theorem dX11_anger_42 : decode cX11_anger 42 = .ok (.getfield 201, 3) := by decide +kernel
theorem dX11_anger_45 : decode cX11_anger 45 = .ok (.bipush 10, 2) := by decide +kernel
theorem dX11_anger_47 : decode cX11_anger 47 = .ok (.if_icmp .ne 10, 3) := by decide +kernel
theorem dX11_anger_50 : decode cX11_anger 50 = .ok (.aload_n 0, 1) := by decide +kernel
theorem dX11_anger_51 : decode cX11_anger 51 = .ok (.bipush 7, 2) := by decide +kernel
theorem dX11_anger_53 : decode cX11_anger 53 = .ok (.invokevirtual 121, 3) := by decide +kernel
theorem dX11_anger_56 : decode cX11_anger 56 = .ok (.ireturn, 1) := by decide +kernel
theorem dX11_anger_57 : decode cX11_anger 57 = .ok (.aload_n 3, 1) := by decide +kernel
theorem dX11_anger_58 : decode cX11_anger 58 = .ok (.iload_n 1, 1) := by decide +kernel
theorem dX11_anger_59 : decode cX11_anger 59 = .ok (.iload_n 2, 1) := by decide +kernel
theorem dX11_anger_60 : decode cX11_anger 60 = .ok (.invokevirtual 296, 3) := by decide +kernel
theorem dX11_anger_63 : decode cX11_anger 63 = .ok (.ifCond .eq 10, 3) := by decide +kernel
theorem dX11_anger_66 : decode cX11_anger 66 = .ok (.aload_n 0, 1) := by decide +kernel
theorem dX11_anger_67 : decode cX11_anger 67 = .ok (.bipush 9, 2) := by decide +kernel
theorem dX11_anger_69 : decode cX11_anger 69 = .ok (.invokevirtual 121, 3) := by decide +kernel
theorem dX11_anger_72 : decode cX11_anger 72 = .ok (.ireturn, 1) := by decide +kernel
theorem dX11_anger_73 : decode cX11_anger 73 = .ok (.aload_n 3, 1) := by decide +kernel
theorem dX11_anger_74 : decode cX11_anger 74 = .ok (.iload_n 1, 1) := by decide +kernel
theorem dX11_anger_75 : decode cX11_anger 75 = .ok (.iload_n 2, 1) := by decide +kernel
theorem dX11_anger_76 : decode cX11_anger 76 = .ok (.invokevirtual 299, 3) := by decide +kernel
theorem dX11_anger_79 : decode cX11_anger 79 = .ok (.aload_n 0, 1) := by decide +kernel
theorem dX11_anger_80 : decode cX11_anger 80 = .ok (.aload_n 3, 1) := by decide +kernel
theorem dX11_anger_81 : decode cX11_anger 81 = .ok (.getfield 201, 3) := by decide +kernel
theorem dX11_anger_84 : decode cX11_anger 84 = .ok (.iconst 1, 1) := by decide +kernel
theorem dX11_anger_85 : decode cX11_anger 85 = .ok (.isub, 1) := by decide +kernel
theorem dX11_anger_86 : decode cX11_anger 86 = .ok (.invokevirtual 182, 3) := by decide +kernel
theorem dX11_anger_89 : decode cX11_anger 89 = .ok (.ireturn, 1) := by decide +kernel
theorem dX11_rule_0 : decode cX11_rule 0 = .ok (.iload_n 1, 1) := by decide +kernel
theorem dX11_rule_1 : decode cX11_rule 1 = .ok (.ifCond .lt 9, 3) := by decide +kernel
theorem dX11_rule_4 : decode cX11_rule 4 = .ok (.iload_n 1, 1) := by decide +kernel
theorem dX11_rule_5 : decode cX11_rule 5 = .ok (.bipush 16, 2) := by decide +kernel
theorem dX11_rule_7 : decode cX11_rule 7 = .ok (.if_icmp .le 9, 3) := by decide +kernel
theorem dX11_rule_10 : decode cX11_rule 10 = .ok (.aload_n 0, 1) := by decide +kernel
theorem dX11_rule_11 : decode cX11_rule 11 = .ok (.iconst 5, 1) := by decide +kernel
theorem dX11_rule_12 : decode cX11_rule 12 = .ok (.invokevirtual 102, 3) := by decide +kernel
theorem dX11_rule_15 : decode cX11_rule 15 = .ok (.ireturn, 1) := by decide +kernel
theorem dX11_rule_16 : decode cX11_rule 16 = .ok (.aload_n 0, 1) := by decide +kernel
theorem dX11_rule_17 : decode cX11_rule 17 = .ok (.getfield 39, 3) := by decide +kernel
theorem dX11_rule_20 : decode cX11_rule 20 = .ok (.getfield 152, 3) := by decide +kernel
theorem dX11_rule_23 : decode cX11_rule 23 = .ok (.iload_n 1, 1) := by decide +kernel
theorem dX11_rule_24 : decode cX11_rule 24 = .ok (.putfield 203, 3) := by decide +kernel
theorem dX11_rule_27 : decode cX11_rule 27 = .ok (.aload_n 0, 1) := by decide +kernel
theorem dX11_rule_28 : decode cX11_rule 28 = .ok (.invokevirtual 109, 3) := by decide +kernel
theorem dX11_rule_31 : decode cX11_rule 31 = .ok (.ireturn, 1) := by decide +kernel
theorem dX11_holdsUp_0 : decode cX11_holdsUp 0 = .ok (.aload_n 0, 1) := by decide +kernel
theorem dX11_holdsUp_1 : decode cX11_holdsUp 1 = .ok (.getfield 39, 3) := by decide +kernel
theorem dX11_holdsUp_4 : decode cX11_holdsUp 4 = .ok (.getfield 152, 3) := by decide +kernel
theorem dX11_holdsUp_7 : decode cX11_holdsUp 7 = .ok (.iload_n 1, 1) := by decide +kernel
theorem dX11_holdsUp_8 : decode cX11_holdsUp 8 = .ok (.invokevirtual 235, 3) := by decide +kernel
theorem dX11_holdsUp_11 : decode cX11_holdsUp 11 = .ok (.ifCond .ne 9, 3) := by decide +kernel
theorem dX11_holdsUp_14 : decode cX11_holdsUp 14 = .ok (.aload_n 0, 1) := by decide +kernel
theorem dX11_holdsUp_15 : decode cX11_holdsUp 15 = .ok (.iconst 2, 1) := by decide +kernel
theorem dX11_holdsUp_16 : decode cX11_holdsUp 16 = .ok (.invokevirtual 121, 3) := by decide +kernel
theorem dX11_holdsUp_19 : decode cX11_holdsUp 19 = .ok (.ireturn, 1) := by decide +kernel
theorem dX11_holdsUp_20 : decode cX11_holdsUp 20 = .ok (.aload_n 0, 1) := by decide +kernel
theorem dX11_holdsUp_21 : decode cX11_holdsUp 21 = .ok (.aload_n 0, 1) := by decide +kernel
theorem dX11_holdsUp_22 : decode cX11_holdsUp 22 = .ok (.getfield 39, 3) := by decide +kernel
theorem dX11_holdsUp_25 : decode cX11_holdsUp 25 = .ok (.getfield 152, 3) := by decide +kernel
theorem dX11_holdsUp_28 : decode cX11_holdsUp 28 = .ok (.iload_n 1, 1) := by decide +kernel
theorem dX11_holdsUp_29 : decode cX11_holdsUp 29 = .ok (.invokevirtual 302, 3) := by decide +kernel
theorem dX11_holdsUp_32 : decode cX11_holdsUp 32 = .ok (.invokestatic 284, 3) := by decide +kernel
theorem dX11_holdsUp_35 : decode cX11_holdsUp 35 = .ok (.invokevirtual 182, 3) := by decide +kernel
theorem dX11_holdsUp_38 : decode cX11_holdsUp 38 = .ok (.ireturn, 1) := by decide +kernel
theorem dX11_holdsUpSet_0 : decode cX11_holdsUpSet 0 = .ok (.aload_n 0, 1) := by decide +kernel
theorem dX11_holdsUpSet_1 : decode cX11_holdsUpSet 1 = .ok (.getfield 39, 3) := by decide +kernel
theorem dX11_holdsUpSet_4 : decode cX11_holdsUpSet 4 = .ok (.getfield 152, 3) := by decide +kernel
theorem dX11_holdsUpSet_7 : decode cX11_holdsUpSet 7 = .ok (.iload_n 1, 1) := by decide +kernel
theorem dX11_holdsUpSet_8 : decode cX11_holdsUpSet 8 = .ok (.invokevirtual 235, 3) := by decide +kernel
theorem dX11_holdsUpSet_11 : decode cX11_holdsUpSet 11 = .ok (.ifCond .ne 9, 3) := by decide +kernel
theorem dX11_holdsUpSet_14 : decode cX11_holdsUpSet 14 = .ok (.aload_n 0, 1) := by decide +kernel
theorem dX11_holdsUpSet_15 : decode cX11_holdsUpSet 15 = .ok (.iconst 2, 1) := by decide +kernel
theorem dX11_holdsUpSet_16 : decode cX11_holdsUpSet 16 = .ok (.invokevirtual 121, 3) := by decide +kernel
theorem dX11_holdsUpSet_19 : decode cX11_holdsUpSet 19 = .ok (.ireturn, 1) := by decide +kernel
theorem dX11_holdsUpSet_20 : decode cX11_holdsUpSet 20 = .ok (.aload_n 0, 1) := by decide +kernel
theorem dX11_holdsUpSet_21 : decode cX11_holdsUpSet 21 = .ok (.aload_n 0, 1) := by decide +kernel
theorem dX11_holdsUpSet_22 : decode cX11_holdsUpSet 22 = .ok (.getfield 39, 3) := by decide +kernel
theorem dX11_holdsUpSet_25 : decode cX11_holdsUpSet 25 = .ok (.getfield 152, 3) := by decide +kernel
theorem dX11_holdsUpSet_28 : decode cX11_holdsUpSet 28 = .ok (.iload_n 1, 1) := by decide +kernel
theorem dX11_holdsUpSet_29 : decode cX11_holdsUpSet 29 = .ok (.invokevirtual 302, 3) := by decide +kernel
theorem dX11_holdsUpSet_32 : decode cX11_holdsUpSet 32 = .ok (.invokevirtual 182, 3) := by decide +kernel
theorem dX11_holdsUpSet_35 : decode cX11_holdsUpSet 35 = .ok (.ireturn, 1) := by decide +kernel
theorem dX11_bringsDown_0 : decode cX11_bringsDown 0 = .ok (.aload_n 0, 1) := by decide +kernel
theorem dX11_bringsDown_1 : decode cX11_bringsDown 1 = .ok (.getfield 39, 3) := by decide +kernel
theorem dX11_bringsDown_4 : decode cX11_bringsDown 4 = .ok (.getfield 152, 3) := by decide +kernel
theorem dX11_bringsDown_7 : decode cX11_bringsDown 7 = .ok (.astore_n 2, 1) := by decide +kernel
theorem dX11_bringsDown_8 : decode cX11_bringsDown 8 = .ok (.aload_n 2, 1) := by decide +kernel
theorem dX11_bringsDown_9 : decode cX11_bringsDown 9 = .ok (.iload_n 1, 1) := by decide +kernel
theorem dX11_bringsDown_10 : decode cX11_bringsDown 10 = .ok (.invokevirtual 235, 3) := by decide +kernel
theorem dX11_bringsDown_13 : decode cX11_bringsDown 13 = .ok (.ifCond .ne 9, 3) := by decide +kernel
theorem dX11_bringsDown_16 : decode cX11_bringsDown 16 = .ok (.aload_n 0, 1) := by decide +kernel
theorem dX11_bringsDown_17 : decode cX11_bringsDown 17 = .ok (.iconst 2, 1) := by decide +kernel
theorem dX11_bringsDown_18 : decode cX11_bringsDown 18 = .ok (.invokevirtual 121, 3) := by decide +kernel
theorem dX11_bringsDown_21 : decode cX11_bringsDown 21 = .ok (.ireturn, 1) := by decide +kernel
theorem dX11_bringsDown_22 : decode cX11_bringsDown 22 = .ok (.aload_n 2, 1) := by decide +kernel
theorem dX11_bringsDown_23 : decode cX11_bringsDown 23 = .ok (.invokevirtual 209, 3) := by decide +kernel
theorem dX11_bringsDown_26 : decode cX11_bringsDown 26 = .ok (.istore_n 3, 1) := by decide +kernel
theorem dX11_bringsDown_27 : decode cX11_bringsDown 27 = .ok (.iload_n 3, 1) := by decide +kernel
theorem dX11_bringsDown_28 : decode cX11_bringsDown 28 = .ok (.iload_n 1, 1) := by decide +kernel
theorem dX11_bringsDown_29 : decode cX11_bringsDown 29 = .ok (.ishr, 1) := by decide +kernel
theorem dX11_bringsDown_30 : decode cX11_bringsDown 30 = .ok (.iconst 1, 1) := by decide +kernel
theorem dX11_bringsDown_31 : decode cX11_bringsDown 31 = .ok (.iand, 1) := by decide +kernel
theorem dX11_bringsDown_32 : decode cX11_bringsDown 32 = .ok (.ifCond .ne 10, 3) := by decide +kernel
theorem dX11_bringsDown_35 : decode cX11_bringsDown 35 = .ok (.aload_n 0, 1) := by decide +kernel
theorem dX11_bringsDown_36 : decode cX11_bringsDown 36 = .ok (.bipush 9, 2) := by decide +kernel
theorem dX11_bringsDown_38 : decode cX11_bringsDown 38 = .ok (.invokevirtual 121, 3) := by decide +kernel
theorem dX11_bringsDown_41 : decode cX11_bringsDown 41 = .ok (.ireturn, 1) := by decide +kernel
theorem dX11_bringsDown_42 : decode cX11_bringsDown 42 = .ok (.aload_n 0, 1) := by decide +kernel
theorem dX11_bringsDown_43 : decode cX11_bringsDown 43 = .ok (.iload_n 3, 1) := by decide +kernel
theorem dX11_bringsDown_44 : decode cX11_bringsDown 44 = .ok (.aload_n 2, 1) := by decide +kernel
theorem dX11_bringsDown_45 : decode cX11_bringsDown 45 = .ok (.aload_n 2, 1) := by decide +kernel
theorem dX11_bringsDown_46 : decode cX11_bringsDown 46 = .ok (.getfield 213, 3) := by decide +kernel
theorem dX11_bringsDown_49 : decode cX11_bringsDown 49 = .ok (.iload_n 1, 1) := by decide +kernel
theorem dX11_bringsDown_50 : decode cX11_bringsDown 50 = .ok (.invokevirtual 305, 3) := by decide +kernel
theorem dX11_bringsDown_53 : decode cX11_bringsDown 53 = .ok (.iconst (-1), 1) := by decide +kernel
theorem dX11_bringsDown_54 : decode cX11_bringsDown 54 = .ok (.ixor, 1) := by decide +kernel
theorem dX11_bringsDown_55 : decode cX11_bringsDown 55 = .ok (.iand, 1) := by decide +kernel
theorem dX11_bringsDown_56 : decode cX11_bringsDown 56 = .ok (.invokevirtual 182, 3) := by decide +kernel
theorem dX11_bringsDown_59 : decode cX11_bringsDown 59 = .ok (.ireturn, 1) := by decide +kernel
theorem dX11_wayStatus_0 : decode cX11_wayStatus 0 = .ok (.aload_n 0, 1) := by decide +kernel
theorem dX11_wayStatus_1 : decode cX11_wayStatus 1 = .ok (.getfield 39, 3) := by decide +kernel
theorem dX11_wayStatus_4 : decode cX11_wayStatus 4 = .ok (.getfield 152, 3) := by decide +kernel
theorem dX11_wayStatus_7 : decode cX11_wayStatus 7 = .ok (.iload_n 1, 1) := by decide +kernel
theorem dX11_wayStatus_8 : decode cX11_wayStatus 8 = .ok (.invokevirtual 289, 3) := by decide +kernel
theorem dX11_wayStatus_11 : decode cX11_wayStatus 11 = .ok (.ifCond .eq 17, 3) := by decide +kernel
theorem dX11_wayStatus_14 : decode cX11_wayStatus 14 = .ok (.aload_n 0, 1) := by decide +kernel
theorem dX11_wayStatus_15 : decode cX11_wayStatus 15 = .ok (.getfield 39, 3) := by decide +kernel
theorem dX11_wayStatus_18 : decode cX11_wayStatus 18 = .ok (.getfield 152, 3) := by decide +kernel
theorem dX11_wayStatus_21 : decode cX11_wayStatus 21 = .ok (.iload_n 2, 1) := by decide +kernel
theorem dX11_wayStatus_22 : decode cX11_wayStatus 22 = .ok (.invokevirtual 289, 3) := by decide +kernel
theorem dX11_wayStatus_25 : decode cX11_wayStatus 25 = .ok (.ifCond .ne 5, 3) := by decide +kernel
theorem dX11_wayStatus_28 : decode cX11_wayStatus 28 = .ok (.iconst 2, 1) := by decide +kernel
theorem dX11_wayStatus_29 : decode cX11_wayStatus 29 = .ok (.ireturn, 1) := by decide +kernel
theorem dX11_wayStatus_30 : decode cX11_wayStatus 30 = .ok (.iload_n 1, 1) := by decide +kernel
theorem dX11_wayStatus_31 : decode cX11_wayStatus 31 = .ok (.ifCond .ne 7, 3) := by decide +kernel
theorem dX11_wayStatus_34 : decode cX11_wayStatus 34 = .ok (.iconst 5, 1) := by decide +kernel
theorem dX11_wayStatus_35 : decode cX11_wayStatus 35 = .ok (.goto 4, 3) := by decide +kernel
theorem dX11_wayStatus_38 : decode cX11_wayStatus 38 = .ok (.iconst 0, 1) := by decide +kernel
theorem dX11_wayStatus_39 : decode cX11_wayStatus 39 = .ok (.ireturn, 1) := by decide +kernel
theorem dX11_way_0 : decode cX11_way 0 = .ok (.aload_n 0, 1) := by decide +kernel
theorem dX11_way_1 : decode cX11_way 1 = .ok (.iload_n 1, 1) := by decide +kernel
theorem dX11_way_2 : decode cX11_way 2 = .ok (.iload_n 2, 1) := by decide +kernel
theorem dX11_way_3 : decode cX11_way 3 = .ok (.invokevirtual 308, 3) := by decide +kernel
theorem dX11_way_6 : decode cX11_way 6 = .ok (.istore_n 3, 1) := by decide +kernel
theorem dX11_way_7 : decode cX11_way 7 = .ok (.iload_n 3, 1) := by decide +kernel
theorem dX11_way_8 : decode cX11_way 8 = .ok (.ifCond .eq 9, 3) := by decide +kernel
theorem dX11_way_11 : decode cX11_way 11 = .ok (.aload_n 0, 1) := by decide +kernel
theorem dX11_way_12 : decode cX11_way 12 = .ok (.iload_n 3, 1) := by decide +kernel
theorem dX11_way_13 : decode cX11_way 13 = .ok (.invokevirtual 121, 3) := by decide +kernel
theorem dX11_way_16 : decode cX11_way 16 = .ok (.ireturn, 1) := by decide +kernel
theorem dX11_way_17 : decode cX11_way 17 = .ok (.aload_n 0, 1) := by decide +kernel
theorem dX11_way_18 : decode cX11_way 18 = .ok (.getfield 63, 3) := by decide +kernel
theorem dX11_way_21 : decode cX11_way 21 = .ok (.aload_n 0, 1) := by decide +kernel
theorem dX11_way_22 : decode cX11_way 22 = .ok (.getfield 39, 3) := by decide +kernel
theorem dX11_way_25 : decode cX11_way 25 = .ok (.getfield 152, 3) := by decide +kernel
theorem dX11_way_28 : decode cX11_way 28 = .ok (.iload_n 1, 1) := by decide +kernel
theorem dX11_way_29 : decode cX11_way 29 = .ok (.iload_n 2, 1) := by decide +kernel
theorem dX11_way_30 : decode cX11_way 30 = .ok (.invokevirtual 311, 3) := by decide +kernel
theorem dX11_way_33 : decode cX11_way 33 = .ok (.istore 4, 2) := by decide +kernel
theorem dX11_way_35 : decode cX11_way 35 = .ok (.iload 4, 2) := by decide +kernel
theorem dX11_way_37 : decode cX11_way 37 = .ok (.iconst (-1), 1) := by decide +kernel
theorem dX11_way_38 : decode cX11_way 38 = .ok (.if_icmp .ne 12, 3) := by decide +kernel
theorem dX11_way_41 : decode cX11_way 41 = .ok (.aload_n 0, 1) := by decide +kernel
theorem dX11_way_42 : decode cX11_way 42 = .ok (.bipush 8, 2) := by decide +kernel
theorem dX11_way_44 : decode cX11_way 44 = .ok (.invokevirtual 121, 3) := by decide +kernel
theorem dX11_way_47 : decode cX11_way 47 = .ok (.goto 9, 3) := by decide +kernel
theorem dX11_way_50 : decode cX11_way 50 = .ok (.aload_n 0, 1) := by decide +kernel
theorem dX11_way_51 : decode cX11_way 51 = .ok (.iload 4, 2) := by decide +kernel
theorem dX11_way_53 : decode cX11_way 53 = .ok (.invokevirtual 182, 3) := by decide +kernel
theorem dX11_way_56 : decode cX11_way 56 = .ok (.ireturn, 1) := by decide +kernel
theorem dX11_wayAt_0 : decode cX11_wayAt 0 = .ok (.aload_n 0, 1) := by decide +kernel
theorem dX11_wayAt_1 : decode cX11_wayAt 1 = .ok (.iload_n 1, 1) := by decide +kernel
theorem dX11_wayAt_2 : decode cX11_wayAt 2 = .ok (.iload_n 2, 1) := by decide +kernel
theorem dX11_wayAt_3 : decode cX11_wayAt 3 = .ok (.invokevirtual 308, 3) := by decide +kernel
theorem dX11_wayAt_6 : decode cX11_wayAt 6 = .ok (.istore 5, 2) := by decide +kernel
theorem dX11_wayAt_8 : decode cX11_wayAt 8 = .ok (.iload 5, 2) := by decide +kernel
theorem dX11_wayAt_10 : decode cX11_wayAt 10 = .ok (.ifCond .eq 10, 3) := by decide +kernel
theorem dX11_wayAt_13 : decode cX11_wayAt 13 = .ok (.aload_n 0, 1) := by decide +kernel
theorem dX11_wayAt_14 : decode cX11_wayAt 14 = .ok (.iload 5, 2) := by decide +kernel
theorem dX11_wayAt_16 : decode cX11_wayAt 16 = .ok (.invokevirtual 121, 3) := by decide +kernel
theorem dX11_wayAt_19 : decode cX11_wayAt 19 = .ok (.ireturn, 1) := by decide +kernel
theorem dX11_wayAt_20 : decode cX11_wayAt 20 = .ok (.iload 4, 2) := by decide +kernel
theorem dX11_wayAt_22 : decode cX11_wayAt 22 = .ok (.ifCond .lt 9, 3) := by decide +kernel
theorem dX11_wayAt_25 : decode cX11_wayAt 25 = .ok (.iload 4, 2) := by decide +kernel
theorem dX11_wayAt_27 : decode cX11_wayAt 27 = .ok (.iconst 2, 1) := by decide +kernel
theorem dX11_wayAt_28 : decode cX11_wayAt 28 = .ok (.if_icmp .le 9, 3) := by decide +kernel
theorem dX11_wayAt_31 : decode cX11_wayAt 31 = .ok (.aload_n 0, 1) := by decide +kernel
theorem dX11_wayAt_32 : decode cX11_wayAt 32 = .ok (.iconst 5, 1) := by decide +kernel
theorem dX11_wayAt_33 : decode cX11_wayAt 33 = .ok (.invokevirtual 121, 3) := by decide +kernel
theorem dX11_wayAt_36 : decode cX11_wayAt 36 = .ok (.ireturn, 1) := by decide +kernel
theorem dX11_wayAt_37 : decode cX11_wayAt 37 = .ok (.aload_n 0, 1) := by decide +kernel
theorem dX11_wayAt_38 : decode cX11_wayAt 38 = .ok (.getfield 63, 3) := by decide +kernel
theorem dX11_wayAt_41 : decode cX11_wayAt 41 = .ok (.aload_n 0, 1) := by decide +kernel
theorem dX11_wayAt_42 : decode cX11_wayAt 42 = .ok (.getfield 39, 3) := by decide +kernel
theorem dX11_wayAt_45 : decode cX11_wayAt 45 = .ok (.getfield 152, 3) := by decide +kernel
theorem dX11_wayAt_48 : decode cX11_wayAt 48 = .ok (.iload_n 1, 1) := by decide +kernel
theorem dX11_wayAt_49 : decode cX11_wayAt 49 = .ok (.iload_n 2, 1) := by decide +kernel
theorem dX11_wayAt_50 : decode cX11_wayAt 50 = .ok (.invokevirtual 311, 3) := by decide +kernel
theorem dX11_wayAt_53 : decode cX11_wayAt 53 = .ok (.istore 6, 2) := by decide +kernel
theorem dX11_wayAt_55 : decode cX11_wayAt 55 = .ok (.iload_n 3, 1) := by decide +kernel
theorem dX11_wayAt_56 : decode cX11_wayAt 56 = .ok (.ifCond .lt 9, 3) := by decide +kernel
theorem dX11_wayAt_59 : decode cX11_wayAt 59 = .ok (.iload_n 3, 1) := by decide +kernel
theorem dX11_wayAt_60 : decode cX11_wayAt 60 = .ok (.iload 6, 2) := by decide +kernel
theorem dX11_wayAt_62 : decode cX11_wayAt 62 = .ok (.if_icmp .lt 10, 3) := by decide +kernel
theorem dX11_wayAt_65 : decode cX11_wayAt 65 = .ok (.aload_n 0, 1) := by decide +kernel
theorem dX11_wayAt_66 : decode cX11_wayAt 66 = .ok (.bipush 8, 2) := by decide +kernel
theorem dX11_wayAt_68 : decode cX11_wayAt 68 = .ok (.invokevirtual 121, 3) := by decide +kernel
theorem dX11_wayAt_71 : decode cX11_wayAt 71 = .ok (.ireturn, 1) := by decide +kernel
theorem dX11_wayAt_72 : decode cX11_wayAt 72 = .ok (.aload_n 0, 1) := by decide +kernel
theorem dX11_wayAt_73 : decode cX11_wayAt 73 = .ok (.aload_n 0, 1) := by decide +kernel
theorem dX11_wayAt_74 : decode cX11_wayAt 74 = .ok (.getfield 63, 3) := by decide +kernel
theorem dX11_wayAt_77 : decode cX11_wayAt 77 = .ok (.iload_n 1, 1) := by decide +kernel
theorem dX11_wayAt_78 : decode cX11_wayAt 78 = .ok (.iload_n 3, 1) := by decide +kernel
theorem dX11_wayAt_79 : decode cX11_wayAt 79 = .ok (.iload 4, 2) := by decide +kernel
theorem dX11_wayAt_81 : decode cX11_wayAt 81 = .ok (.invokevirtual 315, 3) := by decide +kernel
theorem dX11_wayAt_84 : decode cX11_wayAt 84 = .ok (.invokevirtual 182, 3) := by decide +kernel
theorem dX11_wayAt_87 : decode cX11_wayAt 87 = .ok (.ireturn, 1) := by decide +kernel
theorem dX11_from_0 : decode cX11_from 0 = .ok (.aload_n 0, 1) := by decide +kernel
theorem dX11_from_1 : decode cX11_from 1 = .ok (.getfield 39, 3) := by decide +kernel
theorem dX11_from_4 : decode cX11_from 4 = .ok (.getfield 152, 3) := by decide +kernel
theorem dX11_from_7 : decode cX11_from 7 = .ok (.iload_n 1, 1) := by decide +kernel
theorem dX11_from_8 : decode cX11_from 8 = .ok (.invokevirtual 289, 3) := by decide +kernel
theorem dX11_from_11 : decode cX11_from 11 = .ok (.ifCond .ne 9, 3) := by decide +kernel
theorem dX11_from_14 : decode cX11_from 14 = .ok (.aload_n 0, 1) := by decide +kernel
theorem dX11_from_15 : decode cX11_from 15 = .ok (.iconst 2, 1) := by decide +kernel
theorem dX11_from_16 : decode cX11_from 16 = .ok (.invokevirtual 121, 3) := by decide +kernel
theorem dX11_from_19 : decode cX11_from 19 = .ok (.ireturn, 1) := by decide +kernel
theorem dX11_from_20 : decode cX11_from 20 = .ok (.aload_n 0, 1) := by decide +kernel
theorem dX11_from_21 : decode cX11_from 21 = .ok (.getfield 63, 3) := by decide +kernel
theorem dX11_from_24 : decode cX11_from 24 = .ok (.aload_n 0, 1) := by decide +kernel
theorem dX11_from_25 : decode cX11_from 25 = .ok (.getfield 39, 3) := by decide +kernel
theorem dX11_from_28 : decode cX11_from 28 = .ok (.getfield 152, 3) := by decide +kernel
theorem dX11_from_31 : decode cX11_from 31 = .ok (.invokevirtual 319, 3) := by decide +kernel
theorem dX11_from_34 : decode cX11_from 34 = .ok (.aload_n 0, 1) := by decide +kernel
theorem dX11_from_35 : decode cX11_from 35 = .ok (.aload_n 0, 1) := by decide +kernel
theorem dX11_from_36 : decode cX11_from 36 = .ok (.getfield 63, 3) := by decide +kernel
theorem dX11_from_39 : decode cX11_from 39 = .ok (.iload_n 1, 1) := by decide +kernel
theorem dX11_from_40 : decode cX11_from 40 = .ok (.invokevirtual 322, 3) := by decide +kernel
theorem dX11_from_43 : decode cX11_from 43 = .ok (.invokevirtual 182, 3) := by decide +kernel
theorem dX11_from_46 : decode cX11_from 46 = .ok (.ireturn, 1) := by decide +kernel
theorem dX11_commonDivisor_0 : decode cX11_commonDivisor 0 = .ok (.lload_n 0, 1) := by decide +kernel
theorem dX11_commonDivisor_1 : decode cX11_commonDivisor 1 = .ok (.lstore 4, 2) := by decide +kernel
theorem dX11_commonDivisor_3 : decode cX11_commonDivisor 3 = .ok (.lload_n 2, 1) := by decide +kernel
theorem dX11_commonDivisor_4 : decode cX11_commonDivisor 4 = .ok (.lstore 6, 2) := by decide +kernel
theorem dX11_commonDivisor_6 : decode cX11_commonDivisor 6 = .ok (.iconst 0, 1) := by decide +kernel
theorem dX11_commonDivisor_7 : decode cX11_commonDivisor 7 = .ok (.istore 8, 2) := by decide +kernel
theorem dX11_commonDivisor_9 : decode cX11_commonDivisor 9 = .ok (.iload 8, 2) := by decide +kernel
theorem dX11_commonDivisor_11 : decode cX11_commonDivisor 11 = .ok (.sipush 200, 3) := by decide +kernel
theorem dX11_commonDivisor_14 : decode cX11_commonDivisor 14 = .ok (.if_icmp .ge 31, 3) := by decide +kernel
theorem dX11_commonDivisor_17 : decode cX11_commonDivisor 17 = .ok (.lload 6, 2) := by decide +kernel
theorem dX11_commonDivisor_19 : decode cX11_commonDivisor 19 = .ok (.lconst 0, 1) := by decide +kernel
theorem dX11_commonDivisor_20 : decode cX11_commonDivisor 20 = .ok (.lcmp, 1) := by decide +kernel
theorem dX11_commonDivisor_21 : decode cX11_commonDivisor 21 = .ok (.ifCond .eq 24, 3) := by decide +kernel
theorem dX11_commonDivisor_24 : decode cX11_commonDivisor 24 = .ok (.lload 4, 2) := by decide +kernel
theorem dX11_commonDivisor_26 : decode cX11_commonDivisor 26 = .ok (.lload 6, 2) := by decide +kernel
theorem dX11_commonDivisor_28 : decode cX11_commonDivisor 28 = .ok (.lrem, 1) := by decide +kernel
theorem dX11_commonDivisor_29 : decode cX11_commonDivisor 29 = .ok (.lstore 9, 2) := by decide +kernel
theorem dX11_commonDivisor_31 : decode cX11_commonDivisor 31 = .ok (.lload 6, 2) := by decide +kernel
theorem dX11_commonDivisor_33 : decode cX11_commonDivisor 33 = .ok (.lstore 4, 2) := by decide +kernel
theorem dX11_commonDivisor_35 : decode cX11_commonDivisor 35 = .ok (.lload 9, 2) := by decide +kernel
theorem dX11_commonDivisor_37 : decode cX11_commonDivisor 37 = .ok (.lstore 6, 2) := by decide +kernel
theorem dX11_commonDivisor_39 : decode cX11_commonDivisor 39 = .ok (.iinc 8 1, 3) := by decide +kernel
theorem dX11_commonDivisor_42 : decode cX11_commonDivisor 42 = .ok (.goto (-33), 3) := by decide +kernel
theorem dX11_commonDivisor_45 : decode cX11_commonDivisor 45 = .ok (.lload 4, 2) := by decide +kernel
theorem dX11_commonDivisor_47 : decode cX11_commonDivisor 47 = .ok (.lreturn, 1) := by decide +kernel
theorem dX11_tell_0 : decode cX11_tell 0 = .ok (.lload_n 1, 1) := by decide +kernel
theorem dX11_tell_1 : decode cX11_tell 1 = .ok (.lload_n 3, 1) := by decide +kernel
theorem dX11_tell_2 : decode cX11_tell 2 = .ok (.invokestatic 419, 3) := by decide +kernel
theorem dX11_tell_5 : decode cX11_tell 5 = .ok (.lstore 5, 2) := by decide +kernel
theorem dX11_tell_7 : decode cX11_tell 7 = .ok (.lload 5, 2) := by decide +kernel
theorem dX11_tell_9 : decode cX11_tell 9 = .ok (.lconst 0, 1) := by decide +kernel
theorem dX11_tell_10 : decode cX11_tell 10 = .ok (.lcmp, 1) := by decide +kernel
theorem dX11_tell_11 : decode cX11_tell 11 = .ok (.ifCond .le 19, 3) := by decide +kernel
theorem dX11_tell_14 : decode cX11_tell 14 = .ok (.aload_n 0, 1) := by decide +kernel
theorem dX11_tell_15 : decode cX11_tell 15 = .ok (.lload_n 1, 1) := by decide +kernel
theorem dX11_tell_16 : decode cX11_tell 16 = .ok (.lload 5, 2) := by decide +kernel
theorem dX11_tell_18 : decode cX11_tell 18 = .ok (.ldiv, 1) := by decide +kernel
theorem dX11_tell_19 : decode cX11_tell 19 = .ok (.putfield 95, 3) := by decide +kernel
theorem dX11_tell_22 : decode cX11_tell 22 = .ok (.aload_n 0, 1) := by decide +kernel
theorem dX11_tell_23 : decode cX11_tell 23 = .ok (.lload_n 3, 1) := by decide +kernel
theorem dX11_tell_24 : decode cX11_tell 24 = .ok (.lload 5, 2) := by decide +kernel
theorem dX11_tell_26 : decode cX11_tell 26 = .ok (.ldiv, 1) := by decide +kernel
theorem dX11_tell_27 : decode cX11_tell 27 = .ok (.putfield 81, 3) := by decide +kernel
theorem dX11_tell_30 : decode cX11_tell 30 = .ok (.aload_n 0, 1) := by decide +kernel
theorem dX11_tell_31 : decode cX11_tell 31 = .ok (.invokevirtual 109, 3) := by decide +kernel
theorem dX11_tell_34 : decode cX11_tell 34 = .ok (.ireturn, 1) := by decide +kernel
theorem dX11_oddsThat_0 : decode cX11_oddsThat 0 = .ok (.aload_n 0, 1) := by decide +kernel
theorem dX11_oddsThat_1 : decode cX11_oddsThat 1 = .ok (.getfield 39, 3) := by decide +kernel
theorem dX11_oddsThat_4 : decode cX11_oddsThat 4 = .ok (.getfield 152, 3) := by decide +kernel
theorem dX11_oddsThat_7 : decode cX11_oddsThat 7 = .ok (.iload_n 1, 1) := by decide +kernel
theorem dX11_oddsThat_8 : decode cX11_oddsThat 8 = .ok (.invokevirtual 289, 3) := by decide +kernel
theorem dX11_oddsThat_11 : decode cX11_oddsThat 11 = .ok (.ifCond .eq 17, 3) := by decide +kernel
theorem dX11_oddsThat_14 : decode cX11_oddsThat 14 = .ok (.aload_n 0, 1) := by decide +kernel
theorem dX11_oddsThat_15 : decode cX11_oddsThat 15 = .ok (.getfield 39, 3) := by decide +kernel
theorem dX11_oddsThat_18 : decode cX11_oddsThat 18 = .ok (.getfield 152, 3) := by decide +kernel
theorem dX11_oddsThat_21 : decode cX11_oddsThat 21 = .ok (.iload_n 2, 1) := by decide +kernel
theorem dX11_oddsThat_22 : decode cX11_oddsThat 22 = .ok (.invokevirtual 235, 3) := by decide +kernel
theorem dX11_oddsThat_25 : decode cX11_oddsThat 25 = .ok (.ifCond .ne 9, 3) := by decide +kernel
theorem dX11_oddsThat_28 : decode cX11_oddsThat 28 = .ok (.aload_n 0, 1) := by decide +kernel
theorem dX11_oddsThat_29 : decode cX11_oddsThat 29 = .ok (.iconst 2, 1) := by decide +kernel
theorem dX11_oddsThat_30 : decode cX11_oddsThat 30 = .ok (.invokevirtual 102, 3) := by decide +kernel
theorem dX11_oddsThat_33 : decode cX11_oddsThat 33 = .ok (.ireturn, 1) := by decide +kernel
theorem dX11_oddsThat_34 : decode cX11_oddsThat 34 = .ok (.aload_n 0, 1) := by decide +kernel
theorem dX11_oddsThat_35 : decode cX11_oddsThat 35 = .ok (.getfield 63, 3) := by decide +kernel
theorem dX11_oddsThat_38 : decode cX11_oddsThat 38 = .ok (.aload_n 0, 1) := by decide +kernel
theorem dX11_oddsThat_39 : decode cX11_oddsThat 39 = .ok (.getfield 39, 3) := by decide +kernel
theorem dX11_oddsThat_42 : decode cX11_oddsThat 42 = .ok (.getfield 152, 3) := by decide +kernel
theorem dX11_oddsThat_45 : decode cX11_oddsThat 45 = .ok (.invokevirtual 319, 3) := by decide +kernel
theorem dX11_oddsThat_48 : decode cX11_oddsThat 48 = .ok (.aload_n 0, 1) := by decide +kernel
theorem dX11_oddsThat_49 : decode cX11_oddsThat 49 = .ok (.getfield 63, 3) := by decide +kernel
theorem dX11_oddsThat_52 : decode cX11_oddsThat 52 = .ok (.iload_n 1, 1) := by decide +kernel
theorem dX11_oddsThat_53 : decode cX11_oddsThat 53 = .ok (.invokevirtual 322, 3) := by decide +kernel
theorem dX11_oddsThat_56 : decode cX11_oddsThat 56 = .ok (.istore_n 3, 1) := by decide +kernel
theorem dX11_oddsThat_57 : decode cX11_oddsThat 57 = .ok (.iload_n 3, 1) := by decide +kernel
theorem dX11_oddsThat_58 : decode cX11_oddsThat 58 = .ok (.ifCond .ne 10, 3) := by decide +kernel
theorem dX11_oddsThat_61 : decode cX11_oddsThat 61 = .ok (.aload_n 0, 1) := by decide +kernel
theorem dX11_oddsThat_62 : decode cX11_oddsThat 62 = .ok (.bipush 8, 2) := by decide +kernel
theorem dX11_oddsThat_64 : decode cX11_oddsThat 64 = .ok (.invokevirtual 102, 3) := by decide +kernel
theorem dX11_oddsThat_67 : decode cX11_oddsThat 67 = .ok (.ireturn, 1) := by decide +kernel
theorem dX11_oddsThat_68 : decode cX11_oddsThat 68 = .ok (.aload_n 0, 1) := by decide +kernel
theorem dX11_oddsThat_69 : decode cX11_oddsThat 69 = .ok (.aload_n 0, 1) := by decide +kernel
theorem dX11_oddsThat_70 : decode cX11_oddsThat 70 = .ok (.getfield 63, 3) := by decide +kernel
theorem dX11_oddsThat_73 : decode cX11_oddsThat 73 = .ok (.iload_n 1, 1) := by decide +kernel
theorem dX11_oddsThat_74 : decode cX11_oddsThat 74 = .ok (.iload_n 2, 1) := by decide +kernel
theorem dX11_oddsThat_75 : decode cX11_oddsThat 75 = .ok (.invokevirtual 325, 3) := by decide +kernel
theorem dX11_oddsThat_78 : decode cX11_oddsThat 78 = .ok (.i2l, 1) := by decide +kernel
theorem dX11_oddsThat_79 : decode cX11_oddsThat 79 = .ok (.iload_n 3, 1) := by decide +kernel
theorem dX11_oddsThat_80 : decode cX11_oddsThat 80 = .ok (.i2l, 1) := by decide +kernel
theorem dX11_oddsThat_81 : decode cX11_oddsThat 81 = .ok (.invokevirtual 328, 3) := by decide +kernel
theorem dX11_oddsThat_84 : decode cX11_oddsThat 84 = .ok (.ireturn, 1) := by decide +kernel
theorem dX11_lawStatus_0 : decode cX11_lawStatus 0 = .ok (.iload_n 1, 1) := by decide +kernel
theorem dX11_lawStatus_1 : decode cX11_lawStatus 1 = .ok (.invokestatic 98, 3) := by decide +kernel
theorem dX11_lawStatus_4 : decode cX11_lawStatus 4 = .ok (.ifCond .ne 5, 3) := by decide +kernel
theorem dX11_lawStatus_7 : decode cX11_lawStatus 7 = .ok (.iconst 1, 1) := by decide +kernel
theorem dX11_lawStatus_8 : decode cX11_lawStatus 8 = .ok (.ireturn, 1) := by decide +kernel
theorem dX11_lawStatus_9 : decode cX11_lawStatus 9 = .ok (.aload_n 0, 1) := by decide +kernel
theorem dX11_lawStatus_10 : decode cX11_lawStatus 10 = .ok (.getfield 11, 3) := by decide +kernel
theorem dX11_lawStatus_13 : decode cX11_lawStatus 13 = .ok (.iload_n 1, 1) := by decide +kernel
theorem dX11_lawStatus_14 : decode cX11_lawStatus 14 = .ok (.aaload, 1) := by decide +kernel
theorem dX11_lawStatus_15 : decode cX11_lawStatus 15 = .ok (.astore_n 3, 1) := by decide +kernel
theorem dX11_lawStatus_16 : decode cX11_lawStatus 16 = .ok (.aload_n 3, 1) := by decide +kernel
theorem dX11_lawStatus_17 : decode cX11_lawStatus 17 = .ok (.invokevirtual 129, 3) := by decide +kernel
theorem dX11_lawStatus_20 : decode cX11_lawStatus 20 = .ok (.ifCond .eq 5, 3) := by decide +kernel
theorem dX11_lawStatus_23 : decode cX11_lawStatus 23 = .ok (.iconst 3, 1) := by decide +kernel
theorem dX11_lawStatus_24 : decode cX11_lawStatus 24 = .ok (.ireturn, 1) := by decide +kernel
theorem dX11_lawStatus_25 : decode cX11_lawStatus 25 = .ok (.iload_n 2, 1) := by decide +kernel
theorem dX11_lawStatus_26 : decode cX11_lawStatus 26 = .ok (.aload_n 3, 1) := by decide +kernel
theorem dX11_lawStatus_27 : decode cX11_lawStatus 27 = .ok (.getfield 265, 3) := by decide +kernel
theorem dX11_lawStatus_30 : decode cX11_lawStatus 30 = .ok (.iconst 2, 1) := by decide +kernel
theorem dX11_lawStatus_31 : decode cX11_lawStatus 31 = .ok (.idiv, 1) := by decide +kernel
theorem dX11_lawStatus_32 : decode cX11_lawStatus 32 = .ok (.if_icmp .le 5, 3) := by decide +kernel
theorem dX11_lawStatus_35 : decode cX11_lawStatus 35 = .ok (.iconst 4, 1) := by decide +kernel
theorem dX11_lawStatus_36 : decode cX11_lawStatus 36 = .ok (.ireturn, 1) := by decide +kernel
theorem dX11_lawStatus_37 : decode cX11_lawStatus 37 = .ok (.iload_n 2, 1) := by decide +kernel
theorem dX11_lawStatus_38 : decode cX11_lawStatus 38 = .ok (.ifCond .lt 9, 3) := by decide +kernel
theorem dX11_lawStatus_41 : decode cX11_lawStatus 41 = .ok (.iload_n 2, 1) := by decide +kernel
theorem dX11_lawStatus_42 : decode cX11_lawStatus 42 = .ok (.bipush 20, 2) := by decide +kernel
theorem dX11_lawStatus_44 : decode cX11_lawStatus 44 = .ok (.if_icmp .le 5, 3) := by decide +kernel
theorem dX11_lawStatus_47 : decode cX11_lawStatus 47 = .ok (.iconst 5, 1) := by decide +kernel
theorem dX11_lawStatus_48 : decode cX11_lawStatus 48 = .ok (.ireturn, 1) := by decide +kernel
theorem dX11_lawStatus_49 : decode cX11_lawStatus 49 = .ok (.iconst 0, 1) := by decide +kernel
theorem dX11_lawStatus_50 : decode cX11_lawStatus 50 = .ok (.istore 4, 2) := by decide +kernel
theorem dX11_lawStatus_52 : decode cX11_lawStatus 52 = .ok (.iload 4, 2) := by decide +kernel
theorem dX11_lawStatus_54 : decode cX11_lawStatus 54 = .ok (.iload_n 2, 1) := by decide +kernel
theorem dX11_lawStatus_55 : decode cX11_lawStatus 55 = .ok (.if_icmp .ge 67, 3) := by decide +kernel
theorem dX11_lawStatus_58 : decode cX11_lawStatus 58 = .ok (.aload_n 3, 1) := by decide +kernel
theorem dX11_lawStatus_59 : decode cX11_lawStatus 59 = .ok (.getfield 125, 3) := by decide +kernel
theorem dX11_lawStatus_62 : decode cX11_lawStatus 62 = .ok (.iconst 2, 1) := by decide +kernel
theorem dX11_lawStatus_63 : decode cX11_lawStatus 63 = .ok (.iload 4, 2) := by decide +kernel
theorem dX11_lawStatus_65 : decode cX11_lawStatus 65 = .ok (.imul, 1) := by decide +kernel
theorem dX11_lawStatus_66 : decode cX11_lawStatus 66 = .ok (.laload, 1) := by decide +kernel
theorem dX11_lawStatus_67 : decode cX11_lawStatus 67 = .ok (.lstore 5, 2) := by decide +kernel
theorem dX11_lawStatus_69 : decode cX11_lawStatus 69 = .ok (.aload_n 3, 1) := by decide +kernel
theorem dX11_lawStatus_70 : decode cX11_lawStatus 70 = .ok (.getfield 125, 3) := by decide +kernel
theorem dX11_lawStatus_73 : decode cX11_lawStatus 73 = .ok (.iconst 2, 1) := by decide +kernel
theorem dX11_lawStatus_74 : decode cX11_lawStatus 74 = .ok (.iload 4, 2) := by decide +kernel
theorem dX11_lawStatus_76 : decode cX11_lawStatus 76 = .ok (.imul, 1) := by decide +kernel
theorem dX11_lawStatus_77 : decode cX11_lawStatus 77 = .ok (.iconst 1, 1) := by decide +kernel
theorem dX11_lawStatus_78 : decode cX11_lawStatus 78 = .ok (.iadd, 1) := by decide +kernel
theorem dX11_lawStatus_79 : decode cX11_lawStatus 79 = .ok (.laload, 1) := by decide +kernel
theorem dX11_lawStatus_80 : decode cX11_lawStatus 80 = .ok (.lstore 7, 2) := by decide +kernel
theorem dX11_lawStatus_82 : decode cX11_lawStatus 82 = .ok (.lload 5, 2) := by decide +kernel
theorem dX11_lawStatus_84 : decode cX11_lawStatus 84 = .ok (.lconst 1, 1) := by decide +kernel
theorem dX11_lawStatus_85 : decode cX11_lawStatus 85 = .ok (.lcmp, 1) := by decide +kernel
theorem dX11_lawStatus_86 : decode cX11_lawStatus 86 = .ok (.ifCond .lt 28, 3) := by decide +kernel
theorem dX11_lawStatus_89 : decode cX11_lawStatus 89 = .ok (.lload 5, 2) := by decide +kernel
theorem dX11_lawStatus_91 : decode cX11_lawStatus 91 = .ok (.ldc2_w 429, 3) := by decide +kernel
theorem dX11_lawStatus_94 : decode cX11_lawStatus 94 = .ok (.lcmp, 1) := by decide +kernel
theorem dX11_lawStatus_95 : decode cX11_lawStatus 95 = .ok (.ifCond .gt 19, 3) := by decide +kernel
theorem dX11_lawStatus_98 : decode cX11_lawStatus 98 = .ok (.lload 7, 2) := by decide +kernel
theorem dX11_lawStatus_100 : decode cX11_lawStatus 100 = .ok (.lconst 0, 1) := by decide +kernel
theorem dX11_lawStatus_101 : decode cX11_lawStatus 101 = .ok (.lcmp, 1) := by decide +kernel
theorem dX11_lawStatus_102 : decode cX11_lawStatus 102 = .ok (.ifCond .lt 12, 3) := by decide +kernel
theorem dX11_lawStatus_105 : decode cX11_lawStatus 105 = .ok (.lload 7, 2) := by decide +kernel
theorem dX11_lawStatus_107 : decode cX11_lawStatus 107 = .ok (.ldc2_w 429, 3) := by decide +kernel
theorem dX11_lawStatus_110 : decode cX11_lawStatus 110 = .ok (.lcmp, 1) := by decide +kernel
theorem dX11_lawStatus_111 : decode cX11_lawStatus 111 = .ok (.ifCond .le 5, 3) := by decide +kernel
theorem dX11_lawStatus_114 : decode cX11_lawStatus 114 = .ok (.iconst 5, 1) := by decide +kernel
theorem dX11_lawStatus_115 : decode cX11_lawStatus 115 = .ok (.ireturn, 1) := by decide +kernel
theorem dX11_lawStatus_116 : decode cX11_lawStatus 116 = .ok (.iinc 4 1, 3) := by decide +kernel
theorem dX11_lawStatus_119 : decode cX11_lawStatus 119 = .ok (.goto (-67), 3) := by decide +kernel
theorem dX11_lawStatus_122 : decode cX11_lawStatus 122 = .ok (.iconst 0, 1) := by decide +kernel
theorem dX11_lawStatus_123 : decode cX11_lawStatus 123 = .ok (.ireturn, 1) := by decide +kernel
theorem dX11_landsBy_0 : decode cX11_landsBy 0 = .ok (.iload_n 0, 1) := by decide +kernel
theorem dX11_landsBy_1 : decode cX11_landsBy 1 = .ok (.bipush 8, 2) := by decide +kernel
theorem dX11_landsBy_3 : decode cX11_landsBy 3 = .ok (.idiv, 1) := by decide +kernel
theorem dX11_landsBy_4 : decode cX11_landsBy 4 = .ok (.iload_n 1, 1) := by decide +kernel
theorem dX11_landsBy_5 : decode cX11_landsBy 5 = .ok (.imul, 1) := by decide +kernel
theorem dX11_landsBy_6 : decode cX11_landsBy 6 = .ok (.iload_n 0, 1) := by decide +kernel
theorem dX11_landsBy_7 : decode cX11_landsBy 7 = .ok (.bipush 8, 2) := by decide +kernel
theorem dX11_landsBy_9 : decode cX11_landsBy 9 = .ok (.irem, 1) := by decide +kernel
theorem dX11_landsBy_10 : decode cX11_landsBy 10 = .ok (.iadd, 1) := by decide +kernel
theorem dX11_landsBy_11 : decode cX11_landsBy 11 = .ok (.iconst 4, 1) := by decide +kernel
theorem dX11_landsBy_12 : decode cX11_landsBy 12 = .ok (.idiv, 1) := by decide +kernel
theorem dX11_landsBy_13 : decode cX11_landsBy 13 = .ok (.istore_n 2, 1) := by decide +kernel
theorem dX11_landsBy_14 : decode cX11_landsBy 14 = .ok (.iconst 0, 1) := by decide +kernel
theorem dX11_landsBy_15 : decode cX11_landsBy 15 = .ok (.iload_n 1, 1) := by decide +kernel
theorem dX11_landsBy_16 : decode cX11_landsBy 16 = .ok (.iload_n 2, 1) := by decide +kernel
theorem dX11_landsBy_17 : decode cX11_landsBy 17 = .ok (.isub, 1) := by decide +kernel
theorem dX11_landsBy_18 : decode cX11_landsBy 18 = .ok (.invokestatic 434, 3) := by decide +kernel
theorem dX11_landsBy_21 : decode cX11_landsBy 21 = .ok (.ireturn, 1) := by decide +kernel
theorem dX11_fittingLaws_0 : decode cX11_fittingLaws 0 = .ok (.iconst 0, 1) := by decide +kernel
theorem dX11_fittingLaws_1 : decode cX11_fittingLaws 1 = .ok (.istore_n 2, 1) := by decide +kernel
theorem dX11_fittingLaws_2 : decode cX11_fittingLaws 2 = .ok (.iconst 0, 1) := by decide +kernel
theorem dX11_fittingLaws_3 : decode cX11_fittingLaws 3 = .ok (.istore_n 3, 1) := by decide +kernel
theorem dX11_fittingLaws_4 : decode cX11_fittingLaws 4 = .ok (.iload_n 3, 1) := by decide +kernel
theorem dX11_fittingLaws_5 : decode cX11_fittingLaws 5 = .ok (.bipush 32, 2) := by decide +kernel
theorem dX11_fittingLaws_7 : decode cX11_fittingLaws 7 = .ok (.if_icmp .ge 80, 3) := by decide +kernel
theorem dX11_fittingLaws_10 : decode cX11_fittingLaws 10 = .ok (.iconst 1, 1) := by decide +kernel
theorem dX11_fittingLaws_11 : decode cX11_fittingLaws 11 = .ok (.istore 4, 2) := by decide +kernel
theorem dX11_fittingLaws_13 : decode cX11_fittingLaws 13 = .ok (.iconst 0, 1) := by decide +kernel
theorem dX11_fittingLaws_14 : decode cX11_fittingLaws 14 = .ok (.istore 5, 2) := by decide +kernel
theorem dX11_fittingLaws_16 : decode cX11_fittingLaws 16 = .ok (.iload 5, 2) := by decide +kernel
theorem dX11_fittingLaws_18 : decode cX11_fittingLaws 18 = .ok (.iload_n 1, 1) := by decide +kernel
theorem dX11_fittingLaws_19 : decode cX11_fittingLaws 19 = .ok (.if_icmp .ge 51, 3) := by decide +kernel
theorem dX11_fittingLaws_22 : decode cX11_fittingLaws 22 = .ok (.iload 4, 2) := by decide +kernel
theorem dX11_fittingLaws_24 : decode cX11_fittingLaws 24 = .ok (.ifCond .eq 46, 3) := by decide +kernel
theorem dX11_fittingLaws_27 : decode cX11_fittingLaws 27 = .ok (.iload_n 3, 1) := by decide +kernel
theorem dX11_fittingLaws_28 : decode cX11_fittingLaws 28 = .ok (.aload_n 0, 1) := by decide +kernel
theorem dX11_fittingLaws_29 : decode cX11_fittingLaws 29 = .ok (.getfield 125, 3) := by decide +kernel
theorem dX11_fittingLaws_32 : decode cX11_fittingLaws 32 = .ok (.iconst 2, 1) := by decide +kernel
theorem dX11_fittingLaws_33 : decode cX11_fittingLaws 33 = .ok (.iload 5, 2) := by decide +kernel
theorem dX11_fittingLaws_35 : decode cX11_fittingLaws 35 = .ok (.imul, 1) := by decide +kernel
theorem dX11_fittingLaws_36 : decode cX11_fittingLaws 36 = .ok (.laload, 1) := by decide +kernel
theorem dX11_fittingLaws_37 : decode cX11_fittingLaws 37 = .ok (.l2i, 1) := by decide +kernel
theorem dX11_fittingLaws_38 : decode cX11_fittingLaws 38 = .ok (.invokestatic 431, 3) := by decide +kernel
theorem dX11_fittingLaws_41 : decode cX11_fittingLaws 41 = .ok (.i2l, 1) := by decide +kernel
theorem dX11_fittingLaws_42 : decode cX11_fittingLaws 42 = .ok (.aload_n 0, 1) := by decide +kernel
theorem dX11_fittingLaws_43 : decode cX11_fittingLaws 43 = .ok (.getfield 125, 3) := by decide +kernel
theorem dX11_fittingLaws_46 : decode cX11_fittingLaws 46 = .ok (.iconst 2, 1) := by decide +kernel
theorem dX11_fittingLaws_47 : decode cX11_fittingLaws 47 = .ok (.iload 5, 2) := by decide +kernel
theorem dX11_fittingLaws_49 : decode cX11_fittingLaws 49 = .ok (.imul, 1) := by decide +kernel
theorem dX11_fittingLaws_50 : decode cX11_fittingLaws 50 = .ok (.iconst 1, 1) := by decide +kernel
theorem dX11_fittingLaws_51 : decode cX11_fittingLaws 51 = .ok (.iadd, 1) := by decide +kernel
theorem dX11_fittingLaws_52 : decode cX11_fittingLaws 52 = .ok (.laload, 1) := by decide +kernel
theorem dX11_fittingLaws_53 : decode cX11_fittingLaws 53 = .ok (.lcmp, 1) := by decide +kernel
theorem dX11_fittingLaws_54 : decode cX11_fittingLaws 54 = .ok (.ifCond .ne 7, 3) := by decide +kernel
theorem dX11_fittingLaws_57 : decode cX11_fittingLaws 57 = .ok (.iconst 1, 1) := by decide +kernel
theorem dX11_fittingLaws_58 : decode cX11_fittingLaws 58 = .ok (.goto 4, 3) := by decide +kernel
theorem dX11_fittingLaws_61 : decode cX11_fittingLaws 61 = .ok (.iconst 0, 1) := by decide +kernel
theorem dX11_fittingLaws_62 : decode cX11_fittingLaws 62 = .ok (.istore 4, 2) := by decide +kernel
theorem dX11_fittingLaws_64 : decode cX11_fittingLaws 64 = .ok (.iinc 5 1, 3) := by decide +kernel
theorem dX11_fittingLaws_67 : decode cX11_fittingLaws 67 = .ok (.goto (-51), 3) := by decide +kernel
theorem dX11_fittingLaws_70 : decode cX11_fittingLaws 70 = .ok (.iload 4, 2) := by decide +kernel
theorem dX11_fittingLaws_72 : decode cX11_fittingLaws 72 = .ok (.ifCond .eq 9, 3) := by decide +kernel
theorem dX11_fittingLaws_75 : decode cX11_fittingLaws 75 = .ok (.iload_n 2, 1) := by decide +kernel
theorem dX11_fittingLaws_76 : decode cX11_fittingLaws 76 = .ok (.iconst 1, 1) := by decide +kernel
theorem dX11_fittingLaws_77 : decode cX11_fittingLaws 77 = .ok (.iload_n 3, 1) := by decide +kernel
theorem dX11_fittingLaws_78 : decode cX11_fittingLaws 78 = .ok (.ishl, 1) := by decide +kernel
theorem dX11_fittingLaws_79 : decode cX11_fittingLaws 79 = .ok (.ior, 1) := by decide +kernel
theorem dX11_fittingLaws_80 : decode cX11_fittingLaws 80 = .ok (.istore_n 2, 1) := by decide +kernel
theorem dX11_fittingLaws_81 : decode cX11_fittingLaws 81 = .ok (.iinc 3 1, 3) := by decide +kernel
theorem dX11_fittingLaws_84 : decode cX11_fittingLaws 84 = .ok (.goto (-80), 3) := by decide +kernel
theorem dX11_fittingLaws_87 : decode cX11_fittingLaws 87 = .ok (.iload_n 2, 1) := by decide +kernel
theorem dX11_fittingLaws_88 : decode cX11_fittingLaws 88 = .ok (.ireturn, 1) := by decide +kernel
theorem dX11_laws_0 : decode cX11_laws 0 = .ok (.aload_n 0, 1) := by decide +kernel
theorem dX11_laws_1 : decode cX11_laws 1 = .ok (.iload_n 1, 1) := by decide +kernel
theorem dX11_laws_2 : decode cX11_laws 2 = .ok (.iload_n 2, 1) := by decide +kernel
theorem dX11_laws_3 : decode cX11_laws 3 = .ok (.invokevirtual 332, 3) := by decide +kernel
theorem dX11_laws_6 : decode cX11_laws 6 = .ok (.istore_n 3, 1) := by decide +kernel
theorem dX11_laws_7 : decode cX11_laws 7 = .ok (.iload_n 3, 1) := by decide +kernel
theorem dX11_laws_8 : decode cX11_laws 8 = .ok (.ifCond .eq 9, 3) := by decide +kernel
theorem dX11_laws_11 : decode cX11_laws 11 = .ok (.aload_n 0, 1) := by decide +kernel
theorem dX11_laws_12 : decode cX11_laws 12 = .ok (.iload_n 3, 1) := by decide +kernel
theorem dX11_laws_13 : decode cX11_laws 13 = .ok (.invokevirtual 121, 3) := by decide +kernel
theorem dX11_laws_16 : decode cX11_laws 16 = .ok (.ireturn, 1) := by decide +kernel
theorem dX11_laws_17 : decode cX11_laws 17 = .ok (.aload_n 0, 1) := by decide +kernel
theorem dX11_laws_18 : decode cX11_laws 18 = .ok (.aload_n 0, 1) := by decide +kernel
theorem dX11_laws_19 : decode cX11_laws 19 = .ok (.getfield 11, 3) := by decide +kernel
theorem dX11_laws_22 : decode cX11_laws 22 = .ok (.iload_n 1, 1) := by decide +kernel
theorem dX11_laws_23 : decode cX11_laws 23 = .ok (.aaload, 1) := by decide +kernel
theorem dX11_laws_24 : decode cX11_laws 24 = .ok (.iload_n 2, 1) := by decide +kernel
theorem dX11_laws_25 : decode cX11_laws 25 = .ok (.invokestatic 335, 3) := by decide +kernel
theorem dX11_laws_28 : decode cX11_laws 28 = .ok (.invokestatic 284, 3) := by decide +kernel
theorem dX11_laws_31 : decode cX11_laws 31 = .ok (.invokevirtual 182, 3) := by decide +kernel
theorem dX11_laws_34 : decode cX11_laws 34 = .ok (.ireturn, 1) := by decide +kernel
theorem dX11_lawOf_0 : decode cX11_lawOf 0 = .ok (.aload_n 0, 1) := by decide +kernel
theorem dX11_lawOf_1 : decode cX11_lawOf 1 = .ok (.iload_n 1, 1) := by decide +kernel
theorem dX11_lawOf_2 : decode cX11_lawOf 2 = .ok (.iload_n 2, 1) := by decide +kernel
theorem dX11_lawOf_3 : decode cX11_lawOf 3 = .ok (.invokevirtual 332, 3) := by decide +kernel
theorem dX11_lawOf_6 : decode cX11_lawOf 6 = .ok (.istore 4, 2) := by decide +kernel
theorem dX11_lawOf_8 : decode cX11_lawOf 8 = .ok (.iload 4, 2) := by decide +kernel
theorem dX11_lawOf_10 : decode cX11_lawOf 10 = .ok (.ifCond .eq 10, 3) := by decide +kernel
theorem dX11_lawOf_13 : decode cX11_lawOf 13 = .ok (.aload_n 0, 1) := by decide +kernel
theorem dX11_lawOf_14 : decode cX11_lawOf 14 = .ok (.iload 4, 2) := by decide +kernel
theorem dX11_lawOf_16 : decode cX11_lawOf 16 = .ok (.invokevirtual 121, 3) := by decide +kernel
theorem dX11_lawOf_19 : decode cX11_lawOf 19 = .ok (.ireturn, 1) := by decide +kernel
theorem dX11_lawOf_20 : decode cX11_lawOf 20 = .ok (.iload_n 3, 1) := by decide +kernel
theorem dX11_lawOf_21 : decode cX11_lawOf 21 = .ok (.ifCond .lt 8, 3) := by decide +kernel
theorem dX11_lawOf_24 : decode cX11_lawOf 24 = .ok (.iload_n 3, 1) := by decide +kernel
theorem dX11_lawOf_25 : decode cX11_lawOf 25 = .ok (.iconst 1, 1) := by decide +kernel
theorem dX11_lawOf_26 : decode cX11_lawOf 26 = .ok (.if_icmp .le 9, 3) := by decide +kernel
theorem dX11_lawOf_29 : decode cX11_lawOf 29 = .ok (.aload_n 0, 1) := by decide +kernel
theorem dX11_lawOf_30 : decode cX11_lawOf 30 = .ok (.iconst 5, 1) := by decide +kernel
theorem dX11_lawOf_31 : decode cX11_lawOf 31 = .ok (.invokevirtual 121, 3) := by decide +kernel
theorem dX11_lawOf_34 : decode cX11_lawOf 34 = .ok (.ireturn, 1) := by decide +kernel
theorem dX11_lawOf_35 : decode cX11_lawOf 35 = .ok (.aload_n 0, 1) := by decide +kernel
theorem dX11_lawOf_36 : decode cX11_lawOf 36 = .ok (.getfield 11, 3) := by decide +kernel
theorem dX11_lawOf_39 : decode cX11_lawOf 39 = .ok (.iload_n 1, 1) := by decide +kernel
theorem dX11_lawOf_40 : decode cX11_lawOf 40 = .ok (.aaload, 1) := by decide +kernel
theorem dX11_lawOf_41 : decode cX11_lawOf 41 = .ok (.iload_n 2, 1) := by decide +kernel
theorem dX11_lawOf_42 : decode cX11_lawOf 42 = .ok (.invokestatic 335, 3) := by decide +kernel
theorem dX11_lawOf_45 : decode cX11_lawOf 45 = .ok (.istore 5, 2) := by decide +kernel
theorem dX11_lawOf_47 : decode cX11_lawOf 47 = .ok (.iconst 0, 1) := by decide +kernel
theorem dX11_lawOf_48 : decode cX11_lawOf 48 = .ok (.istore 6, 2) := by decide +kernel
theorem dX11_lawOf_50 : decode cX11_lawOf 50 = .ok (.iload 6, 2) := by decide +kernel
theorem dX11_lawOf_52 : decode cX11_lawOf 52 = .ok (.bipush 32, 2) := by decide +kernel
theorem dX11_lawOf_54 : decode cX11_lawOf 54 = .ok (.if_icmp .ge 41, 3) := by decide +kernel
theorem dX11_lawOf_57 : decode cX11_lawOf 57 = .ok (.iload 5, 2) := by decide +kernel
theorem dX11_lawOf_59 : decode cX11_lawOf 59 = .ok (.iload 6, 2) := by decide +kernel
theorem dX11_lawOf_61 : decode cX11_lawOf 61 = .ok (.ishr, 1) := by decide +kernel
theorem dX11_lawOf_62 : decode cX11_lawOf 62 = .ok (.iconst 1, 1) := by decide +kernel
theorem dX11_lawOf_63 : decode cX11_lawOf 63 = .ok (.iand, 1) := by decide +kernel
theorem dX11_lawOf_64 : decode cX11_lawOf 64 = .ok (.ifCond .eq 25, 3) := by decide +kernel
theorem dX11_lawOf_67 : decode cX11_lawOf 67 = .ok (.aload_n 0, 1) := by decide +kernel
theorem dX11_lawOf_68 : decode cX11_lawOf 68 = .ok (.iload_n 3, 1) := by decide +kernel
theorem dX11_lawOf_69 : decode cX11_lawOf 69 = .ok (.ifCond .ne 11, 3) := by decide +kernel
theorem dX11_lawOf_72 : decode cX11_lawOf 72 = .ok (.iload 6, 2) := by decide +kernel
theorem dX11_lawOf_74 : decode cX11_lawOf 74 = .ok (.bipush 8, 2) := by decide +kernel
theorem dX11_lawOf_76 : decode cX11_lawOf 76 = .ok (.idiv, 1) := by decide +kernel
theorem dX11_lawOf_77 : decode cX11_lawOf 77 = .ok (.goto 8, 3) := by decide +kernel
theorem dX11_lawOf_80 : decode cX11_lawOf 80 = .ok (.iload 6, 2) := by decide +kernel
theorem dX11_lawOf_82 : decode cX11_lawOf 82 = .ok (.bipush 8, 2) := by decide +kernel
theorem dX11_lawOf_84 : decode cX11_lawOf 84 = .ok (.irem, 1) := by decide +kernel
theorem dX11_lawOf_85 : decode cX11_lawOf 85 = .ok (.invokevirtual 182, 3) := by decide +kernel
theorem dX11_lawOf_88 : decode cX11_lawOf 88 = .ok (.ireturn, 1) := by decide +kernel
theorem dX11_lawOf_89 : decode cX11_lawOf 89 = .ok (.iinc 6 1, 3) := by decide +kernel
theorem dX11_lawOf_92 : decode cX11_lawOf 92 = .ok (.goto (-42), 3) := by decide +kernel
theorem dX11_lawOf_95 : decode cX11_lawOf 95 = .ok (.aload_n 0, 1) := by decide +kernel
theorem dX11_lawOf_96 : decode cX11_lawOf 96 = .ok (.bipush 8, 2) := by decide +kernel
theorem dX11_lawOf_98 : decode cX11_lawOf 98 = .ok (.invokevirtual 121, 3) := by decide +kernel
theorem dX11_lawOf_101 : decode cX11_lawOf 101 = .ok (.ireturn, 1) := by decide +kernel
theorem dX11_mostAtOne_0 : decode cX11_mostAtOne 0 = .ok (.iconst 0, 1) := by decide +kernel
theorem dX11_mostAtOne_1 : decode cX11_mostAtOne 1 = .ok (.istore_n 2, 1) := by decide +kernel
theorem dX11_mostAtOne_2 : decode cX11_mostAtOne 2 = .ok (.iconst 0, 1) := by decide +kernel
theorem dX11_mostAtOne_3 : decode cX11_mostAtOne 3 = .ok (.istore_n 3, 1) := by decide +kernel
theorem dX11_mostAtOne_4 : decode cX11_mostAtOne 4 = .ok (.iload_n 3, 1) := by decide +kernel
theorem dX11_mostAtOne_5 : decode cX11_mostAtOne 5 = .ok (.iload_n 1, 1) := by decide +kernel
theorem dX11_mostAtOne_6 : decode cX11_mostAtOne 6 = .ok (.if_icmp .gt 57, 3) := by decide +kernel
theorem dX11_mostAtOne_9 : decode cX11_mostAtOne 9 = .ok (.iconst 0, 1) := by decide +kernel
theorem dX11_mostAtOne_10 : decode cX11_mostAtOne 10 = .ok (.istore 4, 2) := by decide +kernel
theorem dX11_mostAtOne_12 : decode cX11_mostAtOne 12 = .ok (.iconst 0, 1) := by decide +kernel
theorem dX11_mostAtOne_13 : decode cX11_mostAtOne 13 = .ok (.istore 5, 2) := by decide +kernel
theorem dX11_mostAtOne_15 : decode cX11_mostAtOne 15 = .ok (.iload 5, 2) := by decide +kernel
theorem dX11_mostAtOne_17 : decode cX11_mostAtOne 17 = .ok (.bipush 32, 2) := by decide +kernel
theorem dX11_mostAtOne_19 : decode cX11_mostAtOne 19 = .ok (.if_icmp .ge 31, 3) := by decide +kernel
theorem dX11_mostAtOne_22 : decode cX11_mostAtOne 22 = .ok (.iload_n 0, 1) := by decide +kernel
theorem dX11_mostAtOne_23 : decode cX11_mostAtOne 23 = .ok (.iload 5, 2) := by decide +kernel
theorem dX11_mostAtOne_25 : decode cX11_mostAtOne 25 = .ok (.ishr, 1) := by decide +kernel
theorem dX11_mostAtOne_26 : decode cX11_mostAtOne 26 = .ok (.iconst 1, 1) := by decide +kernel
theorem dX11_mostAtOne_27 : decode cX11_mostAtOne 27 = .ok (.iand, 1) := by decide +kernel
theorem dX11_mostAtOne_28 : decode cX11_mostAtOne 28 = .ok (.ifCond .eq 16, 3) := by decide +kernel
theorem dX11_mostAtOne_31 : decode cX11_mostAtOne 31 = .ok (.iload 5, 2) := by decide +kernel
theorem dX11_mostAtOne_33 : decode cX11_mostAtOne 33 = .ok (.iload_n 1, 1) := by decide +kernel
theorem dX11_mostAtOne_34 : decode cX11_mostAtOne 34 = .ok (.invokestatic 431, 3) := by decide +kernel
theorem dX11_mostAtOne_37 : decode cX11_mostAtOne 37 = .ok (.iload_n 3, 1) := by decide +kernel
theorem dX11_mostAtOne_38 : decode cX11_mostAtOne 38 = .ok (.if_icmp .ne 6, 3) := by decide +kernel
theorem dX11_mostAtOne_41 : decode cX11_mostAtOne 41 = .ok (.iinc 4 1, 3) := by decide +kernel
theorem dX11_mostAtOne_44 : decode cX11_mostAtOne 44 = .ok (.iinc 5 1, 3) := by decide +kernel
theorem dX11_mostAtOne_47 : decode cX11_mostAtOne 47 = .ok (.goto (-32), 3) := by decide +kernel
theorem dX11_mostAtOne_50 : decode cX11_mostAtOne 50 = .ok (.iload_n 2, 1) := by decide +kernel
theorem dX11_mostAtOne_51 : decode cX11_mostAtOne 51 = .ok (.iload 4, 2) := by decide +kernel
theorem dX11_mostAtOne_53 : decode cX11_mostAtOne 53 = .ok (.invokestatic 434, 3) := by decide +kernel
theorem dX11_mostAtOne_56 : decode cX11_mostAtOne 56 = .ok (.istore_n 2, 1) := by decide +kernel
theorem dX11_mostAtOne_57 : decode cX11_mostAtOne 57 = .ok (.iinc 3 1, 3) := by decide +kernel
theorem dX11_mostAtOne_60 : decode cX11_mostAtOne 60 = .ok (.goto (-56), 3) := by decide +kernel
theorem dX11_mostAtOne_63 : decode cX11_mostAtOne 63 = .ok (.iload_n 2, 1) := by decide +kernel
theorem dX11_mostAtOne_64 : decode cX11_mostAtOne 64 = .ok (.ireturn, 1) := by decide +kernel
theorem dX11_ask_0 : decode cX11_ask 0 = .ok (.aload_n 0, 1) := by decide +kernel
theorem dX11_ask_1 : decode cX11_ask 1 = .ok (.iload_n 1, 1) := by decide +kernel
theorem dX11_ask_2 : decode cX11_ask 2 = .ok (.iload_n 2, 1) := by decide +kernel
theorem dX11_ask_3 : decode cX11_ask 3 = .ok (.invokevirtual 332, 3) := by decide +kernel
theorem dX11_ask_6 : decode cX11_ask 6 = .ok (.istore_n 3, 1) := by decide +kernel
theorem dX11_ask_7 : decode cX11_ask 7 = .ok (.iload_n 3, 1) := by decide +kernel
theorem dX11_ask_8 : decode cX11_ask 8 = .ok (.ifCond .eq 9, 3) := by decide +kernel
theorem dX11_ask_11 : decode cX11_ask 11 = .ok (.aload_n 0, 1) := by decide +kernel
theorem dX11_ask_12 : decode cX11_ask 12 = .ok (.iload_n 3, 1) := by decide +kernel
theorem dX11_ask_13 : decode cX11_ask 13 = .ok (.invokevirtual 121, 3) := by decide +kernel
theorem dX11_ask_16 : decode cX11_ask 16 = .ok (.ireturn, 1) := by decide +kernel
theorem dX11_ask_17 : decode cX11_ask 17 = .ok (.aload_n 0, 1) := by decide +kernel
theorem dX11_ask_18 : decode cX11_ask 18 = .ok (.getfield 11, 3) := by decide +kernel
theorem dX11_ask_21 : decode cX11_ask 21 = .ok (.iload_n 1, 1) := by decide +kernel
theorem dX11_ask_22 : decode cX11_ask 22 = .ok (.aaload, 1) := by decide +kernel
theorem dX11_ask_23 : decode cX11_ask 23 = .ok (.iload_n 2, 1) := by decide +kernel
theorem dX11_ask_24 : decode cX11_ask 24 = .ok (.invokestatic 335, 3) := by decide +kernel
theorem dX11_ask_27 : decode cX11_ask 27 = .ok (.istore 4, 2) := by decide +kernel
theorem dX11_ask_29 : decode cX11_ask 29 = .ok (.iload 4, 2) := by decide +kernel
theorem dX11_ask_31 : decode cX11_ask 31 = .ok (.invokestatic 284, 3) := by decide +kernel
theorem dX11_ask_34 : decode cX11_ask 34 = .ok (.iconst 2, 1) := by decide +kernel
theorem dX11_ask_35 : decode cX11_ask 35 = .ok (.if_icmp .ge 10, 3) := by decide +kernel
theorem dX11_ask_38 : decode cX11_ask 38 = .ok (.aload_n 0, 1) := by decide +kernel
theorem dX11_ask_39 : decode cX11_ask 39 = .ok (.bipush 8, 2) := by decide +kernel
theorem dX11_ask_41 : decode cX11_ask 41 = .ok (.invokevirtual 121, 3) := by decide +kernel
theorem dX11_ask_44 : decode cX11_ask 44 = .ok (.ireturn, 1) := by decide +kernel
theorem dX11_ask_45 : decode cX11_ask 45 = .ok (.iconst 1, 1) := by decide +kernel
theorem dX11_ask_46 : decode cX11_ask 46 = .ok (.istore 5, 2) := by decide +kernel
theorem dX11_ask_48 : decode cX11_ask 48 = .ok (.iload 4, 2) := by decide +kernel
theorem dX11_ask_50 : decode cX11_ask 50 = .ok (.iconst 1, 1) := by decide +kernel
theorem dX11_ask_51 : decode cX11_ask 51 = .ok (.invokestatic 339, 3) := by decide +kernel
theorem dX11_ask_54 : decode cX11_ask 54 = .ok (.istore 6, 2) := by decide +kernel
theorem dX11_ask_56 : decode cX11_ask 56 = .ok (.iconst 2, 1) := by decide +kernel
theorem dX11_ask_57 : decode cX11_ask 57 = .ok (.istore 7, 2) := by decide +kernel
theorem dX11_ask_59 : decode cX11_ask 59 = .ok (.iload 7, 2) := by decide +kernel
theorem dX11_ask_61 : decode cX11_ask 61 = .ok (.bipush 9, 2) := by decide +kernel
theorem dX11_ask_63 : decode cX11_ask 63 = .ok (.if_icmp .gt 33, 3) := by decide +kernel
theorem dX11_ask_66 : decode cX11_ask 66 = .ok (.iload 4, 2) := by decide +kernel
theorem dX11_ask_68 : decode cX11_ask 68 = .ok (.iload 7, 2) := by decide +kernel
theorem dX11_ask_70 : decode cX11_ask 70 = .ok (.invokestatic 339, 3) := by decide +kernel
theorem dX11_ask_73 : decode cX11_ask 73 = .ok (.istore 8, 2) := by decide +kernel
theorem dX11_ask_75 : decode cX11_ask 75 = .ok (.iload 8, 2) := by decide +kernel
theorem dX11_ask_77 : decode cX11_ask 77 = .ok (.iload 6, 2) := by decide +kernel
theorem dX11_ask_79 : decode cX11_ask 79 = .ok (.if_icmp .ge 11, 3) := by decide +kernel
theorem dX11_ask_82 : decode cX11_ask 82 = .ok (.iload 8, 2) := by decide +kernel
theorem dX11_ask_84 : decode cX11_ask 84 = .ok (.istore 6, 2) := by decide +kernel
theorem dX11_ask_86 : decode cX11_ask 86 = .ok (.iload 7, 2) := by decide +kernel
theorem dX11_ask_88 : decode cX11_ask 88 = .ok (.istore 5, 2) := by decide +kernel
theorem dX11_ask_90 : decode cX11_ask 90 = .ok (.iinc 7 1, 3) := by decide +kernel
theorem dX11_ask_93 : decode cX11_ask 93 = .ok (.goto (-34), 3) := by decide +kernel
theorem dX11_ask_96 : decode cX11_ask 96 = .ok (.aload_n 0, 1) := by decide +kernel
theorem dX11_ask_97 : decode cX11_ask 97 = .ok (.iload 5, 2) := by decide +kernel
theorem dX11_ask_99 : decode cX11_ask 99 = .ok (.invokevirtual 182, 3) := by decide +kernel
theorem dX11_ask_102 : decode cX11_ask 102 = .ok (.ireturn, 1) := by decide +kernel
theorem dX11_fallStatus_0 : decode cX11_fallStatus 0 = .ok (.aload_n 0, 1) := by decide +kernel
theorem dX11_fallStatus_1 : decode cX11_fallStatus 1 = .ok (.getfield 39, 3) := by decide +kernel
theorem dX11_fallStatus_4 : decode cX11_fallStatus 4 = .ok (.getfield 152, 3) := by decide +kernel
theorem dX11_fallStatus_7 : decode cX11_fallStatus 7 = .ok (.iload_n 1, 1) := by decide +kernel
theorem dX11_fallStatus_8 : decode cX11_fallStatus 8 = .ok (.invokevirtual 244, 3) := by decide +kernel
theorem dX11_fallStatus_11 : decode cX11_fallStatus 11 = .ok (.ifCond .eq 17, 3) := by decide +kernel
theorem dX11_fallStatus_14 : decode cX11_fallStatus 14 = .ok (.aload_n 0, 1) := by decide +kernel
theorem dX11_fallStatus_15 : decode cX11_fallStatus 15 = .ok (.getfield 39, 3) := by decide +kernel
theorem dX11_fallStatus_18 : decode cX11_fallStatus 18 = .ok (.getfield 152, 3) := by decide +kernel
theorem dX11_fallStatus_21 : decode cX11_fallStatus 21 = .ok (.iload_n 2, 1) := by decide +kernel
theorem dX11_fallStatus_22 : decode cX11_fallStatus 22 = .ok (.invokevirtual 289, 3) := by decide +kernel
theorem dX11_fallStatus_25 : decode cX11_fallStatus 25 = .ok (.ifCond .ne 5, 3) := by decide +kernel
theorem dX11_fallStatus_28 : decode cX11_fallStatus 28 = .ok (.iconst 2, 1) := by decide +kernel
theorem dX11_fallStatus_29 : decode cX11_fallStatus 29 = .ok (.ireturn, 1) := by decide +kernel
theorem dX11_fallStatus_30 : decode cX11_fallStatus 30 = .ok (.iload_n 2, 1) := by decide +kernel
theorem dX11_fallStatus_31 : decode cX11_fallStatus 31 = .ok (.ifCond .ne 7, 3) := by decide +kernel
theorem dX11_fallStatus_34 : decode cX11_fallStatus 34 = .ok (.iconst 5, 1) := by decide +kernel
theorem dX11_fallStatus_35 : decode cX11_fallStatus 35 = .ok (.goto 4, 3) := by decide +kernel
theorem dX11_fallStatus_38 : decode cX11_fallStatus 38 = .ok (.iconst 0, 1) := by decide +kernel
theorem dX11_fallStatus_39 : decode cX11_fallStatus 39 = .ok (.ireturn, 1) := by decide +kernel
theorem dX11_best_0 : decode cX11_best 0 = .ok (.aload_n 0, 1) := by decide +kernel
theorem dX11_best_1 : decode cX11_best 1 = .ok (.iload_n 1, 1) := by decide +kernel
theorem dX11_best_2 : decode cX11_best 2 = .ok (.iload_n 2, 1) := by decide +kernel
theorem dX11_best_3 : decode cX11_best 3 = .ok (.invokevirtual 342, 3) := by decide +kernel
theorem dX11_best_6 : decode cX11_best 6 = .ok (.istore_n 3, 1) := by decide +kernel
theorem dX11_best_7 : decode cX11_best 7 = .ok (.iload_n 3, 1) := by decide +kernel
theorem dX11_best_8 : decode cX11_best 8 = .ok (.ifCond .eq 9, 3) := by decide +kernel
theorem dX11_best_11 : decode cX11_best 11 = .ok (.aload_n 0, 1) := by decide +kernel
theorem dX11_best_12 : decode cX11_best 12 = .ok (.iload_n 3, 1) := by decide +kernel
theorem dX11_best_13 : decode cX11_best 13 = .ok (.invokevirtual 102, 3) := by decide +kernel
theorem dX11_best_16 : decode cX11_best 16 = .ok (.ireturn, 1) := by decide +kernel
theorem dX11_best_17 : decode cX11_best 17 = .ok (.aload_n 0, 1) := by decide +kernel
theorem dX11_best_18 : decode cX11_best 18 = .ok (.getfield 77, 3) := by decide +kernel
theorem dX11_best_21 : decode cX11_best 21 = .ok (.aload_n 0, 1) := by decide +kernel
theorem dX11_best_22 : decode cX11_best 22 = .ok (.getfield 39, 3) := by decide +kernel
theorem dX11_best_25 : decode cX11_best 25 = .ok (.getfield 152, 3) := by decide +kernel
theorem dX11_best_28 : decode cX11_best 28 = .ok (.iload_n 1, 1) := by decide +kernel
theorem dX11_best_29 : decode cX11_best 29 = .ok (.invokevirtual 345, 3) := by decide +kernel
theorem dX11_best_32 : decode cX11_best 32 = .ok (.aload_n 0, 1) := by decide +kernel
theorem dX11_best_33 : decode cX11_best 33 = .ok (.aload_n 0, 1) := by decide +kernel
theorem dX11_best_34 : decode cX11_best 34 = .ok (.getfield 77, 3) := by decide +kernel
theorem dX11_best_37 : decode cX11_best 37 = .ok (.getfield 349, 3) := by decide +kernel
theorem dX11_best_40 : decode cX11_best 40 = .ok (.iload_n 2, 1) := by decide +kernel
theorem dX11_best_41 : decode cX11_best 41 = .ok (.laload, 1) := by decide +kernel
theorem dX11_best_42 : decode cX11_best 42 = .ok (.lconst 1, 1) := by decide +kernel
theorem dX11_best_43 : decode cX11_best 43 = .ok (.iconst 4, 1) := by decide +kernel
theorem dX11_best_44 : decode cX11_best 44 = .ok (.iload_n 2, 1) := by decide +kernel
theorem dX11_best_45 : decode cX11_best 45 = .ok (.imul, 1) := by decide +kernel
theorem dX11_best_46 : decode cX11_best 46 = .ok (.lshl, 1) := by decide +kernel
theorem dX11_best_47 : decode cX11_best 47 = .ok (.invokevirtual 328, 3) := by decide +kernel
theorem dX11_best_50 : decode cX11_best 50 = .ok (.ireturn, 1) := by decide +kernel
theorem dX11_bestAt_0 : decode cX11_bestAt 0 = .ok (.aload_n 0, 1) := by decide +kernel
theorem dX11_bestAt_1 : decode cX11_bestAt 1 = .ok (.iload_n 1, 1) := by decide +kernel
theorem dX11_bestAt_2 : decode cX11_bestAt 2 = .ok (.iload_n 2, 1) := by decide +kernel
theorem dX11_bestAt_3 : decode cX11_bestAt 3 = .ok (.invokevirtual 342, 3) := by decide +kernel
theorem dX11_bestAt_6 : decode cX11_bestAt 6 = .ok (.istore_n 3, 1) := by decide +kernel
theorem dX11_bestAt_7 : decode cX11_bestAt 7 = .ok (.iload_n 3, 1) := by decide +kernel
theorem dX11_bestAt_8 : decode cX11_bestAt 8 = .ok (.ifCond .eq 9, 3) := by decide +kernel
theorem dX11_bestAt_11 : decode cX11_bestAt 11 = .ok (.aload_n 0, 1) := by decide +kernel
theorem dX11_bestAt_12 : decode cX11_bestAt 12 = .ok (.iload_n 3, 1) := by decide +kernel
theorem dX11_bestAt_13 : decode cX11_bestAt 13 = .ok (.invokevirtual 121, 3) := by decide +kernel
theorem dX11_bestAt_16 : decode cX11_bestAt 16 = .ok (.ireturn, 1) := by decide +kernel
theorem dX11_bestAt_17 : decode cX11_bestAt 17 = .ok (.aload_n 0, 1) := by decide +kernel
theorem dX11_bestAt_18 : decode cX11_bestAt 18 = .ok (.getfield 77, 3) := by decide +kernel
theorem dX11_bestAt_21 : decode cX11_bestAt 21 = .ok (.aload_n 0, 1) := by decide +kernel
theorem dX11_bestAt_22 : decode cX11_bestAt 22 = .ok (.getfield 39, 3) := by decide +kernel
theorem dX11_bestAt_25 : decode cX11_bestAt 25 = .ok (.getfield 152, 3) := by decide +kernel
theorem dX11_bestAt_28 : decode cX11_bestAt 28 = .ok (.iload_n 1, 1) := by decide +kernel
theorem dX11_bestAt_29 : decode cX11_bestAt 29 = .ok (.invokevirtual 345, 3) := by decide +kernel
theorem dX11_bestAt_32 : decode cX11_bestAt 32 = .ok (.aload_n 0, 1) := by decide +kernel
theorem dX11_bestAt_33 : decode cX11_bestAt 33 = .ok (.aload_n 0, 1) := by decide +kernel
theorem dX11_bestAt_34 : decode cX11_bestAt 34 = .ok (.getfield 77, 3) := by decide +kernel
theorem dX11_bestAt_37 : decode cX11_bestAt 37 = .ok (.iload_n 2, 1) := by decide +kernel
theorem dX11_bestAt_38 : decode cX11_bestAt 38 = .ok (.invokevirtual 352, 3) := by decide +kernel
theorem dX11_bestAt_41 : decode cX11_bestAt 41 = .ok (.invokevirtual 182, 3) := by decide +kernel
theorem dX11_bestAt_44 : decode cX11_bestAt 44 = .ok (.ireturn, 1) := by decide +kernel
theorem dX11_peace_0 : decode cX11_peace 0 = .ok (.aload_n 0, 1) := by decide +kernel
theorem dX11_peace_1 : decode cX11_peace 1 = .ok (.getfield 70, 3) := by decide +kernel
theorem dX11_peace_4 : decode cX11_peace 4 = .ok (.aload_n 0, 1) := by decide +kernel
theorem dX11_peace_5 : decode cX11_peace 5 = .ok (.getfield 39, 3) := by decide +kernel
theorem dX11_peace_8 : decode cX11_peace 8 = .ok (.getfield 152, 3) := by decide +kernel
theorem dX11_peace_11 : decode cX11_peace 11 = .ok (.invokevirtual 355, 3) := by decide +kernel
theorem dX11_peace_14 : decode cX11_peace 14 = .ok (.aload_n 0, 1) := by decide +kernel
theorem dX11_peace_15 : decode cX11_peace 15 = .ok (.aload_n 0, 1) := by decide +kernel
theorem dX11_peace_16 : decode cX11_peace 16 = .ok (.getfield 70, 3) := by decide +kernel
theorem dX11_peace_19 : decode cX11_peace 19 = .ok (.invokevirtual 357, 3) := by decide +kernel
theorem dX11_peace_22 : decode cX11_peace 22 = .ok (.invokevirtual 182, 3) := by decide +kernel
theorem dX11_peace_25 : decode cX11_peace 25 = .ok (.ireturn, 1) := by decide +kernel
theorem dX11_quarrels_0 : decode cX11_quarrels 0 = .ok (.iload_n 1, 1) := by decide +kernel
theorem dX11_quarrels_1 : decode cX11_quarrels 1 = .ok (.iconst 1, 1) := by decide +kernel
theorem dX11_quarrels_2 : decode cX11_quarrels 2 = .ok (.if_icmp .lt 8, 3) := by decide +kernel
theorem dX11_quarrels_5 : decode cX11_quarrels 5 = .ok (.iload_n 1, 1) := by decide +kernel
theorem dX11_quarrels_6 : decode cX11_quarrels 6 = .ok (.iconst 4, 1) := by decide +kernel
theorem dX11_quarrels_7 : decode cX11_quarrels 7 = .ok (.if_icmp .le 9, 3) := by decide +kernel
theorem dX11_quarrels_10 : decode cX11_quarrels 10 = .ok (.aload_n 0, 1) := by decide +kernel
theorem dX11_quarrels_11 : decode cX11_quarrels 11 = .ok (.iconst 5, 1) := by decide +kernel
theorem dX11_quarrels_12 : decode cX11_quarrels 12 = .ok (.invokevirtual 121, 3) := by decide +kernel
theorem dX11_quarrels_15 : decode cX11_quarrels 15 = .ok (.ireturn, 1) := by decide +kernel
theorem dX11_quarrels_16 : decode cX11_quarrels 16 = .ok (.aload_n 0, 1) := by decide +kernel
theorem dX11_quarrels_17 : decode cX11_quarrels 17 = .ok (.getfield 70, 3) := by decide +kernel
theorem dX11_quarrels_20 : decode cX11_quarrels 20 = .ok (.aload_n 0, 1) := by decide +kernel
theorem dX11_quarrels_21 : decode cX11_quarrels 21 = .ok (.getfield 39, 3) := by decide +kernel
theorem dX11_quarrels_24 : decode cX11_quarrels 24 = .ok (.getfield 152, 3) := by decide +kernel
theorem dX11_quarrels_27 : decode cX11_quarrels 27 = .ok (.invokevirtual 355, 3) := by decide +kernel
theorem dX11_quarrels_30 : decode cX11_quarrels 30 = .ok (.aload_n 0, 1) := by decide +kernel
theorem dX11_quarrels_31 : decode cX11_quarrels 31 = .ok (.aload_n 0, 1) := by decide +kernel
theorem dX11_quarrels_32 : decode cX11_quarrels 32 = .ok (.getfield 70, 3) := by decide +kernel
theorem dX11_quarrels_35 : decode cX11_quarrels 35 = .ok (.iload_n 1, 1) := by decide +kernel
theorem dX11_quarrels_36 : decode cX11_quarrels 36 = .ok (.invokevirtual 360, 3) := by decide +kernel
theorem dX11_quarrels_39 : decode cX11_quarrels 39 = .ok (.invokevirtual 182, 3) := by decide +kernel
theorem dX11_quarrels_42 : decode cX11_quarrels 42 = .ok (.ireturn, 1) := by decide +kernel
theorem dX11_spread_0 : decode cX11_spread 0 = .ok (.aload_n 0, 1) := by decide +kernel
theorem dX11_spread_1 : decode cX11_spread 1 = .ok (.getfield 39, 3) := by decide +kernel
theorem dX11_spread_4 : decode cX11_spread 4 = .ok (.getfield 152, 3) := by decide +kernel
theorem dX11_spread_7 : decode cX11_spread 7 = .ok (.iload_n 2, 1) := by decide +kernel
theorem dX11_spread_8 : decode cX11_spread 8 = .ok (.invokevirtual 244, 3) := by decide +kernel
theorem dX11_spread_11 : decode cX11_spread 11 = .ok (.ifCond .ne 9, 3) := by decide +kernel
theorem dX11_spread_14 : decode cX11_spread 14 = .ok (.aload_n 0, 1) := by decide +kernel
theorem dX11_spread_15 : decode cX11_spread 15 = .ok (.iconst 2, 1) := by decide +kernel
theorem dX11_spread_16 : decode cX11_spread 16 = .ok (.invokevirtual 121, 3) := by decide +kernel
theorem dX11_spread_19 : decode cX11_spread 19 = .ok (.ireturn, 1) := by decide +kernel
theorem dX11_spread_20 : decode cX11_spread 20 = .ok (.iload_n 1, 1) := by decide +kernel
theorem dX11_spread_21 : decode cX11_spread 21 = .ok (.iconst 1, 1) := by decide +kernel
theorem dX11_spread_22 : decode cX11_spread 22 = .ok (.if_icmp .lt 8, 3) := by decide +kernel
theorem dX11_spread_25 : decode cX11_spread 25 = .ok (.iload_n 1, 1) := by decide +kernel
theorem dX11_spread_26 : decode cX11_spread 26 = .ok (.iconst 4, 1) := by decide +kernel
theorem dX11_spread_27 : decode cX11_spread 27 = .ok (.if_icmp .le 9, 3) := by decide +kernel
theorem dX11_spread_30 : decode cX11_spread 30 = .ok (.aload_n 0, 1) := by decide +kernel
theorem dX11_spread_31 : decode cX11_spread 31 = .ok (.iconst 5, 1) := by decide +kernel
theorem dX11_spread_32 : decode cX11_spread 32 = .ok (.invokevirtual 121, 3) := by decide +kernel
theorem dX11_spread_35 : decode cX11_spread 35 = .ok (.ireturn, 1) := by decide +kernel
theorem dX11_spread_36 : decode cX11_spread 36 = .ok (.aload_n 0, 1) := by decide +kernel
theorem dX11_spread_37 : decode cX11_spread 37 = .ok (.getfield 70, 3) := by decide +kernel
theorem dX11_spread_40 : decode cX11_spread 40 = .ok (.aload_n 0, 1) := by decide +kernel
theorem dX11_spread_41 : decode cX11_spread 41 = .ok (.getfield 39, 3) := by decide +kernel
theorem dX11_spread_44 : decode cX11_spread 44 = .ok (.getfield 152, 3) := by decide +kernel
theorem dX11_spread_47 : decode cX11_spread 47 = .ok (.invokevirtual 355, 3) := by decide +kernel
theorem dX11_spread_50 : decode cX11_spread 50 = .ok (.aload_n 0, 1) := by decide +kernel
theorem dX11_spread_51 : decode cX11_spread 51 = .ok (.getfield 70, 3) := by decide +kernel
theorem dX11_spread_54 : decode cX11_spread 54 = .ok (.iload_n 1, 1) := by decide +kernel
theorem dX11_spread_55 : decode cX11_spread 55 = .ok (.invokevirtual 360, 3) := by decide +kernel
theorem dX11_spread_58 : decode cX11_spread 58 = .ok (.pop, 1) := by decide +kernel
theorem dX11_spread_59 : decode cX11_spread 59 = .ok (.aload_n 0, 1) := by decide +kernel
theorem dX11_spread_60 : decode cX11_spread 60 = .ok (.aload_n 0, 1) := by decide +kernel
theorem dX11_spread_61 : decode cX11_spread 61 = .ok (.getfield 70, 3) := by decide +kernel
theorem dX11_spread_64 : decode cX11_spread 64 = .ok (.getfield 363, 3) := by decide +kernel
theorem dX11_spread_67 : decode cX11_spread 67 = .ok (.iload_n 2, 1) := by decide +kernel
theorem dX11_spread_68 : decode cX11_spread 68 = .ok (.iaload, 1) := by decide +kernel
theorem dX11_spread_69 : decode cX11_spread 69 = .ok (.invokevirtual 182, 3) := by decide +kernel
theorem dX11_spread_72 : decode cX11_spread 72 = .ok (.ireturn, 1) := by decide +kernel
theorem dX11_seating_0 : decode cX11_seating 0 = .ok (.aload_n 0, 1) := by decide +kernel
theorem dX11_seating_1 : decode cX11_seating 1 = .ok (.getfield 70, 3) := by decide +kernel
theorem dX11_seating_4 : decode cX11_seating 4 = .ok (.aload_n 0, 1) := by decide +kernel
theorem dX11_seating_5 : decode cX11_seating 5 = .ok (.getfield 39, 3) := by decide +kernel
theorem dX11_seating_8 : decode cX11_seating 8 = .ok (.getfield 152, 3) := by decide +kernel
theorem dX11_seating_11 : decode cX11_seating 11 = .ok (.invokevirtual 355, 3) := by decide +kernel
theorem dX11_seating_14 : decode cX11_seating 14 = .ok (.aload_n 0, 1) := by decide +kernel
theorem dX11_seating_15 : decode cX11_seating 15 = .ok (.aload_n 0, 1) := by decide +kernel
theorem dX11_seating_16 : decode cX11_seating 16 = .ok (.getfield 70, 3) := by decide +kernel
theorem dX11_seating_19 : decode cX11_seating 19 = .ok (.invokevirtual 366, 3) := by decide +kernel
theorem dX11_seating_22 : decode cX11_seating 22 = .ok (.invokevirtual 182, 3) := by decide +kernel
theorem dX11_seating_25 : decode cX11_seating 25 = .ok (.ireturn, 1) := by decide +kernel
theorem dX11_seatOf_0 : decode cX11_seatOf 0 = .ok (.aload_n 0, 1) := by decide +kernel
theorem dX11_seatOf_1 : decode cX11_seatOf 1 = .ok (.getfield 39, 3) := by decide +kernel
theorem dX11_seatOf_4 : decode cX11_seatOf 4 = .ok (.getfield 152, 3) := by decide +kernel
theorem dX11_seatOf_7 : decode cX11_seatOf 7 = .ok (.iload_n 1, 1) := by decide +kernel
theorem dX11_seatOf_8 : decode cX11_seatOf 8 = .ok (.invokevirtual 244, 3) := by decide +kernel
theorem dX11_seatOf_11 : decode cX11_seatOf 11 = .ok (.ifCond .ne 9, 3) := by decide +kernel
theorem dX11_seatOf_14 : decode cX11_seatOf 14 = .ok (.aload_n 0, 1) := by decide +kernel
theorem dX11_seatOf_15 : decode cX11_seatOf 15 = .ok (.iconst 2, 1) := by decide +kernel
theorem dX11_seatOf_16 : decode cX11_seatOf 16 = .ok (.invokevirtual 121, 3) := by decide +kernel
theorem dX11_seatOf_19 : decode cX11_seatOf 19 = .ok (.ireturn, 1) := by decide +kernel
theorem dX11_seatOf_20 : decode cX11_seatOf 20 = .ok (.aload_n 0, 1) := by decide +kernel
theorem dX11_seatOf_21 : decode cX11_seatOf 21 = .ok (.getfield 70, 3) := by decide +kernel
theorem dX11_seatOf_24 : decode cX11_seatOf 24 = .ok (.aload_n 0, 1) := by decide +kernel
theorem dX11_seatOf_25 : decode cX11_seatOf 25 = .ok (.getfield 39, 3) := by decide +kernel
theorem dX11_seatOf_28 : decode cX11_seatOf 28 = .ok (.getfield 152, 3) := by decide +kernel
theorem dX11_seatOf_31 : decode cX11_seatOf 31 = .ok (.invokevirtual 355, 3) := by decide +kernel
theorem dX11_seatOf_34 : decode cX11_seatOf 34 = .ok (.aload_n 0, 1) := by decide +kernel
theorem dX11_seatOf_35 : decode cX11_seatOf 35 = .ok (.getfield 70, 3) := by decide +kernel
theorem dX11_seatOf_38 : decode cX11_seatOf 38 = .ok (.invokevirtual 366, 3) := by decide +kernel
theorem dX11_seatOf_41 : decode cX11_seatOf 41 = .ok (.pop, 1) := by decide +kernel
theorem dX11_seatOf_42 : decode cX11_seatOf 42 = .ok (.aload_n 0, 1) := by decide +kernel
theorem dX11_seatOf_43 : decode cX11_seatOf 43 = .ok (.aload_n 0, 1) := by decide +kernel
theorem dX11_seatOf_44 : decode cX11_seatOf 44 = .ok (.getfield 70, 3) := by decide +kernel
theorem dX11_seatOf_47 : decode cX11_seatOf 47 = .ok (.getfield 363, 3) := by decide +kernel
theorem dX11_seatOf_50 : decode cX11_seatOf 50 = .ok (.iload_n 1, 1) := by decide +kernel
theorem dX11_seatOf_51 : decode cX11_seatOf 51 = .ok (.iaload, 1) := by decide +kernel
theorem dX11_seatOf_52 : decode cX11_seatOf 52 = .ok (.invokevirtual 182, 3) := by decide +kernel
theorem dX11_seatOf_55 : decode cX11_seatOf 55 = .ok (.ireturn, 1) := by decide +kernel
theorem dX11_gameStatus_0 : decode cX11_gameStatus 0 = .ok (.aload_n 0, 1) := by decide +kernel
theorem dX11_gameStatus_1 : decode cX11_gameStatus 1 = .ok (.getfield 39, 3) := by decide +kernel
theorem dX11_gameStatus_4 : decode cX11_gameStatus 4 = .ok (.getfield 152, 3) := by decide +kernel
theorem dX11_gameStatus_7 : decode cX11_gameStatus 7 = .ok (.iload_n 1, 1) := by decide +kernel
theorem dX11_gameStatus_8 : decode cX11_gameStatus 8 = .ok (.invokevirtual 244, 3) := by decide +kernel
theorem dX11_gameStatus_11 : decode cX11_gameStatus 11 = .ok (.ifCond .eq 17, 3) := by decide +kernel
theorem dX11_gameStatus_14 : decode cX11_gameStatus 14 = .ok (.aload_n 0, 1) := by decide +kernel
theorem dX11_gameStatus_15 : decode cX11_gameStatus 15 = .ok (.getfield 39, 3) := by decide +kernel
theorem dX11_gameStatus_18 : decode cX11_gameStatus 18 = .ok (.getfield 152, 3) := by decide +kernel
theorem dX11_gameStatus_21 : decode cX11_gameStatus 21 = .ok (.iload_n 2, 1) := by decide +kernel
theorem dX11_gameStatus_22 : decode cX11_gameStatus 22 = .ok (.invokevirtual 244, 3) := by decide +kernel
theorem dX11_gameStatus_25 : decode cX11_gameStatus 25 = .ok (.ifCond .ne 5, 3) := by decide +kernel
theorem dX11_gameStatus_28 : decode cX11_gameStatus 28 = .ok (.iconst 2, 1) := by decide +kernel
theorem dX11_gameStatus_29 : decode cX11_gameStatus 29 = .ok (.ireturn, 1) := by decide +kernel
theorem dX11_gameStatus_30 : decode cX11_gameStatus 30 = .ok (.iload_n 1, 1) := by decide +kernel
theorem dX11_gameStatus_31 : decode cX11_gameStatus 31 = .ok (.iload_n 2, 1) := by decide +kernel
theorem dX11_gameStatus_32 : decode cX11_gameStatus 32 = .ok (.if_icmp .eq 12, 3) := by decide +kernel
theorem dX11_gameStatus_35 : decode cX11_gameStatus 35 = .ok (.iload_n 3, 1) := by decide +kernel
theorem dX11_gameStatus_36 : decode cX11_gameStatus 36 = .ok (.ifCond .lt 8, 3) := by decide +kernel
theorem dX11_gameStatus_39 : decode cX11_gameStatus 39 = .ok (.iload_n 3, 1) := by decide +kernel
theorem dX11_gameStatus_40 : decode cX11_gameStatus 40 = .ok (.iconst 4, 1) := by decide +kernel
theorem dX11_gameStatus_41 : decode cX11_gameStatus 41 = .ok (.if_icmp .le 7, 3) := by decide +kernel
theorem dX11_gameStatus_44 : decode cX11_gameStatus 44 = .ok (.iconst 5, 1) := by decide +kernel
theorem dX11_gameStatus_45 : decode cX11_gameStatus 45 = .ok (.goto 4, 3) := by decide +kernel
theorem dX11_gameStatus_48 : decode cX11_gameStatus 48 = .ok (.iconst 0, 1) := by decide +kernel
theorem dX11_gameStatus_49 : decode cX11_gameStatus 49 = .ok (.ireturn, 1) := by decide +kernel
theorem dX11_game_0 : decode cX11_game 0 = .ok (.aload_n 0, 1) := by decide +kernel
theorem dX11_game_1 : decode cX11_game 1 = .ok (.iload_n 1, 1) := by decide +kernel
theorem dX11_game_2 : decode cX11_game 2 = .ok (.iload_n 2, 1) := by decide +kernel
theorem dX11_game_3 : decode cX11_game 3 = .ok (.iload_n 3, 1) := by decide +kernel
theorem dX11_game_4 : decode cX11_game 4 = .ok (.invokevirtual 369, 3) := by decide +kernel
theorem dX11_game_7 : decode cX11_game 7 = .ok (.istore 4, 2) := by decide +kernel
theorem dX11_game_9 : decode cX11_game 9 = .ok (.iload 4, 2) := by decide +kernel
theorem dX11_game_11 : decode cX11_game 11 = .ok (.ifCond .eq 10, 3) := by decide +kernel
theorem dX11_game_14 : decode cX11_game 14 = .ok (.aload_n 0, 1) := by decide +kernel
theorem dX11_game_15 : decode cX11_game 15 = .ok (.iload 4, 2) := by decide +kernel
theorem dX11_game_17 : decode cX11_game 17 = .ok (.invokevirtual 121, 3) := by decide +kernel
theorem dX11_game_20 : decode cX11_game 20 = .ok (.ireturn, 1) := by decide +kernel
theorem dX11_game_21 : decode cX11_game 21 = .ok (.aload_n 0, 1) := by decide +kernel
theorem dX11_game_22 : decode cX11_game 22 = .ok (.getfield 63, 3) := by decide +kernel
theorem dX11_game_25 : decode cX11_game 25 = .ok (.aload_n 0, 1) := by decide +kernel
theorem dX11_game_26 : decode cX11_game 26 = .ok (.getfield 39, 3) := by decide +kernel
theorem dX11_game_29 : decode cX11_game 29 = .ok (.getfield 152, 3) := by decide +kernel
theorem dX11_game_32 : decode cX11_game 32 = .ok (.invokevirtual 372, 3) := by decide +kernel
theorem dX11_game_35 : decode cX11_game 35 = .ok (.aload_n 0, 1) := by decide +kernel
theorem dX11_game_36 : decode cX11_game 36 = .ok (.getfield 63, 3) := by decide +kernel
theorem dX11_game_39 : decode cX11_game 39 = .ok (.iload_n 1, 1) := by decide +kernel
theorem dX11_game_40 : decode cX11_game 40 = .ok (.iload_n 3, 1) := by decide +kernel
theorem dX11_game_41 : decode cX11_game 41 = .ok (.iconst 1, 1) := by decide +kernel
theorem dX11_game_42 : decode cX11_game 42 = .ok (.iadd, 1) := by decide +kernel
theorem dX11_game_43 : decode cX11_game 43 = .ok (.iconst 2, 1) := by decide +kernel
theorem dX11_game_44 : decode cX11_game 44 = .ok (.idiv, 1) := by decide +kernel
theorem dX11_game_45 : decode cX11_game 45 = .ok (.invokevirtual 375, 3) := by decide +kernel
theorem dX11_game_48 : decode cX11_game 48 = .ok (.istore 5, 2) := by decide +kernel
theorem dX11_game_50 : decode cX11_game 50 = .ok (.aload_n 0, 1) := by decide +kernel
theorem dX11_game_51 : decode cX11_game 51 = .ok (.iload 5, 2) := by decide +kernel
theorem dX11_game_53 : decode cX11_game 53 = .ok (.aload_n 0, 1) := by decide +kernel
theorem dX11_game_54 : decode cX11_game 54 = .ok (.getfield 63, 3) := by decide +kernel
theorem dX11_game_57 : decode cX11_game 57 = .ok (.iload_n 2, 1) := by decide +kernel
theorem dX11_game_58 : decode cX11_game 58 = .ok (.iload_n 3, 1) := by decide +kernel
theorem dX11_game_59 : decode cX11_game 59 = .ok (.iconst 2, 1) := by decide +kernel
theorem dX11_game_60 : decode cX11_game 60 = .ok (.idiv, 1) := by decide +kernel
theorem dX11_game_61 : decode cX11_game 61 = .ok (.invokevirtual 375, 3) := by decide +kernel
theorem dX11_game_64 : decode cX11_game 64 = .ok (.isub, 1) := by decide +kernel
theorem dX11_game_65 : decode cX11_game 65 = .ok (.invokevirtual 182, 3) := by decide +kernel
theorem dX11_game_68 : decode cX11_game 68 = .ok (.ireturn, 1) := by decide +kernel
theorem dX11_moveOf_0 : decode cX11_moveOf 0 = .ok (.aload_n 0, 1) := by decide +kernel
theorem dX11_moveOf_1 : decode cX11_moveOf 1 = .ok (.iload_n 1, 1) := by decide +kernel
theorem dX11_moveOf_2 : decode cX11_moveOf 2 = .ok (.iload_n 2, 1) := by decide +kernel
theorem dX11_moveOf_3 : decode cX11_moveOf 3 = .ok (.iload_n 3, 1) := by decide +kernel
theorem dX11_moveOf_4 : decode cX11_moveOf 4 = .ok (.invokevirtual 369, 3) := by decide +kernel
theorem dX11_moveOf_7 : decode cX11_moveOf 7 = .ok (.istore 4, 2) := by decide +kernel
theorem dX11_moveOf_9 : decode cX11_moveOf 9 = .ok (.iload 4, 2) := by decide +kernel
theorem dX11_moveOf_11 : decode cX11_moveOf 11 = .ok (.ifCond .eq 10, 3) := by decide +kernel
theorem dX11_moveOf_14 : decode cX11_moveOf 14 = .ok (.aload_n 0, 1) := by decide +kernel
theorem dX11_moveOf_15 : decode cX11_moveOf 15 = .ok (.iload 4, 2) := by decide +kernel
theorem dX11_moveOf_17 : decode cX11_moveOf 17 = .ok (.invokevirtual 121, 3) := by decide +kernel
theorem dX11_moveOf_20 : decode cX11_moveOf 20 = .ok (.ireturn, 1) := by decide +kernel
theorem dX11_moveOf_21 : decode cX11_moveOf 21 = .ok (.iload_n 3, 1) := by decide +kernel
theorem dX11_moveOf_22 : decode cX11_moveOf 22 = .ok (.ifCond .ne 9, 3) := by decide +kernel
theorem dX11_moveOf_25 : decode cX11_moveOf 25 = .ok (.aload_n 0, 1) := by decide +kernel
theorem dX11_moveOf_26 : decode cX11_moveOf 26 = .ok (.iconst 5, 1) := by decide +kernel
theorem dX11_moveOf_27 : decode cX11_moveOf 27 = .ok (.invokevirtual 121, 3) := by decide +kernel
theorem dX11_moveOf_30 : decode cX11_moveOf 30 = .ok (.ireturn, 1) := by decide +kernel
theorem dX11_moveOf_31 : decode cX11_moveOf 31 = .ok (.aload_n 0, 1) := by decide +kernel
theorem dX11_moveOf_32 : decode cX11_moveOf 32 = .ok (.getfield 63, 3) := by decide +kernel
theorem dX11_moveOf_35 : decode cX11_moveOf 35 = .ok (.aload_n 0, 1) := by decide +kernel
theorem dX11_moveOf_36 : decode cX11_moveOf 36 = .ok (.getfield 39, 3) := by decide +kernel
theorem dX11_moveOf_39 : decode cX11_moveOf 39 = .ok (.getfield 152, 3) := by decide +kernel
theorem dX11_moveOf_42 : decode cX11_moveOf 42 = .ok (.invokevirtual 372, 3) := by decide +kernel
theorem dX11_moveOf_45 : decode cX11_moveOf 45 = .ok (.aload_n 0, 1) := by decide +kernel
theorem dX11_moveOf_46 : decode cX11_moveOf 46 = .ok (.getfield 63, 3) := by decide +kernel
theorem dX11_moveOf_49 : decode cX11_moveOf 49 = .ok (.iload_n 1, 1) := by decide +kernel
theorem dX11_moveOf_50 : decode cX11_moveOf 50 = .ok (.iload_n 3, 1) := by decide +kernel
theorem dX11_moveOf_51 : decode cX11_moveOf 51 = .ok (.iconst 1, 1) := by decide +kernel
theorem dX11_moveOf_52 : decode cX11_moveOf 52 = .ok (.iadd, 1) := by decide +kernel
theorem dX11_moveOf_53 : decode cX11_moveOf 53 = .ok (.iconst 2, 1) := by decide +kernel
theorem dX11_moveOf_54 : decode cX11_moveOf 54 = .ok (.idiv, 1) := by decide +kernel
theorem dX11_moveOf_55 : decode cX11_moveOf 55 = .ok (.invokevirtual 378, 3) := by decide +kernel
theorem dX11_moveOf_58 : decode cX11_moveOf 58 = .ok (.istore 5, 2) := by decide +kernel
theorem dX11_moveOf_60 : decode cX11_moveOf 60 = .ok (.iload 5, 2) := by decide +kernel
theorem dX11_moveOf_62 : decode cX11_moveOf 62 = .ok (.iconst (-1), 1) := by decide +kernel
theorem dX11_moveOf_63 : decode cX11_moveOf 63 = .ok (.if_icmp .ne 12, 3) := by decide +kernel
theorem dX11_moveOf_66 : decode cX11_moveOf 66 = .ok (.aload_n 0, 1) := by decide +kernel
theorem dX11_moveOf_67 : decode cX11_moveOf 67 = .ok (.bipush 8, 2) := by decide +kernel
theorem dX11_moveOf_69 : decode cX11_moveOf 69 = .ok (.invokevirtual 121, 3) := by decide +kernel
theorem dX11_moveOf_72 : decode cX11_moveOf 72 = .ok (.goto 9, 3) := by decide +kernel
theorem dX11_moveOf_75 : decode cX11_moveOf 75 = .ok (.aload_n 0, 1) := by decide +kernel
theorem dX11_moveOf_76 : decode cX11_moveOf 76 = .ok (.iload 5, 2) := by decide +kernel
theorem dX11_moveOf_78 : decode cX11_moveOf 78 = .ok (.invokevirtual 182, 3) := by decide +kernel
theorem dX11_moveOf_81 : decode cX11_moveOf 81 = .ok (.ireturn, 1) := by decide +kernel
theorem dX11_chutes_0 : decode cX11_chutes 0 = .ok (.iload_n 1, 1) := by decide +kernel
theorem dX11_chutes_1 : decode cX11_chutes 1 = .ok (.ifCond .lt 9, 3) := by decide +kernel
theorem dX11_chutes_4 : decode cX11_chutes 4 = .ok (.iload_n 1, 1) := by decide +kernel
theorem dX11_chutes_5 : decode cX11_chutes 5 = .ok (.bipush 6, 2) := by decide +kernel
theorem dX11_chutes_7 : decode cX11_chutes 7 = .ok (.if_icmp .le 9, 3) := by decide +kernel
theorem dX11_chutes_10 : decode cX11_chutes 10 = .ok (.aload_n 0, 1) := by decide +kernel
theorem dX11_chutes_11 : decode cX11_chutes 11 = .ok (.iconst 5, 1) := by decide +kernel
theorem dX11_chutes_12 : decode cX11_chutes 12 = .ok (.invokevirtual 102, 3) := by decide +kernel
theorem dX11_chutes_15 : decode cX11_chutes 15 = .ok (.ireturn, 1) := by decide +kernel
theorem dX11_chutes_16 : decode cX11_chutes 16 = .ok (.aload_n 0, 1) := by decide +kernel
theorem dX11_chutes_17 : decode cX11_chutes 17 = .ok (.aload_n 0, 1) := by decide +kernel
theorem dX11_chutes_18 : decode cX11_chutes 18 = .ok (.getfield 77, 3) := by decide +kernel
theorem dX11_chutes_21 : decode cX11_chutes 21 = .ok (.aload_n 0, 1) := by decide +kernel
theorem dX11_chutes_22 : decode cX11_chutes 22 = .ok (.getfield 39, 3) := by decide +kernel
theorem dX11_chutes_25 : decode cX11_chutes 25 = .ok (.getfield 152, 3) := by decide +kernel
theorem dX11_chutes_28 : decode cX11_chutes 28 = .ok (.iload_n 1, 1) := by decide +kernel
theorem dX11_chutes_29 : decode cX11_chutes 29 = .ok (.invokevirtual 381, 3) := by decide +kernel
theorem dX11_chutes_32 : decode cX11_chutes 32 = .ok (.lconst 1, 1) := by decide +kernel
theorem dX11_chutes_33 : decode cX11_chutes 33 = .ok (.iconst 4, 1) := by decide +kernel
theorem dX11_chutes_34 : decode cX11_chutes 34 = .ok (.aload_n 0, 1) := by decide +kernel
theorem dX11_chutes_35 : decode cX11_chutes 35 = .ok (.getfield 39, 3) := by decide +kernel
theorem dX11_chutes_38 : decode cX11_chutes 38 = .ok (.getfield 152, 3) := by decide +kernel
theorem dX11_chutes_41 : decode cX11_chutes 41 = .ok (.getfield 179, 3) := by decide +kernel
theorem dX11_chutes_44 : decode cX11_chutes 44 = .ok (.imul, 1) := by decide +kernel
theorem dX11_chutes_45 : decode cX11_chutes 45 = .ok (.lshl, 1) := by decide +kernel
theorem dX11_chutes_46 : decode cX11_chutes 46 = .ok (.invokevirtual 328, 3) := by decide +kernel
theorem dX11_chutes_49 : decode cX11_chutes 49 = .ok (.ireturn, 1) := by decide +kernel
theorem dX11_live_0 : decode cX11_live 0 = .ok (.iload_n 1, 1) := by decide +kernel
theorem dX11_live_1 : decode cX11_live 1 = .ok (.ifCond .lt 10, 3) := by decide +kernel
theorem dX11_live_4 : decode cX11_live 4 = .ok (.iload_n 1, 1) := by decide +kernel
theorem dX11_live_5 : decode cX11_live 5 = .ok (.sipush 9999, 3) := by decide +kernel
theorem dX11_live_8 : decode cX11_live 8 = .ok (.if_icmp .le 9, 3) := by decide +kernel
theorem dX11_live_11 : decode cX11_live 11 = .ok (.aload_n 0, 1) := by decide +kernel
theorem dX11_live_12 : decode cX11_live 12 = .ok (.iconst 5, 1) := by decide +kernel
theorem dX11_live_13 : decode cX11_live 13 = .ok (.invokevirtual 121, 3) := by decide +kernel
theorem dX11_live_16 : decode cX11_live 16 = .ok (.ireturn, 1) := by decide +kernel
theorem dX11_live_17 : decode cX11_live 17 = .ok (.aload_n 0, 1) := by decide +kernel
theorem dX11_live_18 : decode cX11_live 18 = .ok (.getfield 39, 3) := by decide +kernel
theorem dX11_live_21 : decode cX11_live 21 = .ok (.getfield 170, 3) := by decide +kernel
theorem dX11_live_24 : decode cX11_live 24 = .ok (.getfield 385, 3) := by decide +kernel
theorem dX11_live_27 : decode cX11_live 27 = .ok (.ifCond .ne 10, 3) := by decide +kernel
theorem dX11_live_30 : decode cX11_live 30 = .ok (.aload_n 0, 1) := by decide +kernel
theorem dX11_live_31 : decode cX11_live 31 = .ok (.bipush 8, 2) := by decide +kernel
theorem dX11_live_33 : decode cX11_live 33 = .ok (.invokevirtual 121, 3) := by decide +kernel
theorem dX11_live_36 : decode cX11_live 36 = .ok (.ireturn, 1) := by decide +kernel
theorem dX11_live_37 : decode cX11_live 37 = .ok (.aload_n 0, 1) := by decide +kernel
theorem dX11_live_38 : decode cX11_live 38 = .ok (.getfield 53, 3) := by decide +kernel
theorem dX11_live_41 : decode cX11_live 41 = .ok (.aload_n 0, 1) := by decide +kernel
theorem dX11_live_42 : decode cX11_live 42 = .ok (.getfield 39, 3) := by decide +kernel
theorem dX11_live_45 : decode cX11_live 45 = .ok (.getfield 152, 3) := by decide +kernel
theorem dX11_live_48 : decode cX11_live 48 = .ok (.aload_n 0, 1) := by decide +kernel
theorem dX11_live_49 : decode cX11_live 49 = .ok (.getfield 39, 3) := by decide +kernel
theorem dX11_live_52 : decode cX11_live 52 = .ok (.getfield 170, 3) := by decide +kernel
theorem dX11_live_55 : decode cX11_live 55 = .ok (.iload_n 1, 1) := by decide +kernel
theorem dX11_live_56 : decode cX11_live 56 = .ok (.invokevirtual 389, 3) := by decide +kernel
theorem dX11_live_59 : decode cX11_live 59 = .ok (.aload_n 0, 1) := by decide +kernel
theorem dX11_live_60 : decode cX11_live 60 = .ok (.iconst 1, 1) := by decide +kernel
theorem dX11_live_61 : decode cX11_live 61 = .ok (.putfield 393, 3) := by decide +kernel
theorem dX11_live_64 : decode cX11_live 64 = .ok (.aload_n 0, 1) := by decide +kernel
theorem dX11_live_65 : decode cX11_live 65 = .ok (.aload_n 0, 1) := by decide +kernel
theorem dX11_live_66 : decode cX11_live 66 = .ok (.getfield 53, 3) := by decide +kernel
theorem dX11_live_69 : decode cX11_live 69 = .ok (.getfield 396, 3) := by decide +kernel
theorem dX11_live_72 : decode cX11_live 72 = .ok (.invokevirtual 182, 3) := by decide +kernel
theorem dX11_live_75 : decode cX11_live 75 = .ok (.ireturn, 1) := by decide +kernel
theorem dX11_lived_0 : decode cX11_lived 0 = .ok (.iload_n 1, 1) := by decide +kernel
theorem dX11_lived_1 : decode cX11_lived 1 = .ok (.ifCond .lt 8, 3) := by decide +kernel
theorem dX11_lived_4 : decode cX11_lived 4 = .ok (.iload_n 1, 1) := by decide +kernel
theorem dX11_lived_5 : decode cX11_lived 5 = .ok (.iconst 4, 1) := by decide +kernel
theorem dX11_lived_6 : decode cX11_lived 6 = .ok (.if_icmp .le 9, 3) := by decide +kernel
theorem dX11_lived_9 : decode cX11_lived 9 = .ok (.aload_n 0, 1) := by decide +kernel
theorem dX11_lived_10 : decode cX11_lived 10 = .ok (.iconst 5, 1) := by decide +kernel
theorem dX11_lived_11 : decode cX11_lived 11 = .ok (.invokevirtual 121, 3) := by decide +kernel
theorem dX11_lived_14 : decode cX11_lived 14 = .ok (.ireturn, 1) := by decide +kernel
theorem dX11_lived_15 : decode cX11_lived 15 = .ok (.aload_n 0, 1) := by decide +kernel
theorem dX11_lived_16 : decode cX11_lived 16 = .ok (.getfield 393, 3) := by decide +kernel
theorem dX11_lived_19 : decode cX11_lived 19 = .ok (.ifCond .ne 10, 3) := by decide +kernel
theorem dX11_lived_22 : decode cX11_lived 22 = .ok (.aload_n 0, 1) := by decide +kernel
theorem dX11_lived_23 : decode cX11_lived 23 = .ok (.bipush 8, 2) := by decide +kernel
theorem dX11_lived_25 : decode cX11_lived 25 = .ok (.invokevirtual 121, 3) := by decide +kernel
theorem dX11_lived_28 : decode cX11_lived 28 = .ok (.ireturn, 1) := by decide +kernel
theorem dX11_lived_29 : decode cX11_lived 29 = .ok (.iload_n 1, 1) := by decide +kernel
theorem dX11_lived_30 : decode cX11_lived 30 = .ok (.tableswitch 78 0 3 #[30, 42, 54, 66], 30) := by decide +kernel
theorem dX11_lived_60 : decode cX11_lived 60 = .ok (.aload_n 0, 1) := by decide +kernel
theorem dX11_lived_61 : decode cX11_lived 61 = .ok (.aload_n 0, 1) := by decide +kernel
theorem dX11_lived_62 : decode cX11_lived 62 = .ok (.getfield 53, 3) := by decide +kernel
theorem dX11_lived_65 : decode cX11_lived 65 = .ok (.getfield 397, 3) := by decide +kernel
theorem dX11_lived_68 : decode cX11_lived 68 = .ok (.invokevirtual 182, 3) := by decide +kernel
theorem dX11_lived_71 : decode cX11_lived 71 = .ok (.ireturn, 1) := by decide +kernel
theorem dX11_lived_72 : decode cX11_lived 72 = .ok (.aload_n 0, 1) := by decide +kernel
theorem dX11_lived_73 : decode cX11_lived 73 = .ok (.aload_n 0, 1) := by decide +kernel
theorem dX11_lived_74 : decode cX11_lived 74 = .ok (.getfield 53, 3) := by decide +kernel
theorem dX11_lived_77 : decode cX11_lived 77 = .ok (.getfield 400, 3) := by decide +kernel
theorem dX11_lived_80 : decode cX11_lived 80 = .ok (.invokevirtual 182, 3) := by decide +kernel
theorem dX11_lived_83 : decode cX11_lived 83 = .ok (.ireturn, 1) := by decide +kernel
theorem dX11_lived_84 : decode cX11_lived 84 = .ok (.aload_n 0, 1) := by decide +kernel
theorem dX11_lived_85 : decode cX11_lived 85 = .ok (.aload_n 0, 1) := by decide +kernel
theorem dX11_lived_86 : decode cX11_lived 86 = .ok (.getfield 53, 3) := by decide +kernel
theorem dX11_lived_89 : decode cX11_lived 89 = .ok (.getfield 401, 3) := by decide +kernel
theorem dX11_lived_92 : decode cX11_lived 92 = .ok (.invokevirtual 182, 3) := by decide +kernel
theorem dX11_lived_95 : decode cX11_lived 95 = .ok (.ireturn, 1) := by decide +kernel
theorem dX11_lived_96 : decode cX11_lived 96 = .ok (.aload_n 0, 1) := by decide +kernel
theorem dX11_lived_97 : decode cX11_lived 97 = .ok (.aload_n 0, 1) := by decide +kernel
theorem dX11_lived_98 : decode cX11_lived 98 = .ok (.getfield 53, 3) := by decide +kernel
theorem dX11_lived_101 : decode cX11_lived 101 = .ok (.getfield 404, 3) := by decide +kernel
theorem dX11_lived_104 : decode cX11_lived 104 = .ok (.invokevirtual 182, 3) := by decide +kernel
theorem dX11_lived_107 : decode cX11_lived 107 = .ok (.ireturn, 1) := by decide +kernel
theorem dX11_lived_108 : decode cX11_lived 108 = .ok (.aload_n 0, 1) := by decide +kernel
theorem dX11_lived_109 : decode cX11_lived 109 = .ok (.aload_n 0, 1) := by decide +kernel
theorem dX11_lived_110 : decode cX11_lived 110 = .ok (.getfield 53, 3) := by decide +kernel
theorem dX11_lived_113 : decode cX11_lived 113 = .ok (.getfield 407, 3) := by decide +kernel
theorem dX11_lived_116 : decode cX11_lived 116 = .ok (.invokevirtual 182, 3) := by decide +kernel
theorem dX11_lived_119 : decode cX11_lived 119 = .ok (.ireturn, 1) := by decide +kernel
theorem dX11_mean_0 : decode cX11_mean 0 = .ok (.iload_n 1, 1) := by decide +kernel
theorem dX11_mean_1 : decode cX11_mean 1 = .ok (.ifCond .lt 25, 3) := by decide +kernel
theorem dX11_mean_4 : decode cX11_mean 4 = .ok (.iload_n 2, 1) := by decide +kernel
theorem dX11_mean_5 : decode cX11_mean 5 = .ok (.iconst 1, 1) := by decide +kernel
theorem dX11_mean_6 : decode cX11_mean 6 = .ok (.if_icmp .lt 20, 3) := by decide +kernel
theorem dX11_mean_9 : decode cX11_mean 9 = .ok (.iload_n 2, 1) := by decide +kernel
theorem dX11_mean_10 : decode cX11_mean 10 = .ok (.bipush 20, 2) := by decide +kernel
theorem dX11_mean_12 : decode cX11_mean 12 = .ok (.if_icmp .gt 14, 3) := by decide +kernel
theorem dX11_mean_15 : decode cX11_mean 15 = .ok (.iload_n 1, 1) := by decide +kernel
theorem dX11_mean_16 : decode cX11_mean 16 = .ok (.sipush 9999, 3) := by decide +kernel
theorem dX11_mean_19 : decode cX11_mean 19 = .ok (.iload_n 2, 1) := by decide +kernel
theorem dX11_mean_20 : decode cX11_mean 20 = .ok (.isub, 1) := by decide +kernel
theorem dX11_mean_21 : decode cX11_mean 21 = .ok (.iconst 1, 1) := by decide +kernel
theorem dX11_mean_22 : decode cX11_mean 22 = .ok (.iadd, 1) := by decide +kernel
theorem dX11_mean_23 : decode cX11_mean 23 = .ok (.if_icmp .le 9, 3) := by decide +kernel
theorem dX11_mean_26 : decode cX11_mean 26 = .ok (.aload_n 0, 1) := by decide +kernel
theorem dX11_mean_27 : decode cX11_mean 27 = .ok (.iconst 5, 1) := by decide +kernel
theorem dX11_mean_28 : decode cX11_mean 28 = .ok (.invokevirtual 102, 3) := by decide +kernel
theorem dX11_mean_31 : decode cX11_mean 31 = .ok (.ireturn, 1) := by decide +kernel
theorem dX11_mean_32 : decode cX11_mean 32 = .ok (.aload_n 0, 1) := by decide +kernel
theorem dX11_mean_33 : decode cX11_mean 33 = .ok (.getfield 39, 3) := by decide +kernel
theorem dX11_mean_36 : decode cX11_mean 36 = .ok (.getfield 170, 3) := by decide +kernel
theorem dX11_mean_39 : decode cX11_mean 39 = .ok (.getfield 385, 3) := by decide +kernel
theorem dX11_mean_42 : decode cX11_mean 42 = .ok (.ifCond .ne 10, 3) := by decide +kernel
theorem dX11_mean_45 : decode cX11_mean 45 = .ok (.aload_n 0, 1) := by decide +kernel
theorem dX11_mean_46 : decode cX11_mean 46 = .ok (.bipush 8, 2) := by decide +kernel
theorem dX11_mean_48 : decode cX11_mean 48 = .ok (.invokevirtual 102, 3) := by decide +kernel
theorem dX11_mean_51 : decode cX11_mean 51 = .ok (.ireturn, 1) := by decide +kernel
theorem dX11_mean_52 : decode cX11_mean 52 = .ok (.iconst 0, 1) := by decide +kernel
theorem dX11_mean_53 : decode cX11_mean 53 = .ok (.istore_n 3, 1) := by decide +kernel
theorem dX11_mean_54 : decode cX11_mean 54 = .ok (.iconst 0, 1) := by decide +kernel
theorem dX11_mean_55 : decode cX11_mean 55 = .ok (.istore 4, 2) := by decide +kernel
theorem dX11_mean_57 : decode cX11_mean 57 = .ok (.iload 4, 2) := by decide +kernel
theorem dX11_mean_59 : decode cX11_mean 59 = .ok (.iload_n 2, 1) := by decide +kernel
theorem dX11_mean_60 : decode cX11_mean 60 = .ok (.if_icmp .ge 64, 3) := by decide +kernel
theorem dX11_mean_63 : decode cX11_mean 63 = .ok (.aload_n 0, 1) := by decide +kernel
theorem dX11_mean_64 : decode cX11_mean 64 = .ok (.getfield 43, 3) := by decide +kernel
theorem dX11_mean_67 : decode cX11_mean 67 = .ok (.getfield 152, 3) := by decide +kernel
theorem dX11_mean_70 : decode cX11_mean 70 = .ok (.aload_n 0, 1) := by decide +kernel
theorem dX11_mean_71 : decode cX11_mean 71 = .ok (.getfield 39, 3) := by decide +kernel
theorem dX11_mean_74 : decode cX11_mean 74 = .ok (.getfield 152, 3) := by decide +kernel
theorem dX11_mean_77 : decode cX11_mean 77 = .ok (.invokevirtual 164, 3) := by decide +kernel
theorem dX11_mean_80 : decode cX11_mean 80 = .ok (.aload_n 0, 1) := by decide +kernel
theorem dX11_mean_81 : decode cX11_mean 81 = .ok (.getfield 57, 3) := by decide +kernel
theorem dX11_mean_84 : decode cX11_mean 84 = .ok (.aload_n 0, 1) := by decide +kernel
theorem dX11_mean_85 : decode cX11_mean 85 = .ok (.getfield 43, 3) := by decide +kernel
theorem dX11_mean_88 : decode cX11_mean 88 = .ok (.getfield 152, 3) := by decide +kernel
theorem dX11_mean_91 : decode cX11_mean 91 = .ok (.aload_n 0, 1) := by decide +kernel
theorem dX11_mean_92 : decode cX11_mean 92 = .ok (.getfield 39, 3) := by decide +kernel
theorem dX11_mean_95 : decode cX11_mean 95 = .ok (.getfield 170, 3) := by decide +kernel
theorem dX11_mean_98 : decode cX11_mean 98 = .ok (.iload_n 1, 1) := by decide +kernel
theorem dX11_mean_99 : decode cX11_mean 99 = .ok (.iload 4, 2) := by decide +kernel
theorem dX11_mean_101 : decode cX11_mean 101 = .ok (.iadd, 1) := by decide +kernel
theorem dX11_mean_102 : decode cX11_mean 102 = .ok (.invokevirtual 389, 3) := by decide +kernel
theorem dX11_mean_105 : decode cX11_mean 105 = .ok (.iload_n 3, 1) := by decide +kernel
theorem dX11_mean_106 : decode cX11_mean 106 = .ok (.aload_n 0, 1) := by decide +kernel
theorem dX11_mean_107 : decode cX11_mean 107 = .ok (.getfield 43, 3) := by decide +kernel
theorem dX11_mean_110 : decode cX11_mean 110 = .ok (.getfield 152, 3) := by decide +kernel
theorem dX11_mean_113 : decode cX11_mean 113 = .ok (.invokevirtual 410, 3) := by decide +kernel
theorem dX11_mean_116 : decode cX11_mean 116 = .ok (.iadd, 1) := by decide +kernel
theorem dX11_mean_117 : decode cX11_mean 117 = .ok (.istore_n 3, 1) := by decide +kernel
theorem dX11_mean_118 : decode cX11_mean 118 = .ok (.iinc 4 1, 3) := by decide +kernel
theorem dX11_mean_121 : decode cX11_mean 121 = .ok (.goto (-64), 3) := by decide +kernel
theorem dX11_mean_124 : decode cX11_mean 124 = .ok (.aload_n 0, 1) := by decide +kernel
theorem dX11_mean_125 : decode cX11_mean 125 = .ok (.iload_n 3, 1) := by decide +kernel
theorem dX11_mean_126 : decode cX11_mean 126 = .ok (.i2l, 1) := by decide +kernel
theorem dX11_mean_127 : decode cX11_mean 127 = .ok (.iload_n 2, 1) := by decide +kernel
theorem dX11_mean_128 : decode cX11_mean 128 = .ok (.i2l, 1) := by decide +kernel
theorem dX11_mean_129 : decode cX11_mean 129 = .ok (.invokevirtual 328, 3) := by decide +kernel
theorem dX11_mean_132 : decode cX11_mean 132 = .ok (.ireturn, 1) := by decide +kernel
theorem dX11_mark_0 : decode cX11_mark 0 = .ok (.aload_n 0, 1) := by decide +kernel
theorem dX11_mark_1 : decode cX11_mark 1 = .ok (.getfield 413, 3) := by decide +kernel
theorem dX11_mark_4 : decode cX11_mark 4 = .ok (.iconst 3, 1) := by decide +kernel
theorem dX11_mark_5 : decode cX11_mark 5 = .ok (.if_icmp .ne 10, 3) := by decide +kernel
theorem dX11_mark_8 : decode cX11_mark 8 = .ok (.aload_n 0, 1) := by decide +kernel
theorem dX11_mark_9 : decode cX11_mark 9 = .ok (.bipush 7, 2) := by decide +kernel
theorem dX11_mark_11 : decode cX11_mark 11 = .ok (.invokevirtual 121, 3) := by decide +kernel
theorem dX11_mark_14 : decode cX11_mark 14 = .ok (.ireturn, 1) := by decide +kernel
theorem dX11_mark_15 : decode cX11_mark 15 = .ok (.aload_n 0, 1) := by decide +kernel
theorem dX11_mark_16 : decode cX11_mark 16 = .ok (.getfield 46, 3) := by decide +kernel
theorem dX11_mark_19 : decode cX11_mark 19 = .ok (.aload_n 0, 1) := by decide +kernel
theorem dX11_mark_20 : decode cX11_mark 20 = .ok (.getfield 413, 3) := by decide +kernel
theorem dX11_mark_23 : decode cX11_mark 23 = .ok (.aaload, 1) := by decide +kernel
theorem dX11_mark_24 : decode cX11_mark 24 = .ok (.aload_n 0, 1) := by decide +kernel
theorem dX11_mark_25 : decode cX11_mark 25 = .ok (.getfield 39, 3) := by decide +kernel
theorem dX11_mark_28 : decode cX11_mark 28 = .ok (.invokevirtual 416, 3) := by decide +kernel
theorem dX11_mark_31 : decode cX11_mark 31 = .ok (.aload_n 0, 1) := by decide +kernel
theorem dX11_mark_32 : decode cX11_mark 32 = .ok (.dup, 1) := by decide +kernel
theorem dX11_mark_33 : decode cX11_mark 33 = .ok (.getfield 413, 3) := by decide +kernel
theorem dX11_mark_36 : decode cX11_mark 36 = .ok (.iconst 1, 1) := by decide +kernel
theorem dX11_mark_37 : decode cX11_mark 37 = .ok (.iadd, 1) := by decide +kernel
theorem dX11_mark_38 : decode cX11_mark 38 = .ok (.putfield 413, 3) := by decide +kernel
theorem dX11_mark_41 : decode cX11_mark 41 = .ok (.aload_n 0, 1) := by decide +kernel
theorem dX11_mark_42 : decode cX11_mark 42 = .ok (.aload_n 0, 1) := by decide +kernel
theorem dX11_mark_43 : decode cX11_mark 43 = .ok (.getfield 413, 3) := by decide +kernel
theorem dX11_mark_46 : decode cX11_mark 46 = .ok (.invokevirtual 182, 3) := by decide +kernel
theorem dX11_mark_49 : decode cX11_mark 49 = .ok (.ireturn, 1) := by decide +kernel
theorem dX11_back_0 : decode cX11_back 0 = .ok (.aload_n 0, 1) := by decide +kernel
theorem dX11_back_1 : decode cX11_back 1 = .ok (.getfield 413, 3) := by decide +kernel
theorem dX11_back_4 : decode cX11_back 4 = .ok (.ifCond .ne 10, 3) := by decide +kernel
theorem dX11_back_7 : decode cX11_back 7 = .ok (.aload_n 0, 1) := by decide +kernel
theorem dX11_back_8 : decode cX11_back 8 = .ok (.bipush 8, 2) := by decide +kernel
theorem dX11_back_10 : decode cX11_back 10 = .ok (.invokevirtual 121, 3) := by decide +kernel
theorem dX11_back_13 : decode cX11_back 13 = .ok (.ireturn, 1) := by decide +kernel
theorem dX11_back_14 : decode cX11_back 14 = .ok (.aload_n 0, 1) := by decide +kernel
theorem dX11_back_15 : decode cX11_back 15 = .ok (.dup, 1) := by decide +kernel
theorem dX11_back_16 : decode cX11_back 16 = .ok (.getfield 413, 3) := by decide +kernel
theorem dX11_back_19 : decode cX11_back 19 = .ok (.iconst 1, 1) := by decide +kernel
theorem dX11_back_20 : decode cX11_back 20 = .ok (.isub, 1) := by decide +kernel
theorem dX11_back_21 : decode cX11_back 21 = .ok (.putfield 413, 3) := by decide +kernel
theorem dX11_back_24 : decode cX11_back 24 = .ok (.aload_n 0, 1) := by decide +kernel
theorem dX11_back_25 : decode cX11_back 25 = .ok (.getfield 39, 3) := by decide +kernel
theorem dX11_back_28 : decode cX11_back 28 = .ok (.aload_n 0, 1) := by decide +kernel
theorem dX11_back_29 : decode cX11_back 29 = .ok (.getfield 46, 3) := by decide +kernel
theorem dX11_back_32 : decode cX11_back 32 = .ok (.aload_n 0, 1) := by decide +kernel
theorem dX11_back_33 : decode cX11_back 33 = .ok (.getfield 413, 3) := by decide +kernel
theorem dX11_back_36 : decode cX11_back 36 = .ok (.aaload, 1) := by decide +kernel
theorem dX11_back_37 : decode cX11_back 37 = .ok (.invokevirtual 416, 3) := by decide +kernel
theorem dX11_back_40 : decode cX11_back 40 = .ok (.aload_n 0, 1) := by decide +kernel
theorem dX11_back_41 : decode cX11_back 41 = .ok (.aload_n 0, 1) := by decide +kernel
theorem dX11_back_42 : decode cX11_back 42 = .ok (.getfield 413, 3) := by decide +kernel
theorem dX11_back_45 : decode cX11_back 45 = .ok (.invokevirtual 182, 3) := by decide +kernel
theorem dX11_back_48 : decode cX11_back 48 = .ok (.ireturn, 1) := by decide +kernel
