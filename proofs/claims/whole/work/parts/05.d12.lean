def w12 (ca : Nat → ClassId) (q : Nat → Nat) (S : ms_T) : va_W := ((q 0, .inr (12, (.int (gi S 0) :: .int (gi S 1) :: .long (gl S 2) :: .long (gl S 3) :: .ref (q 1) :: .ref (q 2) :: .ref (q 3) :: .ref (q 4) :: .int (gi S 8) :: .int (gi S 9) :: .int (gi S 10) :: .int (gi S 11) :: .int (gi S 12) :: .int (gi S 13) :: .int (gi S 14) :: .int (gi S 15) :: .int (gi S 16) :: .int (gi S 17) :: .int (gi S 18) :: .long (gl S 19) :: .ref (q 5) :: .ref (q 6) :: .ref (q 7) :: .int (gi S 23) :: .int (gi S 24) :: .int (gi S 25) :: .ref (q 8) :: .int (gi S 27) :: .int (gi S 28) :: .long (gl S 29) :: .long (gl S 30) :: .int (gi S 31) :: .ref (q 9) :: .int (gi S 33) :: .int (gi S 34) :: .ref (q 10) :: .ref (q 11) :: .int (gi S 37) :: .int (gi S 38) :: .ref (q 12) :: .int (gi S 40) :: .int (gi S 41) :: .int (gi S 42) :: .int (gi S 43) :: .int (gi S 44) :: .int (gi S 45) :: .int (gi S 46) :: .int (gi S 47) :: .int (gi S 48) :: []))) :: (q 1, .inl (ca 1, 4, .inl (ra S 1))) :: (q 2, .inl (ca 1, 4, .inl (ra S 2))) :: (q 3, .inl (ca 2, 240, .inr (.inl (rl S 3)))) :: (q 4, .inl (ca 0, 900, .inl (ra S 4))) :: (q 5, .inl (ca 1, 1820, .inl (ra S 5))) :: (q 6, .inl (ca 1, 92, .inl (ra S 6))) :: (q 7, .inl (ca 2, 115, .inr (.inl (rl S 7)))) :: (q 8, .inl (ca 1, 10, .inl (ra S 8))) :: (q 9, .inl (ca 1, 6, .inl (ra S 9))) :: (q 10, .inl (ca 1, 6, .inl (ra S 10))) :: (q 11, .inl (ca 1, 6, .inl (ra S 11))) :: (q 12, .inl (ca 1, 5, .inl (ra S 12))) :: [])
theorem pw12_0_1 (ca : Nat → ClassId) (q0 : Nat → Nat) (S0 : ms_T) (v : Int32) : (w12 ca q0 S0 : va_W).set 0 (q0 0, .inr (12, List.set (.int (gi S0 0) :: .int (gi S0 1) :: .long (gl S0 2) :: .long (gl S0 3) :: .ref (q0 1) :: .ref (q0 2) :: .ref (q0 3) :: .ref (q0 4) :: .int (gi S0 8) :: .int (gi S0 9) :: .int (gi S0 10) :: .int (gi S0 11) :: .int (gi S0 12) :: .int (gi S0 13) :: .int (gi S0 14) :: .int (gi S0 15) :: .int (gi S0 16) :: .int (gi S0 17) :: .int (gi S0 18) :: .long (gl S0 19) :: .ref (q0 5) :: .ref (q0 6) :: .ref (q0 7) :: .int (gi S0 23) :: .int (gi S0 24) :: .int (gi S0 25) :: .ref (q0 8) :: .int (gi S0 27) :: .int (gi S0 28) :: .long (gl S0 29) :: .long (gl S0 30) :: .int (gi S0 31) :: .ref (q0 9) :: .int (gi S0 33) :: .int (gi S0 34) :: .ref (q0 10) :: .ref (q0 11) :: .int (gi S0 37) :: .int (gi S0 38) :: .ref (q0 12) :: .int (gi S0 40) :: .int (gi S0 41) :: .int (gi S0 42) :: .int (gi S0 43) :: .int (gi S0 44) :: .int (gi S0 45) :: .int (gi S0 46) :: .int (gi S0 47) :: .int (gi S0 48) :: []) 1 (.int v))) = w12 ca q0 (si S0 1 v) := rfl
theorem pw12_0_0 (ca : Nat → ClassId) (q0 : Nat → Nat) (S0 : ms_T) (v : Int32) : (w12 ca q0 S0 : va_W).set 0 (q0 0, .inr (12, List.set (.int (gi S0 0) :: .int (gi S0 1) :: .long (gl S0 2) :: .long (gl S0 3) :: .ref (q0 1) :: .ref (q0 2) :: .ref (q0 3) :: .ref (q0 4) :: .int (gi S0 8) :: .int (gi S0 9) :: .int (gi S0 10) :: .int (gi S0 11) :: .int (gi S0 12) :: .int (gi S0 13) :: .int (gi S0 14) :: .int (gi S0 15) :: .int (gi S0 16) :: .int (gi S0 17) :: .int (gi S0 18) :: .long (gl S0 19) :: .ref (q0 5) :: .ref (q0 6) :: .ref (q0 7) :: .int (gi S0 23) :: .int (gi S0 24) :: .int (gi S0 25) :: .ref (q0 8) :: .int (gi S0 27) :: .int (gi S0 28) :: .long (gl S0 29) :: .long (gl S0 30) :: .int (gi S0 31) :: .ref (q0 9) :: .int (gi S0 33) :: .int (gi S0 34) :: .ref (q0 10) :: .ref (q0 11) :: .int (gi S0 37) :: .int (gi S0 38) :: .ref (q0 12) :: .int (gi S0 40) :: .int (gi S0 41) :: .int (gi S0 42) :: .int (gi S0 43) :: .int (gi S0 44) :: .int (gi S0 45) :: .int (gi S0 46) :: .int (gi S0 47) :: .int (gi S0 48) :: []) 0 (.int v))) = w12 ca q0 (si S0 0 v) := rfl
theorem pw12_0_2 (ca : Nat → ClassId) (q0 : Nat → Nat) (S0 : ms_T) (v : Int64) : (w12 ca q0 S0 : va_W).set 0 (q0 0, .inr (12, List.set (.int (gi S0 0) :: .int (gi S0 1) :: .long (gl S0 2) :: .long (gl S0 3) :: .ref (q0 1) :: .ref (q0 2) :: .ref (q0 3) :: .ref (q0 4) :: .int (gi S0 8) :: .int (gi S0 9) :: .int (gi S0 10) :: .int (gi S0 11) :: .int (gi S0 12) :: .int (gi S0 13) :: .int (gi S0 14) :: .int (gi S0 15) :: .int (gi S0 16) :: .int (gi S0 17) :: .int (gi S0 18) :: .long (gl S0 19) :: .ref (q0 5) :: .ref (q0 6) :: .ref (q0 7) :: .int (gi S0 23) :: .int (gi S0 24) :: .int (gi S0 25) :: .ref (q0 8) :: .int (gi S0 27) :: .int (gi S0 28) :: .long (gl S0 29) :: .long (gl S0 30) :: .int (gi S0 31) :: .ref (q0 9) :: .int (gi S0 33) :: .int (gi S0 34) :: .ref (q0 10) :: .ref (q0 11) :: .int (gi S0 37) :: .int (gi S0 38) :: .ref (q0 12) :: .int (gi S0 40) :: .int (gi S0 41) :: .int (gi S0 42) :: .int (gi S0 43) :: .int (gi S0 44) :: .int (gi S0 45) :: .int (gi S0 46) :: .int (gi S0 47) :: .int (gi S0 48) :: []) 2 (.long v))) = w12 ca q0 (sl S0 2 v) := rfl
theorem pw12_0_3 (ca : Nat → ClassId) (q0 : Nat → Nat) (S0 : ms_T) (v : Int64) : (w12 ca q0 S0 : va_W).set 0 (q0 0, .inr (12, List.set (.int (gi S0 0) :: .int (gi S0 1) :: .long (gl S0 2) :: .long (gl S0 3) :: .ref (q0 1) :: .ref (q0 2) :: .ref (q0 3) :: .ref (q0 4) :: .int (gi S0 8) :: .int (gi S0 9) :: .int (gi S0 10) :: .int (gi S0 11) :: .int (gi S0 12) :: .int (gi S0 13) :: .int (gi S0 14) :: .int (gi S0 15) :: .int (gi S0 16) :: .int (gi S0 17) :: .int (gi S0 18) :: .long (gl S0 19) :: .ref (q0 5) :: .ref (q0 6) :: .ref (q0 7) :: .int (gi S0 23) :: .int (gi S0 24) :: .int (gi S0 25) :: .ref (q0 8) :: .int (gi S0 27) :: .int (gi S0 28) :: .long (gl S0 29) :: .long (gl S0 30) :: .int (gi S0 31) :: .ref (q0 9) :: .int (gi S0 33) :: .int (gi S0 34) :: .ref (q0 10) :: .ref (q0 11) :: .int (gi S0 37) :: .int (gi S0 38) :: .ref (q0 12) :: .int (gi S0 40) :: .int (gi S0 41) :: .int (gi S0 42) :: .int (gi S0 43) :: .int (gi S0 44) :: .int (gi S0 45) :: .int (gi S0 46) :: .int (gi S0 47) :: .int (gi S0 48) :: []) 3 (.long v))) = w12 ca q0 (sl S0 3 v) := rfl
theorem aw12_0_1 (ca : Nat → ClassId) (q0 : Nat → Nat) (S0 : ms_T) (i v : Int32) : (w12 ca q0 S0 : va_W).set 1 (q0 1, .inl (ca 1, 4, .inl (upd (ra S0 1) i.toNatClampNeg v))) = w12 ca q0 (sa S0 1 i v) := rfl
theorem aw12_0_2 (ca : Nat → ClassId) (q0 : Nat → Nat) (S0 : ms_T) (i v : Int32) : (w12 ca q0 S0 : va_W).set 2 (q0 2, .inl (ca 1, 4, .inl (upd (ra S0 2) i.toNatClampNeg v))) = w12 ca q0 (sa S0 2 i v) := rfl
theorem aw12_0_3 (ca : Nat → ClassId) (q0 : Nat → Nat) (S0 : ms_T) (i : Int32) (v : Int64) : (w12 ca q0 S0 : va_W).set 3 (q0 3, .inl (ca 2, 240, .inr (.inl (vp_updL (rl S0 3) i.toNatClampNeg v)))) = w12 ca q0 (sA S0 3 i v) := rfl
theorem pw12_0_15 (ca : Nat → ClassId) (q0 : Nat → Nat) (S0 : ms_T) (v : Int32) : (w12 ca q0 S0 : va_W).set 0 (q0 0, .inr (12, List.set (.int (gi S0 0) :: .int (gi S0 1) :: .long (gl S0 2) :: .long (gl S0 3) :: .ref (q0 1) :: .ref (q0 2) :: .ref (q0 3) :: .ref (q0 4) :: .int (gi S0 8) :: .int (gi S0 9) :: .int (gi S0 10) :: .int (gi S0 11) :: .int (gi S0 12) :: .int (gi S0 13) :: .int (gi S0 14) :: .int (gi S0 15) :: .int (gi S0 16) :: .int (gi S0 17) :: .int (gi S0 18) :: .long (gl S0 19) :: .ref (q0 5) :: .ref (q0 6) :: .ref (q0 7) :: .int (gi S0 23) :: .int (gi S0 24) :: .int (gi S0 25) :: .ref (q0 8) :: .int (gi S0 27) :: .int (gi S0 28) :: .long (gl S0 29) :: .long (gl S0 30) :: .int (gi S0 31) :: .ref (q0 9) :: .int (gi S0 33) :: .int (gi S0 34) :: .ref (q0 10) :: .ref (q0 11) :: .int (gi S0 37) :: .int (gi S0 38) :: .ref (q0 12) :: .int (gi S0 40) :: .int (gi S0 41) :: .int (gi S0 42) :: .int (gi S0 43) :: .int (gi S0 44) :: .int (gi S0 45) :: .int (gi S0 46) :: .int (gi S0 47) :: .int (gi S0 48) :: []) 15 (.int v))) = w12 ca q0 (si S0 15 v) := rfl
theorem pw12_0_16 (ca : Nat → ClassId) (q0 : Nat → Nat) (S0 : ms_T) (v : Int32) : (w12 ca q0 S0 : va_W).set 0 (q0 0, .inr (12, List.set (.int (gi S0 0) :: .int (gi S0 1) :: .long (gl S0 2) :: .long (gl S0 3) :: .ref (q0 1) :: .ref (q0 2) :: .ref (q0 3) :: .ref (q0 4) :: .int (gi S0 8) :: .int (gi S0 9) :: .int (gi S0 10) :: .int (gi S0 11) :: .int (gi S0 12) :: .int (gi S0 13) :: .int (gi S0 14) :: .int (gi S0 15) :: .int (gi S0 16) :: .int (gi S0 17) :: .int (gi S0 18) :: .long (gl S0 19) :: .ref (q0 5) :: .ref (q0 6) :: .ref (q0 7) :: .int (gi S0 23) :: .int (gi S0 24) :: .int (gi S0 25) :: .ref (q0 8) :: .int (gi S0 27) :: .int (gi S0 28) :: .long (gl S0 29) :: .long (gl S0 30) :: .int (gi S0 31) :: .ref (q0 9) :: .int (gi S0 33) :: .int (gi S0 34) :: .ref (q0 10) :: .ref (q0 11) :: .int (gi S0 37) :: .int (gi S0 38) :: .ref (q0 12) :: .int (gi S0 40) :: .int (gi S0 41) :: .int (gi S0 42) :: .int (gi S0 43) :: .int (gi S0 44) :: .int (gi S0 45) :: .int (gi S0 46) :: .int (gi S0 47) :: .int (gi S0 48) :: []) 16 (.int v))) = w12 ca q0 (si S0 16 v) := rfl
theorem pw12_0_17 (ca : Nat → ClassId) (q0 : Nat → Nat) (S0 : ms_T) (v : Int32) : (w12 ca q0 S0 : va_W).set 0 (q0 0, .inr (12, List.set (.int (gi S0 0) :: .int (gi S0 1) :: .long (gl S0 2) :: .long (gl S0 3) :: .ref (q0 1) :: .ref (q0 2) :: .ref (q0 3) :: .ref (q0 4) :: .int (gi S0 8) :: .int (gi S0 9) :: .int (gi S0 10) :: .int (gi S0 11) :: .int (gi S0 12) :: .int (gi S0 13) :: .int (gi S0 14) :: .int (gi S0 15) :: .int (gi S0 16) :: .int (gi S0 17) :: .int (gi S0 18) :: .long (gl S0 19) :: .ref (q0 5) :: .ref (q0 6) :: .ref (q0 7) :: .int (gi S0 23) :: .int (gi S0 24) :: .int (gi S0 25) :: .ref (q0 8) :: .int (gi S0 27) :: .int (gi S0 28) :: .long (gl S0 29) :: .long (gl S0 30) :: .int (gi S0 31) :: .ref (q0 9) :: .int (gi S0 33) :: .int (gi S0 34) :: .ref (q0 10) :: .ref (q0 11) :: .int (gi S0 37) :: .int (gi S0 38) :: .ref (q0 12) :: .int (gi S0 40) :: .int (gi S0 41) :: .int (gi S0 42) :: .int (gi S0 43) :: .int (gi S0 44) :: .int (gi S0 45) :: .int (gi S0 46) :: .int (gi S0 47) :: .int (gi S0 48) :: []) 17 (.int v))) = w12 ca q0 (si S0 17 v) := rfl
theorem pw12_0_14 (ca : Nat → ClassId) (q0 : Nat → Nat) (S0 : ms_T) (v : Int32) : (w12 ca q0 S0 : va_W).set 0 (q0 0, .inr (12, List.set (.int (gi S0 0) :: .int (gi S0 1) :: .long (gl S0 2) :: .long (gl S0 3) :: .ref (q0 1) :: .ref (q0 2) :: .ref (q0 3) :: .ref (q0 4) :: .int (gi S0 8) :: .int (gi S0 9) :: .int (gi S0 10) :: .int (gi S0 11) :: .int (gi S0 12) :: .int (gi S0 13) :: .int (gi S0 14) :: .int (gi S0 15) :: .int (gi S0 16) :: .int (gi S0 17) :: .int (gi S0 18) :: .long (gl S0 19) :: .ref (q0 5) :: .ref (q0 6) :: .ref (q0 7) :: .int (gi S0 23) :: .int (gi S0 24) :: .int (gi S0 25) :: .ref (q0 8) :: .int (gi S0 27) :: .int (gi S0 28) :: .long (gl S0 29) :: .long (gl S0 30) :: .int (gi S0 31) :: .ref (q0 9) :: .int (gi S0 33) :: .int (gi S0 34) :: .ref (q0 10) :: .ref (q0 11) :: .int (gi S0 37) :: .int (gi S0 38) :: .ref (q0 12) :: .int (gi S0 40) :: .int (gi S0 41) :: .int (gi S0 42) :: .int (gi S0 43) :: .int (gi S0 44) :: .int (gi S0 45) :: .int (gi S0 46) :: .int (gi S0 47) :: .int (gi S0 48) :: []) 14 (.int v))) = w12 ca q0 (si S0 14 v) := rfl
theorem pw12_0_19 (ca : Nat → ClassId) (q0 : Nat → Nat) (S0 : ms_T) (v : Int64) : (w12 ca q0 S0 : va_W).set 0 (q0 0, .inr (12, List.set (.int (gi S0 0) :: .int (gi S0 1) :: .long (gl S0 2) :: .long (gl S0 3) :: .ref (q0 1) :: .ref (q0 2) :: .ref (q0 3) :: .ref (q0 4) :: .int (gi S0 8) :: .int (gi S0 9) :: .int (gi S0 10) :: .int (gi S0 11) :: .int (gi S0 12) :: .int (gi S0 13) :: .int (gi S0 14) :: .int (gi S0 15) :: .int (gi S0 16) :: .int (gi S0 17) :: .int (gi S0 18) :: .long (gl S0 19) :: .ref (q0 5) :: .ref (q0 6) :: .ref (q0 7) :: .int (gi S0 23) :: .int (gi S0 24) :: .int (gi S0 25) :: .ref (q0 8) :: .int (gi S0 27) :: .int (gi S0 28) :: .long (gl S0 29) :: .long (gl S0 30) :: .int (gi S0 31) :: .ref (q0 9) :: .int (gi S0 33) :: .int (gi S0 34) :: .ref (q0 10) :: .ref (q0 11) :: .int (gi S0 37) :: .int (gi S0 38) :: .ref (q0 12) :: .int (gi S0 40) :: .int (gi S0 41) :: .int (gi S0 42) :: .int (gi S0 43) :: .int (gi S0 44) :: .int (gi S0 45) :: .int (gi S0 46) :: .int (gi S0 47) :: .int (gi S0 48) :: []) 19 (.long v))) = w12 ca q0 (sl S0 19 v) := rfl
theorem pw12_0_18 (ca : Nat → ClassId) (q0 : Nat → Nat) (S0 : ms_T) (v : Int32) : (w12 ca q0 S0 : va_W).set 0 (q0 0, .inr (12, List.set (.int (gi S0 0) :: .int (gi S0 1) :: .long (gl S0 2) :: .long (gl S0 3) :: .ref (q0 1) :: .ref (q0 2) :: .ref (q0 3) :: .ref (q0 4) :: .int (gi S0 8) :: .int (gi S0 9) :: .int (gi S0 10) :: .int (gi S0 11) :: .int (gi S0 12) :: .int (gi S0 13) :: .int (gi S0 14) :: .int (gi S0 15) :: .int (gi S0 16) :: .int (gi S0 17) :: .int (gi S0 18) :: .long (gl S0 19) :: .ref (q0 5) :: .ref (q0 6) :: .ref (q0 7) :: .int (gi S0 23) :: .int (gi S0 24) :: .int (gi S0 25) :: .ref (q0 8) :: .int (gi S0 27) :: .int (gi S0 28) :: .long (gl S0 29) :: .long (gl S0 30) :: .int (gi S0 31) :: .ref (q0 9) :: .int (gi S0 33) :: .int (gi S0 34) :: .ref (q0 10) :: .ref (q0 11) :: .int (gi S0 37) :: .int (gi S0 38) :: .ref (q0 12) :: .int (gi S0 40) :: .int (gi S0 41) :: .int (gi S0 42) :: .int (gi S0 43) :: .int (gi S0 44) :: .int (gi S0 45) :: .int (gi S0 46) :: .int (gi S0 47) :: .int (gi S0 48) :: []) 18 (.int v))) = w12 ca q0 (si S0 18 v) := rfl
theorem pw12_0_12 (ca : Nat → ClassId) (q0 : Nat → Nat) (S0 : ms_T) (v : Int32) : (w12 ca q0 S0 : va_W).set 0 (q0 0, .inr (12, List.set (.int (gi S0 0) :: .int (gi S0 1) :: .long (gl S0 2) :: .long (gl S0 3) :: .ref (q0 1) :: .ref (q0 2) :: .ref (q0 3) :: .ref (q0 4) :: .int (gi S0 8) :: .int (gi S0 9) :: .int (gi S0 10) :: .int (gi S0 11) :: .int (gi S0 12) :: .int (gi S0 13) :: .int (gi S0 14) :: .int (gi S0 15) :: .int (gi S0 16) :: .int (gi S0 17) :: .int (gi S0 18) :: .long (gl S0 19) :: .ref (q0 5) :: .ref (q0 6) :: .ref (q0 7) :: .int (gi S0 23) :: .int (gi S0 24) :: .int (gi S0 25) :: .ref (q0 8) :: .int (gi S0 27) :: .int (gi S0 28) :: .long (gl S0 29) :: .long (gl S0 30) :: .int (gi S0 31) :: .ref (q0 9) :: .int (gi S0 33) :: .int (gi S0 34) :: .ref (q0 10) :: .ref (q0 11) :: .int (gi S0 37) :: .int (gi S0 38) :: .ref (q0 12) :: .int (gi S0 40) :: .int (gi S0 41) :: .int (gi S0 42) :: .int (gi S0 43) :: .int (gi S0 44) :: .int (gi S0 45) :: .int (gi S0 46) :: .int (gi S0 47) :: .int (gi S0 48) :: []) 12 (.int v))) = w12 ca q0 (si S0 12 v) := rfl
theorem pw12_0_13 (ca : Nat → ClassId) (q0 : Nat → Nat) (S0 : ms_T) (v : Int32) : (w12 ca q0 S0 : va_W).set 0 (q0 0, .inr (12, List.set (.int (gi S0 0) :: .int (gi S0 1) :: .long (gl S0 2) :: .long (gl S0 3) :: .ref (q0 1) :: .ref (q0 2) :: .ref (q0 3) :: .ref (q0 4) :: .int (gi S0 8) :: .int (gi S0 9) :: .int (gi S0 10) :: .int (gi S0 11) :: .int (gi S0 12) :: .int (gi S0 13) :: .int (gi S0 14) :: .int (gi S0 15) :: .int (gi S0 16) :: .int (gi S0 17) :: .int (gi S0 18) :: .long (gl S0 19) :: .ref (q0 5) :: .ref (q0 6) :: .ref (q0 7) :: .int (gi S0 23) :: .int (gi S0 24) :: .int (gi S0 25) :: .ref (q0 8) :: .int (gi S0 27) :: .int (gi S0 28) :: .long (gl S0 29) :: .long (gl S0 30) :: .int (gi S0 31) :: .ref (q0 9) :: .int (gi S0 33) :: .int (gi S0 34) :: .ref (q0 10) :: .ref (q0 11) :: .int (gi S0 37) :: .int (gi S0 38) :: .ref (q0 12) :: .int (gi S0 40) :: .int (gi S0 41) :: .int (gi S0 42) :: .int (gi S0 43) :: .int (gi S0 44) :: .int (gi S0 45) :: .int (gi S0 46) :: .int (gi S0 47) :: .int (gi S0 48) :: []) 13 (.int v))) = w12 ca q0 (si S0 13 v) := rfl
theorem aw12_0_4 (ca : Nat → ClassId) (q0 : Nat → Nat) (S0 : ms_T) (i v : Int32) : (w12 ca q0 S0 : va_W).set 4 (q0 4, .inl (ca 0, 900, .inl (upd (ra S0 4) i.toNatClampNeg v))) = w12 ca q0 (sa S0 4 i v) := rfl
theorem pw12_0_8 (ca : Nat → ClassId) (q0 : Nat → Nat) (S0 : ms_T) (v : Int32) : (w12 ca q0 S0 : va_W).set 0 (q0 0, .inr (12, List.set (.int (gi S0 0) :: .int (gi S0 1) :: .long (gl S0 2) :: .long (gl S0 3) :: .ref (q0 1) :: .ref (q0 2) :: .ref (q0 3) :: .ref (q0 4) :: .int (gi S0 8) :: .int (gi S0 9) :: .int (gi S0 10) :: .int (gi S0 11) :: .int (gi S0 12) :: .int (gi S0 13) :: .int (gi S0 14) :: .int (gi S0 15) :: .int (gi S0 16) :: .int (gi S0 17) :: .int (gi S0 18) :: .long (gl S0 19) :: .ref (q0 5) :: .ref (q0 6) :: .ref (q0 7) :: .int (gi S0 23) :: .int (gi S0 24) :: .int (gi S0 25) :: .ref (q0 8) :: .int (gi S0 27) :: .int (gi S0 28) :: .long (gl S0 29) :: .long (gl S0 30) :: .int (gi S0 31) :: .ref (q0 9) :: .int (gi S0 33) :: .int (gi S0 34) :: .ref (q0 10) :: .ref (q0 11) :: .int (gi S0 37) :: .int (gi S0 38) :: .ref (q0 12) :: .int (gi S0 40) :: .int (gi S0 41) :: .int (gi S0 42) :: .int (gi S0 43) :: .int (gi S0 44) :: .int (gi S0 45) :: .int (gi S0 46) :: .int (gi S0 47) :: .int (gi S0 48) :: []) 8 (.int v))) = w12 ca q0 (si S0 8 v) := rfl
theorem pw12_0_9 (ca : Nat → ClassId) (q0 : Nat → Nat) (S0 : ms_T) (v : Int32) : (w12 ca q0 S0 : va_W).set 0 (q0 0, .inr (12, List.set (.int (gi S0 0) :: .int (gi S0 1) :: .long (gl S0 2) :: .long (gl S0 3) :: .ref (q0 1) :: .ref (q0 2) :: .ref (q0 3) :: .ref (q0 4) :: .int (gi S0 8) :: .int (gi S0 9) :: .int (gi S0 10) :: .int (gi S0 11) :: .int (gi S0 12) :: .int (gi S0 13) :: .int (gi S0 14) :: .int (gi S0 15) :: .int (gi S0 16) :: .int (gi S0 17) :: .int (gi S0 18) :: .long (gl S0 19) :: .ref (q0 5) :: .ref (q0 6) :: .ref (q0 7) :: .int (gi S0 23) :: .int (gi S0 24) :: .int (gi S0 25) :: .ref (q0 8) :: .int (gi S0 27) :: .int (gi S0 28) :: .long (gl S0 29) :: .long (gl S0 30) :: .int (gi S0 31) :: .ref (q0 9) :: .int (gi S0 33) :: .int (gi S0 34) :: .ref (q0 10) :: .ref (q0 11) :: .int (gi S0 37) :: .int (gi S0 38) :: .ref (q0 12) :: .int (gi S0 40) :: .int (gi S0 41) :: .int (gi S0 42) :: .int (gi S0 43) :: .int (gi S0 44) :: .int (gi S0 45) :: .int (gi S0 46) :: .int (gi S0 47) :: .int (gi S0 48) :: []) 9 (.int v))) = w12 ca q0 (si S0 9 v) := rfl
theorem pw12_0_10 (ca : Nat → ClassId) (q0 : Nat → Nat) (S0 : ms_T) (v : Int32) : (w12 ca q0 S0 : va_W).set 0 (q0 0, .inr (12, List.set (.int (gi S0 0) :: .int (gi S0 1) :: .long (gl S0 2) :: .long (gl S0 3) :: .ref (q0 1) :: .ref (q0 2) :: .ref (q0 3) :: .ref (q0 4) :: .int (gi S0 8) :: .int (gi S0 9) :: .int (gi S0 10) :: .int (gi S0 11) :: .int (gi S0 12) :: .int (gi S0 13) :: .int (gi S0 14) :: .int (gi S0 15) :: .int (gi S0 16) :: .int (gi S0 17) :: .int (gi S0 18) :: .long (gl S0 19) :: .ref (q0 5) :: .ref (q0 6) :: .ref (q0 7) :: .int (gi S0 23) :: .int (gi S0 24) :: .int (gi S0 25) :: .ref (q0 8) :: .int (gi S0 27) :: .int (gi S0 28) :: .long (gl S0 29) :: .long (gl S0 30) :: .int (gi S0 31) :: .ref (q0 9) :: .int (gi S0 33) :: .int (gi S0 34) :: .ref (q0 10) :: .ref (q0 11) :: .int (gi S0 37) :: .int (gi S0 38) :: .ref (q0 12) :: .int (gi S0 40) :: .int (gi S0 41) :: .int (gi S0 42) :: .int (gi S0 43) :: .int (gi S0 44) :: .int (gi S0 45) :: .int (gi S0 46) :: .int (gi S0 47) :: .int (gi S0 48) :: []) 10 (.int v))) = w12 ca q0 (si S0 10 v) := rfl
theorem pw12_0_11 (ca : Nat → ClassId) (q0 : Nat → Nat) (S0 : ms_T) (v : Int32) : (w12 ca q0 S0 : va_W).set 0 (q0 0, .inr (12, List.set (.int (gi S0 0) :: .int (gi S0 1) :: .long (gl S0 2) :: .long (gl S0 3) :: .ref (q0 1) :: .ref (q0 2) :: .ref (q0 3) :: .ref (q0 4) :: .int (gi S0 8) :: .int (gi S0 9) :: .int (gi S0 10) :: .int (gi S0 11) :: .int (gi S0 12) :: .int (gi S0 13) :: .int (gi S0 14) :: .int (gi S0 15) :: .int (gi S0 16) :: .int (gi S0 17) :: .int (gi S0 18) :: .long (gl S0 19) :: .ref (q0 5) :: .ref (q0 6) :: .ref (q0 7) :: .int (gi S0 23) :: .int (gi S0 24) :: .int (gi S0 25) :: .ref (q0 8) :: .int (gi S0 27) :: .int (gi S0 28) :: .long (gl S0 29) :: .long (gl S0 30) :: .int (gi S0 31) :: .ref (q0 9) :: .int (gi S0 33) :: .int (gi S0 34) :: .ref (q0 10) :: .ref (q0 11) :: .int (gi S0 37) :: .int (gi S0 38) :: .ref (q0 12) :: .int (gi S0 40) :: .int (gi S0 41) :: .int (gi S0 42) :: .int (gi S0 43) :: .int (gi S0 44) :: .int (gi S0 45) :: .int (gi S0 46) :: .int (gi S0 47) :: .int (gi S0 48) :: []) 11 (.int v))) = w12 ca q0 (si S0 11 v) := rfl
theorem aw12_0_5 (ca : Nat → ClassId) (q0 : Nat → Nat) (S0 : ms_T) (i v : Int32) : (w12 ca q0 S0 : va_W).set 5 (q0 5, .inl (ca 1, 1820, .inl (upd (ra S0 5) i.toNatClampNeg v))) = w12 ca q0 (sa S0 5 i v) := rfl
theorem aw12_0_7 (ca : Nat → ClassId) (q0 : Nat → Nat) (S0 : ms_T) (i : Int32) (v : Int64) : (w12 ca q0 S0 : va_W).set 7 (q0 7, .inl (ca 2, 115, .inr (.inl (vp_updL (rl S0 7) i.toNatClampNeg v)))) = w12 ca q0 (sA S0 7 i v) := rfl
theorem pw12_0_24 (ca : Nat → ClassId) (q0 : Nat → Nat) (S0 : ms_T) (v : Int32) : (w12 ca q0 S0 : va_W).set 0 (q0 0, .inr (12, List.set (.int (gi S0 0) :: .int (gi S0 1) :: .long (gl S0 2) :: .long (gl S0 3) :: .ref (q0 1) :: .ref (q0 2) :: .ref (q0 3) :: .ref (q0 4) :: .int (gi S0 8) :: .int (gi S0 9) :: .int (gi S0 10) :: .int (gi S0 11) :: .int (gi S0 12) :: .int (gi S0 13) :: .int (gi S0 14) :: .int (gi S0 15) :: .int (gi S0 16) :: .int (gi S0 17) :: .int (gi S0 18) :: .long (gl S0 19) :: .ref (q0 5) :: .ref (q0 6) :: .ref (q0 7) :: .int (gi S0 23) :: .int (gi S0 24) :: .int (gi S0 25) :: .ref (q0 8) :: .int (gi S0 27) :: .int (gi S0 28) :: .long (gl S0 29) :: .long (gl S0 30) :: .int (gi S0 31) :: .ref (q0 9) :: .int (gi S0 33) :: .int (gi S0 34) :: .ref (q0 10) :: .ref (q0 11) :: .int (gi S0 37) :: .int (gi S0 38) :: .ref (q0 12) :: .int (gi S0 40) :: .int (gi S0 41) :: .int (gi S0 42) :: .int (gi S0 43) :: .int (gi S0 44) :: .int (gi S0 45) :: .int (gi S0 46) :: .int (gi S0 47) :: .int (gi S0 48) :: []) 24 (.int v))) = w12 ca q0 (si S0 24 v) := rfl
theorem pw12_0_25 (ca : Nat → ClassId) (q0 : Nat → Nat) (S0 : ms_T) (v : Int32) : (w12 ca q0 S0 : va_W).set 0 (q0 0, .inr (12, List.set (.int (gi S0 0) :: .int (gi S0 1) :: .long (gl S0 2) :: .long (gl S0 3) :: .ref (q0 1) :: .ref (q0 2) :: .ref (q0 3) :: .ref (q0 4) :: .int (gi S0 8) :: .int (gi S0 9) :: .int (gi S0 10) :: .int (gi S0 11) :: .int (gi S0 12) :: .int (gi S0 13) :: .int (gi S0 14) :: .int (gi S0 15) :: .int (gi S0 16) :: .int (gi S0 17) :: .int (gi S0 18) :: .long (gl S0 19) :: .ref (q0 5) :: .ref (q0 6) :: .ref (q0 7) :: .int (gi S0 23) :: .int (gi S0 24) :: .int (gi S0 25) :: .ref (q0 8) :: .int (gi S0 27) :: .int (gi S0 28) :: .long (gl S0 29) :: .long (gl S0 30) :: .int (gi S0 31) :: .ref (q0 9) :: .int (gi S0 33) :: .int (gi S0 34) :: .ref (q0 10) :: .ref (q0 11) :: .int (gi S0 37) :: .int (gi S0 38) :: .ref (q0 12) :: .int (gi S0 40) :: .int (gi S0 41) :: .int (gi S0 42) :: .int (gi S0 43) :: .int (gi S0 44) :: .int (gi S0 45) :: .int (gi S0 46) :: .int (gi S0 47) :: .int (gi S0 48) :: []) 25 (.int v))) = w12 ca q0 (si S0 25 v) := rfl
theorem aw12_0_8 (ca : Nat → ClassId) (q0 : Nat → Nat) (S0 : ms_T) (i v : Int32) : (w12 ca q0 S0 : va_W).set 8 (q0 8, .inl (ca 1, 10, .inl (upd (ra S0 8) i.toNatClampNeg v))) = w12 ca q0 (sa S0 8 i v) := rfl
theorem pw12_0_27 (ca : Nat → ClassId) (q0 : Nat → Nat) (S0 : ms_T) (v : Int32) : (w12 ca q0 S0 : va_W).set 0 (q0 0, .inr (12, List.set (.int (gi S0 0) :: .int (gi S0 1) :: .long (gl S0 2) :: .long (gl S0 3) :: .ref (q0 1) :: .ref (q0 2) :: .ref (q0 3) :: .ref (q0 4) :: .int (gi S0 8) :: .int (gi S0 9) :: .int (gi S0 10) :: .int (gi S0 11) :: .int (gi S0 12) :: .int (gi S0 13) :: .int (gi S0 14) :: .int (gi S0 15) :: .int (gi S0 16) :: .int (gi S0 17) :: .int (gi S0 18) :: .long (gl S0 19) :: .ref (q0 5) :: .ref (q0 6) :: .ref (q0 7) :: .int (gi S0 23) :: .int (gi S0 24) :: .int (gi S0 25) :: .ref (q0 8) :: .int (gi S0 27) :: .int (gi S0 28) :: .long (gl S0 29) :: .long (gl S0 30) :: .int (gi S0 31) :: .ref (q0 9) :: .int (gi S0 33) :: .int (gi S0 34) :: .ref (q0 10) :: .ref (q0 11) :: .int (gi S0 37) :: .int (gi S0 38) :: .ref (q0 12) :: .int (gi S0 40) :: .int (gi S0 41) :: .int (gi S0 42) :: .int (gi S0 43) :: .int (gi S0 44) :: .int (gi S0 45) :: .int (gi S0 46) :: .int (gi S0 47) :: .int (gi S0 48) :: []) 27 (.int v))) = w12 ca q0 (si S0 27 v) := rfl
theorem pw12_0_28 (ca : Nat → ClassId) (q0 : Nat → Nat) (S0 : ms_T) (v : Int32) : (w12 ca q0 S0 : va_W).set 0 (q0 0, .inr (12, List.set (.int (gi S0 0) :: .int (gi S0 1) :: .long (gl S0 2) :: .long (gl S0 3) :: .ref (q0 1) :: .ref (q0 2) :: .ref (q0 3) :: .ref (q0 4) :: .int (gi S0 8) :: .int (gi S0 9) :: .int (gi S0 10) :: .int (gi S0 11) :: .int (gi S0 12) :: .int (gi S0 13) :: .int (gi S0 14) :: .int (gi S0 15) :: .int (gi S0 16) :: .int (gi S0 17) :: .int (gi S0 18) :: .long (gl S0 19) :: .ref (q0 5) :: .ref (q0 6) :: .ref (q0 7) :: .int (gi S0 23) :: .int (gi S0 24) :: .int (gi S0 25) :: .ref (q0 8) :: .int (gi S0 27) :: .int (gi S0 28) :: .long (gl S0 29) :: .long (gl S0 30) :: .int (gi S0 31) :: .ref (q0 9) :: .int (gi S0 33) :: .int (gi S0 34) :: .ref (q0 10) :: .ref (q0 11) :: .int (gi S0 37) :: .int (gi S0 38) :: .ref (q0 12) :: .int (gi S0 40) :: .int (gi S0 41) :: .int (gi S0 42) :: .int (gi S0 43) :: .int (gi S0 44) :: .int (gi S0 45) :: .int (gi S0 46) :: .int (gi S0 47) :: .int (gi S0 48) :: []) 28 (.int v))) = w12 ca q0 (si S0 28 v) := rfl
theorem pw12_0_29 (ca : Nat → ClassId) (q0 : Nat → Nat) (S0 : ms_T) (v : Int64) : (w12 ca q0 S0 : va_W).set 0 (q0 0, .inr (12, List.set (.int (gi S0 0) :: .int (gi S0 1) :: .long (gl S0 2) :: .long (gl S0 3) :: .ref (q0 1) :: .ref (q0 2) :: .ref (q0 3) :: .ref (q0 4) :: .int (gi S0 8) :: .int (gi S0 9) :: .int (gi S0 10) :: .int (gi S0 11) :: .int (gi S0 12) :: .int (gi S0 13) :: .int (gi S0 14) :: .int (gi S0 15) :: .int (gi S0 16) :: .int (gi S0 17) :: .int (gi S0 18) :: .long (gl S0 19) :: .ref (q0 5) :: .ref (q0 6) :: .ref (q0 7) :: .int (gi S0 23) :: .int (gi S0 24) :: .int (gi S0 25) :: .ref (q0 8) :: .int (gi S0 27) :: .int (gi S0 28) :: .long (gl S0 29) :: .long (gl S0 30) :: .int (gi S0 31) :: .ref (q0 9) :: .int (gi S0 33) :: .int (gi S0 34) :: .ref (q0 10) :: .ref (q0 11) :: .int (gi S0 37) :: .int (gi S0 38) :: .ref (q0 12) :: .int (gi S0 40) :: .int (gi S0 41) :: .int (gi S0 42) :: .int (gi S0 43) :: .int (gi S0 44) :: .int (gi S0 45) :: .int (gi S0 46) :: .int (gi S0 47) :: .int (gi S0 48) :: []) 29 (.long v))) = w12 ca q0 (sl S0 29 v) := rfl
theorem pw12_0_30 (ca : Nat → ClassId) (q0 : Nat → Nat) (S0 : ms_T) (v : Int64) : (w12 ca q0 S0 : va_W).set 0 (q0 0, .inr (12, List.set (.int (gi S0 0) :: .int (gi S0 1) :: .long (gl S0 2) :: .long (gl S0 3) :: .ref (q0 1) :: .ref (q0 2) :: .ref (q0 3) :: .ref (q0 4) :: .int (gi S0 8) :: .int (gi S0 9) :: .int (gi S0 10) :: .int (gi S0 11) :: .int (gi S0 12) :: .int (gi S0 13) :: .int (gi S0 14) :: .int (gi S0 15) :: .int (gi S0 16) :: .int (gi S0 17) :: .int (gi S0 18) :: .long (gl S0 19) :: .ref (q0 5) :: .ref (q0 6) :: .ref (q0 7) :: .int (gi S0 23) :: .int (gi S0 24) :: .int (gi S0 25) :: .ref (q0 8) :: .int (gi S0 27) :: .int (gi S0 28) :: .long (gl S0 29) :: .long (gl S0 30) :: .int (gi S0 31) :: .ref (q0 9) :: .int (gi S0 33) :: .int (gi S0 34) :: .ref (q0 10) :: .ref (q0 11) :: .int (gi S0 37) :: .int (gi S0 38) :: .ref (q0 12) :: .int (gi S0 40) :: .int (gi S0 41) :: .int (gi S0 42) :: .int (gi S0 43) :: .int (gi S0 44) :: .int (gi S0 45) :: .int (gi S0 46) :: .int (gi S0 47) :: .int (gi S0 48) :: []) 30 (.long v))) = w12 ca q0 (sl S0 30 v) := rfl
theorem pw12_0_31 (ca : Nat → ClassId) (q0 : Nat → Nat) (S0 : ms_T) (v : Int32) : (w12 ca q0 S0 : va_W).set 0 (q0 0, .inr (12, List.set (.int (gi S0 0) :: .int (gi S0 1) :: .long (gl S0 2) :: .long (gl S0 3) :: .ref (q0 1) :: .ref (q0 2) :: .ref (q0 3) :: .ref (q0 4) :: .int (gi S0 8) :: .int (gi S0 9) :: .int (gi S0 10) :: .int (gi S0 11) :: .int (gi S0 12) :: .int (gi S0 13) :: .int (gi S0 14) :: .int (gi S0 15) :: .int (gi S0 16) :: .int (gi S0 17) :: .int (gi S0 18) :: .long (gl S0 19) :: .ref (q0 5) :: .ref (q0 6) :: .ref (q0 7) :: .int (gi S0 23) :: .int (gi S0 24) :: .int (gi S0 25) :: .ref (q0 8) :: .int (gi S0 27) :: .int (gi S0 28) :: .long (gl S0 29) :: .long (gl S0 30) :: .int (gi S0 31) :: .ref (q0 9) :: .int (gi S0 33) :: .int (gi S0 34) :: .ref (q0 10) :: .ref (q0 11) :: .int (gi S0 37) :: .int (gi S0 38) :: .ref (q0 12) :: .int (gi S0 40) :: .int (gi S0 41) :: .int (gi S0 42) :: .int (gi S0 43) :: .int (gi S0 44) :: .int (gi S0 45) :: .int (gi S0 46) :: .int (gi S0 47) :: .int (gi S0 48) :: []) 31 (.int v))) = w12 ca q0 (si S0 31 v) := rfl
theorem aw12_0_9 (ca : Nat → ClassId) (q0 : Nat → Nat) (S0 : ms_T) (i v : Int32) : (w12 ca q0 S0 : va_W).set 9 (q0 9, .inl (ca 1, 6, .inl (upd (ra S0 9) i.toNatClampNeg v))) = w12 ca q0 (sa S0 9 i v) := rfl
theorem pw12_0_33 (ca : Nat → ClassId) (q0 : Nat → Nat) (S0 : ms_T) (v : Int32) : (w12 ca q0 S0 : va_W).set 0 (q0 0, .inr (12, List.set (.int (gi S0 0) :: .int (gi S0 1) :: .long (gl S0 2) :: .long (gl S0 3) :: .ref (q0 1) :: .ref (q0 2) :: .ref (q0 3) :: .ref (q0 4) :: .int (gi S0 8) :: .int (gi S0 9) :: .int (gi S0 10) :: .int (gi S0 11) :: .int (gi S0 12) :: .int (gi S0 13) :: .int (gi S0 14) :: .int (gi S0 15) :: .int (gi S0 16) :: .int (gi S0 17) :: .int (gi S0 18) :: .long (gl S0 19) :: .ref (q0 5) :: .ref (q0 6) :: .ref (q0 7) :: .int (gi S0 23) :: .int (gi S0 24) :: .int (gi S0 25) :: .ref (q0 8) :: .int (gi S0 27) :: .int (gi S0 28) :: .long (gl S0 29) :: .long (gl S0 30) :: .int (gi S0 31) :: .ref (q0 9) :: .int (gi S0 33) :: .int (gi S0 34) :: .ref (q0 10) :: .ref (q0 11) :: .int (gi S0 37) :: .int (gi S0 38) :: .ref (q0 12) :: .int (gi S0 40) :: .int (gi S0 41) :: .int (gi S0 42) :: .int (gi S0 43) :: .int (gi S0 44) :: .int (gi S0 45) :: .int (gi S0 46) :: .int (gi S0 47) :: .int (gi S0 48) :: []) 33 (.int v))) = w12 ca q0 (si S0 33 v) := rfl
theorem pw12_0_34 (ca : Nat → ClassId) (q0 : Nat → Nat) (S0 : ms_T) (v : Int32) : (w12 ca q0 S0 : va_W).set 0 (q0 0, .inr (12, List.set (.int (gi S0 0) :: .int (gi S0 1) :: .long (gl S0 2) :: .long (gl S0 3) :: .ref (q0 1) :: .ref (q0 2) :: .ref (q0 3) :: .ref (q0 4) :: .int (gi S0 8) :: .int (gi S0 9) :: .int (gi S0 10) :: .int (gi S0 11) :: .int (gi S0 12) :: .int (gi S0 13) :: .int (gi S0 14) :: .int (gi S0 15) :: .int (gi S0 16) :: .int (gi S0 17) :: .int (gi S0 18) :: .long (gl S0 19) :: .ref (q0 5) :: .ref (q0 6) :: .ref (q0 7) :: .int (gi S0 23) :: .int (gi S0 24) :: .int (gi S0 25) :: .ref (q0 8) :: .int (gi S0 27) :: .int (gi S0 28) :: .long (gl S0 29) :: .long (gl S0 30) :: .int (gi S0 31) :: .ref (q0 9) :: .int (gi S0 33) :: .int (gi S0 34) :: .ref (q0 10) :: .ref (q0 11) :: .int (gi S0 37) :: .int (gi S0 38) :: .ref (q0 12) :: .int (gi S0 40) :: .int (gi S0 41) :: .int (gi S0 42) :: .int (gi S0 43) :: .int (gi S0 44) :: .int (gi S0 45) :: .int (gi S0 46) :: .int (gi S0 47) :: .int (gi S0 48) :: []) 34 (.int v))) = w12 ca q0 (si S0 34 v) := rfl
theorem pw12_0_37 (ca : Nat → ClassId) (q0 : Nat → Nat) (S0 : ms_T) (v : Int32) : (w12 ca q0 S0 : va_W).set 0 (q0 0, .inr (12, List.set (.int (gi S0 0) :: .int (gi S0 1) :: .long (gl S0 2) :: .long (gl S0 3) :: .ref (q0 1) :: .ref (q0 2) :: .ref (q0 3) :: .ref (q0 4) :: .int (gi S0 8) :: .int (gi S0 9) :: .int (gi S0 10) :: .int (gi S0 11) :: .int (gi S0 12) :: .int (gi S0 13) :: .int (gi S0 14) :: .int (gi S0 15) :: .int (gi S0 16) :: .int (gi S0 17) :: .int (gi S0 18) :: .long (gl S0 19) :: .ref (q0 5) :: .ref (q0 6) :: .ref (q0 7) :: .int (gi S0 23) :: .int (gi S0 24) :: .int (gi S0 25) :: .ref (q0 8) :: .int (gi S0 27) :: .int (gi S0 28) :: .long (gl S0 29) :: .long (gl S0 30) :: .int (gi S0 31) :: .ref (q0 9) :: .int (gi S0 33) :: .int (gi S0 34) :: .ref (q0 10) :: .ref (q0 11) :: .int (gi S0 37) :: .int (gi S0 38) :: .ref (q0 12) :: .int (gi S0 40) :: .int (gi S0 41) :: .int (gi S0 42) :: .int (gi S0 43) :: .int (gi S0 44) :: .int (gi S0 45) :: .int (gi S0 46) :: .int (gi S0 47) :: .int (gi S0 48) :: []) 37 (.int v))) = w12 ca q0 (si S0 37 v) := rfl
theorem aw12_0_11 (ca : Nat → ClassId) (q0 : Nat → Nat) (S0 : ms_T) (i v : Int32) : (w12 ca q0 S0 : va_W).set 11 (q0 11, .inl (ca 1, 6, .inl (upd (ra S0 11) i.toNatClampNeg v))) = w12 ca q0 (sa S0 11 i v) := rfl
theorem aw12_0_10 (ca : Nat → ClassId) (q0 : Nat → Nat) (S0 : ms_T) (i v : Int32) : (w12 ca q0 S0 : va_W).set 10 (q0 10, .inl (ca 1, 6, .inl (upd (ra S0 10) i.toNatClampNeg v))) = w12 ca q0 (sa S0 10 i v) := rfl
theorem pw12_0_38 (ca : Nat → ClassId) (q0 : Nat → Nat) (S0 : ms_T) (v : Int32) : (w12 ca q0 S0 : va_W).set 0 (q0 0, .inr (12, List.set (.int (gi S0 0) :: .int (gi S0 1) :: .long (gl S0 2) :: .long (gl S0 3) :: .ref (q0 1) :: .ref (q0 2) :: .ref (q0 3) :: .ref (q0 4) :: .int (gi S0 8) :: .int (gi S0 9) :: .int (gi S0 10) :: .int (gi S0 11) :: .int (gi S0 12) :: .int (gi S0 13) :: .int (gi S0 14) :: .int (gi S0 15) :: .int (gi S0 16) :: .int (gi S0 17) :: .int (gi S0 18) :: .long (gl S0 19) :: .ref (q0 5) :: .ref (q0 6) :: .ref (q0 7) :: .int (gi S0 23) :: .int (gi S0 24) :: .int (gi S0 25) :: .ref (q0 8) :: .int (gi S0 27) :: .int (gi S0 28) :: .long (gl S0 29) :: .long (gl S0 30) :: .int (gi S0 31) :: .ref (q0 9) :: .int (gi S0 33) :: .int (gi S0 34) :: .ref (q0 10) :: .ref (q0 11) :: .int (gi S0 37) :: .int (gi S0 38) :: .ref (q0 12) :: .int (gi S0 40) :: .int (gi S0 41) :: .int (gi S0 42) :: .int (gi S0 43) :: .int (gi S0 44) :: .int (gi S0 45) :: .int (gi S0 46) :: .int (gi S0 47) :: .int (gi S0 48) :: []) 38 (.int v))) = w12 ca q0 (si S0 38 v) := rfl
theorem pw12_0_42 (ca : Nat → ClassId) (q0 : Nat → Nat) (S0 : ms_T) (v : Int32) : (w12 ca q0 S0 : va_W).set 0 (q0 0, .inr (12, List.set (.int (gi S0 0) :: .int (gi S0 1) :: .long (gl S0 2) :: .long (gl S0 3) :: .ref (q0 1) :: .ref (q0 2) :: .ref (q0 3) :: .ref (q0 4) :: .int (gi S0 8) :: .int (gi S0 9) :: .int (gi S0 10) :: .int (gi S0 11) :: .int (gi S0 12) :: .int (gi S0 13) :: .int (gi S0 14) :: .int (gi S0 15) :: .int (gi S0 16) :: .int (gi S0 17) :: .int (gi S0 18) :: .long (gl S0 19) :: .ref (q0 5) :: .ref (q0 6) :: .ref (q0 7) :: .int (gi S0 23) :: .int (gi S0 24) :: .int (gi S0 25) :: .ref (q0 8) :: .int (gi S0 27) :: .int (gi S0 28) :: .long (gl S0 29) :: .long (gl S0 30) :: .int (gi S0 31) :: .ref (q0 9) :: .int (gi S0 33) :: .int (gi S0 34) :: .ref (q0 10) :: .ref (q0 11) :: .int (gi S0 37) :: .int (gi S0 38) :: .ref (q0 12) :: .int (gi S0 40) :: .int (gi S0 41) :: .int (gi S0 42) :: .int (gi S0 43) :: .int (gi S0 44) :: .int (gi S0 45) :: .int (gi S0 46) :: .int (gi S0 47) :: .int (gi S0 48) :: []) 42 (.int v))) = w12 ca q0 (si S0 42 v) := rfl
theorem pw12_0_46 (ca : Nat → ClassId) (q0 : Nat → Nat) (S0 : ms_T) (v : Int32) : (w12 ca q0 S0 : va_W).set 0 (q0 0, .inr (12, List.set (.int (gi S0 0) :: .int (gi S0 1) :: .long (gl S0 2) :: .long (gl S0 3) :: .ref (q0 1) :: .ref (q0 2) :: .ref (q0 3) :: .ref (q0 4) :: .int (gi S0 8) :: .int (gi S0 9) :: .int (gi S0 10) :: .int (gi S0 11) :: .int (gi S0 12) :: .int (gi S0 13) :: .int (gi S0 14) :: .int (gi S0 15) :: .int (gi S0 16) :: .int (gi S0 17) :: .int (gi S0 18) :: .long (gl S0 19) :: .ref (q0 5) :: .ref (q0 6) :: .ref (q0 7) :: .int (gi S0 23) :: .int (gi S0 24) :: .int (gi S0 25) :: .ref (q0 8) :: .int (gi S0 27) :: .int (gi S0 28) :: .long (gl S0 29) :: .long (gl S0 30) :: .int (gi S0 31) :: .ref (q0 9) :: .int (gi S0 33) :: .int (gi S0 34) :: .ref (q0 10) :: .ref (q0 11) :: .int (gi S0 37) :: .int (gi S0 38) :: .ref (q0 12) :: .int (gi S0 40) :: .int (gi S0 41) :: .int (gi S0 42) :: .int (gi S0 43) :: .int (gi S0 44) :: .int (gi S0 45) :: .int (gi S0 46) :: .int (gi S0 47) :: .int (gi S0 48) :: []) 46 (.int v))) = w12 ca q0 (si S0 46 v) := rfl
theorem pw12_0_47 (ca : Nat → ClassId) (q0 : Nat → Nat) (S0 : ms_T) (v : Int32) : (w12 ca q0 S0 : va_W).set 0 (q0 0, .inr (12, List.set (.int (gi S0 0) :: .int (gi S0 1) :: .long (gl S0 2) :: .long (gl S0 3) :: .ref (q0 1) :: .ref (q0 2) :: .ref (q0 3) :: .ref (q0 4) :: .int (gi S0 8) :: .int (gi S0 9) :: .int (gi S0 10) :: .int (gi S0 11) :: .int (gi S0 12) :: .int (gi S0 13) :: .int (gi S0 14) :: .int (gi S0 15) :: .int (gi S0 16) :: .int (gi S0 17) :: .int (gi S0 18) :: .long (gl S0 19) :: .ref (q0 5) :: .ref (q0 6) :: .ref (q0 7) :: .int (gi S0 23) :: .int (gi S0 24) :: .int (gi S0 25) :: .ref (q0 8) :: .int (gi S0 27) :: .int (gi S0 28) :: .long (gl S0 29) :: .long (gl S0 30) :: .int (gi S0 31) :: .ref (q0 9) :: .int (gi S0 33) :: .int (gi S0 34) :: .ref (q0 10) :: .ref (q0 11) :: .int (gi S0 37) :: .int (gi S0 38) :: .ref (q0 12) :: .int (gi S0 40) :: .int (gi S0 41) :: .int (gi S0 42) :: .int (gi S0 43) :: .int (gi S0 44) :: .int (gi S0 45) :: .int (gi S0 46) :: .int (gi S0 47) :: .int (gi S0 48) :: []) 47 (.int v))) = w12 ca q0 (si S0 47 v) := rfl
theorem pw12_0_43 (ca : Nat → ClassId) (q0 : Nat → Nat) (S0 : ms_T) (v : Int32) : (w12 ca q0 S0 : va_W).set 0 (q0 0, .inr (12, List.set (.int (gi S0 0) :: .int (gi S0 1) :: .long (gl S0 2) :: .long (gl S0 3) :: .ref (q0 1) :: .ref (q0 2) :: .ref (q0 3) :: .ref (q0 4) :: .int (gi S0 8) :: .int (gi S0 9) :: .int (gi S0 10) :: .int (gi S0 11) :: .int (gi S0 12) :: .int (gi S0 13) :: .int (gi S0 14) :: .int (gi S0 15) :: .int (gi S0 16) :: .int (gi S0 17) :: .int (gi S0 18) :: .long (gl S0 19) :: .ref (q0 5) :: .ref (q0 6) :: .ref (q0 7) :: .int (gi S0 23) :: .int (gi S0 24) :: .int (gi S0 25) :: .ref (q0 8) :: .int (gi S0 27) :: .int (gi S0 28) :: .long (gl S0 29) :: .long (gl S0 30) :: .int (gi S0 31) :: .ref (q0 9) :: .int (gi S0 33) :: .int (gi S0 34) :: .ref (q0 10) :: .ref (q0 11) :: .int (gi S0 37) :: .int (gi S0 38) :: .ref (q0 12) :: .int (gi S0 40) :: .int (gi S0 41) :: .int (gi S0 42) :: .int (gi S0 43) :: .int (gi S0 44) :: .int (gi S0 45) :: .int (gi S0 46) :: .int (gi S0 47) :: .int (gi S0 48) :: []) 43 (.int v))) = w12 ca q0 (si S0 43 v) := rfl
theorem pw12_0_41 (ca : Nat → ClassId) (q0 : Nat → Nat) (S0 : ms_T) (v : Int32) : (w12 ca q0 S0 : va_W).set 0 (q0 0, .inr (12, List.set (.int (gi S0 0) :: .int (gi S0 1) :: .long (gl S0 2) :: .long (gl S0 3) :: .ref (q0 1) :: .ref (q0 2) :: .ref (q0 3) :: .ref (q0 4) :: .int (gi S0 8) :: .int (gi S0 9) :: .int (gi S0 10) :: .int (gi S0 11) :: .int (gi S0 12) :: .int (gi S0 13) :: .int (gi S0 14) :: .int (gi S0 15) :: .int (gi S0 16) :: .int (gi S0 17) :: .int (gi S0 18) :: .long (gl S0 19) :: .ref (q0 5) :: .ref (q0 6) :: .ref (q0 7) :: .int (gi S0 23) :: .int (gi S0 24) :: .int (gi S0 25) :: .ref (q0 8) :: .int (gi S0 27) :: .int (gi S0 28) :: .long (gl S0 29) :: .long (gl S0 30) :: .int (gi S0 31) :: .ref (q0 9) :: .int (gi S0 33) :: .int (gi S0 34) :: .ref (q0 10) :: .ref (q0 11) :: .int (gi S0 37) :: .int (gi S0 38) :: .ref (q0 12) :: .int (gi S0 40) :: .int (gi S0 41) :: .int (gi S0 42) :: .int (gi S0 43) :: .int (gi S0 44) :: .int (gi S0 45) :: .int (gi S0 46) :: .int (gi S0 47) :: .int (gi S0 48) :: []) 41 (.int v))) = w12 ca q0 (si S0 41 v) := rfl
theorem pw12_0_44 (ca : Nat → ClassId) (q0 : Nat → Nat) (S0 : ms_T) (v : Int32) : (w12 ca q0 S0 : va_W).set 0 (q0 0, .inr (12, List.set (.int (gi S0 0) :: .int (gi S0 1) :: .long (gl S0 2) :: .long (gl S0 3) :: .ref (q0 1) :: .ref (q0 2) :: .ref (q0 3) :: .ref (q0 4) :: .int (gi S0 8) :: .int (gi S0 9) :: .int (gi S0 10) :: .int (gi S0 11) :: .int (gi S0 12) :: .int (gi S0 13) :: .int (gi S0 14) :: .int (gi S0 15) :: .int (gi S0 16) :: .int (gi S0 17) :: .int (gi S0 18) :: .long (gl S0 19) :: .ref (q0 5) :: .ref (q0 6) :: .ref (q0 7) :: .int (gi S0 23) :: .int (gi S0 24) :: .int (gi S0 25) :: .ref (q0 8) :: .int (gi S0 27) :: .int (gi S0 28) :: .long (gl S0 29) :: .long (gl S0 30) :: .int (gi S0 31) :: .ref (q0 9) :: .int (gi S0 33) :: .int (gi S0 34) :: .ref (q0 10) :: .ref (q0 11) :: .int (gi S0 37) :: .int (gi S0 38) :: .ref (q0 12) :: .int (gi S0 40) :: .int (gi S0 41) :: .int (gi S0 42) :: .int (gi S0 43) :: .int (gi S0 44) :: .int (gi S0 45) :: .int (gi S0 46) :: .int (gi S0 47) :: .int (gi S0 48) :: []) 44 (.int v))) = w12 ca q0 (si S0 44 v) := rfl
theorem pw12_0_48 (ca : Nat → ClassId) (q0 : Nat → Nat) (S0 : ms_T) (v : Int32) : (w12 ca q0 S0 : va_W).set 0 (q0 0, .inr (12, List.set (.int (gi S0 0) :: .int (gi S0 1) :: .long (gl S0 2) :: .long (gl S0 3) :: .ref (q0 1) :: .ref (q0 2) :: .ref (q0 3) :: .ref (q0 4) :: .int (gi S0 8) :: .int (gi S0 9) :: .int (gi S0 10) :: .int (gi S0 11) :: .int (gi S0 12) :: .int (gi S0 13) :: .int (gi S0 14) :: .int (gi S0 15) :: .int (gi S0 16) :: .int (gi S0 17) :: .int (gi S0 18) :: .long (gl S0 19) :: .ref (q0 5) :: .ref (q0 6) :: .ref (q0 7) :: .int (gi S0 23) :: .int (gi S0 24) :: .int (gi S0 25) :: .ref (q0 8) :: .int (gi S0 27) :: .int (gi S0 28) :: .long (gl S0 29) :: .long (gl S0 30) :: .int (gi S0 31) :: .ref (q0 9) :: .int (gi S0 33) :: .int (gi S0 34) :: .ref (q0 10) :: .ref (q0 11) :: .int (gi S0 37) :: .int (gi S0 38) :: .ref (q0 12) :: .int (gi S0 40) :: .int (gi S0 41) :: .int (gi S0 42) :: .int (gi S0 43) :: .int (gi S0 44) :: .int (gi S0 45) :: .int (gi S0 46) :: .int (gi S0 47) :: .int (gi S0 48) :: []) 48 (.int v))) = w12 ca q0 (si S0 48 v) := rfl
theorem pw12_0_45 (ca : Nat → ClassId) (q0 : Nat → Nat) (S0 : ms_T) (v : Int32) : (w12 ca q0 S0 : va_W).set 0 (q0 0, .inr (12, List.set (.int (gi S0 0) :: .int (gi S0 1) :: .long (gl S0 2) :: .long (gl S0 3) :: .ref (q0 1) :: .ref (q0 2) :: .ref (q0 3) :: .ref (q0 4) :: .int (gi S0 8) :: .int (gi S0 9) :: .int (gi S0 10) :: .int (gi S0 11) :: .int (gi S0 12) :: .int (gi S0 13) :: .int (gi S0 14) :: .int (gi S0 15) :: .int (gi S0 16) :: .int (gi S0 17) :: .int (gi S0 18) :: .long (gl S0 19) :: .ref (q0 5) :: .ref (q0 6) :: .ref (q0 7) :: .int (gi S0 23) :: .int (gi S0 24) :: .int (gi S0 25) :: .ref (q0 8) :: .int (gi S0 27) :: .int (gi S0 28) :: .long (gl S0 29) :: .long (gl S0 30) :: .int (gi S0 31) :: .ref (q0 9) :: .int (gi S0 33) :: .int (gi S0 34) :: .ref (q0 10) :: .ref (q0 11) :: .int (gi S0 37) :: .int (gi S0 38) :: .ref (q0 12) :: .int (gi S0 40) :: .int (gi S0 41) :: .int (gi S0 42) :: .int (gi S0 43) :: .int (gi S0 44) :: .int (gi S0 45) :: .int (gi S0 46) :: .int (gi S0 47) :: .int (gi S0 48) :: []) 45 (.int v))) = w12 ca q0 (si S0 45 v) := rfl
theorem aw12_0_12 (ca : Nat → ClassId) (q0 : Nat → Nat) (S0 : ms_T) (i v : Int32) : (w12 ca q0 S0 : va_W).set 12 (q0 12, .inl (ca 1, 5, .inl (upd (ra S0 12) i.toNatClampNeg v))) = w12 ca q0 (sa S0 12 i v) := rfl
theorem pw12_0_40 (ca : Nat → ClassId) (q0 : Nat → Nat) (S0 : ms_T) (v : Int32) : (w12 ca q0 S0 : va_W).set 0 (q0 0, .inr (12, List.set (.int (gi S0 0) :: .int (gi S0 1) :: .long (gl S0 2) :: .long (gl S0 3) :: .ref (q0 1) :: .ref (q0 2) :: .ref (q0 3) :: .ref (q0 4) :: .int (gi S0 8) :: .int (gi S0 9) :: .int (gi S0 10) :: .int (gi S0 11) :: .int (gi S0 12) :: .int (gi S0 13) :: .int (gi S0 14) :: .int (gi S0 15) :: .int (gi S0 16) :: .int (gi S0 17) :: .int (gi S0 18) :: .long (gl S0 19) :: .ref (q0 5) :: .ref (q0 6) :: .ref (q0 7) :: .int (gi S0 23) :: .int (gi S0 24) :: .int (gi S0 25) :: .ref (q0 8) :: .int (gi S0 27) :: .int (gi S0 28) :: .long (gl S0 29) :: .long (gl S0 30) :: .int (gi S0 31) :: .ref (q0 9) :: .int (gi S0 33) :: .int (gi S0 34) :: .ref (q0 10) :: .ref (q0 11) :: .int (gi S0 37) :: .int (gi S0 38) :: .ref (q0 12) :: .int (gi S0 40) :: .int (gi S0 41) :: .int (gi S0 42) :: .int (gi S0 43) :: .int (gi S0 44) :: .int (gi S0 45) :: .int (gi S0 46) :: .int (gi S0 47) :: .int (gi S0 48) :: []) 40 (.int v))) = w12 ca q0 (si S0 40 v) := rfl
theorem aw12_0_6 (ca : Nat → ClassId) (q0 : Nat → Nat) (S0 : ms_T) (i v : Int32) : (w12 ca q0 S0 : va_W).set 6 (q0 6, .inl (ca 1, 92, .inl (upd (ra S0 6) i.toNatClampNeg v))) = w12 ca q0 (sa S0 6 i v) := rfl
theorem pw12_0_23 (ca : Nat → ClassId) (q0 : Nat → Nat) (S0 : ms_T) (v : Int32) : (w12 ca q0 S0 : va_W).set 0 (q0 0, .inr (12, List.set (.int (gi S0 0) :: .int (gi S0 1) :: .long (gl S0 2) :: .long (gl S0 3) :: .ref (q0 1) :: .ref (q0 2) :: .ref (q0 3) :: .ref (q0 4) :: .int (gi S0 8) :: .int (gi S0 9) :: .int (gi S0 10) :: .int (gi S0 11) :: .int (gi S0 12) :: .int (gi S0 13) :: .int (gi S0 14) :: .int (gi S0 15) :: .int (gi S0 16) :: .int (gi S0 17) :: .int (gi S0 18) :: .long (gl S0 19) :: .ref (q0 5) :: .ref (q0 6) :: .ref (q0 7) :: .int (gi S0 23) :: .int (gi S0 24) :: .int (gi S0 25) :: .ref (q0 8) :: .int (gi S0 27) :: .int (gi S0 28) :: .long (gl S0 29) :: .long (gl S0 30) :: .int (gi S0 31) :: .ref (q0 9) :: .int (gi S0 33) :: .int (gi S0 34) :: .ref (q0 10) :: .ref (q0 11) :: .int (gi S0 37) :: .int (gi S0 38) :: .ref (q0 12) :: .int (gi S0 40) :: .int (gi S0 41) :: .int (gi S0 42) :: .int (gi S0 43) :: .int (gi S0 44) :: .int (gi S0 45) :: .int (gi S0 46) :: .int (gi S0 47) :: .int (gi S0 48) :: []) 23 (.int v))) = w12 ca q0 (si S0 23 v) := rfl
theorem dJ6_bitCount_0f7a4_0 : decode cJ6_bitCount_0f7a4 0 = .ok (.iload_n 0, 1) := by decide +kernel
theorem dJ6_bitCount_0f7a4_1 : decode cJ6_bitCount_0f7a4 1 = .ok (.iload_n 0, 1) := by decide +kernel
theorem dJ6_bitCount_0f7a4_2 : decode cJ6_bitCount_0f7a4 2 = .ok (.iconst 1, 1) := by decide +kernel
theorem dJ6_bitCount_0f7a4_3 : decode cJ6_bitCount_0f7a4 3 = .ok (.iushr, 1) := by decide +kernel
theorem dJ6_bitCount_0f7a4_4 : decode cJ6_bitCount_0f7a4 4 = .ok (.ldc_w 265, 3) := by decide +kernel
theorem dJ6_bitCount_0f7a4_7 : decode cJ6_bitCount_0f7a4 7 = .ok (.iand, 1) := by decide +kernel
theorem dJ6_bitCount_0f7a4_8 : decode cJ6_bitCount_0f7a4 8 = .ok (.isub, 1) := by decide +kernel
theorem dJ6_bitCount_0f7a4_9 : decode cJ6_bitCount_0f7a4 9 = .ok (.istore_n 0, 1) := by decide +kernel
theorem dJ6_bitCount_0f7a4_10 : decode cJ6_bitCount_0f7a4 10 = .ok (.iload_n 0, 1) := by decide +kernel
theorem dJ6_bitCount_0f7a4_11 : decode cJ6_bitCount_0f7a4 11 = .ok (.ldc_w 266, 3) := by decide +kernel
theorem dJ6_bitCount_0f7a4_14 : decode cJ6_bitCount_0f7a4 14 = .ok (.iand, 1) := by decide +kernel
theorem dJ6_bitCount_0f7a4_15 : decode cJ6_bitCount_0f7a4 15 = .ok (.iload_n 0, 1) := by decide +kernel
theorem dJ6_bitCount_0f7a4_16 : decode cJ6_bitCount_0f7a4 16 = .ok (.iconst 2, 1) := by decide +kernel
theorem dJ6_bitCount_0f7a4_17 : decode cJ6_bitCount_0f7a4 17 = .ok (.iushr, 1) := by decide +kernel
theorem dJ6_bitCount_0f7a4_18 : decode cJ6_bitCount_0f7a4 18 = .ok (.ldc_w 266, 3) := by decide +kernel
theorem dJ6_bitCount_0f7a4_21 : decode cJ6_bitCount_0f7a4 21 = .ok (.iand, 1) := by decide +kernel
theorem dJ6_bitCount_0f7a4_22 : decode cJ6_bitCount_0f7a4 22 = .ok (.iadd, 1) := by decide +kernel
theorem dJ6_bitCount_0f7a4_23 : decode cJ6_bitCount_0f7a4 23 = .ok (.istore_n 0, 1) := by decide +kernel
theorem dJ6_bitCount_0f7a4_24 : decode cJ6_bitCount_0f7a4 24 = .ok (.iload_n 0, 1) := by decide +kernel
theorem dJ6_bitCount_0f7a4_25 : decode cJ6_bitCount_0f7a4 25 = .ok (.iload_n 0, 1) := by decide +kernel
theorem dJ6_bitCount_0f7a4_26 : decode cJ6_bitCount_0f7a4 26 = .ok (.iconst 4, 1) := by decide +kernel
theorem dJ6_bitCount_0f7a4_27 : decode cJ6_bitCount_0f7a4 27 = .ok (.iushr, 1) := by decide +kernel
theorem dJ6_bitCount_0f7a4_28 : decode cJ6_bitCount_0f7a4 28 = .ok (.iadd, 1) := by decide +kernel
theorem dJ6_bitCount_0f7a4_29 : decode cJ6_bitCount_0f7a4 29 = .ok (.ldc_w 267, 3) := by decide +kernel
theorem dJ6_bitCount_0f7a4_32 : decode cJ6_bitCount_0f7a4 32 = .ok (.iand, 1) := by decide +kernel
theorem dJ6_bitCount_0f7a4_33 : decode cJ6_bitCount_0f7a4 33 = .ok (.istore_n 0, 1) := by decide +kernel
theorem dJ6_bitCount_0f7a4_34 : decode cJ6_bitCount_0f7a4 34 = .ok (.iload_n 0, 1) := by decide +kernel
theorem dJ6_bitCount_0f7a4_35 : decode cJ6_bitCount_0f7a4 35 = .ok (.iload_n 0, 1) := by decide +kernel
theorem dJ6_bitCount_0f7a4_36 : decode cJ6_bitCount_0f7a4 36 = .ok (.bipush 8, 2) := by decide +kernel
theorem dJ6_bitCount_0f7a4_38 : decode cJ6_bitCount_0f7a4 38 = .ok (.iushr, 1) := by decide +kernel
theorem dJ6_bitCount_0f7a4_39 : decode cJ6_bitCount_0f7a4 39 = .ok (.iadd, 1) := by decide +kernel
theorem dJ6_bitCount_0f7a4_40 : decode cJ6_bitCount_0f7a4 40 = .ok (.istore_n 0, 1) := by decide +kernel
theorem dJ6_bitCount_0f7a4_41 : decode cJ6_bitCount_0f7a4 41 = .ok (.iload_n 0, 1) := by decide +kernel
theorem dJ6_bitCount_0f7a4_42 : decode cJ6_bitCount_0f7a4 42 = .ok (.iload_n 0, 1) := by decide +kernel
theorem dJ6_bitCount_0f7a4_43 : decode cJ6_bitCount_0f7a4 43 = .ok (.bipush 16, 2) := by decide +kernel
theorem dJ6_bitCount_0f7a4_45 : decode cJ6_bitCount_0f7a4 45 = .ok (.iushr, 1) := by decide +kernel
theorem dJ6_bitCount_0f7a4_46 : decode cJ6_bitCount_0f7a4 46 = .ok (.iadd, 1) := by decide +kernel
theorem dJ6_bitCount_0f7a4_47 : decode cJ6_bitCount_0f7a4 47 = .ok (.istore_n 0, 1) := by decide +kernel
theorem dJ6_bitCount_0f7a4_48 : decode cJ6_bitCount_0f7a4 48 = .ok (.iload_n 0, 1) := by decide +kernel
theorem dJ6_bitCount_0f7a4_49 : decode cJ6_bitCount_0f7a4 49 = .ok (.bipush 63, 2) := by decide +kernel
theorem dJ6_bitCount_0f7a4_51 : decode cJ6_bitCount_0f7a4 51 = .ok (.iand, 1) := by decide +kernel
theorem dJ6_bitCount_0f7a4_52 : decode cJ6_bitCount_0f7a4 52 = .ok (.ireturn, 1) := by decide +kernel
theorem dX12_status_0 : decode cX12_status 0 = .ok (.aload_n 0, 1) := by decide +kernel
theorem dX12_status_1 : decode cX12_status 1 = .ok (.iconst 0, 1) := by decide +kernel
theorem dX12_status_2 : decode cX12_status 2 = .ok (.putfield 63, 3) := by decide +kernel
theorem dX12_status_5 : decode cX12_status 5 = .ok (.aload_n 0, 1) := by decide +kernel
theorem dX12_status_6 : decode cX12_status 6 = .ok (.getfield 66, 3) := by decide +kernel
theorem dX12_status_9 : decode cX12_status 9 = .ok (.ireturn, 1) := by decide +kernel
theorem dX12_top_0 : decode cX12_top 0 = .ok (.aload_n 0, 1) := by decide +kernel
theorem dX12_top_1 : decode cX12_top 1 = .ok (.iconst 0, 1) := by decide +kernel
theorem dX12_top_2 : decode cX12_top 2 = .ok (.putfield 63, 3) := by decide +kernel
theorem dX12_top_5 : decode cX12_top 5 = .ok (.aload_n 0, 1) := by decide +kernel
theorem dX12_top_6 : decode cX12_top 6 = .ok (.getfield 69, 3) := by decide +kernel
theorem dX12_top_9 : decode cX12_top 9 = .ok (.lreturn, 1) := by decide +kernel
theorem dX12_bottom_0 : decode cX12_bottom 0 = .ok (.aload_n 0, 1) := by decide +kernel
theorem dX12_bottom_1 : decode cX12_bottom 1 = .ok (.iconst 0, 1) := by decide +kernel
theorem dX12_bottom_2 : decode cX12_bottom 2 = .ok (.putfield 63, 3) := by decide +kernel
theorem dX12_bottom_5 : decode cX12_bottom 5 = .ok (.aload_n 0, 1) := by decide +kernel
theorem dX12_bottom_6 : decode cX12_bottom 6 = .ok (.getfield 7, 3) := by decide +kernel
theorem dX12_bottom_9 : decode cX12_bottom 9 = .ok (.lreturn, 1) := by decide +kernel
theorem dX12_refuse_0 : decode cX12_refuse 0 = .ok (.aload_n 0, 1) := by decide +kernel
theorem dX12_refuse_1 : decode cX12_refuse 1 = .ok (.iload_n 1, 1) := by decide +kernel
theorem dX12_refuse_2 : decode cX12_refuse 2 = .ok (.putfield 66, 3) := by decide +kernel
theorem dX12_refuse_5 : decode cX12_refuse 5 = .ok (.iconst (-1), 1) := by decide +kernel
theorem dX12_refuse_6 : decode cX12_refuse 6 = .ok (.ireturn, 1) := by decide +kernel
theorem dX12_no_0 : decode cX12_no 0 = .ok (.aload_n 0, 1) := by decide +kernel
theorem dX12_no_1 : decode cX12_no 1 = .ok (.iload_n 1, 1) := by decide +kernel
theorem dX12_no_2 : decode cX12_no 2 = .ok (.putfield 66, 3) := by decide +kernel
theorem dX12_no_5 : decode cX12_no 5 = .ok (.iconst 0, 1) := by decide +kernel
theorem dX12_no_6 : decode cX12_no 6 = .ok (.ireturn, 1) := by decide +kernel
theorem dX12_isIn_0 : decode cX12_isIn 0 = .ok (.lload_n 0, 1) := by decide +kernel
theorem dX12_isIn_1 : decode cX12_isIn 1 = .ok (.lload_n 2, 1) := by decide +kernel
theorem dX12_isIn_2 : decode cX12_isIn 2 = .ok (.lcmp, 1) := by decide +kernel
theorem dX12_isIn_3 : decode cX12_isIn 3 = .ok (.ifCond .lt 14, 3) := by decide +kernel
theorem dX12_isIn_6 : decode cX12_isIn 6 = .ok (.lload_n 0, 1) := by decide +kernel
theorem dX12_isIn_7 : decode cX12_isIn 7 = .ok (.lload 4, 2) := by decide +kernel
theorem dX12_isIn_9 : decode cX12_isIn 9 = .ok (.lcmp, 1) := by decide +kernel
theorem dX12_isIn_10 : decode cX12_isIn 10 = .ok (.ifCond .gt 7, 3) := by decide +kernel
theorem dX12_isIn_13 : decode cX12_isIn 13 = .ok (.iconst 1, 1) := by decide +kernel
theorem dX12_isIn_14 : decode cX12_isIn 14 = .ok (.goto 4, 3) := by decide +kernel
theorem dX12_isIn_17 : decode cX12_isIn 17 = .ok (.iconst 0, 1) := by decide +kernel
theorem dX12_isIn_18 : decode cX12_isIn 18 = .ok (.ireturn, 1) := by decide +kernel
theorem dX12_fraction_0 : decode cX12_fraction 0 = .ok (.lload_n 1, 1) := by decide +kernel
theorem dX12_fraction_1 : decode cX12_fraction 1 = .ok (.invokestatic 72, 3) := by decide +kernel
theorem dX12_fraction_4 : decode cX12_fraction 4 = .ok (.lstore 5, 2) := by decide +kernel
theorem dX12_fraction_6 : decode cX12_fraction 6 = .ok (.lload_n 3, 1) := by decide +kernel
theorem dX12_fraction_7 : decode cX12_fraction 7 = .ok (.lstore 7, 2) := by decide +kernel
theorem dX12_fraction_9 : decode cX12_fraction 9 = .ok (.lload 7, 2) := by decide +kernel
theorem dX12_fraction_11 : decode cX12_fraction 11 = .ok (.lconst 0, 1) := by decide +kernel
theorem dX12_fraction_12 : decode cX12_fraction 12 = .ok (.lcmp, 1) := by decide +kernel
theorem dX12_fraction_13 : decode cX12_fraction 13 = .ok (.ifCond .eq 21, 3) := by decide +kernel
theorem dX12_fraction_16 : decode cX12_fraction 16 = .ok (.lload 5, 2) := by decide +kernel
theorem dX12_fraction_18 : decode cX12_fraction 18 = .ok (.lload 7, 2) := by decide +kernel
theorem dX12_fraction_20 : decode cX12_fraction 20 = .ok (.lrem, 1) := by decide +kernel
theorem dX12_fraction_21 : decode cX12_fraction 21 = .ok (.lstore 9, 2) := by decide +kernel
theorem dX12_fraction_23 : decode cX12_fraction 23 = .ok (.lload 7, 2) := by decide +kernel
theorem dX12_fraction_25 : decode cX12_fraction 25 = .ok (.lstore 5, 2) := by decide +kernel
theorem dX12_fraction_27 : decode cX12_fraction 27 = .ok (.lload 9, 2) := by decide +kernel
theorem dX12_fraction_29 : decode cX12_fraction 29 = .ok (.lstore 7, 2) := by decide +kernel
theorem dX12_fraction_31 : decode cX12_fraction 31 = .ok (.goto (-22), 3) := by decide +kernel
theorem dX12_fraction_34 : decode cX12_fraction 34 = .ok (.aload_n 0, 1) := by decide +kernel
theorem dX12_fraction_35 : decode cX12_fraction 35 = .ok (.lload_n 1, 1) := by decide +kernel
theorem dX12_fraction_36 : decode cX12_fraction 36 = .ok (.lload 5, 2) := by decide +kernel
theorem dX12_fraction_38 : decode cX12_fraction 38 = .ok (.ldiv, 1) := by decide +kernel
theorem dX12_fraction_39 : decode cX12_fraction 39 = .ok (.putfield 69, 3) := by decide +kernel
theorem dX12_fraction_42 : decode cX12_fraction 42 = .ok (.aload_n 0, 1) := by decide +kernel
theorem dX12_fraction_43 : decode cX12_fraction 43 = .ok (.lload_n 3, 1) := by decide +kernel
theorem dX12_fraction_44 : decode cX12_fraction 44 = .ok (.lload 5, 2) := by decide +kernel
theorem dX12_fraction_46 : decode cX12_fraction 46 = .ok (.ldiv, 1) := by decide +kernel
theorem dX12_fraction_47 : decode cX12_fraction 47 = .ok (.putfield 7, 3) := by decide +kernel
theorem dX12_fraction_50 : decode cX12_fraction 50 = .ok (.iconst 1, 1) := by decide +kernel
theorem dX12_fraction_51 : decode cX12_fraction 51 = .ok (.ireturn, 1) := by decide +kernel
theorem dX12_trims_0 : decode cX12_trims 0 = .ok (.iload_n 0, 1) := by decide +kernel
theorem dX12_trims_1 : decode cX12_trims 1 = .ok (.ifCond .ne 10, 3) := by decide +kernel
theorem dX12_trims_4 : decode cX12_trims 4 = .ok (.lload_n 1, 1) := by decide +kernel
theorem dX12_trims_5 : decode cX12_trims 5 = .ok (.l2i, 1) := by decide +kernel
theorem dX12_trims_6 : decode cX12_trims 6 = .ok (.i2b, 1) := by decide +kernel
theorem dX12_trims_7 : decode cX12_trims 7 = .ok (.i2l, 1) := by decide +kernel
theorem dX12_trims_8 : decode cX12_trims 8 = .ok (.goto 27, 3) := by decide +kernel
theorem dX12_trims_11 : decode cX12_trims 11 = .ok (.iload_n 0, 1) := by decide +kernel
theorem dX12_trims_12 : decode cX12_trims 12 = .ok (.iconst 1, 1) := by decide +kernel
theorem dX12_trims_13 : decode cX12_trims 13 = .ok (.if_icmp .ne 10, 3) := by decide +kernel
theorem dX12_trims_16 : decode cX12_trims 16 = .ok (.lload_n 1, 1) := by decide +kernel
theorem dX12_trims_17 : decode cX12_trims 17 = .ok (.l2i, 1) := by decide +kernel
theorem dX12_trims_18 : decode cX12_trims 18 = .ok (.i2s, 1) := by decide +kernel
theorem dX12_trims_19 : decode cX12_trims 19 = .ok (.i2l, 1) := by decide +kernel
theorem dX12_trims_20 : decode cX12_trims 20 = .ok (.goto 15, 3) := by decide +kernel
theorem dX12_trims_23 : decode cX12_trims 23 = .ok (.iload_n 0, 1) := by decide +kernel
theorem dX12_trims_24 : decode cX12_trims 24 = .ok (.iconst 2, 1) := by decide +kernel
theorem dX12_trims_25 : decode cX12_trims 25 = .ok (.if_icmp .ne 9, 3) := by decide +kernel
theorem dX12_trims_28 : decode cX12_trims 28 = .ok (.lload_n 1, 1) := by decide +kernel
theorem dX12_trims_29 : decode cX12_trims 29 = .ok (.l2i, 1) := by decide +kernel
theorem dX12_trims_30 : decode cX12_trims 30 = .ok (.i2l, 1) := by decide +kernel
theorem dX12_trims_31 : decode cX12_trims 31 = .ok (.goto 4, 3) := by decide +kernel
theorem dX12_trims_34 : decode cX12_trims 34 = .ok (.lload_n 1, 1) := by decide +kernel
theorem dX12_trims_35 : decode cX12_trims 35 = .ok (.lreturn, 1) := by decide +kernel
theorem dX12_tray_0 : decode cX12_tray 0 = .ok (.aload_n 0, 1) := by decide +kernel
theorem dX12_tray_1 : decode cX12_tray 1 = .ok (.iconst 0, 1) := by decide +kernel
theorem dX12_tray_2 : decode cX12_tray 2 = .ok (.putfield 63, 3) := by decide +kernel
theorem dX12_tray_5 : decode cX12_tray 5 = .ok (.aload_n 0, 1) := by decide +kernel
theorem dX12_tray_6 : decode cX12_tray 6 = .ok (.iconst 0, 1) := by decide +kernel
theorem dX12_tray_7 : decode cX12_tray 7 = .ok (.putfield 66, 3) := by decide +kernel
theorem dX12_tray_10 : decode cX12_tray 10 = .ok (.iload_n 1, 1) := by decide +kernel
theorem dX12_tray_11 : decode cX12_tray 11 = .ok (.ifCond .lt 17, 3) := by decide +kernel
theorem dX12_tray_14 : decode cX12_tray 14 = .ok (.iload_n 1, 1) := by decide +kernel
theorem dX12_tray_15 : decode cX12_tray 15 = .ok (.iconst 4, 1) := by decide +kernel
theorem dX12_tray_16 : decode cX12_tray 16 = .ok (.if_icmp .ge 12, 3) := by decide +kernel
theorem dX12_tray_19 : decode cX12_tray 19 = .ok (.iload_n 2, 1) := by decide +kernel
theorem dX12_tray_20 : decode cX12_tray 20 = .ok (.ifCond .lt 8, 3) := by decide +kernel
theorem dX12_tray_23 : decode cX12_tray 23 = .ok (.iload_n 2, 1) := by decide +kernel
theorem dX12_tray_24 : decode cX12_tray 24 = .ok (.iconst 3, 1) := by decide +kernel
theorem dX12_tray_25 : decode cX12_tray 25 = .ok (.if_icmp .le 9, 3) := by decide +kernel
theorem dX12_tray_28 : decode cX12_tray 28 = .ok (.aload_n 0, 1) := by decide +kernel
theorem dX12_tray_29 : decode cX12_tray 29 = .ok (.iconst 1, 1) := by decide +kernel
theorem dX12_tray_30 : decode cX12_tray 30 = .ok (.invokevirtual 78, 3) := by decide +kernel
theorem dX12_tray_33 : decode cX12_tray 33 = .ok (.ireturn, 1) := by decide +kernel
theorem dX12_tray_34 : decode cX12_tray 34 = .ok (.iload_n 3, 1) := by decide +kernel
theorem dX12_tray_35 : decode cX12_tray 35 = .ok (.bipush 60, 2) := by decide +kernel
theorem dX12_tray_37 : decode cX12_tray 37 = .ok (.if_icmp .le 9, 3) := by decide +kernel
theorem dX12_tray_40 : decode cX12_tray 40 = .ok (.aload_n 0, 1) := by decide +kernel
theorem dX12_tray_41 : decode cX12_tray 41 = .ok (.iconst 5, 1) := by decide +kernel
theorem dX12_tray_42 : decode cX12_tray 42 = .ok (.invokevirtual 78, 3) := by decide +kernel
theorem dX12_tray_45 : decode cX12_tray 45 = .ok (.ireturn, 1) := by decide +kernel
theorem dX12_tray_46 : decode cX12_tray 46 = .ok (.iload_n 3, 1) := by decide +kernel
theorem dX12_tray_47 : decode cX12_tray 47 = .ok (.ifCond .ge 10, 3) := by decide +kernel
theorem dX12_tray_50 : decode cX12_tray 50 = .ok (.aload_n 0, 1) := by decide +kernel
theorem dX12_tray_51 : decode cX12_tray 51 = .ok (.bipush 6, 2) := by decide +kernel
theorem dX12_tray_53 : decode cX12_tray 53 = .ok (.invokevirtual 78, 3) := by decide +kernel
theorem dX12_tray_56 : decode cX12_tray 56 = .ok (.ireturn, 1) := by decide +kernel
theorem dX12_tray_57 : decode cX12_tray 57 = .ok (.aload_n 0, 1) := by decide +kernel
theorem dX12_tray_58 : decode cX12_tray 58 = .ok (.getfield 13, 3) := by decide +kernel
theorem dX12_tray_61 : decode cX12_tray 61 = .ok (.iload_n 1, 1) := by decide +kernel
theorem dX12_tray_62 : decode cX12_tray 62 = .ok (.iload_n 2, 1) := by decide +kernel
theorem dX12_tray_63 : decode cX12_tray 63 = .ok (.iastore, 1) := by decide +kernel
theorem dX12_tray_64 : decode cX12_tray 64 = .ok (.aload_n 0, 1) := by decide +kernel
theorem dX12_tray_65 : decode cX12_tray 65 = .ok (.getfield 17, 3) := by decide +kernel
theorem dX12_tray_68 : decode cX12_tray 68 = .ok (.iload_n 1, 1) := by decide +kernel
theorem dX12_tray_69 : decode cX12_tray 69 = .ok (.iload_n 3, 1) := by decide +kernel
theorem dX12_tray_70 : decode cX12_tray 70 = .ok (.iastore, 1) := by decide +kernel
theorem dX12_tray_71 : decode cX12_tray 71 = .ok (.iconst 0, 1) := by decide +kernel
theorem dX12_tray_72 : decode cX12_tray 72 = .ok (.istore 4, 2) := by decide +kernel
theorem dX12_tray_74 : decode cX12_tray 74 = .ok (.iload 4, 2) := by decide +kernel
theorem dX12_tray_76 : decode cX12_tray 76 = .ok (.iload_n 3, 1) := by decide +kernel
theorem dX12_tray_77 : decode cX12_tray 77 = .ok (.if_icmp .ge 22, 3) := by decide +kernel
theorem dX12_tray_80 : decode cX12_tray 80 = .ok (.aload_n 0, 1) := by decide +kernel
theorem dX12_tray_81 : decode cX12_tray 81 = .ok (.getfield 20, 3) := by decide +kernel
theorem dX12_tray_84 : decode cX12_tray 84 = .ok (.bipush 60, 2) := by decide +kernel
theorem dX12_tray_86 : decode cX12_tray 86 = .ok (.iload_n 1, 1) := by decide +kernel
theorem dX12_tray_87 : decode cX12_tray 87 = .ok (.imul, 1) := by decide +kernel
theorem dX12_tray_88 : decode cX12_tray 88 = .ok (.iload 4, 2) := by decide +kernel
theorem dX12_tray_90 : decode cX12_tray 90 = .ok (.iadd, 1) := by decide +kernel
theorem dX12_tray_91 : decode cX12_tray 91 = .ok (.lconst 0, 1) := by decide +kernel
theorem dX12_tray_92 : decode cX12_tray 92 = .ok (.lastore, 1) := by decide +kernel
theorem dX12_tray_93 : decode cX12_tray 93 = .ok (.iinc 4 1, 3) := by decide +kernel
theorem dX12_tray_96 : decode cX12_tray 96 = .ok (.goto (-22), 3) := by decide +kernel
theorem dX12_tray_99 : decode cX12_tray 99 = .ok (.iconst 1, 1) := by decide +kernel
theorem dX12_tray_100 : decode cX12_tray 100 = .ok (.ireturn, 1) := by decide +kernel
theorem dX12_trayed_0 : decode cX12_trayed 0 = .ok (.iload_n 1, 1) := by decide +kernel
theorem dX12_trayed_1 : decode cX12_trayed 1 = .ok (.ifCond .lt 8, 3) := by decide +kernel
theorem dX12_trayed_4 : decode cX12_trayed 4 = .ok (.iload_n 1, 1) := by decide +kernel
theorem dX12_trayed_5 : decode cX12_trayed 5 = .ok (.iconst 4, 1) := by decide +kernel
theorem dX12_trayed_6 : decode cX12_trayed 6 = .ok (.if_icmp .lt 7, 3) := by decide +kernel
theorem dX12_trayed_9 : decode cX12_trayed 9 = .ok (.iconst 1, 1) := by decide +kernel
theorem dX12_trayed_10 : decode cX12_trayed 10 = .ok (.goto 17, 3) := by decide +kernel
theorem dX12_trayed_13 : decode cX12_trayed 13 = .ok (.aload_n 0, 1) := by decide +kernel
theorem dX12_trayed_14 : decode cX12_trayed 14 = .ok (.getfield 17, 3) := by decide +kernel
theorem dX12_trayed_17 : decode cX12_trayed 17 = .ok (.iload_n 1, 1) := by decide +kernel
theorem dX12_trayed_18 : decode cX12_trayed 18 = .ok (.iaload, 1) := by decide +kernel
theorem dX12_trayed_19 : decode cX12_trayed 19 = .ok (.ifCond .ge 7, 3) := by decide +kernel
theorem dX12_trayed_22 : decode cX12_trayed 22 = .ok (.iconst 3, 1) := by decide +kernel
theorem dX12_trayed_23 : decode cX12_trayed 23 = .ok (.goto 4, 3) := by decide +kernel
theorem dX12_trayed_26 : decode cX12_trayed 26 = .ok (.iconst 0, 1) := by decide +kernel
theorem dX12_trayed_27 : decode cX12_trayed 27 = .ok (.ireturn, 1) := by decide +kernel
theorem dX12_placed_0 : decode cX12_placed 0 = .ok (.aload_n 0, 1) := by decide +kernel
theorem dX12_placed_1 : decode cX12_placed 1 = .ok (.iload_n 1, 1) := by decide +kernel
theorem dX12_placed_2 : decode cX12_placed 2 = .ok (.invokevirtual 82, 3) := by decide +kernel
theorem dX12_placed_5 : decode cX12_placed 5 = .ok (.istore_n 3, 1) := by decide +kernel
theorem dX12_placed_6 : decode cX12_placed 6 = .ok (.iload_n 3, 1) := by decide +kernel
theorem dX12_placed_7 : decode cX12_placed 7 = .ok (.ifCond .le 7, 3) := by decide +kernel
theorem dX12_placed_10 : decode cX12_placed 10 = .ok (.iload_n 3, 1) := by decide +kernel
theorem dX12_placed_11 : decode cX12_placed 11 = .ok (.goto 22, 3) := by decide +kernel
theorem dX12_placed_14 : decode cX12_placed 14 = .ok (.iload_n 2, 1) := by decide +kernel
theorem dX12_placed_15 : decode cX12_placed 15 = .ok (.ifCond .lt 13, 3) := by decide +kernel
theorem dX12_placed_18 : decode cX12_placed 18 = .ok (.iload_n 2, 1) := by decide +kernel
theorem dX12_placed_19 : decode cX12_placed 19 = .ok (.aload_n 0, 1) := by decide +kernel
theorem dX12_placed_20 : decode cX12_placed 20 = .ok (.getfield 17, 3) := by decide +kernel
theorem dX12_placed_23 : decode cX12_placed 23 = .ok (.iload_n 1, 1) := by decide +kernel
theorem dX12_placed_24 : decode cX12_placed 24 = .ok (.iaload, 1) := by decide +kernel
theorem dX12_placed_25 : decode cX12_placed 25 = .ok (.if_icmp .lt 7, 3) := by decide +kernel
theorem dX12_placed_28 : decode cX12_placed 28 = .ok (.iconst 4, 1) := by decide +kernel
theorem dX12_placed_29 : decode cX12_placed 29 = .ok (.goto 4, 3) := by decide +kernel
theorem dX12_placed_32 : decode cX12_placed 32 = .ok (.iconst 0, 1) := by decide +kernel
theorem dX12_placed_33 : decode cX12_placed 33 = .ok (.ireturn, 1) := by decide +kernel
theorem dX12_write_0 : decode cX12_write 0 = .ok (.aload_n 0, 1) := by decide +kernel
theorem dX12_write_1 : decode cX12_write 1 = .ok (.iconst 0, 1) := by decide +kernel
theorem dX12_write_2 : decode cX12_write 2 = .ok (.putfield 63, 3) := by decide +kernel
theorem dX12_write_5 : decode cX12_write 5 = .ok (.aload_n 0, 1) := by decide +kernel
theorem dX12_write_6 : decode cX12_write 6 = .ok (.aload_n 0, 1) := by decide +kernel
theorem dX12_write_7 : decode cX12_write 7 = .ok (.iload_n 1, 1) := by decide +kernel
theorem dX12_write_8 : decode cX12_write 8 = .ok (.iload_n 2, 1) := by decide +kernel
theorem dX12_write_9 : decode cX12_write 9 = .ok (.invokevirtual 86, 3) := by decide +kernel
theorem dX12_write_12 : decode cX12_write 12 = .ok (.putfield 66, 3) := by decide +kernel
theorem dX12_write_15 : decode cX12_write 15 = .ok (.aload_n 0, 1) := by decide +kernel
theorem dX12_write_16 : decode cX12_write 16 = .ok (.getfield 66, 3) := by decide +kernel
theorem dX12_write_19 : decode cX12_write 19 = .ok (.ifCond .le 5, 3) := by decide +kernel
theorem dX12_write_22 : decode cX12_write 22 = .ok (.iconst 0, 1) := by decide +kernel
theorem dX12_write_23 : decode cX12_write 23 = .ok (.ireturn, 1) := by decide +kernel
theorem dX12_write_24 : decode cX12_write 24 = .ok (.aload_n 0, 1) := by decide +kernel
theorem dX12_write_25 : decode cX12_write 25 = .ok (.getfield 20, 3) := by decide +kernel
theorem dX12_write_28 : decode cX12_write 28 = .ok (.bipush 60, 2) := by decide +kernel
theorem dX12_write_30 : decode cX12_write 30 = .ok (.iload_n 1, 1) := by decide +kernel
theorem dX12_write_31 : decode cX12_write 31 = .ok (.imul, 1) := by decide +kernel
theorem dX12_write_32 : decode cX12_write 32 = .ok (.iload_n 2, 1) := by decide +kernel
theorem dX12_write_33 : decode cX12_write 33 = .ok (.iadd, 1) := by decide +kernel
theorem dX12_write_34 : decode cX12_write 34 = .ok (.aload_n 0, 1) := by decide +kernel
theorem dX12_write_35 : decode cX12_write 35 = .ok (.getfield 13, 3) := by decide +kernel
theorem dX12_write_38 : decode cX12_write 38 = .ok (.iload_n 1, 1) := by decide +kernel
theorem dX12_write_39 : decode cX12_write 39 = .ok (.iaload, 1) := by decide +kernel
theorem dX12_write_40 : decode cX12_write 40 = .ok (.lload_n 3, 1) := by decide +kernel
theorem dX12_write_41 : decode cX12_write 41 = .ok (.invokestatic 90, 3) := by decide +kernel
theorem dX12_write_44 : decode cX12_write 44 = .ok (.lastore, 1) := by decide +kernel
theorem dX12_write_45 : decode cX12_write 45 = .ok (.iconst 1, 1) := by decide +kernel
theorem dX12_write_46 : decode cX12_write 46 = .ok (.ireturn, 1) := by decide +kernel
theorem dX12_read_0 : decode cX12_read 0 = .ok (.aload_n 0, 1) := by decide +kernel
theorem dX12_read_1 : decode cX12_read 1 = .ok (.iconst 0, 1) := by decide +kernel
theorem dX12_read_2 : decode cX12_read 2 = .ok (.putfield 63, 3) := by decide +kernel
theorem dX12_read_5 : decode cX12_read 5 = .ok (.aload_n 0, 1) := by decide +kernel
theorem dX12_read_6 : decode cX12_read 6 = .ok (.aload_n 0, 1) := by decide +kernel
theorem dX12_read_7 : decode cX12_read 7 = .ok (.iload_n 1, 1) := by decide +kernel
theorem dX12_read_8 : decode cX12_read 8 = .ok (.iload_n 2, 1) := by decide +kernel
theorem dX12_read_9 : decode cX12_read 9 = .ok (.invokevirtual 86, 3) := by decide +kernel
theorem dX12_read_12 : decode cX12_read 12 = .ok (.putfield 66, 3) := by decide +kernel
theorem dX12_read_15 : decode cX12_read 15 = .ok (.aload_n 0, 1) := by decide +kernel
theorem dX12_read_16 : decode cX12_read 16 = .ok (.getfield 66, 3) := by decide +kernel
theorem dX12_read_19 : decode cX12_read 19 = .ok (.ifCond .le 9, 3) := by decide +kernel
theorem dX12_read_22 : decode cX12_read 22 = .ok (.ldc2_w 94, 3) := by decide +kernel
theorem dX12_read_25 : decode cX12_read 25 = .ok (.goto 14, 3) := by decide +kernel
theorem dX12_read_28 : decode cX12_read 28 = .ok (.aload_n 0, 1) := by decide +kernel
theorem dX12_read_29 : decode cX12_read 29 = .ok (.getfield 20, 3) := by decide +kernel
theorem dX12_read_32 : decode cX12_read 32 = .ok (.bipush 60, 2) := by decide +kernel
theorem dX12_read_34 : decode cX12_read 34 = .ok (.iload_n 1, 1) := by decide +kernel
theorem dX12_read_35 : decode cX12_read 35 = .ok (.imul, 1) := by decide +kernel
theorem dX12_read_36 : decode cX12_read 36 = .ok (.iload_n 2, 1) := by decide +kernel
theorem dX12_read_37 : decode cX12_read 37 = .ok (.iadd, 1) := by decide +kernel
theorem dX12_read_38 : decode cX12_read 38 = .ok (.laload, 1) := by decide +kernel
theorem dX12_read_39 : decode cX12_read 39 = .ok (.lreturn, 1) := by decide +kernel
theorem dX12_pour_0 : decode cX12_pour 0 = .ok (.aload_n 0, 1) := by decide +kernel
theorem dX12_pour_1 : decode cX12_pour 1 = .ok (.iconst 0, 1) := by decide +kernel
theorem dX12_pour_2 : decode cX12_pour 2 = .ok (.putfield 63, 3) := by decide +kernel
theorem dX12_pour_5 : decode cX12_pour 5 = .ok (.aload_n 0, 1) := by decide +kernel
theorem dX12_pour_6 : decode cX12_pour 6 = .ok (.iconst 0, 1) := by decide +kernel
theorem dX12_pour_7 : decode cX12_pour 7 = .ok (.putfield 66, 3) := by decide +kernel
theorem dX12_pour_10 : decode cX12_pour 10 = .ok (.iload_n 1, 1) := by decide +kernel
theorem dX12_pour_11 : decode cX12_pour 11 = .ok (.ifCond .lt 17, 3) := by decide +kernel
theorem dX12_pour_14 : decode cX12_pour 14 = .ok (.iload_n 1, 1) := by decide +kernel
theorem dX12_pour_15 : decode cX12_pour 15 = .ok (.iconst 4, 1) := by decide +kernel
theorem dX12_pour_16 : decode cX12_pour 16 = .ok (.if_icmp .ge 12, 3) := by decide +kernel
theorem dX12_pour_19 : decode cX12_pour 19 = .ok (.iload_n 3, 1) := by decide +kernel
theorem dX12_pour_20 : decode cX12_pour 20 = .ok (.ifCond .lt 8, 3) := by decide +kernel
theorem dX12_pour_23 : decode cX12_pour 23 = .ok (.iload_n 3, 1) := by decide +kernel
theorem dX12_pour_24 : decode cX12_pour 24 = .ok (.iconst 4, 1) := by decide +kernel
theorem dX12_pour_25 : decode cX12_pour 25 = .ok (.if_icmp .lt 9, 3) := by decide +kernel
theorem dX12_pour_28 : decode cX12_pour 28 = .ok (.aload_n 0, 1) := by decide +kernel
theorem dX12_pour_29 : decode cX12_pour 29 = .ok (.iconst 1, 1) := by decide +kernel
theorem dX12_pour_30 : decode cX12_pour 30 = .ok (.invokevirtual 78, 3) := by decide +kernel
theorem dX12_pour_33 : decode cX12_pour 33 = .ok (.ireturn, 1) := by decide +kernel
theorem dX12_pour_34 : decode cX12_pour 34 = .ok (.aload_n 0, 1) := by decide +kernel
theorem dX12_pour_35 : decode cX12_pour 35 = .ok (.getfield 17, 3) := by decide +kernel
theorem dX12_pour_38 : decode cX12_pour 38 = .ok (.iload_n 1, 1) := by decide +kernel
theorem dX12_pour_39 : decode cX12_pour 39 = .ok (.iaload, 1) := by decide +kernel
theorem dX12_pour_40 : decode cX12_pour 40 = .ok (.ifCond .lt 12, 3) := by decide +kernel
theorem dX12_pour_43 : decode cX12_pour 43 = .ok (.aload_n 0, 1) := by decide +kernel
theorem dX12_pour_44 : decode cX12_pour 44 = .ok (.getfield 17, 3) := by decide +kernel
theorem dX12_pour_47 : decode cX12_pour 47 = .ok (.iload_n 3, 1) := by decide +kernel
theorem dX12_pour_48 : decode cX12_pour 48 = .ok (.iaload, 1) := by decide +kernel
theorem dX12_pour_49 : decode cX12_pour 49 = .ok (.ifCond .ge 9, 3) := by decide +kernel
theorem dX12_pour_52 : decode cX12_pour 52 = .ok (.aload_n 0, 1) := by decide +kernel
theorem dX12_pour_53 : decode cX12_pour 53 = .ok (.iconst 3, 1) := by decide +kernel
theorem dX12_pour_54 : decode cX12_pour 54 = .ok (.invokevirtual 78, 3) := by decide +kernel
theorem dX12_pour_57 : decode cX12_pour 57 = .ok (.ireturn, 1) := by decide +kernel
theorem dX12_pour_58 : decode cX12_pour 58 = .ok (.aload_n 0, 1) := by decide +kernel
theorem dX12_pour_59 : decode cX12_pour 59 = .ok (.getfield 13, 3) := by decide +kernel
theorem dX12_pour_62 : decode cX12_pour 62 = .ok (.iload_n 1, 1) := by decide +kernel
theorem dX12_pour_63 : decode cX12_pour 63 = .ok (.iaload, 1) := by decide +kernel
theorem dX12_pour_64 : decode cX12_pour 64 = .ok (.aload_n 0, 1) := by decide +kernel
theorem dX12_pour_65 : decode cX12_pour 65 = .ok (.getfield 13, 3) := by decide +kernel
theorem dX12_pour_68 : decode cX12_pour 68 = .ok (.iload_n 3, 1) := by decide +kernel
theorem dX12_pour_69 : decode cX12_pour 69 = .ok (.iaload, 1) := by decide +kernel
theorem dX12_pour_70 : decode cX12_pour 70 = .ok (.if_icmp .eq 10, 3) := by decide +kernel
theorem dX12_pour_73 : decode cX12_pour 73 = .ok (.aload_n 0, 1) := by decide +kernel
theorem dX12_pour_74 : decode cX12_pour 74 = .ok (.bipush 11, 2) := by decide +kernel
theorem dX12_pour_76 : decode cX12_pour 76 = .ok (.invokevirtual 78, 3) := by decide +kernel
theorem dX12_pour_79 : decode cX12_pour 79 = .ok (.ireturn, 1) := by decide +kernel
theorem dX12_pour_80 : decode cX12_pour 80 = .ok (.iload 5, 2) := by decide +kernel
theorem dX12_pour_82 : decode cX12_pour 82 = .ok (.ifCond .ge 10, 3) := by decide +kernel
theorem dX12_pour_85 : decode cX12_pour 85 = .ok (.aload_n 0, 1) := by decide +kernel
theorem dX12_pour_86 : decode cX12_pour 86 = .ok (.bipush 6, 2) := by decide +kernel
theorem dX12_pour_88 : decode cX12_pour 88 = .ok (.invokevirtual 78, 3) := by decide +kernel
theorem dX12_pour_91 : decode cX12_pour 91 = .ok (.ireturn, 1) := by decide +kernel
theorem dX12_pour_92 : decode cX12_pour 92 = .ok (.iload_n 2, 1) := by decide +kernel
theorem dX12_pour_93 : decode cX12_pour 93 = .ok (.ifCond .lt 43, 3) := by decide +kernel
theorem dX12_pour_96 : decode cX12_pour 96 = .ok (.iload 4, 2) := by decide +kernel
theorem dX12_pour_98 : decode cX12_pour 98 = .ok (.ifCond .lt 38, 3) := by decide +kernel
theorem dX12_pour_101 : decode cX12_pour 101 = .ok (.iload_n 2, 1) := by decide +kernel
theorem dX12_pour_102 : decode cX12_pour 102 = .ok (.i2l, 1) := by decide +kernel
theorem dX12_pour_103 : decode cX12_pour 103 = .ok (.iload 5, 2) := by decide +kernel
theorem dX12_pour_105 : decode cX12_pour 105 = .ok (.i2l, 1) := by decide +kernel
theorem dX12_pour_106 : decode cX12_pour 106 = .ok (.ladd, 1) := by decide +kernel
theorem dX12_pour_107 : decode cX12_pour 107 = .ok (.aload_n 0, 1) := by decide +kernel
theorem dX12_pour_108 : decode cX12_pour 108 = .ok (.getfield 17, 3) := by decide +kernel
theorem dX12_pour_111 : decode cX12_pour 111 = .ok (.iload_n 1, 1) := by decide +kernel
theorem dX12_pour_112 : decode cX12_pour 112 = .ok (.iaload, 1) := by decide +kernel
theorem dX12_pour_113 : decode cX12_pour 113 = .ok (.i2l, 1) := by decide +kernel
theorem dX12_pour_114 : decode cX12_pour 114 = .ok (.lcmp, 1) := by decide +kernel
theorem dX12_pour_115 : decode cX12_pour 115 = .ok (.ifCond .gt 21, 3) := by decide +kernel
theorem dX12_pour_118 : decode cX12_pour 118 = .ok (.iload 4, 2) := by decide +kernel
theorem dX12_pour_120 : decode cX12_pour 120 = .ok (.i2l, 1) := by decide +kernel
theorem dX12_pour_121 : decode cX12_pour 121 = .ok (.iload 5, 2) := by decide +kernel
theorem dX12_pour_123 : decode cX12_pour 123 = .ok (.i2l, 1) := by decide +kernel
theorem dX12_pour_124 : decode cX12_pour 124 = .ok (.ladd, 1) := by decide +kernel
theorem dX12_pour_125 : decode cX12_pour 125 = .ok (.aload_n 0, 1) := by decide +kernel
theorem dX12_pour_126 : decode cX12_pour 126 = .ok (.getfield 17, 3) := by decide +kernel
theorem dX12_pour_129 : decode cX12_pour 129 = .ok (.iload_n 3, 1) := by decide +kernel
theorem dX12_pour_130 : decode cX12_pour 130 = .ok (.iaload, 1) := by decide +kernel
theorem dX12_pour_131 : decode cX12_pour 131 = .ok (.i2l, 1) := by decide +kernel
theorem dX12_pour_132 : decode cX12_pour 132 = .ok (.lcmp, 1) := by decide +kernel
theorem dX12_pour_133 : decode cX12_pour 133 = .ok (.ifCond .le 9, 3) := by decide +kernel
theorem dX12_pour_136 : decode cX12_pour 136 = .ok (.aload_n 0, 1) := by decide +kernel
theorem dX12_pour_137 : decode cX12_pour 137 = .ok (.iconst 4, 1) := by decide +kernel
theorem dX12_pour_138 : decode cX12_pour 138 = .ok (.invokevirtual 78, 3) := by decide +kernel
theorem dX12_pour_141 : decode cX12_pour 141 = .ok (.ireturn, 1) := by decide +kernel
theorem dX12_pour_142 : decode cX12_pour 142 = .ok (.iload_n 2, 1) := by decide +kernel
theorem dX12_pour_143 : decode cX12_pour 143 = .ok (.iload 4, 2) := by decide +kernel
theorem dX12_pour_145 : decode cX12_pour 145 = .ok (.if_icmp .ge 7, 3) := by decide +kernel
theorem dX12_pour_148 : decode cX12_pour 148 = .ok (.iconst 1, 1) := by decide +kernel
theorem dX12_pour_149 : decode cX12_pour 149 = .ok (.goto 4, 3) := by decide +kernel
theorem dX12_pour_152 : decode cX12_pour 152 = .ok (.iconst 0, 1) := by decide +kernel
theorem dX12_pour_153 : decode cX12_pour 153 = .ok (.istore 6, 2) := by decide +kernel
theorem dX12_pour_155 : decode cX12_pour 155 = .ok (.iconst 0, 1) := by decide +kernel
theorem dX12_pour_156 : decode cX12_pour 156 = .ok (.istore 7, 2) := by decide +kernel
theorem dX12_pour_158 : decode cX12_pour 158 = .ok (.iload 7, 2) := by decide +kernel
theorem dX12_pour_160 : decode cX12_pour 160 = .ok (.iload 5, 2) := by decide +kernel
theorem dX12_pour_162 : decode cX12_pour 162 = .ok (.if_icmp .ge 57, 3) := by decide +kernel
theorem dX12_pour_165 : decode cX12_pour 165 = .ok (.iload 6, 2) := by decide +kernel
theorem dX12_pour_167 : decode cX12_pour 167 = .ok (.ifCond .eq 13, 3) := by decide +kernel
theorem dX12_pour_170 : decode cX12_pour 170 = .ok (.iload 5, 2) := by decide +kernel
theorem dX12_pour_172 : decode cX12_pour 172 = .ok (.iconst 1, 1) := by decide +kernel
theorem dX12_pour_173 : decode cX12_pour 173 = .ok (.isub, 1) := by decide +kernel
theorem dX12_pour_174 : decode cX12_pour 174 = .ok (.iload 7, 2) := by decide +kernel
theorem dX12_pour_176 : decode cX12_pour 176 = .ok (.isub, 1) := by decide +kernel
theorem dX12_pour_177 : decode cX12_pour 177 = .ok (.goto 5, 3) := by decide +kernel
theorem dX12_pour_180 : decode cX12_pour 180 = .ok (.iload 7, 2) := by decide +kernel
theorem dX12_pour_182 : decode cX12_pour 182 = .ok (.istore 8, 2) := by decide +kernel
theorem dX12_pour_184 : decode cX12_pour 184 = .ok (.aload_n 0, 1) := by decide +kernel
theorem dX12_pour_185 : decode cX12_pour 185 = .ok (.getfield 20, 3) := by decide +kernel
theorem dX12_pour_188 : decode cX12_pour 188 = .ok (.bipush 60, 2) := by decide +kernel
theorem dX12_pour_190 : decode cX12_pour 190 = .ok (.iload_n 3, 1) := by decide +kernel
theorem dX12_pour_191 : decode cX12_pour 191 = .ok (.imul, 1) := by decide +kernel
theorem dX12_pour_192 : decode cX12_pour 192 = .ok (.iload 4, 2) := by decide +kernel
theorem dX12_pour_194 : decode cX12_pour 194 = .ok (.iadd, 1) := by decide +kernel
theorem dX12_pour_195 : decode cX12_pour 195 = .ok (.iload 8, 2) := by decide +kernel
theorem dX12_pour_197 : decode cX12_pour 197 = .ok (.iadd, 1) := by decide +kernel
theorem dX12_pour_198 : decode cX12_pour 198 = .ok (.aload_n 0, 1) := by decide +kernel
theorem dX12_pour_199 : decode cX12_pour 199 = .ok (.getfield 20, 3) := by decide +kernel
theorem dX12_pour_202 : decode cX12_pour 202 = .ok (.bipush 60, 2) := by decide +kernel
theorem dX12_pour_204 : decode cX12_pour 204 = .ok (.iload_n 1, 1) := by decide +kernel
theorem dX12_pour_205 : decode cX12_pour 205 = .ok (.imul, 1) := by decide +kernel
theorem dX12_pour_206 : decode cX12_pour 206 = .ok (.iload_n 2, 1) := by decide +kernel
theorem dX12_pour_207 : decode cX12_pour 207 = .ok (.iadd, 1) := by decide +kernel
theorem dX12_pour_208 : decode cX12_pour 208 = .ok (.iload 8, 2) := by decide +kernel
theorem dX12_pour_210 : decode cX12_pour 210 = .ok (.iadd, 1) := by decide +kernel
theorem dX12_pour_211 : decode cX12_pour 211 = .ok (.laload, 1) := by decide +kernel
theorem dX12_pour_212 : decode cX12_pour 212 = .ok (.lastore, 1) := by decide +kernel
theorem dX12_pour_213 : decode cX12_pour 213 = .ok (.iinc 7 1, 3) := by decide +kernel
theorem dX12_pour_216 : decode cX12_pour 216 = .ok (.goto (-58), 3) := by decide +kernel
theorem dX12_pour_219 : decode cX12_pour 219 = .ok (.iconst 1, 1) := by decide +kernel
theorem dX12_pour_220 : decode cX12_pour 220 = .ok (.ireturn, 1) := by decide +kernel
theorem dX12_numberOf_0 : decode cX12_numberOf 0 = .ok (.aload_n 0, 1) := by decide +kernel
theorem dX12_numberOf_1 : decode cX12_numberOf 1 = .ok (.getfield 20, 3) := by decide +kernel
theorem dX12_numberOf_4 : decode cX12_numberOf 4 = .ok (.bipush 60, 2) := by decide +kernel
theorem dX12_numberOf_6 : decode cX12_numberOf 6 = .ok (.iload_n 1, 1) := by decide +kernel
theorem dX12_numberOf_7 : decode cX12_numberOf 7 = .ok (.imul, 1) := by decide +kernel
theorem dX12_numberOf_8 : decode cX12_numberOf 8 = .ok (.iload_n 2, 1) := by decide +kernel
theorem dX12_numberOf_9 : decode cX12_numberOf 9 = .ok (.iadd, 1) := by decide +kernel
theorem dX12_numberOf_10 : decode cX12_numberOf 10 = .ok (.laload, 1) := by decide +kernel
theorem dX12_numberOf_11 : decode cX12_numberOf 11 = .ok (.lreturn, 1) := by decide +kernel
theorem dX12_isTray_0 : decode cX12_isTray 0 = .ok (.iload_n 1, 1) := by decide +kernel
theorem dX12_isTray_1 : decode cX12_isTray 1 = .ok (.i2l, 1) := by decide +kernel
theorem dX12_isTray_2 : decode cX12_isTray 2 = .ok (.lconst 0, 1) := by decide +kernel
theorem dX12_isTray_3 : decode cX12_isTray 3 = .ok (.ldc2_w 96, 3) := by decide +kernel
theorem dX12_isTray_6 : decode cX12_isTray 6 = .ok (.invokestatic 98, 3) := by decide +kernel
theorem dX12_isTray_9 : decode cX12_isTray 9 = .ok (.ireturn, 1) := by decide +kernel
theorem dX12_has_0 : decode cX12_has 0 = .ok (.iload_n 0, 1) := by decide +kernel
theorem dX12_has_1 : decode cX12_has 1 = .ok (.iload_n 1, 1) := by decide +kernel
theorem dX12_has_2 : decode cX12_has 2 = .ok (.ishr, 1) := by decide +kernel
theorem dX12_has_3 : decode cX12_has 3 = .ok (.iconst 1, 1) := by decide +kernel
theorem dX12_has_4 : decode cX12_has 4 = .ok (.iand, 1) := by decide +kernel
theorem dX12_has_5 : decode cX12_has 5 = .ok (.iconst 1, 1) := by decide +kernel
theorem dX12_has_6 : decode cX12_has 6 = .ok (.if_icmp .ne 7, 3) := by decide +kernel
theorem dX12_has_9 : decode cX12_has 9 = .ok (.iconst 1, 1) := by decide +kernel
theorem dX12_has_10 : decode cX12_has 10 = .ok (.goto 4, 3) := by decide +kernel
theorem dX12_has_13 : decode cX12_has 13 = .ok (.iconst 0, 1) := by decide +kernel
theorem dX12_has_14 : decode cX12_has 14 = .ok (.ireturn, 1) := by decide +kernel
theorem dX12_sizeOf_0 : decode cX12_sizeOf 0 = .ok (.iconst 0, 1) := by decide +kernel
theorem dX12_sizeOf_1 : decode cX12_sizeOf 1 = .ok (.istore_n 1, 1) := by decide +kernel
theorem dX12_sizeOf_2 : decode cX12_sizeOf 2 = .ok (.iconst 0, 1) := by decide +kernel
theorem dX12_sizeOf_3 : decode cX12_sizeOf 3 = .ok (.istore_n 2, 1) := by decide +kernel
theorem dX12_sizeOf_4 : decode cX12_sizeOf 4 = .ok (.iload_n 2, 1) := by decide +kernel
theorem dX12_sizeOf_5 : decode cX12_sizeOf 5 = .ok (.bipush 10, 2) := by decide +kernel
theorem dX12_sizeOf_7 : decode cX12_sizeOf 7 = .ok (.if_icmp .ge 25, 3) := by decide +kernel
theorem dX12_sizeOf_10 : decode cX12_sizeOf 10 = .ok (.iload_n 1, 1) := by decide +kernel
theorem dX12_sizeOf_11 : decode cX12_sizeOf 11 = .ok (.iload_n 0, 1) := by decide +kernel
theorem dX12_sizeOf_12 : decode cX12_sizeOf 12 = .ok (.iload_n 2, 1) := by decide +kernel
theorem dX12_sizeOf_13 : decode cX12_sizeOf 13 = .ok (.invokestatic 102, 3) := by decide +kernel
theorem dX12_sizeOf_16 : decode cX12_sizeOf 16 = .ok (.ifCond .eq 7, 3) := by decide +kernel
theorem dX12_sizeOf_19 : decode cX12_sizeOf 19 = .ok (.iconst 1, 1) := by decide +kernel
theorem dX12_sizeOf_20 : decode cX12_sizeOf 20 = .ok (.goto 4, 3) := by decide +kernel
theorem dX12_sizeOf_23 : decode cX12_sizeOf 23 = .ok (.iconst 0, 1) := by decide +kernel
theorem dX12_sizeOf_24 : decode cX12_sizeOf 24 = .ok (.iadd, 1) := by decide +kernel
theorem dX12_sizeOf_25 : decode cX12_sizeOf 25 = .ok (.istore_n 1, 1) := by decide +kernel
theorem dX12_sizeOf_26 : decode cX12_sizeOf 26 = .ok (.iinc 2 1, 3) := by decide +kernel
theorem dX12_sizeOf_29 : decode cX12_sizeOf 29 = .ok (.goto (-25), 3) := by decide +kernel
theorem dX12_sizeOf_32 : decode cX12_sizeOf 32 = .ok (.iload_n 1, 1) := by decide +kernel
theorem dX12_sizeOf_33 : decode cX12_sizeOf 33 = .ok (.ireturn, 1) := by decide +kernel
theorem dX12_look2_0 : decode cX12_look2 0 = .ok (.iload_n 1, 1) := by decide +kernel
theorem dX12_look2_1 : decode cX12_look2 1 = .ok (.aload_n 0, 1) := by decide +kernel
theorem dX12_look2_2 : decode cX12_look2 2 = .ok (.getfield 106, 3) := by decide +kernel
theorem dX12_look2_5 : decode cX12_look2 5 = .ok (.if_icmp .ge 16, 3) := by decide +kernel
theorem dX12_look2_8 : decode cX12_look2 8 = .ok (.aload_n 0, 1) := by decide +kernel
theorem dX12_look2_9 : decode cX12_look2 9 = .ok (.getfield 24, 3) := by decide +kernel
theorem dX12_look2_12 : decode cX12_look2 12 = .ok (.iload_n 1, 1) := by decide +kernel
theorem dX12_look2_13 : decode cX12_look2 13 = .ok (.baload, 1) := by decide +kernel
theorem dX12_look2_14 : decode cX12_look2 14 = .ok (.sipush 255, 3) := by decide +kernel
theorem dX12_look2_17 : decode cX12_look2 17 = .ok (.iand, 1) := by decide +kernel
theorem dX12_look2_18 : decode cX12_look2 18 = .ok (.goto 4, 3) := by decide +kernel
theorem dX12_look2_21 : decode cX12_look2 21 = .ok (.iconst 0, 1) := by decide +kernel
theorem dX12_look2_22 : decode cX12_look2 22 = .ok (.ireturn, 1) := by decide +kernel
theorem dX12_isLetter_0 : decode cX12_isLetter 0 = .ok (.iload_n 0, 1) := by decide +kernel
theorem dX12_isLetter_1 : decode cX12_isLetter 1 = .ok (.bipush 97, 2) := by decide +kernel
theorem dX12_isLetter_3 : decode cX12_isLetter 3 = .ok (.if_icmp .lt 13, 3) := by decide +kernel
theorem dX12_isLetter_6 : decode cX12_isLetter 6 = .ok (.iload_n 0, 1) := by decide +kernel
theorem dX12_isLetter_7 : decode cX12_isLetter 7 = .ok (.bipush 122, 2) := by decide +kernel
theorem dX12_isLetter_9 : decode cX12_isLetter 9 = .ok (.if_icmp .gt 7, 3) := by decide +kernel
theorem dX12_isLetter_12 : decode cX12_isLetter 12 = .ok (.iconst 1, 1) := by decide +kernel
theorem dX12_isLetter_13 : decode cX12_isLetter 13 = .ok (.goto 4, 3) := by decide +kernel
theorem dX12_isLetter_16 : decode cX12_isLetter 16 = .ok (.iconst 0, 1) := by decide +kernel
theorem dX12_isLetter_17 : decode cX12_isLetter 17 = .ok (.ireturn, 1) := by decide +kernel
theorem dX12_isDigit_0 : decode cX12_isDigit 0 = .ok (.iload_n 0, 1) := by decide +kernel
theorem dX12_isDigit_1 : decode cX12_isDigit 1 = .ok (.bipush 48, 2) := by decide +kernel
theorem dX12_isDigit_3 : decode cX12_isDigit 3 = .ok (.if_icmp .lt 13, 3) := by decide +kernel
theorem dX12_isDigit_6 : decode cX12_isDigit 6 = .ok (.iload_n 0, 1) := by decide +kernel
theorem dX12_isDigit_7 : decode cX12_isDigit 7 = .ok (.bipush 57, 2) := by decide +kernel
theorem dX12_isDigit_9 : decode cX12_isDigit 9 = .ok (.if_icmp .gt 7, 3) := by decide +kernel
theorem dX12_isDigit_12 : decode cX12_isDigit 12 = .ok (.iconst 1, 1) := by decide +kernel
theorem dX12_isDigit_13 : decode cX12_isDigit 13 = .ok (.goto 4, 3) := by decide +kernel
theorem dX12_isDigit_16 : decode cX12_isDigit 16 = .ok (.iconst 0, 1) := by decide +kernel
theorem dX12_isDigit_17 : decode cX12_isDigit 17 = .ok (.ireturn, 1) := by decide +kernel
theorem dX12_isSignByte_0 : decode cX12_isSignByte 0 = .ok (.iload_n 1, 1) := by decide +kernel
theorem dX12_isSignByte_1 : decode cX12_isSignByte 1 = .ok (.bipush 59, 2) := by decide +kernel
theorem dX12_isSignByte_3 : decode cX12_isSignByte 3 = .ok (.if_icmp .eq 21, 3) := by decide +kernel
theorem dX12_isSignByte_6 : decode cX12_isSignByte 6 = .ok (.iload_n 1, 1) := by decide +kernel
theorem dX12_isSignByte_7 : decode cX12_isSignByte 7 = .ok (.bipush 60, 2) := by decide +kernel
theorem dX12_isSignByte_9 : decode cX12_isSignByte 9 = .ok (.if_icmp .eq 15, 3) := by decide +kernel
theorem dX12_isSignByte_12 : decode cX12_isSignByte 12 = .ok (.iload_n 1, 1) := by decide +kernel
theorem dX12_isSignByte_13 : decode cX12_isSignByte 13 = .ok (.bipush 62, 2) := by decide +kernel
theorem dX12_isSignByte_15 : decode cX12_isSignByte 15 = .ok (.if_icmp .eq 9, 3) := by decide +kernel
theorem dX12_isSignByte_18 : decode cX12_isSignByte 18 = .ok (.iload_n 1, 1) := by decide +kernel
theorem dX12_isSignByte_19 : decode cX12_isSignByte 19 = .ok (.bipush 61, 2) := by decide +kernel
theorem dX12_isSignByte_21 : decode cX12_isSignByte 21 = .ok (.if_icmp .ne 7, 3) := by decide +kernel
theorem dX12_isSignByte_24 : decode cX12_isSignByte 24 = .ok (.iconst 1, 1) := by decide +kernel
theorem dX12_isSignByte_25 : decode cX12_isSignByte 25 = .ok (.goto 4, 3) := by decide +kernel
theorem dX12_isSignByte_28 : decode cX12_isSignByte 28 = .ok (.iconst 0, 1) := by decide +kernel
theorem dX12_isSignByte_29 : decode cX12_isSignByte 29 = .ok (.ireturn, 1) := by decide +kernel
theorem dX12_advance_0 : decode cX12_advance 0 = .ok (.aload_n 0, 1) := by decide +kernel
theorem dX12_advance_1 : decode cX12_advance 1 = .ok (.aload_n 0, 1) := by decide +kernel
theorem dX12_advance_2 : decode cX12_advance 2 = .ok (.getfield 109, 3) := by decide +kernel
theorem dX12_advance_5 : decode cX12_advance 5 = .ok (.putfield 112, 3) := by decide +kernel
theorem dX12_advance_8 : decode cX12_advance 8 = .ok (.aload_n 0, 1) := by decide +kernel
theorem dX12_advance_9 : decode cX12_advance 9 = .ok (.getfield 112, 3) := by decide +kernel
theorem dX12_advance_12 : decode cX12_advance 12 = .ok (.aload_n 0, 1) := by decide +kernel
theorem dX12_advance_13 : decode cX12_advance 13 = .ok (.getfield 106, 3) := by decide +kernel
theorem dX12_advance_16 : decode cX12_advance 16 = .ok (.if_icmp .ge 42, 3) := by decide +kernel
theorem dX12_advance_19 : decode cX12_advance 19 = .ok (.aload_n 0, 1) := by decide +kernel
theorem dX12_advance_20 : decode cX12_advance 20 = .ok (.aload_n 0, 1) := by decide +kernel
theorem dX12_advance_21 : decode cX12_advance 21 = .ok (.getfield 112, 3) := by decide +kernel
theorem dX12_advance_24 : decode cX12_advance 24 = .ok (.invokevirtual 115, 3) := by decide +kernel
theorem dX12_advance_27 : decode cX12_advance 27 = .ok (.bipush 10, 2) := by decide +kernel
theorem dX12_advance_29 : decode cX12_advance 29 = .ok (.if_icmp .eq 16, 3) := by decide +kernel
theorem dX12_advance_32 : decode cX12_advance 32 = .ok (.aload_n 0, 1) := by decide +kernel
theorem dX12_advance_33 : decode cX12_advance 33 = .ok (.aload_n 0, 1) := by decide +kernel
theorem dX12_advance_34 : decode cX12_advance 34 = .ok (.getfield 112, 3) := by decide +kernel
theorem dX12_advance_37 : decode cX12_advance 37 = .ok (.invokevirtual 115, 3) := by decide +kernel
theorem dX12_advance_40 : decode cX12_advance 40 = .ok (.bipush 32, 2) := by decide +kernel
theorem dX12_advance_42 : decode cX12_advance 42 = .ok (.if_icmp .ne 16, 3) := by decide +kernel
theorem dX12_advance_45 : decode cX12_advance 45 = .ok (.aload_n 0, 1) := by decide +kernel
theorem dX12_advance_46 : decode cX12_advance 46 = .ok (.dup, 1) := by decide +kernel
theorem dX12_advance_47 : decode cX12_advance 47 = .ok (.getfield 112, 3) := by decide +kernel
theorem dX12_advance_50 : decode cX12_advance 50 = .ok (.iconst 1, 1) := by decide +kernel
theorem dX12_advance_51 : decode cX12_advance 51 = .ok (.iadd, 1) := by decide +kernel
theorem dX12_advance_52 : decode cX12_advance 52 = .ok (.putfield 112, 3) := by decide +kernel
theorem dX12_advance_55 : decode cX12_advance 55 = .ok (.goto (-47), 3) := by decide +kernel
theorem dX12_advance_58 : decode cX12_advance 58 = .ok (.aload_n 0, 1) := by decide +kernel
theorem dX12_advance_59 : decode cX12_advance 59 = .ok (.aload_n 0, 1) := by decide +kernel
theorem dX12_advance_60 : decode cX12_advance 60 = .ok (.getfield 112, 3) := by decide +kernel
theorem dX12_advance_63 : decode cX12_advance 63 = .ok (.putfield 109, 3) := by decide +kernel
theorem dX12_advance_66 : decode cX12_advance 66 = .ok (.aload_n 0, 1) := by decide +kernel
theorem dX12_advance_67 : decode cX12_advance 67 = .ok (.getfield 112, 3) := by decide +kernel
theorem dX12_advance_70 : decode cX12_advance 70 = .ok (.aload_n 0, 1) := by decide +kernel
theorem dX12_advance_71 : decode cX12_advance 71 = .ok (.getfield 106, 3) := by decide +kernel
theorem dX12_advance_74 : decode cX12_advance 74 = .ok (.if_icmp .lt 9, 3) := by decide +kernel
theorem dX12_advance_77 : decode cX12_advance 77 = .ok (.aload_n 0, 1) := by decide +kernel
theorem dX12_advance_78 : decode cX12_advance 78 = .ok (.iconst 0, 1) := by decide +kernel
theorem dX12_advance_79 : decode cX12_advance 79 = .ok (.putfield 118, 3) := by decide +kernel
theorem dX12_advance_82 : decode cX12_advance 82 = .ok (.return_, 1) := by decide +kernel
theorem dX12_advance_83 : decode cX12_advance 83 = .ok (.aload_n 0, 1) := by decide +kernel
theorem dX12_advance_84 : decode cX12_advance 84 = .ok (.aload_n 0, 1) := by decide +kernel
theorem dX12_advance_85 : decode cX12_advance 85 = .ok (.getfield 112, 3) := by decide +kernel
theorem dX12_advance_88 : decode cX12_advance 88 = .ok (.invokevirtual 115, 3) := by decide +kernel
theorem dX12_advance_91 : decode cX12_advance 91 = .ok (.istore_n 1, 1) := by decide +kernel
theorem dX12_advance_92 : decode cX12_advance 92 = .ok (.iload_n 1, 1) := by decide +kernel
theorem dX12_advance_93 : decode cX12_advance 93 = .ok (.invokestatic 121, 3) := by decide +kernel
theorem dX12_advance_96 : decode cX12_advance 96 = .ok (.ifCond .eq 102, 3) := by decide +kernel
theorem dX12_advance_99 : decode cX12_advance 99 = .ok (.aload_n 0, 1) := by decide +kernel
theorem dX12_advance_100 : decode cX12_advance 100 = .ok (.iconst 1, 1) := by decide +kernel
theorem dX12_advance_101 : decode cX12_advance 101 = .ok (.putfield 118, 3) := by decide +kernel
theorem dX12_advance_104 : decode cX12_advance 104 = .ok (.aload_n 0, 1) := by decide +kernel
theorem dX12_advance_105 : decode cX12_advance 105 = .ok (.lconst 0, 1) := by decide +kernel
theorem dX12_advance_106 : decode cX12_advance 106 = .ok (.putfield 124, 3) := by decide +kernel
theorem dX12_advance_109 : decode cX12_advance 109 = .ok (.aload_n 0, 1) := by decide +kernel
theorem dX12_advance_110 : decode cX12_advance 110 = .ok (.aload_n 0, 1) := by decide +kernel
theorem dX12_advance_111 : decode cX12_advance 111 = .ok (.getfield 109, 3) := by decide +kernel
theorem dX12_advance_114 : decode cX12_advance 114 = .ok (.invokevirtual 115, 3) := by decide +kernel
theorem dX12_advance_117 : decode cX12_advance 117 = .ok (.invokestatic 121, 3) := by decide +kernel
theorem dX12_advance_120 : decode cX12_advance 120 = .ok (.ifCond .eq 62, 3) := by decide +kernel
theorem dX12_advance_123 : decode cX12_advance 123 = .ok (.aload_n 0, 1) := by decide +kernel
theorem dX12_advance_124 : decode cX12_advance 124 = .ok (.aload_n 0, 1) := by decide +kernel
theorem dX12_advance_125 : decode cX12_advance 125 = .ok (.getfield 109, 3) := by decide +kernel
theorem dX12_advance_128 : decode cX12_advance 128 = .ok (.aload_n 0, 1) := by decide +kernel
theorem dX12_advance_129 : decode cX12_advance 129 = .ok (.getfield 112, 3) := by decide +kernel
theorem dX12_advance_132 : decode cX12_advance 132 = .ok (.isub, 1) := by decide +kernel
theorem dX12_advance_133 : decode cX12_advance 133 = .ok (.bipush 8, 2) := by decide +kernel
theorem dX12_advance_135 : decode cX12_advance 135 = .ok (.if_icmp .ge 28, 3) := by decide +kernel
theorem dX12_advance_138 : decode cX12_advance 138 = .ok (.aload_n 0, 1) := by decide +kernel
theorem dX12_advance_139 : decode cX12_advance 139 = .ok (.getfield 124, 3) := by decide +kernel
theorem dX12_advance_142 : decode cX12_advance 142 = .ok (.ldc2_w 127, 3) := by decide +kernel
theorem dX12_advance_145 : decode cX12_advance 145 = .ok (.lmul, 1) := by decide +kernel
theorem dX12_advance_146 : decode cX12_advance 146 = .ok (.aload_n 0, 1) := by decide +kernel
theorem dX12_advance_147 : decode cX12_advance 147 = .ok (.aload_n 0, 1) := by decide +kernel
theorem dX12_advance_148 : decode cX12_advance 148 = .ok (.getfield 109, 3) := by decide +kernel
theorem dX12_advance_151 : decode cX12_advance 151 = .ok (.invokevirtual 115, 3) := by decide +kernel
theorem dX12_advance_154 : decode cX12_advance 154 = .ok (.i2l, 1) := by decide +kernel
theorem dX12_advance_155 : decode cX12_advance 155 = .ok (.ladd, 1) := by decide +kernel
theorem dX12_advance_156 : decode cX12_advance 156 = .ok (.ldc2_w 129, 3) := by decide +kernel
theorem dX12_advance_159 : decode cX12_advance 159 = .ok (.lsub, 1) := by decide +kernel
theorem dX12_advance_160 : decode cX12_advance 160 = .ok (.goto 6, 3) := by decide +kernel
theorem dX12_advance_163 : decode cX12_advance 163 = .ok (.ldc2_w 94, 3) := by decide +kernel
theorem dX12_advance_166 : decode cX12_advance 166 = .ok (.putfield 124, 3) := by decide +kernel
theorem dX12_advance_169 : decode cX12_advance 169 = .ok (.aload_n 0, 1) := by decide +kernel
theorem dX12_advance_170 : decode cX12_advance 170 = .ok (.dup, 1) := by decide +kernel
theorem dX12_advance_171 : decode cX12_advance 171 = .ok (.getfield 109, 3) := by decide +kernel
theorem dX12_advance_174 : decode cX12_advance 174 = .ok (.iconst 1, 1) := by decide +kernel
theorem dX12_advance_175 : decode cX12_advance 175 = .ok (.iadd, 1) := by decide +kernel
theorem dX12_advance_176 : decode cX12_advance 176 = .ok (.putfield 109, 3) := by decide +kernel
theorem dX12_advance_179 : decode cX12_advance 179 = .ok (.goto (-70), 3) := by decide +kernel
theorem dX12_advance_182 : decode cX12_advance 182 = .ok (.aload_n 0, 1) := by decide +kernel
theorem dX12_advance_183 : decode cX12_advance 183 = .ok (.aload_n 0, 1) := by decide +kernel
theorem dX12_advance_184 : decode cX12_advance 184 = .ok (.getfield 109, 3) := by decide +kernel
theorem dX12_advance_187 : decode cX12_advance 187 = .ok (.aload_n 0, 1) := by decide +kernel
theorem dX12_advance_188 : decode cX12_advance 188 = .ok (.getfield 112, 3) := by decide +kernel
theorem dX12_advance_191 : decode cX12_advance 191 = .ok (.isub, 1) := by decide +kernel
theorem dX12_advance_192 : decode cX12_advance 192 = .ok (.putfield 131, 3) := by decide +kernel
theorem dX12_advance_195 : decode cX12_advance 195 = .ok (.goto 135, 3) := by decide +kernel
theorem dX12_advance_198 : decode cX12_advance 198 = .ok (.iload_n 1, 1) := by decide +kernel
theorem dX12_advance_199 : decode cX12_advance 199 = .ok (.invokestatic 134, 3) := by decide +kernel
theorem dX12_advance_202 : decode cX12_advance 202 = .ok (.ifCond .eq 96, 3) := by decide +kernel
theorem dX12_advance_205 : decode cX12_advance 205 = .ok (.aload_n 0, 1) := by decide +kernel
theorem dX12_advance_206 : decode cX12_advance 206 = .ok (.iconst 0, 1) := by decide +kernel
theorem dX12_advance_207 : decode cX12_advance 207 = .ok (.putfield 137, 3) := by decide +kernel
theorem dX12_advance_210 : decode cX12_advance 210 = .ok (.aload_n 0, 1) := by decide +kernel
theorem dX12_advance_211 : decode cX12_advance 211 = .ok (.aload_n 0, 1) := by decide +kernel
theorem dX12_advance_212 : decode cX12_advance 212 = .ok (.getfield 109, 3) := by decide +kernel
theorem dX12_advance_215 : decode cX12_advance 215 = .ok (.invokevirtual 115, 3) := by decide +kernel
theorem dX12_advance_218 : decode cX12_advance 218 = .ok (.invokestatic 134, 3) := by decide +kernel
theorem dX12_advance_221 : decode cX12_advance 221 = .ok (.ifCond .eq 52, 3) := by decide +kernel
theorem dX12_advance_224 : decode cX12_advance 224 = .ok (.aload_n 0, 1) := by decide +kernel
theorem dX12_advance_225 : decode cX12_advance 225 = .ok (.getfield 109, 3) := by decide +kernel
theorem dX12_advance_228 : decode cX12_advance 228 = .ok (.aload_n 0, 1) := by decide +kernel
theorem dX12_advance_229 : decode cX12_advance 229 = .ok (.getfield 112, 3) := by decide +kernel
theorem dX12_advance_232 : decode cX12_advance 232 = .ok (.isub, 1) := by decide +kernel
theorem dX12_advance_233 : decode cX12_advance 233 = .ok (.iconst 4, 1) := by decide +kernel
theorem dX12_advance_234 : decode cX12_advance 234 = .ok (.if_icmp .ge 26, 3) := by decide +kernel
theorem dX12_advance_237 : decode cX12_advance 237 = .ok (.aload_n 0, 1) := by decide +kernel
theorem dX12_advance_238 : decode cX12_advance 238 = .ok (.bipush 10, 2) := by decide +kernel
theorem dX12_advance_240 : decode cX12_advance 240 = .ok (.aload_n 0, 1) := by decide +kernel
theorem dX12_advance_241 : decode cX12_advance 241 = .ok (.getfield 137, 3) := by decide +kernel
theorem dX12_advance_244 : decode cX12_advance 244 = .ok (.imul, 1) := by decide +kernel
theorem dX12_advance_245 : decode cX12_advance 245 = .ok (.aload_n 0, 1) := by decide +kernel
theorem dX12_advance_246 : decode cX12_advance 246 = .ok (.aload_n 0, 1) := by decide +kernel
theorem dX12_advance_247 : decode cX12_advance 247 = .ok (.getfield 109, 3) := by decide +kernel
theorem dX12_advance_250 : decode cX12_advance 250 = .ok (.invokevirtual 115, 3) := by decide +kernel
theorem dX12_advance_253 : decode cX12_advance 253 = .ok (.iadd, 1) := by decide +kernel
theorem dX12_advance_254 : decode cX12_advance 254 = .ok (.bipush 48, 2) := by decide +kernel
theorem dX12_advance_256 : decode cX12_advance 256 = .ok (.isub, 1) := by decide +kernel
theorem dX12_advance_257 : decode cX12_advance 257 = .ok (.putfield 137, 3) := by decide +kernel
theorem dX12_advance_260 : decode cX12_advance 260 = .ok (.aload_n 0, 1) := by decide +kernel
theorem dX12_advance_261 : decode cX12_advance 261 = .ok (.dup, 1) := by decide +kernel
theorem dX12_advance_262 : decode cX12_advance 262 = .ok (.getfield 109, 3) := by decide +kernel
theorem dX12_advance_265 : decode cX12_advance 265 = .ok (.iconst 1, 1) := by decide +kernel
theorem dX12_advance_266 : decode cX12_advance 266 = .ok (.iadd, 1) := by decide +kernel
theorem dX12_advance_267 : decode cX12_advance 267 = .ok (.putfield 109, 3) := by decide +kernel
theorem dX12_advance_270 : decode cX12_advance 270 = .ok (.goto (-60), 3) := by decide +kernel
theorem dX12_advance_273 : decode cX12_advance 273 = .ok (.aload_n 0, 1) := by decide +kernel
theorem dX12_advance_274 : decode cX12_advance 274 = .ok (.aload_n 0, 1) := by decide +kernel
theorem dX12_advance_275 : decode cX12_advance 275 = .ok (.getfield 109, 3) := by decide +kernel
theorem dX12_advance_278 : decode cX12_advance 278 = .ok (.aload_n 0, 1) := by decide +kernel
theorem dX12_advance_279 : decode cX12_advance 279 = .ok (.getfield 112, 3) := by decide +kernel
theorem dX12_advance_282 : decode cX12_advance 282 = .ok (.isub, 1) := by decide +kernel
theorem dX12_advance_283 : decode cX12_advance 283 = .ok (.iconst 4, 1) := by decide +kernel
theorem dX12_advance_284 : decode cX12_advance 284 = .ok (.if_icmp .le 7, 3) := by decide +kernel
theorem dX12_advance_287 : decode cX12_advance 287 = .ok (.iconst 4, 1) := by decide +kernel
theorem dX12_advance_288 : decode cX12_advance 288 = .ok (.goto 4, 3) := by decide +kernel
theorem dX12_advance_291 : decode cX12_advance 291 = .ok (.iconst 2, 1) := by decide +kernel
theorem dX12_advance_292 : decode cX12_advance 292 = .ok (.putfield 118, 3) := by decide +kernel
theorem dX12_advance_295 : decode cX12_advance 295 = .ok (.goto 35, 3) := by decide +kernel
theorem dX12_advance_298 : decode cX12_advance 298 = .ok (.aload_n 0, 1) := by decide +kernel
theorem dX12_advance_299 : decode cX12_advance 299 = .ok (.aload_n 0, 1) := by decide +kernel
theorem dX12_advance_300 : decode cX12_advance 300 = .ok (.getfield 112, 3) := by decide +kernel
theorem dX12_advance_303 : decode cX12_advance 303 = .ok (.iconst 1, 1) := by decide +kernel
theorem dX12_advance_304 : decode cX12_advance 304 = .ok (.iadd, 1) := by decide +kernel
theorem dX12_advance_305 : decode cX12_advance 305 = .ok (.putfield 109, 3) := by decide +kernel
theorem dX12_advance_308 : decode cX12_advance 308 = .ok (.aload_n 0, 1) := by decide +kernel
theorem dX12_advance_309 : decode cX12_advance 309 = .ok (.iload_n 1, 1) := by decide +kernel
theorem dX12_advance_310 : decode cX12_advance 310 = .ok (.putfield 137, 3) := by decide +kernel
theorem dX12_advance_313 : decode cX12_advance 313 = .ok (.aload_n 0, 1) := by decide +kernel
theorem dX12_advance_314 : decode cX12_advance 314 = .ok (.aload_n 0, 1) := by decide +kernel
theorem dX12_advance_315 : decode cX12_advance 315 = .ok (.iload_n 1, 1) := by decide +kernel
theorem dX12_advance_316 : decode cX12_advance 316 = .ok (.invokevirtual 140, 3) := by decide +kernel
theorem dX12_advance_319 : decode cX12_advance 319 = .ok (.ifCond .eq 7, 3) := by decide +kernel
theorem dX12_advance_322 : decode cX12_advance 322 = .ok (.iconst 3, 1) := by decide +kernel
theorem dX12_advance_323 : decode cX12_advance 323 = .ok (.goto 4, 3) := by decide +kernel
theorem dX12_advance_326 : decode cX12_advance 326 = .ok (.iconst 4, 1) := by decide +kernel
theorem dX12_advance_327 : decode cX12_advance 327 = .ok (.putfield 118, 3) := by decide +kernel
theorem dX12_advance_330 : decode cX12_advance 330 = .ok (.return_, 1) := by decide +kernel
theorem dX12_isSign_0 : decode cX12_isSign 0 = .ok (.aload_n 0, 1) := by decide +kernel
theorem dX12_isSign_1 : decode cX12_isSign 1 = .ok (.getfield 118, 3) := by decide +kernel
theorem dX12_isSign_4 : decode cX12_isSign 4 = .ok (.iconst 3, 1) := by decide +kernel
theorem dX12_isSign_5 : decode cX12_isSign 5 = .ok (.if_icmp .ne 15, 3) := by decide +kernel
theorem dX12_isSign_8 : decode cX12_isSign 8 = .ok (.aload_n 0, 1) := by decide +kernel
theorem dX12_isSign_9 : decode cX12_isSign 9 = .ok (.getfield 137, 3) := by decide +kernel
theorem dX12_isSign_12 : decode cX12_isSign 12 = .ok (.iload_n 1, 1) := by decide +kernel
theorem dX12_isSign_13 : decode cX12_isSign 13 = .ok (.if_icmp .ne 7, 3) := by decide +kernel
theorem dX12_isSign_16 : decode cX12_isSign 16 = .ok (.iconst 1, 1) := by decide +kernel
theorem dX12_isSign_17 : decode cX12_isSign 17 = .ok (.goto 4, 3) := by decide +kernel
theorem dX12_isSign_20 : decode cX12_isSign 20 = .ok (.iconst 0, 1) := by decide +kernel
theorem dX12_isSign_21 : decode cX12_isSign 21 = .ok (.ireturn, 1) := by decide +kernel
theorem dX12_spelled_0 : decode cX12_spelled 0 = .ok (.iload_n 0, 1) := by decide +kernel
theorem dX12_spelled_1 : decode cX12_spelled 1 = .ok (.i2l, 1) := by decide +kernel
theorem dX12_spelled_2 : decode cX12_spelled 2 = .ok (.ldc2_w 129, 3) := by decide +kernel
theorem dX12_spelled_5 : decode cX12_spelled 5 = .ok (.lsub, 1) := by decide +kernel
theorem dX12_spelled_6 : decode cX12_spelled 6 = .ok (.ldc2_w 127, 3) := by decide +kernel
theorem dX12_spelled_9 : decode cX12_spelled 9 = .ok (.lmul, 1) := by decide +kernel
theorem dX12_spelled_10 : decode cX12_spelled 10 = .ok (.iload_n 1, 1) := by decide +kernel
theorem dX12_spelled_11 : decode cX12_spelled 11 = .ok (.i2l, 1) := by decide +kernel
theorem dX12_spelled_12 : decode cX12_spelled 12 = .ok (.ladd, 1) := by decide +kernel
theorem dX12_spelled_13 : decode cX12_spelled 13 = .ok (.ldc2_w 129, 3) := by decide +kernel
theorem dX12_spelled_16 : decode cX12_spelled 16 = .ok (.lsub, 1) := by decide +kernel
theorem dX12_spelled_17 : decode cX12_spelled 17 = .ok (.lstore 6, 2) := by decide +kernel
theorem dX12_spelled_19 : decode cX12_spelled 19 = .ok (.iload_n 2, 1) := by decide +kernel
theorem dX12_spelled_20 : decode cX12_spelled 20 = .ok (.ifCond .le 19, 3) := by decide +kernel
theorem dX12_spelled_23 : decode cX12_spelled 23 = .ok (.lload 6, 2) := by decide +kernel
theorem dX12_spelled_25 : decode cX12_spelled 25 = .ok (.ldc2_w 127, 3) := by decide +kernel
theorem dX12_spelled_28 : decode cX12_spelled 28 = .ok (.lmul, 1) := by decide +kernel
theorem dX12_spelled_29 : decode cX12_spelled 29 = .ok (.iload_n 2, 1) := by decide +kernel
theorem dX12_spelled_30 : decode cX12_spelled 30 = .ok (.i2l, 1) := by decide +kernel
theorem dX12_spelled_31 : decode cX12_spelled 31 = .ok (.ladd, 1) := by decide +kernel
theorem dX12_spelled_32 : decode cX12_spelled 32 = .ok (.ldc2_w 129, 3) := by decide +kernel
theorem dX12_spelled_35 : decode cX12_spelled 35 = .ok (.lsub, 1) := by decide +kernel
theorem dX12_spelled_36 : decode cX12_spelled 36 = .ok (.goto 5, 3) := by decide +kernel
theorem dX12_spelled_39 : decode cX12_spelled 39 = .ok (.lload 6, 2) := by decide +kernel
theorem dX12_spelled_41 : decode cX12_spelled 41 = .ok (.lstore 6, 2) := by decide +kernel
theorem dX12_spelled_43 : decode cX12_spelled 43 = .ok (.iload_n 3, 1) := by decide +kernel
theorem dX12_spelled_44 : decode cX12_spelled 44 = .ok (.ifCond .le 19, 3) := by decide +kernel
theorem dX12_spelled_47 : decode cX12_spelled 47 = .ok (.lload 6, 2) := by decide +kernel
theorem dX12_spelled_49 : decode cX12_spelled 49 = .ok (.ldc2_w 127, 3) := by decide +kernel
theorem dX12_spelled_52 : decode cX12_spelled 52 = .ok (.lmul, 1) := by decide +kernel
theorem dX12_spelled_53 : decode cX12_spelled 53 = .ok (.iload_n 3, 1) := by decide +kernel
theorem dX12_spelled_54 : decode cX12_spelled 54 = .ok (.i2l, 1) := by decide +kernel
theorem dX12_spelled_55 : decode cX12_spelled 55 = .ok (.ladd, 1) := by decide +kernel
theorem dX12_spelled_56 : decode cX12_spelled 56 = .ok (.ldc2_w 129, 3) := by decide +kernel
theorem dX12_spelled_59 : decode cX12_spelled 59 = .ok (.lsub, 1) := by decide +kernel
theorem dX12_spelled_60 : decode cX12_spelled 60 = .ok (.goto 5, 3) := by decide +kernel
theorem dX12_spelled_63 : decode cX12_spelled 63 = .ok (.lload 6, 2) := by decide +kernel
theorem dX12_spelled_65 : decode cX12_spelled 65 = .ok (.lstore 6, 2) := by decide +kernel
theorem dX12_spelled_67 : decode cX12_spelled 67 = .ok (.iload 4, 2) := by decide +kernel
theorem dX12_spelled_69 : decode cX12_spelled 69 = .ok (.ifCond .le 20, 3) := by decide +kernel
theorem dX12_spelled_72 : decode cX12_spelled 72 = .ok (.lload 6, 2) := by decide +kernel
theorem dX12_spelled_74 : decode cX12_spelled 74 = .ok (.ldc2_w 127, 3) := by decide +kernel
theorem dX12_spelled_77 : decode cX12_spelled 77 = .ok (.lmul, 1) := by decide +kernel
theorem dX12_spelled_78 : decode cX12_spelled 78 = .ok (.iload 4, 2) := by decide +kernel
theorem dX12_spelled_80 : decode cX12_spelled 80 = .ok (.i2l, 1) := by decide +kernel
theorem dX12_spelled_81 : decode cX12_spelled 81 = .ok (.ladd, 1) := by decide +kernel
theorem dX12_spelled_82 : decode cX12_spelled 82 = .ok (.ldc2_w 129, 3) := by decide +kernel
theorem dX12_spelled_85 : decode cX12_spelled 85 = .ok (.lsub, 1) := by decide +kernel
theorem dX12_spelled_86 : decode cX12_spelled 86 = .ok (.goto 5, 3) := by decide +kernel
theorem dX12_spelled_89 : decode cX12_spelled 89 = .ok (.lload 6, 2) := by decide +kernel
theorem dX12_spelled_91 : decode cX12_spelled 91 = .ok (.lstore 6, 2) := by decide +kernel
theorem dX12_spelled_93 : decode cX12_spelled 93 = .ok (.iload 5, 2) := by decide +kernel
theorem dX12_spelled_95 : decode cX12_spelled 95 = .ok (.ifCond .le 20, 3) := by decide +kernel
theorem dX12_spelled_98 : decode cX12_spelled 98 = .ok (.lload 6, 2) := by decide +kernel
theorem dX12_spelled_100 : decode cX12_spelled 100 = .ok (.ldc2_w 127, 3) := by decide +kernel
theorem dX12_spelled_103 : decode cX12_spelled 103 = .ok (.lmul, 1) := by decide +kernel
theorem dX12_spelled_104 : decode cX12_spelled 104 = .ok (.iload 5, 2) := by decide +kernel
theorem dX12_spelled_106 : decode cX12_spelled 106 = .ok (.i2l, 1) := by decide +kernel
theorem dX12_spelled_107 : decode cX12_spelled 107 = .ok (.ladd, 1) := by decide +kernel
theorem dX12_spelled_108 : decode cX12_spelled 108 = .ok (.ldc2_w 129, 3) := by decide +kernel
theorem dX12_spelled_111 : decode cX12_spelled 111 = .ok (.lsub, 1) := by decide +kernel
theorem dX12_spelled_112 : decode cX12_spelled 112 = .ok (.goto 5, 3) := by decide +kernel
theorem dX12_spelled_115 : decode cX12_spelled 115 = .ok (.lload 6, 2) := by decide +kernel
theorem dX12_spelled_117 : decode cX12_spelled 117 = .ok (.lreturn, 1) := by decide +kernel
theorem dX12_isWord_0 : decode cX12_isWord 0 = .ok (.aload_n 0, 1) := by decide +kernel
theorem dX12_isWord_1 : decode cX12_isWord 1 = .ok (.getfield 118, 3) := by decide +kernel
theorem dX12_isWord_4 : decode cX12_isWord 4 = .ok (.iconst 1, 1) := by decide +kernel
theorem dX12_isWord_5 : decode cX12_isWord 5 = .ok (.if_icmp .ne 16, 3) := by decide +kernel
theorem dX12_isWord_8 : decode cX12_isWord 8 = .ok (.aload_n 0, 1) := by decide +kernel
theorem dX12_isWord_9 : decode cX12_isWord 9 = .ok (.getfield 124, 3) := by decide +kernel
theorem dX12_isWord_12 : decode cX12_isWord 12 = .ok (.lload_n 1, 1) := by decide +kernel
theorem dX12_isWord_13 : decode cX12_isWord 13 = .ok (.lcmp, 1) := by decide +kernel
theorem dX12_isWord_14 : decode cX12_isWord 14 = .ok (.ifCond .ne 7, 3) := by decide +kernel
theorem dX12_isWord_17 : decode cX12_isWord 17 = .ok (.iconst 1, 1) := by decide +kernel
theorem dX12_isWord_18 : decode cX12_isWord 18 = .ok (.goto 4, 3) := by decide +kernel
theorem dX12_isWord_21 : decode cX12_isWord 21 = .ok (.iconst 0, 1) := by decide +kernel
theorem dX12_isWord_22 : decode cX12_isWord 22 = .ok (.ireturn, 1) := by decide +kernel
theorem dX12_isOdds_0 : decode cX12_isOdds 0 = .ok (.aload_n 0, 1) := by decide +kernel
theorem dX12_isOdds_1 : decode cX12_isOdds 1 = .ok (.bipush 111, 2) := by decide +kernel
theorem dX12_isOdds_3 : decode cX12_isOdds 3 = .ok (.bipush 100, 2) := by decide +kernel
theorem dX12_isOdds_5 : decode cX12_isOdds 5 = .ok (.bipush 100, 2) := by decide +kernel
theorem dX12_isOdds_7 : decode cX12_isOdds 7 = .ok (.bipush 115, 2) := by decide +kernel
theorem dX12_isOdds_9 : decode cX12_isOdds 9 = .ok (.iconst 0, 1) := by decide +kernel
theorem dX12_isOdds_10 : decode cX12_isOdds 10 = .ok (.iconst 0, 1) := by decide +kernel
theorem dX12_isOdds_11 : decode cX12_isOdds 11 = .ok (.invokestatic 143, 3) := by decide +kernel
theorem dX12_isOdds_14 : decode cX12_isOdds 14 = .ok (.invokevirtual 147, 3) := by decide +kernel
theorem dX12_isOdds_17 : decode cX12_isOdds 17 = .ok (.ireturn, 1) := by decide +kernel
theorem dX12_isTopic_0 : decode cX12_isTopic 0 = .ok (.aload_n 0, 1) := by decide +kernel
theorem dX12_isTopic_1 : decode cX12_isTopic 1 = .ok (.bipush 116, 2) := by decide +kernel
theorem dX12_isTopic_3 : decode cX12_isTopic 3 = .ok (.bipush 111, 2) := by decide +kernel
theorem dX12_isTopic_5 : decode cX12_isTopic 5 = .ok (.bipush 112, 2) := by decide +kernel
theorem dX12_isTopic_7 : decode cX12_isTopic 7 = .ok (.bipush 105, 2) := by decide +kernel
theorem dX12_isTopic_9 : decode cX12_isTopic 9 = .ok (.bipush 99, 2) := by decide +kernel
theorem dX12_isTopic_11 : decode cX12_isTopic 11 = .ok (.iconst 0, 1) := by decide +kernel
theorem dX12_isTopic_12 : decode cX12_isTopic 12 = .ok (.invokestatic 143, 3) := by decide +kernel
theorem dX12_isTopic_15 : decode cX12_isTopic 15 = .ok (.invokevirtual 147, 3) := by decide +kernel
theorem dX12_isTopic_18 : decode cX12_isTopic 18 = .ok (.ireturn, 1) := by decide +kernel
theorem dX12_isWorth_0 : decode cX12_isWorth 0 = .ok (.aload_n 0, 1) := by decide +kernel
theorem dX12_isWorth_1 : decode cX12_isWorth 1 = .ok (.bipush 119, 2) := by decide +kernel
theorem dX12_isWorth_3 : decode cX12_isWorth 3 = .ok (.bipush 111, 2) := by decide +kernel
theorem dX12_isWorth_5 : decode cX12_isWorth 5 = .ok (.bipush 114, 2) := by decide +kernel
theorem dX12_isWorth_7 : decode cX12_isWorth 7 = .ok (.bipush 116, 2) := by decide +kernel
theorem dX12_isWorth_9 : decode cX12_isWorth 9 = .ok (.bipush 104, 2) := by decide +kernel
theorem dX12_isWorth_11 : decode cX12_isWorth 11 = .ok (.iconst 0, 1) := by decide +kernel
theorem dX12_isWorth_12 : decode cX12_isWorth 12 = .ok (.invokestatic 143, 3) := by decide +kernel
theorem dX12_isWorth_15 : decode cX12_isWorth 15 = .ok (.invokevirtual 147, 3) := by decide +kernel
theorem dX12_isWorth_18 : decode cX12_isWorth 18 = .ok (.ireturn, 1) := by decide +kernel
theorem dX12_isDrift_0 : decode cX12_isDrift 0 = .ok (.aload_n 0, 1) := by decide +kernel
theorem dX12_isDrift_1 : decode cX12_isDrift 1 = .ok (.bipush 100, 2) := by decide +kernel
theorem dX12_isDrift_3 : decode cX12_isDrift 3 = .ok (.bipush 114, 2) := by decide +kernel
theorem dX12_isDrift_5 : decode cX12_isDrift 5 = .ok (.bipush 105, 2) := by decide +kernel
theorem dX12_isDrift_7 : decode cX12_isDrift 7 = .ok (.bipush 102, 2) := by decide +kernel
theorem dX12_isDrift_9 : decode cX12_isDrift 9 = .ok (.bipush 116, 2) := by decide +kernel
theorem dX12_isDrift_11 : decode cX12_isDrift 11 = .ok (.iconst 0, 1) := by decide +kernel
theorem dX12_isDrift_12 : decode cX12_isDrift 12 = .ok (.invokestatic 143, 3) := by decide +kernel
theorem dX12_isDrift_15 : decode cX12_isDrift 15 = .ok (.invokevirtual 147, 3) := by decide +kernel
theorem dX12_isDrift_18 : decode cX12_isDrift 18 = .ok (.ireturn, 1) := by decide +kernel
theorem dX12_isClaim_0 : decode cX12_isClaim 0 = .ok (.aload_n 0, 1) := by decide +kernel
theorem dX12_isClaim_1 : decode cX12_isClaim 1 = .ok (.bipush 99, 2) := by decide +kernel
theorem dX12_isClaim_3 : decode cX12_isClaim 3 = .ok (.bipush 108, 2) := by decide +kernel
theorem dX12_isClaim_5 : decode cX12_isClaim 5 = .ok (.bipush 97, 2) := by decide +kernel
theorem dX12_isClaim_7 : decode cX12_isClaim 7 = .ok (.bipush 105, 2) := by decide +kernel
theorem dX12_isClaim_9 : decode cX12_isClaim 9 = .ok (.bipush 109, 2) := by decide +kernel
theorem dX12_isClaim_11 : decode cX12_isClaim 11 = .ok (.iconst 0, 1) := by decide +kernel
theorem dX12_isClaim_12 : decode cX12_isClaim 12 = .ok (.invokestatic 143, 3) := by decide +kernel
theorem dX12_isClaim_15 : decode cX12_isClaim 15 = .ok (.invokevirtual 147, 3) := by decide +kernel
theorem dX12_isClaim_18 : decode cX12_isClaim 18 = .ok (.ireturn, 1) := by decide +kernel
theorem dX12_isAtWord_0 : decode cX12_isAtWord 0 = .ok (.aload_n 0, 1) := by decide +kernel
theorem dX12_isAtWord_1 : decode cX12_isAtWord 1 = .ok (.bipush 97, 2) := by decide +kernel
theorem dX12_isAtWord_3 : decode cX12_isAtWord 3 = .ok (.bipush 116, 2) := by decide +kernel
theorem dX12_isAtWord_5 : decode cX12_isAtWord 5 = .ok (.iconst 0, 1) := by decide +kernel
theorem dX12_isAtWord_6 : decode cX12_isAtWord 6 = .ok (.iconst 0, 1) := by decide +kernel
theorem dX12_isAtWord_7 : decode cX12_isAtWord 7 = .ok (.iconst 0, 1) := by decide +kernel
theorem dX12_isAtWord_8 : decode cX12_isAtWord 8 = .ok (.iconst 0, 1) := by decide +kernel
theorem dX12_isAtWord_9 : decode cX12_isAtWord 9 = .ok (.invokestatic 143, 3) := by decide +kernel
theorem dX12_isAtWord_12 : decode cX12_isAtWord 12 = .ok (.invokevirtual 147, 3) := by decide +kernel
theorem dX12_isAtWord_15 : decode cX12_isAtWord 15 = .ok (.ireturn, 1) := by decide +kernel
theorem dX12_isProppedWord_0 : decode cX12_isProppedWord 0 = .ok (.aload_n 0, 1) := by decide +kernel
theorem dX12_isProppedWord_1 : decode cX12_isProppedWord 1 = .ok (.bipush 112, 2) := by decide +kernel
theorem dX12_isProppedWord_3 : decode cX12_isProppedWord 3 = .ok (.bipush 114, 2) := by decide +kernel
theorem dX12_isProppedWord_5 : decode cX12_isProppedWord 5 = .ok (.bipush 111, 2) := by decide +kernel
theorem dX12_isProppedWord_7 : decode cX12_isProppedWord 7 = .ok (.bipush 112, 2) := by decide +kernel
theorem dX12_isProppedWord_9 : decode cX12_isProppedWord 9 = .ok (.bipush 112, 2) := by decide +kernel
theorem dX12_isProppedWord_11 : decode cX12_isProppedWord 11 = .ok (.bipush 101, 2) := by decide +kernel
theorem dX12_isProppedWord_13 : decode cX12_isProppedWord 13 = .ok (.invokestatic 143, 3) := by decide +kernel
theorem dX12_isProppedWord_16 : decode cX12_isProppedWord 16 = .ok (.ldc2_w 127, 3) := by decide +kernel
theorem dX12_isProppedWord_19 : decode cX12_isProppedWord 19 = .ok (.lmul, 1) := by decide +kernel
theorem dX12_isProppedWord_20 : decode cX12_isProppedWord 20 = .ok (.ldc2_w 151, 3) := by decide +kernel
theorem dX12_isProppedWord_23 : decode cX12_isProppedWord 23 = .ok (.ladd, 1) := by decide +kernel
theorem dX12_isProppedWord_24 : decode cX12_isProppedWord 24 = .ok (.ldc2_w 129, 3) := by decide +kernel
theorem dX12_isProppedWord_27 : decode cX12_isProppedWord 27 = .ok (.lsub, 1) := by decide +kernel
theorem dX12_isProppedWord_28 : decode cX12_isProppedWord 28 = .ok (.invokevirtual 147, 3) := by decide +kernel
theorem dX12_isProppedWord_31 : decode cX12_isProppedWord 31 = .ok (.ireturn, 1) := by decide +kernel
theorem dX12_isNeeds_0 : decode cX12_isNeeds 0 = .ok (.aload_n 0, 1) := by decide +kernel
theorem dX12_isNeeds_1 : decode cX12_isNeeds 1 = .ok (.bipush 110, 2) := by decide +kernel
theorem dX12_isNeeds_3 : decode cX12_isNeeds 3 = .ok (.bipush 101, 2) := by decide +kernel
theorem dX12_isNeeds_5 : decode cX12_isNeeds 5 = .ok (.bipush 101, 2) := by decide +kernel
theorem dX12_isNeeds_7 : decode cX12_isNeeds 7 = .ok (.bipush 100, 2) := by decide +kernel
theorem dX12_isNeeds_9 : decode cX12_isNeeds 9 = .ok (.bipush 115, 2) := by decide +kernel
theorem dX12_isNeeds_11 : decode cX12_isNeeds 11 = .ok (.iconst 0, 1) := by decide +kernel
theorem dX12_isNeeds_12 : decode cX12_isNeeds 12 = .ok (.invokestatic 143, 3) := by decide +kernel
theorem dX12_isNeeds_15 : decode cX12_isNeeds 15 = .ok (.invokevirtual 147, 3) := by decide +kernel
theorem dX12_isNeeds_18 : decode cX12_isNeeds 18 = .ok (.ireturn, 1) := by decide +kernel
theorem dX12_isTalker_0 : decode cX12_isTalker 0 = .ok (.aload_n 0, 1) := by decide +kernel
theorem dX12_isTalker_1 : decode cX12_isTalker 1 = .ok (.bipush 116, 2) := by decide +kernel
theorem dX12_isTalker_3 : decode cX12_isTalker 3 = .ok (.bipush 97, 2) := by decide +kernel
theorem dX12_isTalker_5 : decode cX12_isTalker 5 = .ok (.bipush 108, 2) := by decide +kernel
theorem dX12_isTalker_7 : decode cX12_isTalker 7 = .ok (.bipush 107, 2) := by decide +kernel
theorem dX12_isTalker_9 : decode cX12_isTalker 9 = .ok (.bipush 101, 2) := by decide +kernel
theorem dX12_isTalker_11 : decode cX12_isTalker 11 = .ok (.bipush 114, 2) := by decide +kernel
theorem dX12_isTalker_13 : decode cX12_isTalker 13 = .ok (.invokestatic 143, 3) := by decide +kernel
theorem dX12_isTalker_16 : decode cX12_isTalker 16 = .ok (.invokevirtual 147, 3) := by decide +kernel
theorem dX12_isTalker_19 : decode cX12_isTalker 19 = .ok (.ireturn, 1) := by decide +kernel
theorem dX12_isSeat_0 : decode cX12_isSeat 0 = .ok (.aload_n 0, 1) := by decide +kernel
theorem dX12_isSeat_1 : decode cX12_isSeat 1 = .ok (.bipush 115, 2) := by decide +kernel
theorem dX12_isSeat_3 : decode cX12_isSeat 3 = .ok (.bipush 101, 2) := by decide +kernel
theorem dX12_isSeat_5 : decode cX12_isSeat 5 = .ok (.bipush 97, 2) := by decide +kernel
theorem dX12_isSeat_7 : decode cX12_isSeat 7 = .ok (.bipush 116, 2) := by decide +kernel
theorem dX12_isSeat_9 : decode cX12_isSeat 9 = .ok (.iconst 0, 1) := by decide +kernel
theorem dX12_isSeat_10 : decode cX12_isSeat 10 = .ok (.iconst 0, 1) := by decide +kernel
theorem dX12_isSeat_11 : decode cX12_isSeat 11 = .ok (.invokestatic 143, 3) := by decide +kernel
theorem dX12_isSeat_14 : decode cX12_isSeat 14 = .ok (.invokevirtual 147, 3) := by decide +kernel
theorem dX12_isSeat_17 : decode cX12_isSeat 17 = .ok (.ireturn, 1) := by decide +kernel
theorem dX12_isOn_0 : decode cX12_isOn 0 = .ok (.aload_n 0, 1) := by decide +kernel
theorem dX12_isOn_1 : decode cX12_isOn 1 = .ok (.bipush 111, 2) := by decide +kernel
theorem dX12_isOn_3 : decode cX12_isOn 3 = .ok (.bipush 110, 2) := by decide +kernel
theorem dX12_isOn_5 : decode cX12_isOn 5 = .ok (.iconst 0, 1) := by decide +kernel
theorem dX12_isOn_6 : decode cX12_isOn 6 = .ok (.iconst 0, 1) := by decide +kernel
theorem dX12_isOn_7 : decode cX12_isOn 7 = .ok (.iconst 0, 1) := by decide +kernel
theorem dX12_isOn_8 : decode cX12_isOn 8 = .ok (.iconst 0, 1) := by decide +kernel
theorem dX12_isOn_9 : decode cX12_isOn 9 = .ok (.invokestatic 143, 3) := by decide +kernel
theorem dX12_isOn_12 : decode cX12_isOn 12 = .ok (.invokevirtual 147, 3) := by decide +kernel
theorem dX12_isOn_15 : decode cX12_isOn 15 = .ok (.ireturn, 1) := by decide +kernel
theorem dX12_isFails_0 : decode cX12_isFails 0 = .ok (.aload_n 0, 1) := by decide +kernel
theorem dX12_isFails_1 : decode cX12_isFails 1 = .ok (.bipush 102, 2) := by decide +kernel
theorem dX12_isFails_3 : decode cX12_isFails 3 = .ok (.bipush 97, 2) := by decide +kernel
theorem dX12_isFails_5 : decode cX12_isFails 5 = .ok (.bipush 105, 2) := by decide +kernel
theorem dX12_isFails_7 : decode cX12_isFails 7 = .ok (.bipush 108, 2) := by decide +kernel
theorem dX12_isFails_9 : decode cX12_isFails 9 = .ok (.bipush 115, 2) := by decide +kernel
theorem dX12_isFails_11 : decode cX12_isFails 11 = .ok (.iconst 0, 1) := by decide +kernel
theorem dX12_isFails_12 : decode cX12_isFails 12 = .ok (.invokestatic 143, 3) := by decide +kernel
theorem dX12_isFails_15 : decode cX12_isFails 15 = .ok (.invokevirtual 147, 3) := by decide +kernel
theorem dX12_isFails_18 : decode cX12_isFails 18 = .ok (.ireturn, 1) := by decide +kernel
theorem dX12_isFeud_0 : decode cX12_isFeud 0 = .ok (.aload_n 0, 1) := by decide +kernel
theorem dX12_isFeud_1 : decode cX12_isFeud 1 = .ok (.bipush 102, 2) := by decide +kernel
theorem dX12_isFeud_3 : decode cX12_isFeud 3 = .ok (.bipush 101, 2) := by decide +kernel
theorem dX12_isFeud_5 : decode cX12_isFeud 5 = .ok (.bipush 117, 2) := by decide +kernel
theorem dX12_isFeud_7 : decode cX12_isFeud 7 = .ok (.bipush 100, 2) := by decide +kernel
theorem dX12_isFeud_9 : decode cX12_isFeud 9 = .ok (.iconst 0, 1) := by decide +kernel
theorem dX12_isFeud_10 : decode cX12_isFeud 10 = .ok (.iconst 0, 1) := by decide +kernel
theorem dX12_isFeud_11 : decode cX12_isFeud 11 = .ok (.invokestatic 143, 3) := by decide +kernel
theorem dX12_isFeud_14 : decode cX12_isFeud 14 = .ok (.invokevirtual 147, 3) := by decide +kernel
theorem dX12_isFeud_17 : decode cX12_isFeud 17 = .ok (.ireturn, 1) := by decide +kernel
theorem dX12_stepWord_0 : decode cX12_stepWord 0 = .ok (.aload_n 0, 1) := by decide +kernel
theorem dX12_stepWord_1 : decode cX12_stepWord 1 = .ok (.bipush 115, 2) := by decide +kernel
theorem dX12_stepWord_3 : decode cX12_stepWord 3 = .ok (.bipush 97, 2) := by decide +kernel
theorem dX12_stepWord_5 : decode cX12_stepWord 5 = .ok (.bipush 121, 2) := by decide +kernel
theorem dX12_stepWord_7 : decode cX12_stepWord 7 = .ok (.iconst 0, 1) := by decide +kernel
theorem dX12_stepWord_8 : decode cX12_stepWord 8 = .ok (.iconst 0, 1) := by decide +kernel
theorem dX12_stepWord_9 : decode cX12_stepWord 9 = .ok (.iconst 0, 1) := by decide +kernel
theorem dX12_stepWord_10 : decode cX12_stepWord 10 = .ok (.invokestatic 143, 3) := by decide +kernel
theorem dX12_stepWord_13 : decode cX12_stepWord 13 = .ok (.invokevirtual 147, 3) := by decide +kernel
theorem dX12_stepWord_16 : decode cX12_stepWord 16 = .ok (.ifCond .eq 5, 3) := by decide +kernel
theorem dX12_stepWord_19 : decode cX12_stepWord 19 = .ok (.iconst 0, 1) := by decide +kernel
theorem dX12_stepWord_20 : decode cX12_stepWord 20 = .ok (.ireturn, 1) := by decide +kernel
theorem dX12_stepWord_21 : decode cX12_stepWord 21 = .ok (.aload_n 0, 1) := by decide +kernel
theorem dX12_stepWord_22 : decode cX12_stepWord 22 = .ok (.bipush 100, 2) := by decide +kernel
theorem dX12_stepWord_24 : decode cX12_stepWord 24 = .ok (.bipush 114, 2) := by decide +kernel
theorem dX12_stepWord_26 : decode cX12_stepWord 26 = .ok (.bipush 111, 2) := by decide +kernel
theorem dX12_stepWord_28 : decode cX12_stepWord 28 = .ok (.bipush 112, 2) := by decide +kernel
theorem dX12_stepWord_30 : decode cX12_stepWord 30 = .ok (.iconst 0, 1) := by decide +kernel
theorem dX12_stepWord_31 : decode cX12_stepWord 31 = .ok (.iconst 0, 1) := by decide +kernel
theorem dX12_stepWord_32 : decode cX12_stepWord 32 = .ok (.invokestatic 143, 3) := by decide +kernel
theorem dX12_stepWord_35 : decode cX12_stepWord 35 = .ok (.invokevirtual 147, 3) := by decide +kernel
theorem dX12_stepWord_38 : decode cX12_stepWord 38 = .ok (.ifCond .eq 5, 3) := by decide +kernel
theorem dX12_stepWord_41 : decode cX12_stepWord 41 = .ok (.iconst 1, 1) := by decide +kernel
theorem dX12_stepWord_42 : decode cX12_stepWord 42 = .ok (.ireturn, 1) := by decide +kernel
theorem dX12_stepWord_43 : decode cX12_stepWord 43 = .ok (.aload_n 0, 1) := by decide +kernel
theorem dX12_stepWord_44 : decode cX12_stepWord 44 = .ok (.bipush 112, 2) := by decide +kernel
theorem dX12_stepWord_46 : decode cX12_stepWord 46 = .ok (.bipush 117, 2) := by decide +kernel
theorem dX12_stepWord_48 : decode cX12_stepWord 48 = .ok (.bipush 108, 2) := by decide +kernel
theorem dX12_stepWord_50 : decode cX12_stepWord 50 = .ok (.bipush 108, 2) := by decide +kernel
theorem dX12_stepWord_52 : decode cX12_stepWord 52 = .ok (.iconst 0, 1) := by decide +kernel
theorem dX12_stepWord_53 : decode cX12_stepWord 53 = .ok (.iconst 0, 1) := by decide +kernel
theorem dX12_stepWord_54 : decode cX12_stepWord 54 = .ok (.invokestatic 143, 3) := by decide +kernel
theorem dX12_stepWord_57 : decode cX12_stepWord 57 = .ok (.invokevirtual 147, 3) := by decide +kernel
theorem dX12_stepWord_60 : decode cX12_stepWord 60 = .ok (.ifCond .eq 5, 3) := by decide +kernel
theorem dX12_stepWord_63 : decode cX12_stepWord 63 = .ok (.iconst 2, 1) := by decide +kernel
theorem dX12_stepWord_64 : decode cX12_stepWord 64 = .ok (.ireturn, 1) := by decide +kernel
theorem dX12_stepWord_65 : decode cX12_stepWord 65 = .ok (.aload_n 0, 1) := by decide +kernel
theorem dX12_stepWord_66 : decode cX12_stepWord 66 = .ok (.bipush 112, 2) := by decide +kernel
theorem dX12_stepWord_68 : decode cX12_stepWord 68 = .ok (.bipush 114, 2) := by decide +kernel
theorem dX12_stepWord_70 : decode cX12_stepWord 70 = .ok (.bipush 111, 2) := by decide +kernel
theorem dX12_stepWord_72 : decode cX12_stepWord 72 = .ok (.bipush 112, 2) := by decide +kernel
theorem dX12_stepWord_74 : decode cX12_stepWord 74 = .ok (.iconst 0, 1) := by decide +kernel
theorem dX12_stepWord_75 : decode cX12_stepWord 75 = .ok (.iconst 0, 1) := by decide +kernel
theorem dX12_stepWord_76 : decode cX12_stepWord 76 = .ok (.invokestatic 143, 3) := by decide +kernel
theorem dX12_stepWord_79 : decode cX12_stepWord 79 = .ok (.invokevirtual 147, 3) := by decide +kernel
theorem dX12_stepWord_82 : decode cX12_stepWord 82 = .ok (.ifCond .eq 5, 3) := by decide +kernel
theorem dX12_stepWord_85 : decode cX12_stepWord 85 = .ok (.iconst 3, 1) := by decide +kernel
theorem dX12_stepWord_86 : decode cX12_stepWord 86 = .ok (.ireturn, 1) := by decide +kernel
theorem dX12_stepWord_87 : decode cX12_stepWord 87 = .ok (.aload_n 0, 1) := by decide +kernel
theorem dX12_stepWord_88 : decode cX12_stepWord 88 = .ok (.bipush 99, 2) := by decide +kernel
theorem dX12_stepWord_90 : decode cX12_stepWord 90 = .ok (.bipush 117, 2) := by decide +kernel
theorem dX12_stepWord_92 : decode cX12_stepWord 92 = .ok (.bipush 116, 2) := by decide +kernel
theorem dX12_stepWord_94 : decode cX12_stepWord 94 = .ok (.iconst 0, 1) := by decide +kernel
theorem dX12_stepWord_95 : decode cX12_stepWord 95 = .ok (.iconst 0, 1) := by decide +kernel
theorem dX12_stepWord_96 : decode cX12_stepWord 96 = .ok (.iconst 0, 1) := by decide +kernel
theorem dX12_stepWord_97 : decode cX12_stepWord 97 = .ok (.invokestatic 143, 3) := by decide +kernel
theorem dX12_stepWord_100 : decode cX12_stepWord 100 = .ok (.invokevirtual 147, 3) := by decide +kernel
theorem dX12_stepWord_103 : decode cX12_stepWord 103 = .ok (.ifCond .eq 5, 3) := by decide +kernel
theorem dX12_stepWord_106 : decode cX12_stepWord 106 = .ok (.iconst 4, 1) := by decide +kernel
theorem dX12_stepWord_107 : decode cX12_stepWord 107 = .ok (.ireturn, 1) := by decide +kernel
theorem dX12_stepWord_108 : decode cX12_stepWord 108 = .ok (.aload_n 0, 1) := by decide +kernel
theorem dX12_stepWord_109 : decode cX12_stepWord 109 = .ok (.bipush 97, 2) := by decide +kernel
theorem dX12_stepWord_111 : decode cX12_stepWord 111 = .ok (.bipush 110, 2) := by decide +kernel
theorem dX12_stepWord_113 : decode cX12_stepWord 113 = .ok (.bipush 121, 2) := by decide +kernel
theorem dX12_stepWord_115 : decode cX12_stepWord 115 = .ok (.iconst 0, 1) := by decide +kernel
theorem dX12_stepWord_116 : decode cX12_stepWord 116 = .ok (.iconst 0, 1) := by decide +kernel
theorem dX12_stepWord_117 : decode cX12_stepWord 117 = .ok (.iconst 0, 1) := by decide +kernel
theorem dX12_stepWord_118 : decode cX12_stepWord 118 = .ok (.invokestatic 143, 3) := by decide +kernel
theorem dX12_stepWord_121 : decode cX12_stepWord 121 = .ok (.invokevirtual 147, 3) := by decide +kernel
theorem dX12_stepWord_124 : decode cX12_stepWord 124 = .ok (.ifCond .eq 5, 3) := by decide +kernel
theorem dX12_stepWord_127 : decode cX12_stepWord 127 = .ok (.iconst 5, 1) := by decide +kernel
theorem dX12_stepWord_128 : decode cX12_stepWord 128 = .ok (.ireturn, 1) := by decide +kernel
theorem dX12_stepWord_129 : decode cX12_stepWord 129 = .ok (.aload_n 0, 1) := by decide +kernel
theorem dX12_stepWord_130 : decode cX12_stepWord 130 = .ok (.bipush 119, 2) := by decide +kernel
theorem dX12_stepWord_132 : decode cX12_stepWord 132 = .ok (.bipush 104, 2) := by decide +kernel
theorem dX12_stepWord_134 : decode cX12_stepWord 134 = .ok (.bipush 101, 2) := by decide +kernel
theorem dX12_stepWord_136 : decode cX12_stepWord 136 = .ok (.bipush 110, 2) := by decide +kernel
theorem dX12_stepWord_138 : decode cX12_stepWord 138 = .ok (.iconst 0, 1) := by decide +kernel
theorem dX12_stepWord_139 : decode cX12_stepWord 139 = .ok (.iconst 0, 1) := by decide +kernel
theorem dX12_stepWord_140 : decode cX12_stepWord 140 = .ok (.invokestatic 143, 3) := by decide +kernel
theorem dX12_stepWord_143 : decode cX12_stepWord 143 = .ok (.invokevirtual 147, 3) := by decide +kernel
theorem dX12_stepWord_146 : decode cX12_stepWord 146 = .ok (.ifCond .eq 6, 3) := by decide +kernel
theorem dX12_stepWord_149 : decode cX12_stepWord 149 = .ok (.bipush 6, 2) := by decide +kernel
theorem dX12_stepWord_151 : decode cX12_stepWord 151 = .ok (.ireturn, 1) := by decide +kernel
theorem dX12_stepWord_152 : decode cX12_stepWord 152 = .ok (.aload_n 0, 1) := by decide +kernel
theorem dX12_stepWord_153 : decode cX12_stepWord 153 = .ok (.bipush 108, 2) := by decide +kernel
theorem dX12_stepWord_155 : decode cX12_stepWord 155 = .ok (.bipush 111, 2) := by decide +kernel
theorem dX12_stepWord_157 : decode cX12_stepWord 157 = .ok (.bipush 111, 2) := by decide +kernel
theorem dX12_stepWord_159 : decode cX12_stepWord 159 = .ok (.bipush 112, 2) := by decide +kernel
theorem dX12_stepWord_161 : decode cX12_stepWord 161 = .ok (.iconst 0, 1) := by decide +kernel
theorem dX12_stepWord_162 : decode cX12_stepWord 162 = .ok (.iconst 0, 1) := by decide +kernel
theorem dX12_stepWord_163 : decode cX12_stepWord 163 = .ok (.invokestatic 143, 3) := by decide +kernel
theorem dX12_stepWord_166 : decode cX12_stepWord 166 = .ok (.invokevirtual 147, 3) := by decide +kernel
theorem dX12_stepWord_169 : decode cX12_stepWord 169 = .ok (.ifCond .eq 6, 3) := by decide +kernel
theorem dX12_stepWord_172 : decode cX12_stepWord 172 = .ok (.bipush 7, 2) := by decide +kernel
theorem dX12_stepWord_174 : decode cX12_stepWord 174 = .ok (.ireturn, 1) := by decide +kernel
theorem dX12_stepWord_175 : decode cX12_stepWord 175 = .ok (.aload_n 0, 1) := by decide +kernel
theorem dX12_stepWord_176 : decode cX12_stepWord 176 = .ok (.bipush 115, 2) := by decide +kernel
theorem dX12_stepWord_178 : decode cX12_stepWord 178 = .ok (.bipush 116, 2) := by decide +kernel
theorem dX12_stepWord_180 : decode cX12_stepWord 180 = .ok (.bipush 111, 2) := by decide +kernel
theorem dX12_stepWord_182 : decode cX12_stepWord 182 = .ok (.bipush 112, 2) := by decide +kernel
theorem dX12_stepWord_184 : decode cX12_stepWord 184 = .ok (.iconst 0, 1) := by decide +kernel
theorem dX12_stepWord_185 : decode cX12_stepWord 185 = .ok (.iconst 0, 1) := by decide +kernel
theorem dX12_stepWord_186 : decode cX12_stepWord 186 = .ok (.invokestatic 143, 3) := by decide +kernel
theorem dX12_stepWord_189 : decode cX12_stepWord 189 = .ok (.invokevirtual 147, 3) := by decide +kernel
theorem dX12_stepWord_192 : decode cX12_stepWord 192 = .ok (.ifCond .eq 8, 3) := by decide +kernel
theorem dX12_stepWord_195 : decode cX12_stepWord 195 = .ok (.bipush 8, 2) := by decide +kernel
theorem dX12_stepWord_197 : decode cX12_stepWord 197 = .ok (.goto 4, 3) := by decide +kernel
theorem dX12_stepWord_200 : decode cX12_stepWord 200 = .ok (.iconst (-1), 1) := by decide +kernel
theorem dX12_stepWord_201 : decode cX12_stepWord 201 = .ok (.ireturn, 1) := by decide +kernel
theorem dX12_testWord_0 : decode cX12_testWord 0 = .ok (.aload_n 0, 1) := by decide +kernel
theorem dX12_testWord_1 : decode cX12_testWord 1 = .ok (.bipush 115, 2) := by decide +kernel
theorem dX12_testWord_3 : decode cX12_testWord 3 = .ok (.bipush 116, 2) := by decide +kernel
theorem dX12_testWord_5 : decode cX12_testWord 5 = .ok (.bipush 97, 2) := by decide +kernel
theorem dX12_testWord_7 : decode cX12_testWord 7 = .ok (.bipush 110, 2) := by decide +kernel
theorem dX12_testWord_9 : decode cX12_testWord 9 = .ok (.bipush 100, 2) := by decide +kernel
theorem dX12_testWord_11 : decode cX12_testWord 11 = .ok (.bipush 115, 2) := by decide +kernel
theorem dX12_testWord_13 : decode cX12_testWord 13 = .ok (.invokestatic 143, 3) := by decide +kernel
theorem dX12_testWord_16 : decode cX12_testWord 16 = .ok (.invokevirtual 147, 3) := by decide +kernel
theorem dX12_testWord_19 : decode cX12_testWord 19 = .ok (.ifCond .eq 5, 3) := by decide +kernel
theorem dX12_testWord_22 : decode cX12_testWord 22 = .ok (.iconst 0, 1) := by decide +kernel
theorem dX12_testWord_23 : decode cX12_testWord 23 = .ok (.ireturn, 1) := by decide +kernel
theorem dX12_testWord_24 : decode cX12_testWord 24 = .ok (.aload_n 0, 1) := by decide +kernel
theorem dX12_testWord_25 : decode cX12_testWord 25 = .ok (.bipush 102, 2) := by decide +kernel
theorem dX12_testWord_27 : decode cX12_testWord 27 = .ok (.bipush 97, 2) := by decide +kernel
theorem dX12_testWord_29 : decode cX12_testWord 29 = .ok (.bipush 108, 2) := by decide +kernel
theorem dX12_testWord_31 : decode cX12_testWord 31 = .ok (.bipush 108, 2) := by decide +kernel
theorem dX12_testWord_33 : decode cX12_testWord 33 = .ok (.bipush 115, 2) := by decide +kernel
theorem dX12_testWord_35 : decode cX12_testWord 35 = .ok (.iconst 0, 1) := by decide +kernel
theorem dX12_testWord_36 : decode cX12_testWord 36 = .ok (.invokestatic 143, 3) := by decide +kernel
theorem dX12_testWord_39 : decode cX12_testWord 39 = .ok (.invokevirtual 147, 3) := by decide +kernel
theorem dX12_testWord_42 : decode cX12_testWord 42 = .ok (.ifCond .eq 5, 3) := by decide +kernel
theorem dX12_testWord_45 : decode cX12_testWord 45 = .ok (.iconst 1, 1) := by decide +kernel
theorem dX12_testWord_46 : decode cX12_testWord 46 = .ok (.ireturn, 1) := by decide +kernel
theorem dX12_testWord_47 : decode cX12_testWord 47 = .ok (.aload_n 0, 1) := by decide +kernel
theorem dX12_testWord_48 : decode cX12_testWord 48 = .ok (.bipush 104, 2) := by decide +kernel
theorem dX12_testWord_50 : decode cX12_testWord 50 = .ok (.bipush 105, 2) := by decide +kernel
theorem dX12_testWord_52 : decode cX12_testWord 52 = .ok (.bipush 103, 2) := by decide +kernel
theorem dX12_testWord_54 : decode cX12_testWord 54 = .ok (.bipush 104, 2) := by decide +kernel
theorem dX12_testWord_56 : decode cX12_testWord 56 = .ok (.iconst 0, 1) := by decide +kernel
theorem dX12_testWord_57 : decode cX12_testWord 57 = .ok (.iconst 0, 1) := by decide +kernel
theorem dX12_testWord_58 : decode cX12_testWord 58 = .ok (.invokestatic 143, 3) := by decide +kernel
theorem dX12_testWord_61 : decode cX12_testWord 61 = .ok (.invokevirtual 147, 3) := by decide +kernel
theorem dX12_testWord_64 : decode cX12_testWord 64 = .ok (.ifCond .eq 7, 3) := by decide +kernel
theorem dX12_testWord_67 : decode cX12_testWord 67 = .ok (.iconst 2, 1) := by decide +kernel
theorem dX12_testWord_68 : decode cX12_testWord 68 = .ok (.goto 4, 3) := by decide +kernel
theorem dX12_testWord_71 : decode cX12_testWord 71 = .ok (.iconst (-1), 1) := by decide +kernel
theorem dX12_testWord_72 : decode cX12_testWord 72 = .ok (.ireturn, 1) := by decide +kernel
theorem dX12_isEnd_0 : decode cX12_isEnd 0 = .ok (.aload_n 0, 1) := by decide +kernel
theorem dX12_isEnd_1 : decode cX12_isEnd 1 = .ok (.bipush 101, 2) := by decide +kernel
theorem dX12_isEnd_3 : decode cX12_isEnd 3 = .ok (.bipush 110, 2) := by decide +kernel
theorem dX12_isEnd_5 : decode cX12_isEnd 5 = .ok (.bipush 100, 2) := by decide +kernel
theorem dX12_isEnd_7 : decode cX12_isEnd 7 = .ok (.iconst 0, 1) := by decide +kernel
theorem dX12_isEnd_8 : decode cX12_isEnd 8 = .ok (.iconst 0, 1) := by decide +kernel
theorem dX12_isEnd_9 : decode cX12_isEnd 9 = .ok (.iconst 0, 1) := by decide +kernel
theorem dX12_isEnd_10 : decode cX12_isEnd 10 = .ok (.invokestatic 143, 3) := by decide +kernel
theorem dX12_isEnd_13 : decode cX12_isEnd 13 = .ok (.invokevirtual 147, 3) := by decide +kernel
theorem dX12_isEnd_16 : decode cX12_isEnd 16 = .ok (.ireturn, 1) := by decide +kernel
theorem dX12_isKept_0 : decode cX12_isKept 0 = .ok (.aload_n 0, 1) := by decide +kernel
theorem dX12_isKept_1 : decode cX12_isKept 1 = .ok (.invokevirtual 153, 3) := by decide +kernel
theorem dX12_isKept_4 : decode cX12_isKept 4 = .ok (.ifCond .ne 87, 3) := by decide +kernel
theorem dX12_isKept_7 : decode cX12_isKept 7 = .ok (.aload_n 0, 1) := by decide +kernel
theorem dX12_isKept_8 : decode cX12_isKept 8 = .ok (.invokevirtual 157, 3) := by decide +kernel
theorem dX12_isKept_11 : decode cX12_isKept 11 = .ok (.ifCond .ne 80, 3) := by decide +kernel
theorem dX12_isKept_14 : decode cX12_isKept 14 = .ok (.aload_n 0, 1) := by decide +kernel
theorem dX12_isKept_15 : decode cX12_isKept 15 = .ok (.invokevirtual 160, 3) := by decide +kernel
theorem dX12_isKept_18 : decode cX12_isKept 18 = .ok (.ifCond .ne 73, 3) := by decide +kernel
theorem dX12_isKept_21 : decode cX12_isKept 21 = .ok (.aload_n 0, 1) := by decide +kernel
theorem dX12_isKept_22 : decode cX12_isKept 22 = .ok (.invokevirtual 163, 3) := by decide +kernel
theorem dX12_isKept_25 : decode cX12_isKept 25 = .ok (.ifCond .ne 66, 3) := by decide +kernel
theorem dX12_isKept_28 : decode cX12_isKept 28 = .ok (.aload_n 0, 1) := by decide +kernel
theorem dX12_isKept_29 : decode cX12_isKept 29 = .ok (.invokevirtual 166, 3) := by decide +kernel
theorem dX12_isKept_32 : decode cX12_isKept 32 = .ok (.ifCond .ne 59, 3) := by decide +kernel
theorem dX12_isKept_35 : decode cX12_isKept 35 = .ok (.aload_n 0, 1) := by decide +kernel
theorem dX12_isKept_36 : decode cX12_isKept 36 = .ok (.invokevirtual 169, 3) := by decide +kernel
theorem dX12_isKept_39 : decode cX12_isKept 39 = .ok (.ifCond .ne 52, 3) := by decide +kernel
theorem dX12_isKept_42 : decode cX12_isKept 42 = .ok (.aload_n 0, 1) := by decide +kernel
theorem dX12_isKept_43 : decode cX12_isKept 43 = .ok (.invokevirtual 172, 3) := by decide +kernel
theorem dX12_isKept_46 : decode cX12_isKept 46 = .ok (.ifCond .ne 45, 3) := by decide +kernel
theorem dX12_isKept_49 : decode cX12_isKept 49 = .ok (.aload_n 0, 1) := by decide +kernel
theorem dX12_isKept_50 : decode cX12_isKept 50 = .ok (.invokevirtual 175, 3) := by decide +kernel
theorem dX12_isKept_53 : decode cX12_isKept 53 = .ok (.ifCond .ne 38, 3) := by decide +kernel
theorem dX12_isKept_56 : decode cX12_isKept 56 = .ok (.aload_n 0, 1) := by decide +kernel
theorem dX12_isKept_57 : decode cX12_isKept 57 = .ok (.invokevirtual 178, 3) := by decide +kernel
theorem dX12_isKept_60 : decode cX12_isKept 60 = .ok (.ifCond .ne 31, 3) := by decide +kernel
theorem dX12_isKept_63 : decode cX12_isKept 63 = .ok (.aload_n 0, 1) := by decide +kernel
theorem dX12_isKept_64 : decode cX12_isKept 64 = .ok (.invokevirtual 181, 3) := by decide +kernel
theorem dX12_isKept_67 : decode cX12_isKept 67 = .ok (.ifCond .ne 24, 3) := by decide +kernel
theorem dX12_isKept_70 : decode cX12_isKept 70 = .ok (.aload_n 0, 1) := by decide +kernel
theorem dX12_isKept_71 : decode cX12_isKept 71 = .ok (.invokevirtual 184, 3) := by decide +kernel
theorem dX12_isKept_74 : decode cX12_isKept 74 = .ok (.ifCond .ne 17, 3) := by decide +kernel
theorem dX12_isKept_77 : decode cX12_isKept 77 = .ok (.aload_n 0, 1) := by decide +kernel
theorem dX12_isKept_78 : decode cX12_isKept 78 = .ok (.invokevirtual 187, 3) := by decide +kernel
theorem dX12_isKept_81 : decode cX12_isKept 81 = .ok (.ifCond .ne 10, 3) := by decide +kernel
theorem dX12_isKept_84 : decode cX12_isKept 84 = .ok (.aload_n 0, 1) := by decide +kernel
theorem dX12_isKept_85 : decode cX12_isKept 85 = .ok (.invokevirtual 190, 3) := by decide +kernel
theorem dX12_isKept_88 : decode cX12_isKept 88 = .ok (.ifCond .eq 5, 3) := by decide +kernel
theorem dX12_isKept_91 : decode cX12_isKept 91 = .ok (.iconst 1, 1) := by decide +kernel
theorem dX12_isKept_92 : decode cX12_isKept 92 = .ok (.ireturn, 1) := by decide +kernel
theorem dX12_isKept_93 : decode cX12_isKept 93 = .ok (.aload_n 0, 1) := by decide +kernel
theorem dX12_isKept_94 : decode cX12_isKept 94 = .ok (.invokevirtual 193, 3) := by decide +kernel
theorem dX12_isKept_97 : decode cX12_isKept 97 = .ok (.ifCond .ge 17, 3) := by decide +kernel
theorem dX12_isKept_100 : decode cX12_isKept 100 = .ok (.aload_n 0, 1) := by decide +kernel
theorem dX12_isKept_101 : decode cX12_isKept 101 = .ok (.invokevirtual 197, 3) := by decide +kernel
theorem dX12_isKept_104 : decode cX12_isKept 104 = .ok (.ifCond .ge 10, 3) := by decide +kernel
theorem dX12_isKept_107 : decode cX12_isKept 107 = .ok (.aload_n 0, 1) := by decide +kernel
theorem dX12_isKept_108 : decode cX12_isKept 108 = .ok (.invokevirtual 200, 3) := by decide +kernel
theorem dX12_isKept_111 : decode cX12_isKept 111 = .ok (.ifCond .eq 7, 3) := by decide +kernel
theorem dX12_isKept_114 : decode cX12_isKept 114 = .ok (.iconst 1, 1) := by decide +kernel
theorem dX12_isKept_115 : decode cX12_isKept 115 = .ok (.goto 4, 3) := by decide +kernel
theorem dX12_isKept_118 : decode cX12_isKept 118 = .ok (.iconst 0, 1) := by decide +kernel
theorem dX12_isKept_119 : decode cX12_isKept 119 = .ok (.ireturn, 1) := by decide +kernel
theorem dX12_isName_0 : decode cX12_isName 0 = .ok (.aload_n 0, 1) := by decide +kernel
theorem dX12_isName_1 : decode cX12_isName 1 = .ok (.getfield 118, 3) := by decide +kernel
theorem dX12_isName_4 : decode cX12_isName 4 = .ok (.iconst 1, 1) := by decide +kernel
theorem dX12_isName_5 : decode cX12_isName 5 = .ok (.if_icmp .ne 23, 3) := by decide +kernel
theorem dX12_isName_8 : decode cX12_isName 8 = .ok (.aload_n 0, 1) := by decide +kernel
theorem dX12_isName_9 : decode cX12_isName 9 = .ok (.getfield 131, 3) := by decide +kernel
theorem dX12_isName_12 : decode cX12_isName 12 = .ok (.bipush 8, 2) := by decide +kernel
theorem dX12_isName_14 : decode cX12_isName 14 = .ok (.if_icmp .gt 14, 3) := by decide +kernel
theorem dX12_isName_17 : decode cX12_isName 17 = .ok (.aload_n 0, 1) := by decide +kernel
theorem dX12_isName_18 : decode cX12_isName 18 = .ok (.invokevirtual 203, 3) := by decide +kernel
theorem dX12_isName_21 : decode cX12_isName 21 = .ok (.ifCond .ne 7, 3) := by decide +kernel
theorem dX12_isName_24 : decode cX12_isName 24 = .ok (.iconst 1, 1) := by decide +kernel
theorem dX12_isName_25 : decode cX12_isName 25 = .ok (.goto 4, 3) := by decide +kernel
theorem dX12_isName_28 : decode cX12_isName 28 = .ok (.iconst 0, 1) := by decide +kernel
theorem dX12_isName_29 : decode cX12_isName 29 = .ok (.ireturn, 1) := by decide +kernel
theorem dX12_fail_0 : decode cX12_fail 0 = .ok (.aload_n 0, 1) := by decide +kernel
theorem dX12_fail_1 : decode cX12_fail 1 = .ok (.getfield 206, 3) := by decide +kernel
theorem dX12_fail_4 : decode cX12_fail 4 = .ok (.ifCond .le 4, 3) := by decide +kernel
theorem dX12_fail_7 : decode cX12_fail 7 = .ok (.return_, 1) := by decide +kernel
theorem dX12_fail_8 : decode cX12_fail 8 = .ok (.aload_n 0, 1) := by decide +kernel
theorem dX12_fail_9 : decode cX12_fail 9 = .ok (.iload_n 1, 1) := by decide +kernel
theorem dX12_fail_10 : decode cX12_fail 10 = .ok (.putfield 206, 3) := by decide +kernel
theorem dX12_fail_13 : decode cX12_fail 13 = .ok (.aload_n 0, 1) := by decide +kernel
theorem dX12_fail_14 : decode cX12_fail 14 = .ok (.iload_n 2, 1) := by decide +kernel
theorem dX12_fail_15 : decode cX12_fail 15 = .ok (.putfield 209, 3) := by decide +kernel
theorem dX12_fail_18 : decode cX12_fail 18 = .ok (.return_, 1) := by decide +kernel
theorem dX12_amiss_0 : decode cX12_amiss 0 = .ok (.aload_n 0, 1) := by decide +kernel
theorem dX12_amiss_1 : decode cX12_amiss 1 = .ok (.aload_n 0, 1) := by decide +kernel
theorem dX12_amiss_2 : decode cX12_amiss 2 = .ok (.getfield 118, 3) := by decide +kernel
theorem dX12_amiss_5 : decode cX12_amiss 5 = .ok (.iconst 4, 1) := by decide +kernel
theorem dX12_amiss_6 : decode cX12_amiss 6 = .ok (.if_icmp .ne 7, 3) := by decide +kernel
theorem dX12_amiss_9 : decode cX12_amiss 9 = .ok (.iconst 1, 1) := by decide +kernel
theorem dX12_amiss_10 : decode cX12_amiss 10 = .ok (.goto 4, 3) := by decide +kernel
theorem dX12_amiss_13 : decode cX12_amiss 13 = .ok (.iconst 2, 1) := by decide +kernel
theorem dX12_amiss_14 : decode cX12_amiss 14 = .ok (.aload_n 0, 1) := by decide +kernel
theorem dX12_amiss_15 : decode cX12_amiss 15 = .ok (.getfield 112, 3) := by decide +kernel
theorem dX12_amiss_18 : decode cX12_amiss 18 = .ok (.invokevirtual 212, 3) := by decide +kernel
theorem dX12_amiss_21 : decode cX12_amiss 21 = .ok (.return_, 1) := by decide +kernel
theorem dX12_must_0 : decode cX12_must 0 = .ok (.aload_n 0, 1) := by decide +kernel
theorem dX12_must_1 : decode cX12_must 1 = .ok (.getfield 206, 3) := by decide +kernel
theorem dX12_must_4 : decode cX12_must 4 = .ok (.ifCond .le 4, 3) := by decide +kernel
theorem dX12_must_7 : decode cX12_must 7 = .ok (.return_, 1) := by decide +kernel
theorem dX12_must_8 : decode cX12_must 8 = .ok (.iload_n 1, 1) := by decide +kernel
theorem dX12_must_9 : decode cX12_must 9 = .ok (.ifCond .eq 10, 3) := by decide +kernel
theorem dX12_must_12 : decode cX12_must 12 = .ok (.aload_n 0, 1) := by decide +kernel
theorem dX12_must_13 : decode cX12_must 13 = .ok (.invokevirtual 216, 3) := by decide +kernel
theorem dX12_must_16 : decode cX12_must 16 = .ok (.goto 7, 3) := by decide +kernel
theorem dX12_must_19 : decode cX12_must 19 = .ok (.aload_n 0, 1) := by decide +kernel
theorem dX12_must_20 : decode cX12_must 20 = .ok (.invokevirtual 219, 3) := by decide +kernel
theorem dX12_must_23 : decode cX12_must 23 = .ok (.return_, 1) := by decide +kernel
theorem dX12_stands_0 : decode cX12_stands 0 = .ok (.aload_n 0, 1) := by decide +kernel
theorem dX12_stands_1 : decode cX12_stands 1 = .ok (.getfield 206, 3) := by decide +kernel
theorem dX12_stands_4 : decode cX12_stands 4 = .ok (.ifCond .ne 15, 3) := by decide +kernel
theorem dX12_stands_7 : decode cX12_stands 7 = .ok (.aload_n 0, 1) := by decide +kernel
theorem dX12_stands_8 : decode cX12_stands 8 = .ok (.getfield 118, 3) := by decide +kernel
theorem dX12_stands_11 : decode cX12_stands 11 = .ok (.iconst 2, 1) := by decide +kernel
theorem dX12_stands_12 : decode cX12_stands 12 = .ok (.if_icmp .eq 7, 3) := by decide +kernel
theorem dX12_stands_15 : decode cX12_stands 15 = .ok (.aload_n 0, 1) := by decide +kernel
theorem dX12_stands_16 : decode cX12_stands 16 = .ok (.invokevirtual 219, 3) := by decide +kernel
theorem dX12_stands_19 : decode cX12_stands 19 = .ok (.aload_n 0, 1) := by decide +kernel
theorem dX12_stands_20 : decode cX12_stands 20 = .ok (.getfield 206, 3) := by decide +kernel
theorem dX12_stands_23 : decode cX12_stands 23 = .ok (.ifCond .ne 27, 3) := by decide +kernel
theorem dX12_stands_26 : decode cX12_stands 26 = .ok (.aload_n 0, 1) := by decide +kernel
theorem dX12_stands_27 : decode cX12_stands 27 = .ok (.getfield 137, 3) := by decide +kernel
theorem dX12_stands_30 : decode cX12_stands 30 = .ok (.i2l, 1) := by decide +kernel
theorem dX12_stands_31 : decode cX12_stands 31 = .ok (.iload_n 1, 1) := by decide +kernel
theorem dX12_stands_32 : decode cX12_stands 32 = .ok (.i2l, 1) := by decide +kernel
theorem dX12_stands_33 : decode cX12_stands 33 = .ok (.iload_n 2, 1) := by decide +kernel
theorem dX12_stands_34 : decode cX12_stands 34 = .ok (.i2l, 1) := by decide +kernel
theorem dX12_stands_35 : decode cX12_stands 35 = .ok (.invokestatic 98, 3) := by decide +kernel
theorem dX12_stands_38 : decode cX12_stands 38 = .ok (.ifCond .ne 12, 3) := by decide +kernel
theorem dX12_stands_41 : decode cX12_stands 41 = .ok (.aload_n 0, 1) := by decide +kernel
theorem dX12_stands_42 : decode cX12_stands 42 = .ok (.iconst 4, 1) := by decide +kernel
theorem dX12_stands_43 : decode cX12_stands 43 = .ok (.aload_n 0, 1) := by decide +kernel
theorem dX12_stands_44 : decode cX12_stands 44 = .ok (.getfield 112, 3) := by decide +kernel
theorem dX12_stands_47 : decode cX12_stands 47 = .ok (.invokevirtual 212, 3) := by decide +kernel
theorem dX12_stands_50 : decode cX12_stands 50 = .ok (.return_, 1) := by decide +kernel
theorem dX12_count_0 : decode cX12_count 0 = .ok (.aload_n 0, 1) := by decide +kernel
theorem dX12_count_1 : decode cX12_count 1 = .ok (.iload_n 1, 1) := by decide +kernel
theorem dX12_count_2 : decode cX12_count 2 = .ok (.iload_n 2, 1) := by decide +kernel
theorem dX12_count_3 : decode cX12_count 3 = .ok (.invokevirtual 222, 3) := by decide +kernel
theorem dX12_count_6 : decode cX12_count 6 = .ok (.aload_n 0, 1) := by decide +kernel
theorem dX12_count_7 : decode cX12_count 7 = .ok (.getfield 206, 3) := by decide +kernel
theorem dX12_count_10 : decode cX12_count 10 = .ok (.ifCond .le 5, 3) := by decide +kernel
theorem dX12_count_13 : decode cX12_count 13 = .ok (.iconst 0, 1) := by decide +kernel
theorem dX12_count_14 : decode cX12_count 14 = .ok (.ireturn, 1) := by decide +kernel
theorem dX12_count_15 : decode cX12_count 15 = .ok (.aload_n 0, 1) := by decide +kernel
theorem dX12_count_16 : decode cX12_count 16 = .ok (.getfield 137, 3) := by decide +kernel
theorem dX12_count_19 : decode cX12_count 19 = .ok (.istore_n 3, 1) := by decide +kernel
theorem dX12_count_20 : decode cX12_count 20 = .ok (.aload_n 0, 1) := by decide +kernel
theorem dX12_count_21 : decode cX12_count 21 = .ok (.invokevirtual 216, 3) := by decide +kernel
theorem dX12_count_24 : decode cX12_count 24 = .ok (.iload_n 3, 1) := by decide +kernel
theorem dX12_count_25 : decode cX12_count 25 = .ok (.ireturn, 1) := by decide +kernel
theorem dX12_behindWord_0 : decode cX12_behindWord 0 = .ok (.aload_n 0, 1) := by decide +kernel
theorem dX12_behindWord_1 : decode cX12_behindWord 1 = .ok (.iload_n 1, 1) := by decide +kernel
theorem dX12_behindWord_2 : decode cX12_behindWord 2 = .ok (.invokevirtual 225, 3) := by decide +kernel
theorem dX12_behindWord_5 : decode cX12_behindWord 5 = .ok (.aload_n 0, 1) := by decide +kernel
theorem dX12_behindWord_6 : decode cX12_behindWord 6 = .ok (.iload_n 2, 1) := by decide +kernel
theorem dX12_behindWord_7 : decode cX12_behindWord 7 = .ok (.iload_n 3, 1) := by decide +kernel
theorem dX12_behindWord_8 : decode cX12_behindWord 8 = .ok (.invokevirtual 229, 3) := by decide +kernel
theorem dX12_behindWord_11 : decode cX12_behindWord 11 = .ok (.ireturn, 1) := by decide +kernel
theorem dX12_perhaps_0 : decode cX12_perhaps 0 = .ok (.aload_n 0, 1) := by decide +kernel
theorem dX12_perhaps_1 : decode cX12_perhaps 1 = .ok (.getfield 206, 3) := by decide +kernel
theorem dX12_perhaps_4 : decode cX12_perhaps 4 = .ok (.ifCond .gt 7, 3) := by decide +kernel
theorem dX12_perhaps_7 : decode cX12_perhaps 7 = .ok (.iload_n 1, 1) := by decide +kernel
theorem dX12_perhaps_8 : decode cX12_perhaps 8 = .ok (.ifCond .ne 5, 3) := by decide +kernel
theorem dX12_perhaps_11 : decode cX12_perhaps 11 = .ok (.iconst 0, 1) := by decide +kernel
theorem dX12_perhaps_12 : decode cX12_perhaps 12 = .ok (.ireturn, 1) := by decide +kernel
theorem dX12_perhaps_13 : decode cX12_perhaps 13 = .ok (.aload_n 0, 1) := by decide +kernel
theorem dX12_perhaps_14 : decode cX12_perhaps 14 = .ok (.invokevirtual 216, 3) := by decide +kernel
theorem dX12_perhaps_17 : decode cX12_perhaps 17 = .ok (.iconst 1, 1) := by decide +kernel
theorem dX12_perhaps_18 : decode cX12_perhaps 18 = .ok (.ireturn, 1) := by decide +kernel
theorem dX12_lay_0 : decode cX12_lay 0 = .ok (.iconst 3, 1) := by decide +kernel
theorem dX12_lay_1 : decode cX12_lay 1 = .ok (.istore_n 2, 1) := by decide +kernel
theorem dX12_lay_2 : decode cX12_lay 2 = .ok (.iload_n 2, 1) := by decide +kernel
theorem dX12_lay_3 : decode cX12_lay 3 = .ok (.ifCond .lt 35, 3) := by decide +kernel
theorem dX12_lay_6 : decode cX12_lay 6 = .ok (.aload_n 0, 1) := by decide +kernel
theorem dX12_lay_7 : decode cX12_lay 7 = .ok (.getfield 24, 3) := by decide +kernel
theorem dX12_lay_10 : decode cX12_lay 10 = .ok (.aload_n 0, 1) := by decide +kernel
theorem dX12_lay_11 : decode cX12_lay 11 = .ok (.getfield 232, 3) := by decide +kernel
theorem dX12_lay_14 : decode cX12_lay 14 = .ok (.iload_n 1, 1) := by decide +kernel
theorem dX12_lay_15 : decode cX12_lay 15 = .ok (.bipush 8, 2) := by decide +kernel
theorem dX12_lay_17 : decode cX12_lay 17 = .ok (.iload_n 2, 1) := by decide +kernel
theorem dX12_lay_18 : decode cX12_lay 18 = .ok (.imul, 1) := by decide +kernel
theorem dX12_lay_19 : decode cX12_lay 19 = .ok (.ishr, 1) := by decide +kernel
theorem dX12_lay_20 : decode cX12_lay 20 = .ok (.i2b, 1) := by decide +kernel
theorem dX12_lay_21 : decode cX12_lay 21 = .ok (.bastore, 1) := by decide +kernel
theorem dX12_lay_22 : decode cX12_lay 22 = .ok (.aload_n 0, 1) := by decide +kernel
theorem dX12_lay_23 : decode cX12_lay 23 = .ok (.dup, 1) := by decide +kernel
theorem dX12_lay_24 : decode cX12_lay 24 = .ok (.getfield 232, 3) := by decide +kernel
theorem dX12_lay_27 : decode cX12_lay 27 = .ok (.iconst 1, 1) := by decide +kernel
theorem dX12_lay_28 : decode cX12_lay 28 = .ok (.iadd, 1) := by decide +kernel
theorem dX12_lay_29 : decode cX12_lay 29 = .ok (.putfield 232, 3) := by decide +kernel
theorem dX12_lay_32 : decode cX12_lay 32 = .ok (.iinc 2 (-1), 3) := by decide +kernel
theorem dX12_lay_35 : decode cX12_lay 35 = .ok (.goto (-33), 3) := by decide +kernel
theorem dX12_lay_38 : decode cX12_lay 38 = .ok (.return_, 1) := by decide +kernel
theorem dX12_feed_0 : decode cX12_feed 0 = .ok (.aload_n 0, 1) := by decide +kernel
theorem dX12_feed_1 : decode cX12_feed 1 = .ok (.iconst 0, 1) := by decide +kernel
theorem dX12_feed_2 : decode cX12_feed 2 = .ok (.putfield 63, 3) := by decide +kernel
theorem dX12_feed_5 : decode cX12_feed 5 = .ok (.aload_n 0, 1) := by decide +kernel
theorem dX12_feed_6 : decode cX12_feed 6 = .ok (.getfield 232, 3) := by decide +kernel
theorem dX12_feed_9 : decode cX12_feed 9 = .ok (.bipush 20, 2) := by decide +kernel
theorem dX12_feed_11 : decode cX12_feed 11 = .ok (.iadd, 1) := by decide +kernel
theorem dX12_feed_12 : decode cX12_feed 12 = .ok (.sipush 900, 3) := by decide +kernel
theorem dX12_feed_15 : decode cX12_feed 15 = .ok (.if_icmp .le 5, 3) := by decide +kernel
theorem dX12_feed_18 : decode cX12_feed 18 = .ok (.iconst (-1), 1) := by decide +kernel
theorem dX12_feed_19 : decode cX12_feed 19 = .ok (.ireturn, 1) := by decide +kernel
theorem dX12_feed_20 : decode cX12_feed 20 = .ok (.aload_n 0, 1) := by decide +kernel
theorem dX12_feed_21 : decode cX12_feed 21 = .ok (.iload_n 1, 1) := by decide +kernel
theorem dX12_feed_22 : decode cX12_feed 22 = .ok (.invokevirtual 235, 3) := by decide +kernel
theorem dX12_feed_25 : decode cX12_feed 25 = .ok (.aload_n 0, 1) := by decide +kernel
theorem dX12_feed_26 : decode cX12_feed 26 = .ok (.iload_n 2, 1) := by decide +kernel
theorem dX12_feed_27 : decode cX12_feed 27 = .ok (.invokevirtual 235, 3) := by decide +kernel
theorem dX12_feed_30 : decode cX12_feed 30 = .ok (.aload_n 0, 1) := by decide +kernel
theorem dX12_feed_31 : decode cX12_feed 31 = .ok (.iload_n 3, 1) := by decide +kernel
theorem dX12_feed_32 : decode cX12_feed 32 = .ok (.invokevirtual 235, 3) := by decide +kernel
theorem dX12_feed_35 : decode cX12_feed 35 = .ok (.aload_n 0, 1) := by decide +kernel
theorem dX12_feed_36 : decode cX12_feed 36 = .ok (.iload 4, 2) := by decide +kernel
theorem dX12_feed_38 : decode cX12_feed 38 = .ok (.invokevirtual 235, 3) := by decide +kernel
theorem dX12_feed_41 : decode cX12_feed 41 = .ok (.aload_n 0, 1) := by decide +kernel
theorem dX12_feed_42 : decode cX12_feed 42 = .ok (.iload 5, 2) := by decide +kernel
theorem dX12_feed_44 : decode cX12_feed 44 = .ok (.invokevirtual 235, 3) := by decide +kernel
theorem dX12_feed_47 : decode cX12_feed 47 = .ok (.aload_n 0, 1) := by decide +kernel
theorem dX12_feed_48 : decode cX12_feed 48 = .ok (.getfield 232, 3) := by decide +kernel
theorem dX12_feed_51 : decode cX12_feed 51 = .ok (.ireturn, 1) := by decide +kernel
theorem dX12_starts_0 : decode cX12_starts 0 = .ok (.iload_n 1, 1) := by decide +kernel
theorem dX12_starts_1 : decode cX12_starts 1 = .ok (.ifCond .lt 16, 3) := by decide +kernel
theorem dX12_starts_4 : decode cX12_starts 4 = .ok (.iload_n 1, 1) := by decide +kernel
theorem dX12_starts_5 : decode cX12_starts 5 = .ok (.aload_n 0, 1) := by decide +kernel
theorem dX12_starts_6 : decode cX12_starts 6 = .ok (.getfield 232, 3) := by decide +kernel
theorem dX12_starts_9 : decode cX12_starts 9 = .ok (.if_icmp .gt 8, 3) := by decide +kernel
theorem dX12_starts_12 : decode cX12_starts 12 = .ok (.iload_n 1, 1) := by decide +kernel
theorem dX12_starts_13 : decode cX12_starts 13 = .ok (.iload_n 2, 1) := by decide +kernel
theorem dX12_starts_14 : decode cX12_starts 14 = .ok (.if_icmp .le 9, 3) := by decide +kernel
theorem dX12_starts_17 : decode cX12_starts 17 = .ok (.aload_n 0, 1) := by decide +kernel
theorem dX12_starts_18 : decode cX12_starts 18 = .ok (.iconst 5, 1) := by decide +kernel
theorem dX12_starts_19 : decode cX12_starts 19 = .ok (.invokevirtual 78, 3) := by decide +kernel
theorem dX12_starts_22 : decode cX12_starts 22 = .ok (.ireturn, 1) := by decide +kernel
theorem dX12_starts_23 : decode cX12_starts 23 = .ok (.aload_n 0, 1) := by decide +kernel
theorem dX12_starts_24 : decode cX12_starts 24 = .ok (.iload_n 1, 1) := by decide +kernel
theorem dX12_starts_25 : decode cX12_starts 25 = .ok (.putfield 106, 3) := by decide +kernel
theorem dX12_starts_28 : decode cX12_starts 28 = .ok (.aload_n 0, 1) := by decide +kernel
theorem dX12_starts_29 : decode cX12_starts 29 = .ok (.iconst 0, 1) := by decide +kernel
theorem dX12_starts_30 : decode cX12_starts 30 = .ok (.putfield 232, 3) := by decide +kernel
theorem dX12_starts_33 : decode cX12_starts 33 = .ok (.aload_n 0, 1) := by decide +kernel
theorem dX12_starts_34 : decode cX12_starts 34 = .ok (.iconst 0, 1) := by decide +kernel
theorem dX12_starts_35 : decode cX12_starts 35 = .ok (.putfield 109, 3) := by decide +kernel
theorem dX12_starts_38 : decode cX12_starts 38 = .ok (.aload_n 0, 1) := by decide +kernel
theorem dX12_starts_39 : decode cX12_starts 39 = .ok (.iconst 0, 1) := by decide +kernel
theorem dX12_starts_40 : decode cX12_starts 40 = .ok (.putfield 206, 3) := by decide +kernel
theorem dX12_starts_43 : decode cX12_starts 43 = .ok (.aload_n 0, 1) := by decide +kernel
theorem dX12_starts_44 : decode cX12_starts 44 = .ok (.invokevirtual 216, 3) := by decide +kernel
theorem dX12_starts_47 : decode cX12_starts 47 = .ok (.iconst 1, 1) := by decide +kernel
theorem dX12_starts_48 : decode cX12_starts 48 = .ok (.ireturn, 1) := by decide +kernel
theorem dX12_isWell_0 : decode cX12_isWell 0 = .ok (.aload_n 0, 1) := by decide +kernel
theorem dX12_isWell_1 : decode cX12_isWell 1 = .ok (.aload_n 0, 1) := by decide +kernel
theorem dX12_isWell_2 : decode cX12_isWell 2 = .ok (.getfield 206, 3) := by decide +kernel
theorem dX12_isWell_5 : decode cX12_isWell 5 = .ok (.putfield 28, 3) := by decide +kernel
theorem dX12_isWell_8 : decode cX12_isWell 8 = .ok (.aload_n 0, 1) := by decide +kernel
theorem dX12_isWell_9 : decode cX12_isWell 9 = .ok (.aload_n 0, 1) := by decide +kernel
theorem dX12_isWell_10 : decode cX12_isWell 10 = .ok (.getfield 206, 3) := by decide +kernel
theorem dX12_isWell_13 : decode cX12_isWell 13 = .ok (.ifCond .ne 7, 3) := by decide +kernel
theorem dX12_isWell_16 : decode cX12_isWell 16 = .ok (.iconst (-1), 1) := by decide +kernel
theorem dX12_isWell_17 : decode cX12_isWell 17 = .ok (.goto 7, 3) := by decide +kernel
theorem dX12_isWell_20 : decode cX12_isWell 20 = .ok (.aload_n 0, 1) := by decide +kernel
theorem dX12_isWell_21 : decode cX12_isWell 21 = .ok (.getfield 209, 3) := by decide +kernel
theorem dX12_isWell_24 : decode cX12_isWell 24 = .ok (.putfield 32, 3) := by decide +kernel
theorem dX12_isWell_27 : decode cX12_isWell 27 = .ok (.aload_n 0, 1) := by decide +kernel
theorem dX12_isWell_28 : decode cX12_isWell 28 = .ok (.getfield 206, 3) := by decide +kernel
theorem dX12_isWell_31 : decode cX12_isWell 31 = .ok (.ifCond .eq 12, 3) := by decide +kernel
theorem dX12_isWell_34 : decode cX12_isWell 34 = .ok (.aload_n 0, 1) := by decide +kernel
theorem dX12_isWell_35 : decode cX12_isWell 35 = .ok (.bipush 10, 2) := by decide +kernel
theorem dX12_isWell_37 : decode cX12_isWell 37 = .ok (.invokevirtual 78, 3) := by decide +kernel
theorem dX12_isWell_40 : decode cX12_isWell 40 = .ok (.ifCond .eq 7, 3) := by decide +kernel
theorem dX12_isWell_43 : decode cX12_isWell 43 = .ok (.iconst 1, 1) := by decide +kernel
theorem dX12_isWell_44 : decode cX12_isWell 44 = .ok (.goto 4, 3) := by decide +kernel
theorem dX12_isWell_47 : decode cX12_isWell 47 = .ok (.iconst 0, 1) := by decide +kernel
theorem dX12_isWell_48 : decode cX12_isWell 48 = .ok (.ireturn, 1) := by decide +kernel
theorem dX12_fault_0 : decode cX12_fault 0 = .ok (.aload_n 0, 1) := by decide +kernel
theorem dX12_fault_1 : decode cX12_fault 1 = .ok (.iconst 0, 1) := by decide +kernel
theorem dX12_fault_2 : decode cX12_fault 2 = .ok (.putfield 63, 3) := by decide +kernel
theorem dX12_fault_5 : decode cX12_fault 5 = .ok (.iload_n 1, 1) := by decide +kernel
theorem dX12_fault_6 : decode cX12_fault 6 = .ok (.ifCond .ne 10, 3) := by decide +kernel
theorem dX12_fault_9 : decode cX12_fault 9 = .ok (.aload_n 0, 1) := by decide +kernel
theorem dX12_fault_10 : decode cX12_fault 10 = .ok (.getfield 28, 3) := by decide +kernel
theorem dX12_fault_13 : decode cX12_fault 13 = .ok (.goto 16, 3) := by decide +kernel
theorem dX12_fault_16 : decode cX12_fault 16 = .ok (.iload_n 1, 1) := by decide +kernel
theorem dX12_fault_17 : decode cX12_fault 17 = .ok (.iconst 1, 1) := by decide +kernel
theorem dX12_fault_18 : decode cX12_fault 18 = .ok (.if_icmp .ne 10, 3) := by decide +kernel
theorem dX12_fault_21 : decode cX12_fault 21 = .ok (.aload_n 0, 1) := by decide +kernel
theorem dX12_fault_22 : decode cX12_fault 22 = .ok (.getfield 32, 3) := by decide +kernel
theorem dX12_fault_25 : decode cX12_fault 25 = .ok (.goto 4, 3) := by decide +kernel
theorem dX12_fault_28 : decode cX12_fault 28 = .ok (.iconst (-1), 1) := by decide +kernel
theorem dX12_fault_29 : decode cX12_fault 29 = .ok (.ireturn, 1) := by decide +kernel
theorem dX12_empties_0 : decode cX12_empties 0 = .ok (.iconst 0, 1) := by decide +kernel
theorem dX12_empties_1 : decode cX12_empties 1 = .ok (.istore_n 2, 1) := by decide +kernel
theorem dX12_empties_2 : decode cX12_empties 2 = .ok (.iload_n 2, 1) := by decide +kernel
theorem dX12_empties_3 : decode cX12_empties 3 = .ok (.sipush 364, 3) := by decide +kernel
theorem dX12_empties_6 : decode cX12_empties 6 = .ok (.if_icmp .ge 22, 3) := by decide +kernel
theorem dX12_empties_9 : decode cX12_empties 9 = .ok (.aload_n 0, 1) := by decide +kernel
theorem dX12_empties_10 : decode cX12_empties 10 = .ok (.getfield 35, 3) := by decide +kernel
theorem dX12_empties_13 : decode cX12_empties 13 = .ok (.sipush 364, 3) := by decide +kernel
theorem dX12_empties_16 : decode cX12_empties 16 = .ok (.iload_n 1, 1) := by decide +kernel
theorem dX12_empties_17 : decode cX12_empties 17 = .ok (.imul, 1) := by decide +kernel
theorem dX12_empties_18 : decode cX12_empties 18 = .ok (.iload_n 2, 1) := by decide +kernel
theorem dX12_empties_19 : decode cX12_empties 19 = .ok (.iadd, 1) := by decide +kernel
theorem dX12_empties_20 : decode cX12_empties 20 = .ok (.iconst 0, 1) := by decide +kernel
theorem dX12_empties_21 : decode cX12_empties 21 = .ok (.iastore, 1) := by decide +kernel
theorem dX12_empties_22 : decode cX12_empties 22 = .ok (.iinc 2 1, 3) := by decide +kernel
theorem dX12_empties_25 : decode cX12_empties 25 = .ok (.goto (-23), 3) := by decide +kernel
theorem dX12_empties_28 : decode cX12_empties 28 = .ok (.aload_n 0, 1) := by decide +kernel
theorem dX12_empties_29 : decode cX12_empties 29 = .ok (.getfield 35, 3) := by decide +kernel
theorem dX12_empties_32 : decode cX12_empties 32 = .ok (.sipush 364, 3) := by decide +kernel
theorem dX12_empties_35 : decode cX12_empties 35 = .ok (.iload_n 1, 1) := by decide +kernel
theorem dX12_empties_36 : decode cX12_empties 36 = .ok (.imul, 1) := by decide +kernel
theorem dX12_empties_37 : decode cX12_empties 37 = .ok (.iconst 4, 1) := by decide +kernel
theorem dX12_empties_38 : decode cX12_empties 38 = .ok (.iadd, 1) := by decide +kernel
theorem dX12_empties_39 : decode cX12_empties 39 = .ok (.iconst 4, 1) := by decide +kernel
theorem dX12_empties_40 : decode cX12_empties 40 = .ok (.iastore, 1) := by decide +kernel
theorem dX12_empties_41 : decode cX12_empties 41 = .ok (.return_, 1) := by decide +kernel
theorem dX12_namesFrom_0 : decode cX12_namesFrom 0 = .ok (.iload_n 0, 1) := by decide +kernel
theorem dX12_namesFrom_1 : decode cX12_namesFrom 1 = .ok (.ifCond .ne 7, 3) := by decide +kernel
theorem dX12_namesFrom_4 : decode cX12_namesFrom 4 = .ok (.iconst 0, 1) := by decide +kernel
theorem dX12_namesFrom_5 : decode cX12_namesFrom 5 = .ok (.goto 15, 3) := by decide +kernel
theorem dX12_namesFrom_8 : decode cX12_namesFrom 8 = .ok (.iload_n 0, 1) := by decide +kernel
theorem dX12_namesFrom_9 : decode cX12_namesFrom 9 = .ok (.iconst 1, 1) := by decide +kernel
theorem dX12_namesFrom_10 : decode cX12_namesFrom 10 = .ok (.if_icmp .ne 8, 3) := by decide +kernel
theorem dX12_namesFrom_13 : decode cX12_namesFrom 13 = .ok (.bipush 9, 2) := by decide +kernel
theorem dX12_namesFrom_15 : decode cX12_namesFrom 15 = .ok (.goto 5, 3) := by decide +kernel
theorem dX12_namesFrom_18 : decode cX12_namesFrom 18 = .ok (.bipush 17, 2) := by decide +kernel
theorem dX12_namesFrom_20 : decode cX12_namesFrom 20 = .ok (.ireturn, 1) := by decide +kernel
theorem dX12_named_0 : decode cX12_named 0 = .ok (.iconst 0, 1) := by decide +kernel
theorem dX12_named_1 : decode cX12_named 1 = .ok (.istore_n 3, 1) := by decide +kernel
theorem dX12_named_2 : decode cX12_named 2 = .ok (.iload_n 3, 1) := by decide +kernel
theorem dX12_named_3 : decode cX12_named 3 = .ok (.aload_n 0, 1) := by decide +kernel
theorem dX12_named_4 : decode cX12_named 4 = .ok (.getfield 35, 3) := by decide +kernel
theorem dX12_named_7 : decode cX12_named 7 = .ok (.sipush 364, 3) := by decide +kernel
theorem dX12_named_10 : decode cX12_named 10 = .ok (.iload_n 1, 1) := by decide +kernel
theorem dX12_named_11 : decode cX12_named 11 = .ok (.imul, 1) := by decide +kernel
theorem dX12_named_12 : decode cX12_named 12 = .ok (.iload_n 2, 1) := by decide +kernel
theorem dX12_named_13 : decode cX12_named 13 = .ok (.iadd, 1) := by decide +kernel
theorem dX12_named_14 : decode cX12_named 14 = .ok (.iaload, 1) := by decide +kernel
theorem dX12_named_15 : decode cX12_named 15 = .ok (.if_icmp .ge 35, 3) := by decide +kernel
theorem dX12_named_18 : decode cX12_named 18 = .ok (.aload_n 0, 1) := by decide +kernel
theorem dX12_named_19 : decode cX12_named 19 = .ok (.getfield 41, 3) := by decide +kernel
theorem dX12_named_22 : decode cX12_named 22 = .ok (.bipush 23, 2) := by decide +kernel
theorem dX12_named_24 : decode cX12_named 24 = .ok (.iload_n 1, 1) := by decide +kernel
theorem dX12_named_25 : decode cX12_named 25 = .ok (.imul, 1) := by decide +kernel
theorem dX12_named_26 : decode cX12_named 26 = .ok (.iload_n 2, 1) := by decide +kernel
theorem dX12_named_27 : decode cX12_named 27 = .ok (.invokestatic 238, 3) := by decide +kernel
theorem dX12_named_30 : decode cX12_named 30 = .ok (.iadd, 1) := by decide +kernel
theorem dX12_named_31 : decode cX12_named 31 = .ok (.iload_n 3, 1) := by decide +kernel
theorem dX12_named_32 : decode cX12_named 32 = .ok (.iadd, 1) := by decide +kernel
theorem dX12_named_33 : decode cX12_named 33 = .ok (.laload, 1) := by decide +kernel
theorem dX12_named_34 : decode cX12_named 34 = .ok (.aload_n 0, 1) := by decide +kernel
theorem dX12_named_35 : decode cX12_named 35 = .ok (.getfield 124, 3) := by decide +kernel
theorem dX12_named_38 : decode cX12_named 38 = .ok (.lcmp, 1) := by decide +kernel
theorem dX12_named_39 : decode cX12_named 39 = .ok (.ifCond .ne 5, 3) := by decide +kernel
theorem dX12_named_42 : decode cX12_named 42 = .ok (.iload_n 3, 1) := by decide +kernel
theorem dX12_named_43 : decode cX12_named 43 = .ok (.ireturn, 1) := by decide +kernel
theorem dX12_named_44 : decode cX12_named 44 = .ok (.iinc 3 1, 3) := by decide +kernel
theorem dX12_named_47 : decode cX12_named 47 = .ok (.goto (-45), 3) := by decide +kernel
theorem dX12_named_50 : decode cX12_named 50 = .ok (.iconst (-1), 1) := by decide +kernel
theorem dX12_named_51 : decode cX12_named 51 = .ok (.ireturn, 1) := by decide +kernel
theorem dX12_readNew_0 : decode cX12_readNew 0 = .ok (.aload_n 0, 1) := by decide +kernel
theorem dX12_readNew_1 : decode cX12_readNew 1 = .ok (.getfield 35, 3) := by decide +kernel
theorem dX12_readNew_4 : decode cX12_readNew 4 = .ok (.sipush 1456, 3) := by decide +kernel
theorem dX12_readNew_7 : decode cX12_readNew 7 = .ok (.iload_n 1, 1) := by decide +kernel
theorem dX12_readNew_8 : decode cX12_readNew 8 = .ok (.iadd, 1) := by decide +kernel
theorem dX12_readNew_9 : decode cX12_readNew 9 = .ok (.iaload, 1) := by decide +kernel
theorem dX12_readNew_10 : decode cX12_readNew 10 = .ok (.istore_n 3, 1) := by decide +kernel
theorem dX12_readNew_11 : decode cX12_readNew 11 = .ok (.iload_n 3, 1) := by decide +kernel
theorem dX12_readNew_12 : decode cX12_readNew 12 = .ok (.iload_n 2, 1) := by decide +kernel
theorem dX12_readNew_13 : decode cX12_readNew 13 = .ok (.if_icmp .ne 13, 3) := by decide +kernel
theorem dX12_readNew_16 : decode cX12_readNew 16 = .ok (.aload_n 0, 1) := by decide +kernel
theorem dX12_readNew_17 : decode cX12_readNew 17 = .ok (.bipush 6, 2) := by decide +kernel
theorem dX12_readNew_19 : decode cX12_readNew 19 = .ok (.aload_n 0, 1) := by decide +kernel
theorem dX12_readNew_20 : decode cX12_readNew 20 = .ok (.getfield 112, 3) := by decide +kernel
theorem dX12_readNew_23 : decode cX12_readNew 23 = .ok (.invokevirtual 212, 3) := by decide +kernel
theorem dX12_readNew_26 : decode cX12_readNew 26 = .ok (.aload_n 0, 1) := by decide +kernel
theorem dX12_readNew_27 : decode cX12_readNew 27 = .ok (.iconst 1, 1) := by decide +kernel
theorem dX12_readNew_28 : decode cX12_readNew 28 = .ok (.invokevirtual 225, 3) := by decide +kernel
theorem dX12_readNew_31 : decode cX12_readNew 31 = .ok (.aload_n 0, 1) := by decide +kernel
theorem dX12_readNew_32 : decode cX12_readNew 32 = .ok (.getfield 206, 3) := by decide +kernel
theorem dX12_readNew_35 : decode cX12_readNew 35 = .ok (.ifCond .ne 14, 3) := by decide +kernel
theorem dX12_readNew_38 : decode cX12_readNew 38 = .ok (.aload_n 0, 1) := by decide +kernel
theorem dX12_readNew_39 : decode cX12_readNew 39 = .ok (.invokevirtual 241, 3) := by decide +kernel
theorem dX12_readNew_42 : decode cX12_readNew 42 = .ok (.ifCond .ne 7, 3) := by decide +kernel
theorem dX12_readNew_45 : decode cX12_readNew 45 = .ok (.aload_n 0, 1) := by decide +kernel
theorem dX12_readNew_46 : decode cX12_readNew 46 = .ok (.invokevirtual 219, 3) := by decide +kernel
theorem dX12_readNew_49 : decode cX12_readNew 49 = .ok (.aload_n 0, 1) := by decide +kernel
theorem dX12_readNew_50 : decode cX12_readNew 50 = .ok (.getfield 206, 3) := by decide +kernel
theorem dX12_readNew_53 : decode cX12_readNew 53 = .ok (.ifCond .ne 39, 3) := by decide +kernel
theorem dX12_readNew_56 : decode cX12_readNew 56 = .ok (.aload_n 0, 1) := by decide +kernel
theorem dX12_readNew_57 : decode cX12_readNew 57 = .ok (.iconst 4, 1) := by decide +kernel
theorem dX12_readNew_58 : decode cX12_readNew 58 = .ok (.iconst 0, 1) := by decide +kernel
theorem dX12_readNew_59 : decode cX12_readNew 59 = .ok (.invokevirtual 244, 3) := by decide +kernel
theorem dX12_readNew_62 : decode cX12_readNew 62 = .ok (.ifCond .ge 21, 3) := by decide +kernel
theorem dX12_readNew_65 : decode cX12_readNew 65 = .ok (.aload_n 0, 1) := by decide +kernel
theorem dX12_readNew_66 : decode cX12_readNew 66 = .ok (.iconst 4, 1) := by decide +kernel
theorem dX12_readNew_67 : decode cX12_readNew 67 = .ok (.iconst 1, 1) := by decide +kernel
theorem dX12_readNew_68 : decode cX12_readNew 68 = .ok (.invokevirtual 244, 3) := by decide +kernel
theorem dX12_readNew_71 : decode cX12_readNew 71 = .ok (.ifCond .ge 12, 3) := by decide +kernel
theorem dX12_readNew_74 : decode cX12_readNew 74 = .ok (.aload_n 0, 1) := by decide +kernel
theorem dX12_readNew_75 : decode cX12_readNew 75 = .ok (.iconst 4, 1) := by decide +kernel
theorem dX12_readNew_76 : decode cX12_readNew 76 = .ok (.iconst 2, 1) := by decide +kernel
theorem dX12_readNew_77 : decode cX12_readNew 77 = .ok (.invokevirtual 244, 3) := by decide +kernel
theorem dX12_readNew_80 : decode cX12_readNew 80 = .ok (.ifCond .lt 12, 3) := by decide +kernel
theorem dX12_readNew_83 : decode cX12_readNew 83 = .ok (.aload_n 0, 1) := by decide +kernel
theorem dX12_readNew_84 : decode cX12_readNew 84 = .ok (.iconst 3, 1) := by decide +kernel
theorem dX12_readNew_85 : decode cX12_readNew 85 = .ok (.aload_n 0, 1) := by decide +kernel
theorem dX12_readNew_86 : decode cX12_readNew 86 = .ok (.getfield 112, 3) := by decide +kernel
theorem dX12_readNew_89 : decode cX12_readNew 89 = .ok (.invokevirtual 212, 3) := by decide +kernel
theorem dX12_readNew_92 : decode cX12_readNew 92 = .ok (.aload_n 0, 1) := by decide +kernel
theorem dX12_readNew_93 : decode cX12_readNew 93 = .ok (.getfield 206, 3) := by decide +kernel
theorem dX12_readNew_96 : decode cX12_readNew 96 = .ok (.ifCond .ne 21, 3) := by decide +kernel
theorem dX12_readNew_99 : decode cX12_readNew 99 = .ok (.aload_n 0, 1) := by decide +kernel
theorem dX12_readNew_100 : decode cX12_readNew 100 = .ok (.getfield 41, 3) := by decide +kernel
theorem dX12_readNew_103 : decode cX12_readNew 103 = .ok (.bipush 92, 2) := by decide +kernel
theorem dX12_readNew_105 : decode cX12_readNew 105 = .ok (.iload_n 1, 1) := by decide +kernel
theorem dX12_readNew_106 : decode cX12_readNew 106 = .ok (.invokestatic 238, 3) := by decide +kernel
theorem dX12_readNew_109 : decode cX12_readNew 109 = .ok (.iadd, 1) := by decide +kernel
theorem dX12_readNew_110 : decode cX12_readNew 110 = .ok (.iload_n 3, 1) := by decide +kernel
theorem dX12_readNew_111 : decode cX12_readNew 111 = .ok (.iadd, 1) := by decide +kernel
theorem dX12_readNew_112 : decode cX12_readNew 112 = .ok (.aload_n 0, 1) := by decide +kernel
theorem dX12_readNew_113 : decode cX12_readNew 113 = .ok (.getfield 124, 3) := by decide +kernel
theorem dX12_readNew_116 : decode cX12_readNew 116 = .ok (.lastore, 1) := by decide +kernel
theorem dX12_readNew_117 : decode cX12_readNew 117 = .ok (.aload_n 0, 1) := by decide +kernel
theorem dX12_readNew_118 : decode cX12_readNew 118 = .ok (.iconst 1, 1) := by decide +kernel
theorem dX12_readNew_119 : decode cX12_readNew 119 = .ok (.invokevirtual 225, 3) := by decide +kernel
theorem dX12_readNew_122 : decode cX12_readNew 122 = .ok (.iload_n 3, 1) := by decide +kernel
theorem dX12_readNew_123 : decode cX12_readNew 123 = .ok (.ireturn, 1) := by decide +kernel
theorem dX12_told_0 : decode cX12_told 0 = .ok (.aload_n 0, 1) := by decide +kernel
theorem dX12_told_1 : decode cX12_told 1 = .ok (.getfield 206, 3) := by decide +kernel
theorem dX12_told_4 : decode cX12_told 4 = .ok (.ifCond .ne 14, 3) := by decide +kernel
theorem dX12_told_7 : decode cX12_told 7 = .ok (.aload_n 0, 1) := by decide +kernel
theorem dX12_told_8 : decode cX12_told 8 = .ok (.invokevirtual 241, 3) := by decide +kernel
theorem dX12_told_11 : decode cX12_told 11 = .ok (.ifCond .ne 7, 3) := by decide +kernel
theorem dX12_told_14 : decode cX12_told 14 = .ok (.aload_n 0, 1) := by decide +kernel
theorem dX12_told_15 : decode cX12_told 15 = .ok (.invokevirtual 219, 3) := by decide +kernel
theorem dX12_told_18 : decode cX12_told 18 = .ok (.aload_n 0, 1) := by decide +kernel
theorem dX12_told_19 : decode cX12_told 19 = .ok (.getfield 206, 3) := by decide +kernel
theorem dX12_told_22 : decode cX12_told 22 = .ok (.ifCond .le 5, 3) := by decide +kernel
theorem dX12_told_25 : decode cX12_told 25 = .ok (.iconst 0, 1) := by decide +kernel
theorem dX12_told_26 : decode cX12_told 26 = .ok (.ireturn, 1) := by decide +kernel
theorem dX12_told_27 : decode cX12_told 27 = .ok (.aload_n 0, 1) := by decide +kernel
theorem dX12_told_28 : decode cX12_told 28 = .ok (.iload_n 1, 1) := by decide +kernel
theorem dX12_told_29 : decode cX12_told 29 = .ok (.iload_n 2, 1) := by decide +kernel
theorem dX12_told_30 : decode cX12_told 30 = .ok (.invokevirtual 244, 3) := by decide +kernel
theorem dX12_told_33 : decode cX12_told 33 = .ok (.istore_n 3, 1) := by decide +kernel
theorem dX12_told_34 : decode cX12_told 34 = .ok (.iload_n 3, 1) := by decide +kernel
theorem dX12_told_35 : decode cX12_told 35 = .ok (.ifCond .ge 12, 3) := by decide +kernel
theorem dX12_told_38 : decode cX12_told 38 = .ok (.aload_n 0, 1) := by decide +kernel
theorem dX12_told_39 : decode cX12_told 39 = .ok (.iconst 3, 1) := by decide +kernel
theorem dX12_told_40 : decode cX12_told 40 = .ok (.aload_n 0, 1) := by decide +kernel
theorem dX12_told_41 : decode cX12_told 41 = .ok (.getfield 112, 3) := by decide +kernel
theorem dX12_told_44 : decode cX12_told 44 = .ok (.invokevirtual 212, 3) := by decide +kernel
theorem dX12_told_47 : decode cX12_told 47 = .ok (.iconst 0, 1) := by decide +kernel
theorem dX12_told_48 : decode cX12_told 48 = .ok (.iload_n 3, 1) := by decide +kernel
theorem dX12_told_49 : decode cX12_told 49 = .ok (.invokestatic 247, 3) := by decide +kernel
theorem dX12_told_52 : decode cX12_told 52 = .ok (.ireturn, 1) := by decide +kernel
theorem dX12_readTold_0 : decode cX12_readTold 0 = .ok (.aload_n 0, 1) := by decide +kernel
theorem dX12_readTold_1 : decode cX12_readTold 1 = .ok (.iload_n 1, 1) := by decide +kernel
theorem dX12_readTold_2 : decode cX12_readTold 2 = .ok (.iload_n 2, 1) := by decide +kernel
theorem dX12_readTold_3 : decode cX12_readTold 3 = .ok (.invokevirtual 250, 3) := by decide +kernel
theorem dX12_readTold_6 : decode cX12_readTold 6 = .ok (.istore_n 3, 1) := by decide +kernel
theorem dX12_readTold_7 : decode cX12_readTold 7 = .ok (.aload_n 0, 1) := by decide +kernel
theorem dX12_readTold_8 : decode cX12_readTold 8 = .ok (.iconst 1, 1) := by decide +kernel
theorem dX12_readTold_9 : decode cX12_readTold 9 = .ok (.invokevirtual 225, 3) := by decide +kernel
theorem dX12_readTold_12 : decode cX12_readTold 12 = .ok (.iload_n 3, 1) := by decide +kernel
theorem dX12_readTold_13 : decode cX12_readTold 13 = .ok (.ireturn, 1) := by decide +kernel
theorem dX12_readOdds_0 : decode cX12_readOdds 0 = .ok (.aload_n 0, 1) := by decide +kernel
theorem dX12_readOdds_1 : decode cX12_readOdds 1 = .ok (.getfield 253, 3) := by decide +kernel
theorem dX12_readOdds_4 : decode cX12_readOdds 4 = .ok (.ifCond .eq 12, 3) := by decide +kernel
theorem dX12_readOdds_7 : decode cX12_readOdds 7 = .ok (.aload_n 0, 1) := by decide +kernel
theorem dX12_readOdds_8 : decode cX12_readOdds 8 = .ok (.iconst 5, 1) := by decide +kernel
theorem dX12_readOdds_9 : decode cX12_readOdds 9 = .ok (.aload_n 0, 1) := by decide +kernel
theorem dX12_readOdds_10 : decode cX12_readOdds 10 = .ok (.getfield 112, 3) := by decide +kernel
theorem dX12_readOdds_13 : decode cX12_readOdds 13 = .ok (.invokevirtual 212, 3) := by decide +kernel
theorem dX12_readOdds_16 : decode cX12_readOdds 16 = .ok (.aload_n 0, 1) := by decide +kernel
theorem dX12_readOdds_17 : decode cX12_readOdds 17 = .ok (.iconst 1, 1) := by decide +kernel
theorem dX12_readOdds_18 : decode cX12_readOdds 18 = .ok (.putfield 253, 3) := by decide +kernel
theorem dX12_readOdds_21 : decode cX12_readOdds 21 = .ok (.aload_n 0, 1) := by decide +kernel
theorem dX12_readOdds_22 : decode cX12_readOdds 22 = .ok (.iconst 1, 1) := by decide +kernel
theorem dX12_readOdds_23 : decode cX12_readOdds 23 = .ok (.invokevirtual 225, 3) := by decide +kernel
theorem dX12_readOdds_26 : decode cX12_readOdds 26 = .ok (.aload_n 0, 1) := by decide +kernel
theorem dX12_readOdds_27 : decode cX12_readOdds 27 = .ok (.iconst 0, 1) := by decide +kernel
theorem dX12_readOdds_28 : decode cX12_readOdds 28 = .ok (.bipush 16, 2) := by decide +kernel
theorem dX12_readOdds_30 : decode cX12_readOdds 30 = .ok (.invokevirtual 229, 3) := by decide +kernel
theorem dX12_readOdds_33 : decode cX12_readOdds 33 = .ok (.istore_n 1, 1) := by decide +kernel
theorem dX12_readOdds_34 : decode cX12_readOdds 34 = .ok (.aload_n 0, 1) := by decide +kernel
theorem dX12_readOdds_35 : decode cX12_readOdds 35 = .ok (.getfield 206, 3) := by decide +kernel
theorem dX12_readOdds_38 : decode cX12_readOdds 38 = .ok (.ifCond .ne 12, 3) := by decide +kernel
theorem dX12_readOdds_41 : decode cX12_readOdds 41 = .ok (.aload_n 0, 1) := by decide +kernel
theorem dX12_readOdds_42 : decode cX12_readOdds 42 = .ok (.getfield 35, 3) := by decide +kernel
theorem dX12_readOdds_45 : decode cX12_readOdds 45 = .ok (.sipush 1460, 3) := by decide +kernel
theorem dX12_readOdds_48 : decode cX12_readOdds 48 = .ok (.iload_n 1, 1) := by decide +kernel
theorem dX12_readOdds_49 : decode cX12_readOdds 49 = .ok (.iastore, 1) := by decide +kernel
theorem dX12_readOdds_50 : decode cX12_readOdds 50 = .ok (.return_, 1) := by decide +kernel
theorem dX12_readTopic_0 : decode cX12_readTopic 0 = .ok (.aload_n 0, 1) := by decide +kernel
theorem dX12_readTopic_1 : decode cX12_readTopic 1 = .ok (.iconst 0, 1) := by decide +kernel
theorem dX12_readTopic_2 : decode cX12_readTopic 2 = .ok (.bipush 9, 2) := by decide +kernel
theorem dX12_readTopic_4 : decode cX12_readTopic 4 = .ok (.invokevirtual 257, 3) := by decide +kernel
theorem dX12_readTopic_7 : decode cX12_readTopic 7 = .ok (.istore_n 1, 1) := by decide +kernel
theorem dX12_readTopic_8 : decode cX12_readTopic 8 = .ok (.aload_n 0, 1) := by decide +kernel
theorem dX12_readTopic_9 : decode cX12_readTopic 9 = .ok (.aload_n 0, 1) := by decide +kernel
theorem dX12_readTopic_10 : decode cX12_readTopic 10 = .ok (.invokevirtual 160, 3) := by decide +kernel
theorem dX12_readTopic_13 : decode cX12_readTopic 13 = .ok (.iconst 0, 1) := by decide +kernel
theorem dX12_readTopic_14 : decode cX12_readTopic 14 = .ok (.bipush 20, 2) := by decide +kernel
theorem dX12_readTopic_16 : decode cX12_readTopic 16 = .ok (.invokevirtual 260, 3) := by decide +kernel
theorem dX12_readTopic_19 : decode cX12_readTopic 19 = .ok (.istore_n 2, 1) := by decide +kernel
theorem dX12_readTopic_20 : decode cX12_readTopic 20 = .ok (.aload_n 0, 1) := by decide +kernel
theorem dX12_readTopic_21 : decode cX12_readTopic 21 = .ok (.aload_n 0, 1) := by decide +kernel
theorem dX12_readTopic_22 : decode cX12_readTopic 22 = .ok (.invokevirtual 163, 3) := by decide +kernel
theorem dX12_readTopic_25 : decode cX12_readTopic 25 = .ok (.iconst 0, 1) := by decide +kernel
theorem dX12_readTopic_26 : decode cX12_readTopic 26 = .ok (.iconst 3, 1) := by decide +kernel
theorem dX12_readTopic_27 : decode cX12_readTopic 27 = .ok (.invokevirtual 260, 3) := by decide +kernel
theorem dX12_readTopic_30 : decode cX12_readTopic 30 = .ok (.istore_n 3, 1) := by decide +kernel
theorem dX12_readTopic_31 : decode cX12_readTopic 31 = .ok (.aload_n 0, 1) := by decide +kernel
theorem dX12_readTopic_32 : decode cX12_readTopic 32 = .ok (.getfield 206, 3) := by decide +kernel
theorem dX12_readTopic_35 : decode cX12_readTopic 35 = .ok (.ifCond .le 4, 3) := by decide +kernel
theorem dX12_readTopic_38 : decode cX12_readTopic 38 = .ok (.return_, 1) := by decide +kernel
theorem dX12_readTopic_39 : decode cX12_readTopic 39 = .ok (.aload_n 0, 1) := by decide +kernel
theorem dX12_readTopic_40 : decode cX12_readTopic 40 = .ok (.getfield 35, 3) := by decide +kernel
theorem dX12_readTopic_43 : decode cX12_readTopic 43 = .ok (.sipush 1462, 3) := by decide +kernel
theorem dX12_readTopic_46 : decode cX12_readTopic 46 = .ok (.iload_n 1, 1) := by decide +kernel
theorem dX12_readTopic_47 : decode cX12_readTopic 47 = .ok (.iadd, 1) := by decide +kernel
theorem dX12_readTopic_48 : decode cX12_readTopic 48 = .ok (.iload_n 2, 1) := by decide +kernel
theorem dX12_readTopic_49 : decode cX12_readTopic 49 = .ok (.iastore, 1) := by decide +kernel
theorem dX12_readTopic_50 : decode cX12_readTopic 50 = .ok (.aload_n 0, 1) := by decide +kernel
theorem dX12_readTopic_51 : decode cX12_readTopic 51 = .ok (.getfield 35, 3) := by decide +kernel
theorem dX12_readTopic_54 : decode cX12_readTopic 54 = .ok (.sipush 1471, 3) := by decide +kernel
theorem dX12_readTopic_57 : decode cX12_readTopic 57 = .ok (.iload_n 1, 1) := by decide +kernel
theorem dX12_readTopic_58 : decode cX12_readTopic 58 = .ok (.iadd, 1) := by decide +kernel
theorem dX12_readTopic_59 : decode cX12_readTopic 59 = .ok (.iload_n 3, 1) := by decide +kernel
theorem dX12_readTopic_60 : decode cX12_readTopic 60 = .ok (.iastore, 1) := by decide +kernel
theorem dX12_readTopic_61 : decode cX12_readTopic 61 = .ok (.aload_n 0, 1) := by decide +kernel
theorem dX12_readTopic_62 : decode cX12_readTopic 62 = .ok (.getfield 35, 3) := by decide +kernel
theorem dX12_readTopic_65 : decode cX12_readTopic 65 = .ok (.sipush 1456, 3) := by decide +kernel
theorem dX12_readTopic_68 : decode cX12_readTopic 68 = .ok (.dup2, 1) := by decide +kernel
theorem dX12_readTopic_69 : decode cX12_readTopic 69 = .ok (.iaload, 1) := by decide +kernel
theorem dX12_readTopic_70 : decode cX12_readTopic 70 = .ok (.iconst 1, 1) := by decide +kernel
theorem dX12_readTopic_71 : decode cX12_readTopic 71 = .ok (.iadd, 1) := by decide +kernel
theorem dX12_readTopic_72 : decode cX12_readTopic 72 = .ok (.iastore, 1) := by decide +kernel
theorem dX12_readTopic_73 : decode cX12_readTopic 73 = .ok (.return_, 1) := by decide +kernel
theorem dX12_thinks_0 : decode cX12_thinks 0 = .ok (.sipush 364, 3) := by decide +kernel
theorem dX12_thinks_3 : decode cX12_thinks 3 = .ok (.iload_n 1, 1) := by decide +kernel
theorem dX12_thinks_4 : decode cX12_thinks 4 = .ok (.imul, 1) := by decide +kernel
theorem dX12_thinks_5 : decode cX12_thinks 5 = .ok (.istore 5, 2) := by decide +kernel
theorem dX12_thinks_7 : decode cX12_thinks 7 = .ok (.aload_n 0, 1) := by decide +kernel
theorem dX12_thinks_8 : decode cX12_thinks 8 = .ok (.getfield 35, 3) := by decide +kernel
theorem dX12_thinks_11 : decode cX12_thinks 11 = .ok (.iload 5, 2) := by decide +kernel
theorem dX12_thinks_13 : decode cX12_thinks 13 = .ok (.iconst 1, 1) := by decide +kernel
theorem dX12_thinks_14 : decode cX12_thinks 14 = .ok (.iadd, 1) := by decide +kernel
theorem dX12_thinks_15 : decode cX12_thinks 15 = .ok (.iaload, 1) := by decide +kernel
theorem dX12_thinks_16 : decode cX12_thinks 16 = .ok (.istore 6, 2) := by decide +kernel
theorem dX12_thinks_18 : decode cX12_thinks 18 = .ok (.aload_n 0, 1) := by decide +kernel
theorem dX12_thinks_19 : decode cX12_thinks 19 = .ok (.getfield 35, 3) := by decide +kernel
theorem dX12_thinks_22 : decode cX12_thinks 22 = .ok (.iload 5, 2) := by decide +kernel
theorem dX12_thinks_24 : decode cX12_thinks 24 = .ok (.bipush 24, 2) := by decide +kernel
theorem dX12_thinks_26 : decode cX12_thinks 26 = .ok (.iadd, 1) := by decide +kernel
theorem dX12_thinks_27 : decode cX12_thinks 27 = .ok (.iload 6, 2) := by decide +kernel
theorem dX12_thinks_29 : decode cX12_thinks 29 = .ok (.iadd, 1) := by decide +kernel
theorem dX12_thinks_30 : decode cX12_thinks 30 = .ok (.iload_n 2, 1) := by decide +kernel
theorem dX12_thinks_31 : decode cX12_thinks 31 = .ok (.iastore, 1) := by decide +kernel
theorem dX12_thinks_32 : decode cX12_thinks 32 = .ok (.aload_n 0, 1) := by decide +kernel
theorem dX12_thinks_33 : decode cX12_thinks 33 = .ok (.getfield 35, 3) := by decide +kernel
theorem dX12_thinks_36 : decode cX12_thinks 36 = .ok (.iload 5, 2) := by decide +kernel
theorem dX12_thinks_38 : decode cX12_thinks 38 = .ok (.bipush 32, 2) := by decide +kernel
theorem dX12_thinks_40 : decode cX12_thinks 40 = .ok (.iadd, 1) := by decide +kernel
theorem dX12_thinks_41 : decode cX12_thinks 41 = .ok (.iload 6, 2) := by decide +kernel
theorem dX12_thinks_43 : decode cX12_thinks 43 = .ok (.iadd, 1) := by decide +kernel
theorem dX12_thinks_44 : decode cX12_thinks 44 = .ok (.iload_n 3, 1) := by decide +kernel
theorem dX12_thinks_45 : decode cX12_thinks 45 = .ok (.iastore, 1) := by decide +kernel
theorem dX12_thinks_46 : decode cX12_thinks 46 = .ok (.aload_n 0, 1) := by decide +kernel
theorem dX12_thinks_47 : decode cX12_thinks 47 = .ok (.getfield 35, 3) := by decide +kernel
theorem dX12_thinks_50 : decode cX12_thinks 50 = .ok (.iload 5, 2) := by decide +kernel
theorem dX12_thinks_52 : decode cX12_thinks 52 = .ok (.bipush 40, 2) := by decide +kernel
theorem dX12_thinks_54 : decode cX12_thinks 54 = .ok (.iadd, 1) := by decide +kernel
theorem dX12_thinks_55 : decode cX12_thinks 55 = .ok (.iload 6, 2) := by decide +kernel
theorem dX12_thinks_57 : decode cX12_thinks 57 = .ok (.iadd, 1) := by decide +kernel
theorem dX12_thinks_58 : decode cX12_thinks 58 = .ok (.iload 4, 2) := by decide +kernel
theorem dX12_thinks_60 : decode cX12_thinks 60 = .ok (.iastore, 1) := by decide +kernel
theorem dX12_thinks_61 : decode cX12_thinks 61 = .ok (.aload_n 0, 1) := by decide +kernel
theorem dX12_thinks_62 : decode cX12_thinks 62 = .ok (.getfield 35, 3) := by decide +kernel
theorem dX12_thinks_65 : decode cX12_thinks 65 = .ok (.iload 5, 2) := by decide +kernel
theorem dX12_thinks_67 : decode cX12_thinks 67 = .ok (.iconst 1, 1) := by decide +kernel
theorem dX12_thinks_68 : decode cX12_thinks 68 = .ok (.iadd, 1) := by decide +kernel
theorem dX12_thinks_69 : decode cX12_thinks 69 = .ok (.dup2, 1) := by decide +kernel
theorem dX12_thinks_70 : decode cX12_thinks 70 = .ok (.iaload, 1) := by decide +kernel
theorem dX12_thinks_71 : decode cX12_thinks 71 = .ok (.iconst 1, 1) := by decide +kernel
theorem dX12_thinks_72 : decode cX12_thinks 72 = .ok (.iadd, 1) := by decide +kernel
theorem dX12_thinks_73 : decode cX12_thinks 73 = .ok (.iastore, 1) := by decide +kernel
theorem dX12_thinks_74 : decode cX12_thinks 74 = .ok (.return_, 1) := by decide +kernel
theorem dX12_readClaim_0 : decode cX12_readClaim 0 = .ok (.aload_n 0, 1) := by decide +kernel
theorem dX12_readClaim_1 : decode cX12_readClaim 1 = .ok (.iconst 1, 1) := by decide +kernel
theorem dX12_readClaim_2 : decode cX12_readClaim 2 = .ok (.bipush 8, 2) := by decide +kernel
theorem dX12_readClaim_4 : decode cX12_readClaim 4 = .ok (.invokevirtual 257, 3) := by decide +kernel
theorem dX12_readClaim_7 : decode cX12_readClaim 7 = .ok (.pop, 1) := by decide +kernel
theorem dX12_readClaim_8 : decode cX12_readClaim 8 = .ok (.aload_n 0, 1) := by decide +kernel
theorem dX12_readClaim_9 : decode cX12_readClaim 9 = .ok (.aload_n 0, 1) := by decide +kernel
theorem dX12_readClaim_10 : decode cX12_readClaim 10 = .ok (.invokevirtual 169, 3) := by decide +kernel
theorem dX12_readClaim_13 : decode cX12_readClaim 13 = .ok (.invokevirtual 225, 3) := by decide +kernel
theorem dX12_readClaim_16 : decode cX12_readClaim 16 = .ok (.aload_n 0, 1) := by decide +kernel
theorem dX12_readClaim_17 : decode cX12_readClaim 17 = .ok (.iconst 4, 1) := by decide +kernel
theorem dX12_readClaim_18 : decode cX12_readClaim 18 = .ok (.iconst 0, 1) := by decide +kernel
theorem dX12_readClaim_19 : decode cX12_readClaim 19 = .ok (.invokevirtual 264, 3) := by decide +kernel
theorem dX12_readClaim_22 : decode cX12_readClaim 22 = .ok (.istore_n 1, 1) := by decide +kernel
theorem dX12_readClaim_23 : decode cX12_readClaim 23 = .ok (.aload_n 0, 1) := by decide +kernel
theorem dX12_readClaim_24 : decode cX12_readClaim 24 = .ok (.aload_n 0, 1) := by decide +kernel
theorem dX12_readClaim_25 : decode cX12_readClaim 25 = .ok (.invokevirtual 172, 3) := by decide +kernel
theorem dX12_readClaim_28 : decode cX12_readClaim 28 = .ok (.invokevirtual 267, 3) := by decide +kernel
theorem dX12_readClaim_31 : decode cX12_readClaim 31 = .ok (.ifCond .eq 7, 3) := by decide +kernel
theorem dX12_readClaim_34 : decode cX12_readClaim 34 = .ok (.iconst 1, 1) := by decide +kernel
theorem dX12_readClaim_35 : decode cX12_readClaim 35 = .ok (.goto 4, 3) := by decide +kernel
theorem dX12_readClaim_38 : decode cX12_readClaim 38 = .ok (.iconst 0, 1) := by decide +kernel
theorem dX12_readClaim_39 : decode cX12_readClaim 39 = .ok (.istore_n 2, 1) := by decide +kernel
theorem dX12_readClaim_40 : decode cX12_readClaim 40 = .ok (.iconst 0, 1) := by decide +kernel
theorem dX12_readClaim_41 : decode cX12_readClaim 41 = .ok (.istore_n 3, 1) := by decide +kernel
theorem dX12_readClaim_42 : decode cX12_readClaim 42 = .ok (.aload_n 0, 1) := by decide +kernel
theorem dX12_readClaim_43 : decode cX12_readClaim 43 = .ok (.aload_n 0, 1) := by decide +kernel
theorem dX12_readClaim_44 : decode cX12_readClaim 44 = .ok (.invokevirtual 175, 3) := by decide +kernel
theorem dX12_readClaim_47 : decode cX12_readClaim 47 = .ok (.invokevirtual 267, 3) := by decide +kernel
theorem dX12_readClaim_50 : decode cX12_readClaim 50 = .ok (.ifCond .eq 66, 3) := by decide +kernel
theorem dX12_readClaim_53 : decode cX12_readClaim 53 = .ok (.aload_n 0, 1) := by decide +kernel
theorem dX12_readClaim_54 : decode cX12_readClaim 54 = .ok (.getfield 206, 3) := by decide +kernel
theorem dX12_readClaim_57 : decode cX12_readClaim 57 = .ok (.ifCond .ne 59, 3) := by decide +kernel
theorem dX12_readClaim_60 : decode cX12_readClaim 60 = .ok (.aload_n 0, 1) := by decide +kernel
theorem dX12_readClaim_61 : decode cX12_readClaim 61 = .ok (.getfield 118, 3) := by decide +kernel
theorem dX12_readClaim_64 : decode cX12_readClaim 64 = .ok (.iconst 1, 1) := by decide +kernel
theorem dX12_readClaim_65 : decode cX12_readClaim 65 = .ok (.if_icmp .ne 51, 3) := by decide +kernel
theorem dX12_readClaim_68 : decode cX12_readClaim 68 = .ok (.aload_n 0, 1) := by decide +kernel
theorem dX12_readClaim_69 : decode cX12_readClaim 69 = .ok (.iconst 4, 1) := by decide +kernel
theorem dX12_readClaim_70 : decode cX12_readClaim 70 = .ok (.iconst 1, 1) := by decide +kernel
theorem dX12_readClaim_71 : decode cX12_readClaim 71 = .ok (.invokevirtual 250, 3) := by decide +kernel
theorem dX12_readClaim_74 : decode cX12_readClaim 74 = .ok (.istore 4, 2) := by decide +kernel
theorem dX12_readClaim_76 : decode cX12_readClaim 76 = .ok (.aload_n 0, 1) := by decide +kernel
theorem dX12_readClaim_77 : decode cX12_readClaim 77 = .ok (.getfield 206, 3) := by decide +kernel
theorem dX12_readClaim_80 : decode cX12_readClaim 80 = .ok (.ifCond .ne 21, 3) := by decide +kernel
theorem dX12_readClaim_83 : decode cX12_readClaim 83 = .ok (.iload_n 3, 1) := by decide +kernel
theorem dX12_readClaim_84 : decode cX12_readClaim 84 = .ok (.iload 4, 2) := by decide +kernel
theorem dX12_readClaim_86 : decode cX12_readClaim 86 = .ok (.invokestatic 102, 3) := by decide +kernel
theorem dX12_readClaim_89 : decode cX12_readClaim 89 = .ok (.ifCond .eq 12, 3) := by decide +kernel
theorem dX12_readClaim_92 : decode cX12_readClaim 92 = .ok (.aload_n 0, 1) := by decide +kernel
theorem dX12_readClaim_93 : decode cX12_readClaim 93 = .ok (.iconst 5, 1) := by decide +kernel
theorem dX12_readClaim_94 : decode cX12_readClaim 94 = .ok (.aload_n 0, 1) := by decide +kernel
theorem dX12_readClaim_95 : decode cX12_readClaim 95 = .ok (.getfield 112, 3) := by decide +kernel
theorem dX12_readClaim_98 : decode cX12_readClaim 98 = .ok (.invokevirtual 212, 3) := by decide +kernel
theorem dX12_readClaim_101 : decode cX12_readClaim 101 = .ok (.iload_n 3, 1) := by decide +kernel
theorem dX12_readClaim_102 : decode cX12_readClaim 102 = .ok (.iconst 1, 1) := by decide +kernel
theorem dX12_readClaim_103 : decode cX12_readClaim 103 = .ok (.iload 4, 2) := by decide +kernel
theorem dX12_readClaim_105 : decode cX12_readClaim 105 = .ok (.ishl, 1) := by decide +kernel
theorem dX12_readClaim_106 : decode cX12_readClaim 106 = .ok (.ior, 1) := by decide +kernel
theorem dX12_readClaim_107 : decode cX12_readClaim 107 = .ok (.istore_n 3, 1) := by decide +kernel
theorem dX12_readClaim_108 : decode cX12_readClaim 108 = .ok (.aload_n 0, 1) := by decide +kernel
theorem dX12_readClaim_109 : decode cX12_readClaim 109 = .ok (.iconst 1, 1) := by decide +kernel
theorem dX12_readClaim_110 : decode cX12_readClaim 110 = .ok (.invokevirtual 225, 3) := by decide +kernel
theorem dX12_readClaim_113 : decode cX12_readClaim 113 = .ok (.goto (-60), 3) := by decide +kernel
theorem dX12_readClaim_116 : decode cX12_readClaim 116 = .ok (.aload_n 0, 1) := by decide +kernel
theorem dX12_readClaim_117 : decode cX12_readClaim 117 = .ok (.getfield 206, 3) := by decide +kernel
theorem dX12_readClaim_120 : decode cX12_readClaim 120 = .ok (.ifCond .ne 11, 3) := by decide +kernel
theorem dX12_readClaim_123 : decode cX12_readClaim 123 = .ok (.aload_n 0, 1) := by decide +kernel
theorem dX12_readClaim_124 : decode cX12_readClaim 124 = .ok (.iconst 4, 1) := by decide +kernel
theorem dX12_readClaim_125 : decode cX12_readClaim 125 = .ok (.iload_n 1, 1) := by decide +kernel
theorem dX12_readClaim_126 : decode cX12_readClaim 126 = .ok (.iload_n 3, 1) := by decide +kernel
theorem dX12_readClaim_127 : decode cX12_readClaim 127 = .ok (.iload_n 2, 1) := by decide +kernel
theorem dX12_readClaim_128 : decode cX12_readClaim 128 = .ok (.invokevirtual 271, 3) := by decide +kernel
theorem dX12_readClaim_131 : decode cX12_readClaim 131 = .ok (.return_, 1) := by decide +kernel
theorem dX12_isTaken_0 : decode cX12_isTaken 0 = .ok (.iconst 0, 1) := by decide +kernel
theorem dX12_isTaken_1 : decode cX12_isTaken 1 = .ok (.istore_n 2, 1) := by decide +kernel
theorem dX12_isTaken_2 : decode cX12_isTaken 2 = .ok (.iload_n 2, 1) := by decide +kernel
theorem dX12_isTaken_3 : decode cX12_isTaken 3 = .ok (.aload_n 0, 1) := by decide +kernel
theorem dX12_isTaken_4 : decode cX12_isTaken 4 = .ok (.getfield 35, 3) := by decide +kernel
theorem dX12_isTaken_7 : decode cX12_isTaken 7 = .ok (.sipush 1458, 3) := by decide +kernel
theorem dX12_isTaken_10 : decode cX12_isTaken 10 = .ok (.iaload, 1) := by decide +kernel
theorem dX12_isTaken_11 : decode cX12_isTaken 11 = .ok (.if_icmp .ge 25, 3) := by decide +kernel
theorem dX12_isTaken_14 : decode cX12_isTaken 14 = .ok (.aload_n 0, 1) := by decide +kernel
theorem dX12_isTaken_15 : decode cX12_isTaken 15 = .ok (.getfield 35, 3) := by decide +kernel
theorem dX12_isTaken_18 : decode cX12_isTaken 18 = .ok (.sipush 1504, 3) := by decide +kernel
theorem dX12_isTaken_21 : decode cX12_isTaken 21 = .ok (.iload_n 2, 1) := by decide +kernel
theorem dX12_isTaken_22 : decode cX12_isTaken 22 = .ok (.iadd, 1) := by decide +kernel
theorem dX12_isTaken_23 : decode cX12_isTaken 23 = .ok (.iaload, 1) := by decide +kernel
theorem dX12_isTaken_24 : decode cX12_isTaken 24 = .ok (.iload_n 1, 1) := by decide +kernel
theorem dX12_isTaken_25 : decode cX12_isTaken 25 = .ok (.if_icmp .ne 5, 3) := by decide +kernel
theorem dX12_isTaken_28 : decode cX12_isTaken 28 = .ok (.iconst 1, 1) := by decide +kernel
theorem dX12_isTaken_29 : decode cX12_isTaken 29 = .ok (.ireturn, 1) := by decide +kernel
theorem dX12_isTaken_30 : decode cX12_isTaken 30 = .ok (.iinc 2 1, 3) := by decide +kernel
theorem dX12_isTaken_33 : decode cX12_isTaken 33 = .ok (.goto (-31), 3) := by decide +kernel
theorem dX12_isTaken_36 : decode cX12_isTaken 36 = .ok (.iconst 0, 1) := by decide +kernel
theorem dX12_isTaken_37 : decode cX12_isTaken 37 = .ok (.ireturn, 1) := by decide +kernel
theorem dX12_readTalker_0 : decode cX12_readTalker 0 = .ok (.aload_n 0, 1) := by decide +kernel
theorem dX12_readTalker_1 : decode cX12_readTalker 1 = .ok (.iconst 2, 1) := by decide +kernel
theorem dX12_readTalker_2 : decode cX12_readTalker 2 = .ok (.bipush 6, 2) := by decide +kernel
theorem dX12_readTalker_4 : decode cX12_readTalker 4 = .ok (.invokevirtual 257, 3) := by decide +kernel
theorem dX12_readTalker_7 : decode cX12_readTalker 7 = .ok (.istore_n 1, 1) := by decide +kernel
theorem dX12_readTalker_8 : decode cX12_readTalker 8 = .ok (.aload_n 0, 1) := by decide +kernel
theorem dX12_readTalker_9 : decode cX12_readTalker 9 = .ok (.aload_n 0, 1) := by decide +kernel
theorem dX12_readTalker_10 : decode cX12_readTalker 10 = .ok (.invokevirtual 181, 3) := by decide +kernel
theorem dX12_readTalker_13 : decode cX12_readTalker 13 = .ok (.invokevirtual 225, 3) := by decide +kernel
theorem dX12_readTalker_16 : decode cX12_readTalker 16 = .ok (.aload_n 0, 1) := by decide +kernel
theorem dX12_readTalker_17 : decode cX12_readTalker 17 = .ok (.iconst 0, 1) := by decide +kernel
theorem dX12_readTalker_18 : decode cX12_readTalker 18 = .ok (.bipush 9, 2) := by decide +kernel
theorem dX12_readTalker_20 : decode cX12_readTalker 20 = .ok (.invokevirtual 222, 3) := by decide +kernel
theorem dX12_readTalker_23 : decode cX12_readTalker 23 = .ok (.aload_n 0, 1) := by decide +kernel
theorem dX12_readTalker_24 : decode cX12_readTalker 24 = .ok (.getfield 206, 3) := by decide +kernel
theorem dX12_readTalker_27 : decode cX12_readTalker 27 = .ok (.ifCond .ne 23, 3) := by decide +kernel
theorem dX12_readTalker_30 : decode cX12_readTalker 30 = .ok (.aload_n 0, 1) := by decide +kernel
theorem dX12_readTalker_31 : decode cX12_readTalker 31 = .ok (.aload_n 0, 1) := by decide +kernel
theorem dX12_readTalker_32 : decode cX12_readTalker 32 = .ok (.getfield 137, 3) := by decide +kernel
theorem dX12_readTalker_35 : decode cX12_readTalker 35 = .ok (.invokevirtual 275, 3) := by decide +kernel
theorem dX12_readTalker_38 : decode cX12_readTalker 38 = .ok (.ifCond .eq 12, 3) := by decide +kernel
theorem dX12_readTalker_41 : decode cX12_readTalker 41 = .ok (.aload_n 0, 1) := by decide +kernel
theorem dX12_readTalker_42 : decode cX12_readTalker 42 = .ok (.iconst 5, 1) := by decide +kernel
theorem dX12_readTalker_43 : decode cX12_readTalker 43 = .ok (.aload_n 0, 1) := by decide +kernel
theorem dX12_readTalker_44 : decode cX12_readTalker 44 = .ok (.getfield 112, 3) := by decide +kernel
theorem dX12_readTalker_47 : decode cX12_readTalker 47 = .ok (.invokevirtual 212, 3) := by decide +kernel
theorem dX12_readTalker_50 : decode cX12_readTalker 50 = .ok (.aload_n 0, 1) := by decide +kernel
theorem dX12_readTalker_51 : decode cX12_readTalker 51 = .ok (.iconst 0, 1) := by decide +kernel
theorem dX12_readTalker_52 : decode cX12_readTalker 52 = .ok (.bipush 9, 2) := by decide +kernel
theorem dX12_readTalker_54 : decode cX12_readTalker 54 = .ok (.invokevirtual 229, 3) := by decide +kernel
theorem dX12_readTalker_57 : decode cX12_readTalker 57 = .ok (.istore_n 2, 1) := by decide +kernel
theorem dX12_readTalker_58 : decode cX12_readTalker 58 = .ok (.aload_n 0, 1) := by decide +kernel
theorem dX12_readTalker_59 : decode cX12_readTalker 59 = .ok (.aload_n 0, 1) := by decide +kernel
theorem dX12_readTalker_60 : decode cX12_readTalker 60 = .ok (.invokevirtual 184, 3) := by decide +kernel
theorem dX12_readTalker_63 : decode cX12_readTalker 63 = .ok (.invokevirtual 225, 3) := by decide +kernel
theorem dX12_readTalker_66 : decode cX12_readTalker 66 = .ok (.aload_n 0, 1) := by decide +kernel
theorem dX12_readTalker_67 : decode cX12_readTalker 67 = .ok (.iconst 4, 1) := by decide +kernel
theorem dX12_readTalker_68 : decode cX12_readTalker 68 = .ok (.iconst 0, 1) := by decide +kernel
theorem dX12_readTalker_69 : decode cX12_readTalker 69 = .ok (.invokevirtual 264, 3) := by decide +kernel
theorem dX12_readTalker_72 : decode cX12_readTalker 72 = .ok (.istore_n 3, 1) := by decide +kernel
theorem dX12_readTalker_73 : decode cX12_readTalker 73 = .ok (.aload_n 0, 1) := by decide +kernel
theorem dX12_readTalker_74 : decode cX12_readTalker 74 = .ok (.aload_n 0, 1) := by decide +kernel
theorem dX12_readTalker_75 : decode cX12_readTalker 75 = .ok (.invokevirtual 187, 3) := by decide +kernel
theorem dX12_readTalker_78 : decode cX12_readTalker 78 = .ok (.invokevirtual 267, 3) := by decide +kernel
theorem dX12_readTalker_81 : decode cX12_readTalker 81 = .ok (.ifCond .eq 13, 3) := by decide +kernel
theorem dX12_readTalker_84 : decode cX12_readTalker 84 = .ok (.aload_n 0, 1) := by decide +kernel
theorem dX12_readTalker_85 : decode cX12_readTalker 85 = .ok (.iconst 0, 1) := by decide +kernel
theorem dX12_readTalker_86 : decode cX12_readTalker 86 = .ok (.bipush 16, 2) := by decide +kernel
theorem dX12_readTalker_88 : decode cX12_readTalker 88 = .ok (.invokevirtual 229, 3) := by decide +kernel
theorem dX12_readTalker_91 : decode cX12_readTalker 91 = .ok (.goto 4, 3) := by decide +kernel
theorem dX12_readTalker_94 : decode cX12_readTalker 94 = .ok (.iconst 0, 1) := by decide +kernel
theorem dX12_readTalker_95 : decode cX12_readTalker 95 = .ok (.istore 4, 2) := by decide +kernel
theorem dX12_readTalker_97 : decode cX12_readTalker 97 = .ok (.aload_n 0, 1) := by decide +kernel
theorem dX12_readTalker_98 : decode cX12_readTalker 98 = .ok (.getfield 206, 3) := by decide +kernel
theorem dX12_readTalker_101 : decode cX12_readTalker 101 = .ok (.ifCond .le 4, 3) := by decide +kernel
theorem dX12_readTalker_104 : decode cX12_readTalker 104 = .ok (.return_, 1) := by decide +kernel
theorem dX12_readTalker_105 : decode cX12_readTalker 105 = .ok (.aload_n 0, 1) := by decide +kernel
theorem dX12_readTalker_106 : decode cX12_readTalker 106 = .ok (.getfield 35, 3) := by decide +kernel
theorem dX12_readTalker_109 : decode cX12_readTalker 109 = .ok (.sipush 1504, 3) := by decide +kernel
theorem dX12_readTalker_112 : decode cX12_readTalker 112 = .ok (.iload_n 1, 1) := by decide +kernel
theorem dX12_readTalker_113 : decode cX12_readTalker 113 = .ok (.iadd, 1) := by decide +kernel
theorem dX12_readTalker_114 : decode cX12_readTalker 114 = .ok (.iload_n 2, 1) := by decide +kernel
theorem dX12_readTalker_115 : decode cX12_readTalker 115 = .ok (.iastore, 1) := by decide +kernel
theorem dX12_readTalker_116 : decode cX12_readTalker 116 = .ok (.aload_n 0, 1) := by decide +kernel
theorem dX12_readTalker_117 : decode cX12_readTalker 117 = .ok (.getfield 35, 3) := by decide +kernel
theorem dX12_readTalker_120 : decode cX12_readTalker 120 = .ok (.sipush 1510, 3) := by decide +kernel
theorem dX12_readTalker_123 : decode cX12_readTalker 123 = .ok (.iload_n 1, 1) := by decide +kernel
theorem dX12_readTalker_124 : decode cX12_readTalker 124 = .ok (.iadd, 1) := by decide +kernel
theorem dX12_readTalker_125 : decode cX12_readTalker 125 = .ok (.iload_n 3, 1) := by decide +kernel
theorem dX12_readTalker_126 : decode cX12_readTalker 126 = .ok (.iconst 1, 1) := by decide +kernel
theorem dX12_readTalker_127 : decode cX12_readTalker 127 = .ok (.iadd, 1) := by decide +kernel
theorem dX12_readTalker_128 : decode cX12_readTalker 128 = .ok (.iastore, 1) := by decide +kernel
theorem dX12_readTalker_129 : decode cX12_readTalker 129 = .ok (.aload_n 0, 1) := by decide +kernel
theorem dX12_readTalker_130 : decode cX12_readTalker 130 = .ok (.getfield 35, 3) := by decide +kernel
theorem dX12_readTalker_133 : decode cX12_readTalker 133 = .ok (.sipush 1522, 3) := by decide +kernel
theorem dX12_readTalker_136 : decode cX12_readTalker 136 = .ok (.iload_n 1, 1) := by decide +kernel
theorem dX12_readTalker_137 : decode cX12_readTalker 137 = .ok (.iadd, 1) := by decide +kernel
theorem dX12_readTalker_138 : decode cX12_readTalker 138 = .ok (.iload 4, 2) := by decide +kernel
theorem dX12_readTalker_140 : decode cX12_readTalker 140 = .ok (.iastore, 1) := by decide +kernel
theorem dX12_readTalker_141 : decode cX12_readTalker 141 = .ok (.aload_n 0, 1) := by decide +kernel
theorem dX12_readTalker_142 : decode cX12_readTalker 142 = .ok (.getfield 35, 3) := by decide +kernel
theorem dX12_readTalker_145 : decode cX12_readTalker 145 = .ok (.sipush 1458, 3) := by decide +kernel
theorem dX12_readTalker_148 : decode cX12_readTalker 148 = .ok (.dup2, 1) := by decide +kernel
theorem dX12_readTalker_149 : decode cX12_readTalker 149 = .ok (.iaload, 1) := by decide +kernel
theorem dX12_readTalker_150 : decode cX12_readTalker 150 = .ok (.iconst 1, 1) := by decide +kernel
theorem dX12_readTalker_151 : decode cX12_readTalker 151 = .ok (.iadd, 1) := by decide +kernel
theorem dX12_readTalker_152 : decode cX12_readTalker 152 = .ok (.iastore, 1) := by decide +kernel
theorem dX12_readTalker_153 : decode cX12_readTalker 153 = .ok (.return_, 1) := by decide +kernel
theorem dX12_isFeudOf_0 : decode cX12_isFeudOf 0 = .ok (.sipush 364, 3) := by decide +kernel
theorem dX12_isFeudOf_3 : decode cX12_isFeudOf 3 = .ok (.iload_n 1, 1) := by decide +kernel
theorem dX12_isFeudOf_4 : decode cX12_isFeudOf 4 = .ok (.imul, 1) := by decide +kernel
theorem dX12_isFeudOf_5 : decode cX12_isFeudOf 5 = .ok (.istore 4, 2) := by decide +kernel
theorem dX12_isFeudOf_7 : decode cX12_isFeudOf 7 = .ok (.iconst 0, 1) := by decide +kernel
theorem dX12_isFeudOf_8 : decode cX12_isFeudOf 8 = .ok (.istore 5, 2) := by decide +kernel
theorem dX12_isFeudOf_10 : decode cX12_isFeudOf 10 = .ok (.iload 5, 2) := by decide +kernel
theorem dX12_isFeudOf_12 : decode cX12_isFeudOf 12 = .ok (.aload_n 0, 1) := by decide +kernel
theorem dX12_isFeudOf_13 : decode cX12_isFeudOf 13 = .ok (.getfield 35, 3) := by decide +kernel
theorem dX12_isFeudOf_16 : decode cX12_isFeudOf 16 = .ok (.iload 4, 2) := by decide +kernel
theorem dX12_isFeudOf_18 : decode cX12_isFeudOf 18 = .ok (.iconst 3, 1) := by decide +kernel
theorem dX12_isFeudOf_19 : decode cX12_isFeudOf 19 = .ok (.iadd, 1) := by decide +kernel
theorem dX12_isFeudOf_20 : decode cX12_isFeudOf 20 = .ok (.iaload, 1) := by decide +kernel
theorem dX12_isFeudOf_21 : decode cX12_isFeudOf 21 = .ok (.if_icmp .ge 65, 3) := by decide +kernel
theorem dX12_isFeudOf_24 : decode cX12_isFeudOf 24 = .ok (.aload_n 0, 1) := by decide +kernel
theorem dX12_isFeudOf_25 : decode cX12_isFeudOf 25 = .ok (.getfield 35, 3) := by decide +kernel
theorem dX12_isFeudOf_28 : decode cX12_isFeudOf 28 = .ok (.iload 4, 2) := by decide +kernel
theorem dX12_isFeudOf_30 : decode cX12_isFeudOf 30 = .ok (.bipush 72, 2) := by decide +kernel
theorem dX12_isFeudOf_32 : decode cX12_isFeudOf 32 = .ok (.iadd, 1) := by decide +kernel
theorem dX12_isFeudOf_33 : decode cX12_isFeudOf 33 = .ok (.iload 5, 2) := by decide +kernel
theorem dX12_isFeudOf_35 : decode cX12_isFeudOf 35 = .ok (.iadd, 1) := by decide +kernel
theorem dX12_isFeudOf_36 : decode cX12_isFeudOf 36 = .ok (.iaload, 1) := by decide +kernel
theorem dX12_isFeudOf_37 : decode cX12_isFeudOf 37 = .ok (.istore 6, 2) := by decide +kernel
theorem dX12_isFeudOf_39 : decode cX12_isFeudOf 39 = .ok (.aload_n 0, 1) := by decide +kernel
theorem dX12_isFeudOf_40 : decode cX12_isFeudOf 40 = .ok (.getfield 35, 3) := by decide +kernel
theorem dX12_isFeudOf_43 : decode cX12_isFeudOf 43 = .ok (.iload 4, 2) := by decide +kernel
theorem dX12_isFeudOf_45 : decode cX12_isFeudOf 45 = .ok (.bipush 82, 2) := by decide +kernel
theorem dX12_isFeudOf_47 : decode cX12_isFeudOf 47 = .ok (.iadd, 1) := by decide +kernel
theorem dX12_isFeudOf_48 : decode cX12_isFeudOf 48 = .ok (.iload 5, 2) := by decide +kernel
theorem dX12_isFeudOf_50 : decode cX12_isFeudOf 50 = .ok (.iadd, 1) := by decide +kernel
theorem dX12_isFeudOf_51 : decode cX12_isFeudOf 51 = .ok (.iaload, 1) := by decide +kernel
theorem dX12_isFeudOf_52 : decode cX12_isFeudOf 52 = .ok (.istore 7, 2) := by decide +kernel
theorem dX12_isFeudOf_54 : decode cX12_isFeudOf 54 = .ok (.iload 6, 2) := by decide +kernel
theorem dX12_isFeudOf_56 : decode cX12_isFeudOf 56 = .ok (.iload_n 2, 1) := by decide +kernel
theorem dX12_isFeudOf_57 : decode cX12_isFeudOf 57 = .ok (.if_icmp .ne 9, 3) := by decide +kernel
theorem dX12_isFeudOf_60 : decode cX12_isFeudOf 60 = .ok (.iload 7, 2) := by decide +kernel
theorem dX12_isFeudOf_62 : decode cX12_isFeudOf 62 = .ok (.iload_n 3, 1) := by decide +kernel
theorem dX12_isFeudOf_63 : decode cX12_isFeudOf 63 = .ok (.if_icmp .eq 15, 3) := by decide +kernel
theorem dX12_isFeudOf_66 : decode cX12_isFeudOf 66 = .ok (.iload 6, 2) := by decide +kernel
theorem dX12_isFeudOf_68 : decode cX12_isFeudOf 68 = .ok (.iload_n 3, 1) := by decide +kernel
theorem dX12_isFeudOf_69 : decode cX12_isFeudOf 69 = .ok (.if_icmp .ne 11, 3) := by decide +kernel
theorem dX12_isFeudOf_72 : decode cX12_isFeudOf 72 = .ok (.iload 7, 2) := by decide +kernel
theorem dX12_isFeudOf_74 : decode cX12_isFeudOf 74 = .ok (.iload_n 2, 1) := by decide +kernel
theorem dX12_isFeudOf_75 : decode cX12_isFeudOf 75 = .ok (.if_icmp .ne 5, 3) := by decide +kernel
theorem dX12_isFeudOf_78 : decode cX12_isFeudOf 78 = .ok (.iconst 1, 1) := by decide +kernel
theorem dX12_isFeudOf_79 : decode cX12_isFeudOf 79 = .ok (.ireturn, 1) := by decide +kernel
theorem dX12_isFeudOf_80 : decode cX12_isFeudOf 80 = .ok (.iinc 5 1, 3) := by decide +kernel
theorem dX12_isFeudOf_83 : decode cX12_isFeudOf 83 = .ok (.goto (-73), 3) := by decide +kernel
theorem dX12_isFeudOf_86 : decode cX12_isFeudOf 86 = .ok (.iconst 0, 1) := by decide +kernel
theorem dX12_isFeudOf_87 : decode cX12_isFeudOf 87 = .ok (.ireturn, 1) := by decide +kernel
theorem dX12_angers_0 : decode cX12_angers 0 = .ok (.sipush 364, 3) := by decide +kernel
theorem dX12_angers_3 : decode cX12_angers 3 = .ok (.iload_n 1, 1) := by decide +kernel
theorem dX12_angers_4 : decode cX12_angers 4 = .ok (.imul, 1) := by decide +kernel
theorem dX12_angers_5 : decode cX12_angers 5 = .ok (.istore 4, 2) := by decide +kernel
theorem dX12_angers_7 : decode cX12_angers 7 = .ok (.aload_n 0, 1) := by decide +kernel
theorem dX12_angers_8 : decode cX12_angers 8 = .ok (.getfield 35, 3) := by decide +kernel
theorem dX12_angers_11 : decode cX12_angers 11 = .ok (.iload 4, 2) := by decide +kernel
theorem dX12_angers_13 : decode cX12_angers 13 = .ok (.iconst 3, 1) := by decide +kernel
theorem dX12_angers_14 : decode cX12_angers 14 = .ok (.iadd, 1) := by decide +kernel
theorem dX12_angers_15 : decode cX12_angers 15 = .ok (.iaload, 1) := by decide +kernel
theorem dX12_angers_16 : decode cX12_angers 16 = .ok (.istore 5, 2) := by decide +kernel
theorem dX12_angers_18 : decode cX12_angers 18 = .ok (.aload_n 0, 1) := by decide +kernel
theorem dX12_angers_19 : decode cX12_angers 19 = .ok (.getfield 35, 3) := by decide +kernel
theorem dX12_angers_22 : decode cX12_angers 22 = .ok (.iload 4, 2) := by decide +kernel
theorem dX12_angers_24 : decode cX12_angers 24 = .ok (.bipush 72, 2) := by decide +kernel
theorem dX12_angers_26 : decode cX12_angers 26 = .ok (.iadd, 1) := by decide +kernel
theorem dX12_angers_27 : decode cX12_angers 27 = .ok (.iload 5, 2) := by decide +kernel
theorem dX12_angers_29 : decode cX12_angers 29 = .ok (.iadd, 1) := by decide +kernel
theorem dX12_angers_30 : decode cX12_angers 30 = .ok (.iload_n 2, 1) := by decide +kernel
theorem dX12_angers_31 : decode cX12_angers 31 = .ok (.iastore, 1) := by decide +kernel
theorem dX12_angers_32 : decode cX12_angers 32 = .ok (.aload_n 0, 1) := by decide +kernel
theorem dX12_angers_33 : decode cX12_angers 33 = .ok (.getfield 35, 3) := by decide +kernel
theorem dX12_angers_36 : decode cX12_angers 36 = .ok (.iload 4, 2) := by decide +kernel
theorem dX12_angers_38 : decode cX12_angers 38 = .ok (.bipush 82, 2) := by decide +kernel
theorem dX12_angers_40 : decode cX12_angers 40 = .ok (.iadd, 1) := by decide +kernel
theorem dX12_angers_41 : decode cX12_angers 41 = .ok (.iload 5, 2) := by decide +kernel
theorem dX12_angers_43 : decode cX12_angers 43 = .ok (.iadd, 1) := by decide +kernel
theorem dX12_angers_44 : decode cX12_angers 44 = .ok (.iload_n 3, 1) := by decide +kernel
theorem dX12_angers_45 : decode cX12_angers 45 = .ok (.iastore, 1) := by decide +kernel
theorem dX12_angers_46 : decode cX12_angers 46 = .ok (.aload_n 0, 1) := by decide +kernel
theorem dX12_angers_47 : decode cX12_angers 47 = .ok (.getfield 35, 3) := by decide +kernel
theorem dX12_angers_50 : decode cX12_angers 50 = .ok (.iload 4, 2) := by decide +kernel
theorem dX12_angers_52 : decode cX12_angers 52 = .ok (.iconst 3, 1) := by decide +kernel
theorem dX12_angers_53 : decode cX12_angers 53 = .ok (.iadd, 1) := by decide +kernel
theorem dX12_angers_54 : decode cX12_angers 54 = .ok (.dup2, 1) := by decide +kernel
theorem dX12_angers_55 : decode cX12_angers 55 = .ok (.iaload, 1) := by decide +kernel
theorem dX12_angers_56 : decode cX12_angers 56 = .ok (.iconst 1, 1) := by decide +kernel
theorem dX12_angers_57 : decode cX12_angers 57 = .ok (.iadd, 1) := by decide +kernel
theorem dX12_angers_58 : decode cX12_angers 58 = .ok (.iastore, 1) := by decide +kernel
theorem dX12_angers_59 : decode cX12_angers 59 = .ok (.return_, 1) := by decide +kernel
theorem dX12_readFeud_0 : decode cX12_readFeud 0 = .ok (.aload_n 0, 1) := by decide +kernel
theorem dX12_readFeud_1 : decode cX12_readFeud 1 = .ok (.getfield 35, 3) := by decide +kernel
theorem dX12_readFeud_4 : decode cX12_readFeud 4 = .ok (.sipush 1459, 3) := by decide +kernel
theorem dX12_readFeud_7 : decode cX12_readFeud 7 = .ok (.iaload, 1) := by decide +kernel
theorem dX12_readFeud_8 : decode cX12_readFeud 8 = .ok (.bipush 10, 2) := by decide +kernel
theorem dX12_readFeud_10 : decode cX12_readFeud 10 = .ok (.if_icmp .ne 13, 3) := by decide +kernel
theorem dX12_readFeud_13 : decode cX12_readFeud 13 = .ok (.aload_n 0, 1) := by decide +kernel
theorem dX12_readFeud_14 : decode cX12_readFeud 14 = .ok (.bipush 6, 2) := by decide +kernel
theorem dX12_readFeud_16 : decode cX12_readFeud 16 = .ok (.aload_n 0, 1) := by decide +kernel
theorem dX12_readFeud_17 : decode cX12_readFeud 17 = .ok (.getfield 112, 3) := by decide +kernel
theorem dX12_readFeud_20 : decode cX12_readFeud 20 = .ok (.invokevirtual 212, 3) := by decide +kernel
theorem dX12_readFeud_23 : decode cX12_readFeud 23 = .ok (.aload_n 0, 1) := by decide +kernel
theorem dX12_readFeud_24 : decode cX12_readFeud 24 = .ok (.iconst 1, 1) := by decide +kernel
theorem dX12_readFeud_25 : decode cX12_readFeud 25 = .ok (.invokevirtual 225, 3) := by decide +kernel
theorem dX12_readFeud_28 : decode cX12_readFeud 28 = .ok (.aload_n 0, 1) := by decide +kernel
theorem dX12_readFeud_29 : decode cX12_readFeud 29 = .ok (.iconst 4, 1) := by decide +kernel
theorem dX12_readFeud_30 : decode cX12_readFeud 30 = .ok (.iconst 2, 1) := by decide +kernel
theorem dX12_readFeud_31 : decode cX12_readFeud 31 = .ok (.invokevirtual 264, 3) := by decide +kernel
theorem dX12_readFeud_34 : decode cX12_readFeud 34 = .ok (.istore_n 1, 1) := by decide +kernel
theorem dX12_readFeud_35 : decode cX12_readFeud 35 = .ok (.aload_n 0, 1) := by decide +kernel
theorem dX12_readFeud_36 : decode cX12_readFeud 36 = .ok (.iconst 4, 1) := by decide +kernel
theorem dX12_readFeud_37 : decode cX12_readFeud 37 = .ok (.iconst 2, 1) := by decide +kernel
theorem dX12_readFeud_38 : decode cX12_readFeud 38 = .ok (.invokevirtual 250, 3) := by decide +kernel
theorem dX12_readFeud_41 : decode cX12_readFeud 41 = .ok (.istore_n 2, 1) := by decide +kernel
theorem dX12_readFeud_42 : decode cX12_readFeud 42 = .ok (.aload_n 0, 1) := by decide +kernel
theorem dX12_readFeud_43 : decode cX12_readFeud 43 = .ok (.getfield 206, 3) := by decide +kernel
theorem dX12_readFeud_46 : decode cX12_readFeud 46 = .ok (.ifCond .ne 27, 3) := by decide +kernel
theorem dX12_readFeud_49 : decode cX12_readFeud 49 = .ok (.iload_n 1, 1) := by decide +kernel
theorem dX12_readFeud_50 : decode cX12_readFeud 50 = .ok (.iload_n 2, 1) := by decide +kernel
theorem dX12_readFeud_51 : decode cX12_readFeud 51 = .ok (.if_icmp .eq 13, 3) := by decide +kernel
theorem dX12_readFeud_54 : decode cX12_readFeud 54 = .ok (.aload_n 0, 1) := by decide +kernel
theorem dX12_readFeud_55 : decode cX12_readFeud 55 = .ok (.iconst 4, 1) := by decide +kernel
theorem dX12_readFeud_56 : decode cX12_readFeud 56 = .ok (.iload_n 1, 1) := by decide +kernel
theorem dX12_readFeud_57 : decode cX12_readFeud 57 = .ok (.iload_n 2, 1) := by decide +kernel
theorem dX12_readFeud_58 : decode cX12_readFeud 58 = .ok (.invokevirtual 278, 3) := by decide +kernel
theorem dX12_readFeud_61 : decode cX12_readFeud 61 = .ok (.ifCond .eq 12, 3) := by decide +kernel
theorem dX12_readFeud_64 : decode cX12_readFeud 64 = .ok (.aload_n 0, 1) := by decide +kernel
theorem dX12_readFeud_65 : decode cX12_readFeud 65 = .ok (.iconst 5, 1) := by decide +kernel
theorem dX12_readFeud_66 : decode cX12_readFeud 66 = .ok (.aload_n 0, 1) := by decide +kernel
theorem dX12_readFeud_67 : decode cX12_readFeud 67 = .ok (.getfield 112, 3) := by decide +kernel
theorem dX12_readFeud_70 : decode cX12_readFeud 70 = .ok (.invokevirtual 212, 3) := by decide +kernel
theorem dX12_readFeud_73 : decode cX12_readFeud 73 = .ok (.aload_n 0, 1) := by decide +kernel
theorem dX12_readFeud_74 : decode cX12_readFeud 74 = .ok (.iconst 1, 1) := by decide +kernel
theorem dX12_readFeud_75 : decode cX12_readFeud 75 = .ok (.invokevirtual 225, 3) := by decide +kernel
theorem dX12_readFeud_78 : decode cX12_readFeud 78 = .ok (.aload_n 0, 1) := by decide +kernel
theorem dX12_readFeud_79 : decode cX12_readFeud 79 = .ok (.getfield 206, 3) := by decide +kernel
theorem dX12_readFeud_82 : decode cX12_readFeud 82 = .ok (.ifCond .ne 10, 3) := by decide +kernel
theorem dX12_readFeud_85 : decode cX12_readFeud 85 = .ok (.aload_n 0, 1) := by decide +kernel
theorem dX12_readFeud_86 : decode cX12_readFeud 86 = .ok (.iconst 4, 1) := by decide +kernel
theorem dX12_readFeud_87 : decode cX12_readFeud 87 = .ok (.iload_n 1, 1) := by decide +kernel
theorem dX12_readFeud_88 : decode cX12_readFeud 88 = .ok (.iload_n 2, 1) := by decide +kernel
theorem dX12_readFeud_89 : decode cX12_readFeud 89 = .ok (.invokevirtual 282, 3) := by decide +kernel
theorem dX12_readFeud_92 : decode cX12_readFeud 92 = .ok (.return_, 1) := by decide +kernel
theorem dX12_readPart_0 : decode cX12_readPart 0 = .ok (.aload_n 0, 1) := by decide +kernel
theorem dX12_readPart_1 : decode cX12_readPart 1 = .ok (.invokevirtual 153, 3) := by decide +kernel
theorem dX12_readPart_4 : decode cX12_readPart 4 = .ok (.ifCond .eq 10, 3) := by decide +kernel
theorem dX12_readPart_7 : decode cX12_readPart 7 = .ok (.aload_n 0, 1) := by decide +kernel
theorem dX12_readPart_8 : decode cX12_readPart 8 = .ok (.invokevirtual 286, 3) := by decide +kernel
theorem dX12_readPart_11 : decode cX12_readPart 11 = .ok (.goto 63, 3) := by decide +kernel
theorem dX12_readPart_14 : decode cX12_readPart 14 = .ok (.aload_n 0, 1) := by decide +kernel
theorem dX12_readPart_15 : decode cX12_readPart 15 = .ok (.invokevirtual 157, 3) := by decide +kernel
theorem dX12_readPart_18 : decode cX12_readPart 18 = .ok (.ifCond .eq 10, 3) := by decide +kernel
theorem dX12_readPart_21 : decode cX12_readPart 21 = .ok (.aload_n 0, 1) := by decide +kernel
theorem dX12_readPart_22 : decode cX12_readPart 22 = .ok (.invokevirtual 289, 3) := by decide +kernel
theorem dX12_readPart_25 : decode cX12_readPart 25 = .ok (.goto 49, 3) := by decide +kernel
theorem dX12_readPart_28 : decode cX12_readPart 28 = .ok (.aload_n 0, 1) := by decide +kernel
theorem dX12_readPart_29 : decode cX12_readPart 29 = .ok (.invokevirtual 166, 3) := by decide +kernel
theorem dX12_readPart_32 : decode cX12_readPart 32 = .ok (.ifCond .eq 10, 3) := by decide +kernel
theorem dX12_readPart_35 : decode cX12_readPart 35 = .ok (.aload_n 0, 1) := by decide +kernel
theorem dX12_readPart_36 : decode cX12_readPart 36 = .ok (.invokevirtual 292, 3) := by decide +kernel
theorem dX12_readPart_39 : decode cX12_readPart 39 = .ok (.goto 35, 3) := by decide +kernel
theorem dX12_readPart_42 : decode cX12_readPart 42 = .ok (.aload_n 0, 1) := by decide +kernel
theorem dX12_readPart_43 : decode cX12_readPart 43 = .ok (.invokevirtual 178, 3) := by decide +kernel
theorem dX12_readPart_46 : decode cX12_readPart 46 = .ok (.ifCond .eq 10, 3) := by decide +kernel
theorem dX12_readPart_49 : decode cX12_readPart 49 = .ok (.aload_n 0, 1) := by decide +kernel
theorem dX12_readPart_50 : decode cX12_readPart 50 = .ok (.invokevirtual 295, 3) := by decide +kernel
theorem dX12_readPart_53 : decode cX12_readPart 53 = .ok (.goto 21, 3) := by decide +kernel
theorem dX12_readPart_56 : decode cX12_readPart 56 = .ok (.aload_n 0, 1) := by decide +kernel
theorem dX12_readPart_57 : decode cX12_readPart 57 = .ok (.invokevirtual 190, 3) := by decide +kernel
theorem dX12_readPart_60 : decode cX12_readPart 60 = .ok (.ifCond .eq 10, 3) := by decide +kernel
theorem dX12_readPart_63 : decode cX12_readPart 63 = .ok (.aload_n 0, 1) := by decide +kernel
theorem dX12_readPart_64 : decode cX12_readPart 64 = .ok (.invokevirtual 298, 3) := by decide +kernel
theorem dX12_readPart_67 : decode cX12_readPart 67 = .ok (.goto 7, 3) := by decide +kernel
theorem dX12_readPart_70 : decode cX12_readPart 70 = .ok (.aload_n 0, 1) := by decide +kernel
theorem dX12_readPart_71 : decode cX12_readPart 71 = .ok (.invokevirtual 219, 3) := by decide +kernel
theorem dX12_readPart_74 : decode cX12_readPart 74 = .ok (.return_, 1) := by decide +kernel
theorem dX12_copy_0 : decode cX12_copy 0 = .ok (.iconst 0, 1) := by decide +kernel
theorem dX12_copy_1 : decode cX12_copy 1 = .ok (.istore_n 3, 1) := by decide +kernel
theorem dX12_copy_2 : decode cX12_copy 2 = .ok (.iload_n 3, 1) := by decide +kernel
theorem dX12_copy_3 : decode cX12_copy 3 = .ok (.sipush 364, 3) := by decide +kernel
theorem dX12_copy_6 : decode cX12_copy 6 = .ok (.if_icmp .ge 33, 3) := by decide +kernel
theorem dX12_copy_9 : decode cX12_copy 9 = .ok (.aload_n 0, 1) := by decide +kernel
theorem dX12_copy_10 : decode cX12_copy 10 = .ok (.getfield 35, 3) := by decide +kernel
theorem dX12_copy_13 : decode cX12_copy 13 = .ok (.sipush 364, 3) := by decide +kernel
theorem dX12_copy_16 : decode cX12_copy 16 = .ok (.iload_n 2, 1) := by decide +kernel
theorem dX12_copy_17 : decode cX12_copy 17 = .ok (.imul, 1) := by decide +kernel
theorem dX12_copy_18 : decode cX12_copy 18 = .ok (.iload_n 3, 1) := by decide +kernel
theorem dX12_copy_19 : decode cX12_copy 19 = .ok (.iadd, 1) := by decide +kernel
theorem dX12_copy_20 : decode cX12_copy 20 = .ok (.aload_n 0, 1) := by decide +kernel
theorem dX12_copy_21 : decode cX12_copy 21 = .ok (.getfield 35, 3) := by decide +kernel
theorem dX12_copy_24 : decode cX12_copy 24 = .ok (.sipush 364, 3) := by decide +kernel
theorem dX12_copy_27 : decode cX12_copy 27 = .ok (.iload_n 1, 1) := by decide +kernel
theorem dX12_copy_28 : decode cX12_copy 28 = .ok (.imul, 1) := by decide +kernel
theorem dX12_copy_29 : decode cX12_copy 29 = .ok (.iload_n 3, 1) := by decide +kernel
theorem dX12_copy_30 : decode cX12_copy 30 = .ok (.iadd, 1) := by decide +kernel
theorem dX12_copy_31 : decode cX12_copy 31 = .ok (.iaload, 1) := by decide +kernel
theorem dX12_copy_32 : decode cX12_copy 32 = .ok (.iastore, 1) := by decide +kernel
theorem dX12_copy_33 : decode cX12_copy 33 = .ok (.iinc 3 1, 3) := by decide +kernel
theorem dX12_copy_36 : decode cX12_copy 36 = .ok (.goto (-34), 3) := by decide +kernel
theorem dX12_copy_39 : decode cX12_copy 39 = .ok (.iconst 0, 1) := by decide +kernel
theorem dX12_copy_40 : decode cX12_copy 40 = .ok (.istore_n 3, 1) := by decide +kernel
theorem dX12_copy_41 : decode cX12_copy 41 = .ok (.iload_n 3, 1) := by decide +kernel
theorem dX12_copy_42 : decode cX12_copy 42 = .ok (.bipush 23, 2) := by decide +kernel
theorem dX12_copy_44 : decode cX12_copy 44 = .ok (.if_icmp .ge 31, 3) := by decide +kernel
theorem dX12_copy_47 : decode cX12_copy 47 = .ok (.aload_n 0, 1) := by decide +kernel
theorem dX12_copy_48 : decode cX12_copy 48 = .ok (.getfield 41, 3) := by decide +kernel
theorem dX12_copy_51 : decode cX12_copy 51 = .ok (.bipush 23, 2) := by decide +kernel
theorem dX12_copy_53 : decode cX12_copy 53 = .ok (.iload_n 2, 1) := by decide +kernel
theorem dX12_copy_54 : decode cX12_copy 54 = .ok (.imul, 1) := by decide +kernel
theorem dX12_copy_55 : decode cX12_copy 55 = .ok (.iload_n 3, 1) := by decide +kernel
theorem dX12_copy_56 : decode cX12_copy 56 = .ok (.iadd, 1) := by decide +kernel
theorem dX12_copy_57 : decode cX12_copy 57 = .ok (.aload_n 0, 1) := by decide +kernel
theorem dX12_copy_58 : decode cX12_copy 58 = .ok (.getfield 41, 3) := by decide +kernel
theorem dX12_copy_61 : decode cX12_copy 61 = .ok (.bipush 23, 2) := by decide +kernel
theorem dX12_copy_63 : decode cX12_copy 63 = .ok (.iload_n 1, 1) := by decide +kernel
theorem dX12_copy_64 : decode cX12_copy 64 = .ok (.imul, 1) := by decide +kernel
theorem dX12_copy_65 : decode cX12_copy 65 = .ok (.iload_n 3, 1) := by decide +kernel
theorem dX12_copy_66 : decode cX12_copy 66 = .ok (.iadd, 1) := by decide +kernel
theorem dX12_copy_67 : decode cX12_copy 67 = .ok (.laload, 1) := by decide +kernel
theorem dX12_copy_68 : decode cX12_copy 68 = .ok (.lastore, 1) := by decide +kernel
theorem dX12_copy_69 : decode cX12_copy 69 = .ok (.iinc 3 1, 3) := by decide +kernel
theorem dX12_copy_72 : decode cX12_copy 72 = .ok (.goto (-31), 3) := by decide +kernel
theorem dX12_copy_75 : decode cX12_copy 75 = .ok (.return_, 1) := by decide +kernel
theorem dX12_table_0 : decode cX12_table 0 = .ok (.aload_n 0, 1) := by decide +kernel
theorem dX12_table_1 : decode cX12_table 1 = .ok (.iconst 0, 1) := by decide +kernel
theorem dX12_table_2 : decode cX12_table 2 = .ok (.putfield 63, 3) := by decide +kernel
theorem dX12_table_5 : decode cX12_table 5 = .ok (.aload_n 0, 1) := by decide +kernel
theorem dX12_table_6 : decode cX12_table 6 = .ok (.iconst 0, 1) := by decide +kernel
theorem dX12_table_7 : decode cX12_table 7 = .ok (.putfield 66, 3) := by decide +kernel
theorem dX12_table_10 : decode cX12_table 10 = .ok (.aload_n 0, 1) := by decide +kernel
theorem dX12_table_11 : decode cX12_table 11 = .ok (.iload_n 1, 1) := by decide +kernel
theorem dX12_table_12 : decode cX12_table 12 = .ok (.sipush 900, 3) := by decide +kernel
theorem dX12_table_15 : decode cX12_table 15 = .ok (.invokevirtual 301, 3) := by decide +kernel
theorem dX12_table_18 : decode cX12_table 18 = .ok (.ifCond .ne 5, 3) := by decide +kernel
theorem dX12_table_21 : decode cX12_table 21 = .ok (.iconst (-1), 1) := by decide +kernel
theorem dX12_table_22 : decode cX12_table 22 = .ok (.ireturn, 1) := by decide +kernel
theorem dX12_table_23 : decode cX12_table 23 = .ok (.aload_n 0, 1) := by decide +kernel
theorem dX12_table_24 : decode cX12_table 24 = .ok (.iconst 4, 1) := by decide +kernel
theorem dX12_table_25 : decode cX12_table 25 = .ok (.invokevirtual 59, 3) := by decide +kernel
theorem dX12_table_28 : decode cX12_table 28 = .ok (.aload_n 0, 1) := by decide +kernel
theorem dX12_table_29 : decode cX12_table 29 = .ok (.iconst 0, 1) := by decide +kernel
theorem dX12_table_30 : decode cX12_table 30 = .ok (.putfield 253, 3) := by decide +kernel
theorem dX12_table_33 : decode cX12_table 33 = .ok (.aload_n 0, 1) := by decide +kernel
theorem dX12_table_34 : decode cX12_table 34 = .ok (.getfield 206, 3) := by decide +kernel
theorem dX12_table_37 : decode cX12_table 37 = .ok (.ifCond .ne 27, 3) := by decide +kernel
theorem dX12_table_40 : decode cX12_table 40 = .ok (.aload_n 0, 1) := by decide +kernel
theorem dX12_table_41 : decode cX12_table 41 = .ok (.getfield 118, 3) := by decide +kernel
theorem dX12_table_44 : decode cX12_table 44 = .ok (.ifCond .eq 20, 3) := by decide +kernel
theorem dX12_table_47 : decode cX12_table 47 = .ok (.aload_n 0, 1) := by decide +kernel
theorem dX12_table_48 : decode cX12_table 48 = .ok (.invokevirtual 304, 3) := by decide +kernel
theorem dX12_table_51 : decode cX12_table 51 = .ok (.aload_n 0, 1) := by decide +kernel
theorem dX12_table_52 : decode cX12_table 52 = .ok (.aload_n 0, 1) := by decide +kernel
theorem dX12_table_53 : decode cX12_table 53 = .ok (.bipush 59, 2) := by decide +kernel
theorem dX12_table_55 : decode cX12_table 55 = .ok (.invokevirtual 307, 3) := by decide +kernel
theorem dX12_table_58 : decode cX12_table 58 = .ok (.invokevirtual 225, 3) := by decide +kernel
theorem dX12_table_61 : decode cX12_table 61 = .ok (.goto (-28), 3) := by decide +kernel
theorem dX12_table_64 : decode cX12_table 64 = .ok (.aload_n 0, 1) := by decide +kernel
theorem dX12_table_65 : decode cX12_table 65 = .ok (.invokevirtual 310, 3) := by decide +kernel
theorem dX12_table_68 : decode cX12_table 68 = .ok (.ifCond .ne 5, 3) := by decide +kernel
theorem dX12_table_71 : decode cX12_table 71 = .ok (.iconst (-1), 1) := by decide +kernel
theorem dX12_table_72 : decode cX12_table 72 = .ok (.ireturn, 1) := by decide +kernel
theorem dX12_table_73 : decode cX12_table 73 = .ok (.aload_n 0, 1) := by decide +kernel
theorem dX12_table_74 : decode cX12_table 74 = .ok (.iconst 4, 1) := by decide +kernel
theorem dX12_table_75 : decode cX12_table 75 = .ok (.iconst 0, 1) := by decide +kernel
theorem dX12_table_76 : decode cX12_table 76 = .ok (.invokevirtual 313, 3) := by decide +kernel
theorem dX12_table_79 : decode cX12_table 79 = .ok (.aload_n 0, 1) := by decide +kernel
theorem dX12_table_80 : decode cX12_table 80 = .ok (.getfield 35, 3) := by decide +kernel
theorem dX12_table_83 : decode cX12_table 83 = .ok (.iconst 2, 1) := by decide +kernel
theorem dX12_table_84 : decode cX12_table 84 = .ok (.iaload, 1) := by decide +kernel
theorem dX12_table_85 : decode cX12_table 85 = .ok (.ireturn, 1) := by decide +kernel
theorem dX12_readTest_0 : decode cX12_readTest 0 = .ok (.aload_n 0, 1) := by decide +kernel
theorem dX12_readTest_1 : decode cX12_readTest 1 = .ok (.invokevirtual 197, 3) := by decide +kernel
theorem dX12_readTest_4 : decode cX12_readTest 4 = .ok (.istore_n 2, 1) := by decide +kernel
theorem dX12_readTest_5 : decode cX12_readTest 5 = .ok (.aload_n 0, 1) := by decide +kernel
theorem dX12_readTest_6 : decode cX12_readTest 6 = .ok (.iload_n 2, 1) := by decide +kernel
theorem dX12_readTest_7 : decode cX12_readTest 7 = .ok (.ifCond .lt 7, 3) := by decide +kernel
theorem dX12_readTest_10 : decode cX12_readTest 10 = .ok (.iconst 1, 1) := by decide +kernel
theorem dX12_readTest_11 : decode cX12_readTest 11 = .ok (.goto 4, 3) := by decide +kernel
theorem dX12_readTest_14 : decode cX12_readTest 14 = .ok (.iconst 0, 1) := by decide +kernel
theorem dX12_readTest_15 : decode cX12_readTest 15 = .ok (.invokevirtual 225, 3) := by decide +kernel
theorem dX12_readTest_18 : decode cX12_readTest 18 = .ok (.aload_n 0, 1) := by decide +kernel
theorem dX12_readTest_19 : decode cX12_readTest 19 = .ok (.getfield 35, 3) := by decide +kernel
theorem dX12_readTest_22 : decode cX12_readTest 22 = .ok (.iload_n 1, 1) := by decide +kernel
theorem dX12_readTest_23 : decode cX12_readTest 23 = .ok (.iconst 5, 1) := by decide +kernel
theorem dX12_readTest_24 : decode cX12_readTest 24 = .ok (.iadd, 1) := by decide +kernel
theorem dX12_readTest_25 : decode cX12_readTest 25 = .ok (.iload_n 2, 1) := by decide +kernel
theorem dX12_readTest_26 : decode cX12_readTest 26 = .ok (.iastore, 1) := by decide +kernel
theorem dX12_readTest_27 : decode cX12_readTest 27 = .ok (.aload_n 0, 1) := by decide +kernel
theorem dX12_readTest_28 : decode cX12_readTest 28 = .ok (.getfield 35, 3) := by decide +kernel
theorem dX12_readTest_31 : decode cX12_readTest 31 = .ok (.iload_n 1, 1) := by decide +kernel
theorem dX12_readTest_32 : decode cX12_readTest 32 = .ok (.iconst 1, 1) := by decide +kernel
theorem dX12_readTest_33 : decode cX12_readTest 33 = .ok (.iadd, 1) := by decide +kernel
theorem dX12_readTest_34 : decode cX12_readTest 34 = .ok (.aload_n 0, 1) := by decide +kernel
theorem dX12_readTest_35 : decode cX12_readTest 35 = .ok (.iconst 0, 1) := by decide +kernel
theorem dX12_readTest_36 : decode cX12_readTest 36 = .ok (.iload_n 2, 1) := by decide +kernel
theorem dX12_readTest_37 : decode cX12_readTest 37 = .ok (.ifCond .ne 7, 3) := by decide +kernel
theorem dX12_readTest_40 : decode cX12_readTest 40 = .ok (.iconst 1, 1) := by decide +kernel
theorem dX12_readTest_41 : decode cX12_readTest 41 = .ok (.goto 4, 3) := by decide +kernel
theorem dX12_readTest_44 : decode cX12_readTest 44 = .ok (.iconst 2, 1) := by decide +kernel
theorem dX12_readTest_45 : decode cX12_readTest 45 = .ok (.invokevirtual 264, 3) := by decide +kernel
theorem dX12_readTest_48 : decode cX12_readTest 48 = .ok (.iastore, 1) := by decide +kernel
theorem dX12_readTest_49 : decode cX12_readTest 49 = .ok (.aload_n 0, 1) := by decide +kernel
theorem dX12_readTest_50 : decode cX12_readTest 50 = .ok (.getfield 206, 3) := by decide +kernel
theorem dX12_readTest_53 : decode cX12_readTest 53 = .ok (.ifCond .gt 8, 3) := by decide +kernel
theorem dX12_readTest_56 : decode cX12_readTest 56 = .ok (.iload_n 2, 1) := by decide +kernel
theorem dX12_readTest_57 : decode cX12_readTest 57 = .ok (.iconst 2, 1) := by decide +kernel
theorem dX12_readTest_58 : decode cX12_readTest 58 = .ok (.if_icmp .ge 4, 3) := by decide +kernel
theorem dX12_readTest_61 : decode cX12_readTest 61 = .ok (.return_, 1) := by decide +kernel
theorem dX12_readTest_62 : decode cX12_readTest 62 = .ok (.aload_n 0, 1) := by decide +kernel
theorem dX12_readTest_63 : decode cX12_readTest 63 = .ok (.getfield 35, 3) := by decide +kernel
theorem dX12_readTest_66 : decode cX12_readTest 66 = .ok (.iload_n 1, 1) := by decide +kernel
theorem dX12_readTest_67 : decode cX12_readTest 67 = .ok (.bipush 7, 2) := by decide +kernel
theorem dX12_readTest_69 : decode cX12_readTest 69 = .ok (.iadd, 1) := by decide +kernel
theorem dX12_readTest_70 : decode cX12_readTest 70 = .ok (.aload_n 0, 1) := by decide +kernel
theorem dX12_readTest_71 : decode cX12_readTest 71 = .ok (.getfield 118, 3) := by decide +kernel
theorem dX12_readTest_74 : decode cX12_readTest 74 = .ok (.iconst 3, 1) := by decide +kernel
theorem dX12_readTest_75 : decode cX12_readTest 75 = .ok (.if_icmp .ne 10, 3) := by decide +kernel
theorem dX12_readTest_78 : decode cX12_readTest 78 = .ok (.aload_n 0, 1) := by decide +kernel
theorem dX12_readTest_79 : decode cX12_readTest 79 = .ok (.getfield 137, 3) := by decide +kernel
theorem dX12_readTest_82 : decode cX12_readTest 82 = .ok (.goto 4, 3) := by decide +kernel
theorem dX12_readTest_85 : decode cX12_readTest 85 = .ok (.iconst 0, 1) := by decide +kernel
theorem dX12_readTest_86 : decode cX12_readTest 86 = .ok (.iastore, 1) := by decide +kernel
theorem dX12_readTest_87 : decode cX12_readTest 87 = .ok (.aload_n 0, 1) := by decide +kernel
theorem dX12_readTest_88 : decode cX12_readTest 88 = .ok (.aload_n 0, 1) := by decide +kernel
theorem dX12_readTest_89 : decode cX12_readTest 89 = .ok (.bipush 60, 2) := by decide +kernel
theorem dX12_readTest_91 : decode cX12_readTest 91 = .ok (.invokevirtual 307, 3) := by decide +kernel
theorem dX12_readTest_94 : decode cX12_readTest 94 = .ok (.ifCond .ne 21, 3) := by decide +kernel
theorem dX12_readTest_97 : decode cX12_readTest 97 = .ok (.aload_n 0, 1) := by decide +kernel
theorem dX12_readTest_98 : decode cX12_readTest 98 = .ok (.bipush 62, 2) := by decide +kernel
theorem dX12_readTest_100 : decode cX12_readTest 100 = .ok (.invokevirtual 307, 3) := by decide +kernel
theorem dX12_readTest_103 : decode cX12_readTest 103 = .ok (.ifCond .ne 12, 3) := by decide +kernel
theorem dX12_readTest_106 : decode cX12_readTest 106 = .ok (.aload_n 0, 1) := by decide +kernel
theorem dX12_readTest_107 : decode cX12_readTest 107 = .ok (.bipush 61, 2) := by decide +kernel
theorem dX12_readTest_109 : decode cX12_readTest 109 = .ok (.invokevirtual 307, 3) := by decide +kernel
theorem dX12_readTest_112 : decode cX12_readTest 112 = .ok (.ifCond .eq 7, 3) := by decide +kernel
theorem dX12_readTest_115 : decode cX12_readTest 115 = .ok (.iconst 1, 1) := by decide +kernel
theorem dX12_readTest_116 : decode cX12_readTest 116 = .ok (.goto 4, 3) := by decide +kernel
theorem dX12_readTest_119 : decode cX12_readTest 119 = .ok (.iconst 0, 1) := by decide +kernel
theorem dX12_readTest_120 : decode cX12_readTest 120 = .ok (.invokevirtual 225, 3) := by decide +kernel
theorem dX12_readTest_123 : decode cX12_readTest 123 = .ok (.aload_n 0, 1) := by decide +kernel
theorem dX12_readTest_124 : decode cX12_readTest 124 = .ok (.getfield 35, 3) := by decide +kernel
theorem dX12_readTest_127 : decode cX12_readTest 127 = .ok (.iload_n 1, 1) := by decide +kernel
theorem dX12_readTest_128 : decode cX12_readTest 128 = .ok (.bipush 6, 2) := by decide +kernel
theorem dX12_readTest_130 : decode cX12_readTest 130 = .ok (.iadd, 1) := by decide +kernel
theorem dX12_readTest_131 : decode cX12_readTest 131 = .ok (.aload_n 0, 1) := by decide +kernel
theorem dX12_readTest_132 : decode cX12_readTest 132 = .ok (.iconst 0, 1) := by decide +kernel
theorem dX12_readTest_133 : decode cX12_readTest 133 = .ok (.bipush 9, 2) := by decide +kernel
theorem dX12_readTest_135 : decode cX12_readTest 135 = .ok (.invokevirtual 229, 3) := by decide +kernel
theorem dX12_readTest_138 : decode cX12_readTest 138 = .ok (.iastore, 1) := by decide +kernel
theorem dX12_readTest_139 : decode cX12_readTest 139 = .ok (.return_, 1) := by decide +kernel
theorem dX12_readRest_0 : decode cX12_readRest 0 = .ok (.aload_n 0, 1) := by decide +kernel
theorem dX12_readRest_1 : decode cX12_readRest 1 = .ok (.getfield 35, 3) := by decide +kernel
theorem dX12_readRest_4 : decode cX12_readRest 4 = .ok (.iload_n 1, 1) := by decide +kernel
theorem dX12_readRest_5 : decode cX12_readRest 5 = .ok (.iaload, 1) := by decide +kernel
theorem dX12_readRest_6 : decode cX12_readRest 6 = .ok (.istore_n 2, 1) := by decide +kernel
theorem dX12_readRest_7 : decode cX12_readRest 7 = .ok (.iload_n 2, 1) := by decide +kernel
theorem dX12_readRest_8 : decode cX12_readRest 8 = .ok (.iconst 3, 1) := by decide +kernel
theorem dX12_readRest_9 : decode cX12_readRest 9 = .ok (.if_icmp .ge 17, 3) := by decide +kernel
theorem dX12_readRest_12 : decode cX12_readRest 12 = .ok (.aload_n 0, 1) := by decide +kernel
theorem dX12_readRest_13 : decode cX12_readRest 13 = .ok (.getfield 35, 3) := by decide +kernel
theorem dX12_readRest_16 : decode cX12_readRest 16 = .ok (.iload_n 1, 1) := by decide +kernel
theorem dX12_readRest_17 : decode cX12_readRest 17 = .ok (.iconst 1, 1) := by decide +kernel
theorem dX12_readRest_18 : decode cX12_readRest 18 = .ok (.iadd, 1) := by decide +kernel
theorem dX12_readRest_19 : decode cX12_readRest 19 = .ok (.aload_n 0, 1) := by decide +kernel
theorem dX12_readRest_20 : decode cX12_readRest 20 = .ok (.iconst 0, 1) := by decide +kernel
theorem dX12_readRest_21 : decode cX12_readRest 21 = .ok (.iconst 2, 1) := by decide +kernel
theorem dX12_readRest_22 : decode cX12_readRest 22 = .ok (.invokevirtual 264, 3) := by decide +kernel
theorem dX12_readRest_25 : decode cX12_readRest 25 = .ok (.iastore, 1) := by decide +kernel
theorem dX12_readRest_26 : decode cX12_readRest 26 = .ok (.iload_n 2, 1) := by decide +kernel
theorem dX12_readRest_27 : decode cX12_readRest 27 = .ok (.ifCond .ne 20, 3) := by decide +kernel
theorem dX12_readRest_30 : decode cX12_readRest 30 = .ok (.aload_n 0, 1) := by decide +kernel
theorem dX12_readRest_31 : decode cX12_readRest 31 = .ok (.getfield 35, 3) := by decide +kernel
theorem dX12_readRest_34 : decode cX12_readRest 34 = .ok (.iload_n 1, 1) := by decide +kernel
theorem dX12_readRest_35 : decode cX12_readRest 35 = .ok (.iconst 2, 1) := by decide +kernel
theorem dX12_readRest_36 : decode cX12_readRest 36 = .ok (.iadd, 1) := by decide +kernel
theorem dX12_readRest_37 : decode cX12_readRest 37 = .ok (.aload_n 0, 1) := by decide +kernel
theorem dX12_readRest_38 : decode cX12_readRest 38 = .ok (.iconst 0, 1) := by decide +kernel
theorem dX12_readRest_39 : decode cX12_readRest 39 = .ok (.iconst 1, 1) := by decide +kernel
theorem dX12_readRest_40 : decode cX12_readRest 40 = .ok (.invokevirtual 264, 3) := by decide +kernel
theorem dX12_readRest_43 : decode cX12_readRest 43 = .ok (.iastore, 1) := by decide +kernel
theorem dX12_readRest_44 : decode cX12_readRest 44 = .ok (.goto 88, 3) := by decide +kernel
theorem dX12_readRest_47 : decode cX12_readRest 47 = .ok (.iload_n 2, 1) := by decide +kernel
theorem dX12_readRest_48 : decode cX12_readRest 48 = .ok (.iconst 1, 1) := by decide +kernel
theorem dX12_readRest_49 : decode cX12_readRest 49 = .ok (.if_icmp .ne 21, 3) := by decide +kernel
theorem dX12_readRest_52 : decode cX12_readRest 52 = .ok (.aload_n 0, 1) := by decide +kernel
theorem dX12_readRest_53 : decode cX12_readRest 53 = .ok (.getfield 35, 3) := by decide +kernel
theorem dX12_readRest_56 : decode cX12_readRest 56 = .ok (.iload_n 1, 1) := by decide +kernel
theorem dX12_readRest_57 : decode cX12_readRest 57 = .ok (.iconst 2, 1) := by decide +kernel
theorem dX12_readRest_58 : decode cX12_readRest 58 = .ok (.iadd, 1) := by decide +kernel
theorem dX12_readRest_59 : decode cX12_readRest 59 = .ok (.aload_n 0, 1) := by decide +kernel
theorem dX12_readRest_60 : decode cX12_readRest 60 = .ok (.iconst 1, 1) := by decide +kernel
theorem dX12_readRest_61 : decode cX12_readRest 61 = .ok (.bipush 9, 2) := by decide +kernel
theorem dX12_readRest_63 : decode cX12_readRest 63 = .ok (.invokevirtual 229, 3) := by decide +kernel
theorem dX12_readRest_66 : decode cX12_readRest 66 = .ok (.iastore, 1) := by decide +kernel
theorem dX12_readRest_67 : decode cX12_readRest 67 = .ok (.goto 65, 3) := by decide +kernel
theorem dX12_readRest_70 : decode cX12_readRest 70 = .ok (.iload_n 2, 1) := by decide +kernel
theorem dX12_readRest_71 : decode cX12_readRest 71 = .ok (.iconst 3, 1) := by decide +kernel
theorem dX12_readRest_72 : decode cX12_readRest 72 = .ok (.if_icmp .eq 8, 3) := by decide +kernel
theorem dX12_readRest_75 : decode cX12_readRest 75 = .ok (.iload_n 2, 1) := by decide +kernel
theorem dX12_readRest_76 : decode cX12_readRest 76 = .ok (.iconst 4, 1) := by decide +kernel
theorem dX12_readRest_77 : decode cX12_readRest 77 = .ok (.if_icmp .ne 20, 3) := by decide +kernel
theorem dX12_readRest_80 : decode cX12_readRest 80 = .ok (.aload_n 0, 1) := by decide +kernel
theorem dX12_readRest_81 : decode cX12_readRest 81 = .ok (.getfield 35, 3) := by decide +kernel
theorem dX12_readRest_84 : decode cX12_readRest 84 = .ok (.iload_n 1, 1) := by decide +kernel
theorem dX12_readRest_85 : decode cX12_readRest 85 = .ok (.iconst 1, 1) := by decide +kernel
theorem dX12_readRest_86 : decode cX12_readRest 86 = .ok (.iadd, 1) := by decide +kernel
theorem dX12_readRest_87 : decode cX12_readRest 87 = .ok (.aload_n 0, 1) := by decide +kernel
theorem dX12_readRest_88 : decode cX12_readRest 88 = .ok (.iconst 0, 1) := by decide +kernel
theorem dX12_readRest_89 : decode cX12_readRest 89 = .ok (.iconst 1, 1) := by decide +kernel
theorem dX12_readRest_90 : decode cX12_readRest 90 = .ok (.invokevirtual 264, 3) := by decide +kernel
theorem dX12_readRest_93 : decode cX12_readRest 93 = .ok (.iastore, 1) := by decide +kernel
theorem dX12_readRest_94 : decode cX12_readRest 94 = .ok (.goto 38, 3) := by decide +kernel
theorem dX12_readRest_97 : decode cX12_readRest 97 = .ok (.iload_n 2, 1) := by decide +kernel
theorem dX12_readRest_98 : decode cX12_readRest 98 = .ok (.bipush 7, 2) := by decide +kernel
theorem dX12_readRest_100 : decode cX12_readRest 100 = .ok (.if_icmp .ne 21, 3) := by decide +kernel
theorem dX12_readRest_103 : decode cX12_readRest 103 = .ok (.aload_n 0, 1) := by decide +kernel
theorem dX12_readRest_104 : decode cX12_readRest 104 = .ok (.getfield 35, 3) := by decide +kernel
theorem dX12_readRest_107 : decode cX12_readRest 107 = .ok (.iload_n 1, 1) := by decide +kernel
theorem dX12_readRest_108 : decode cX12_readRest 108 = .ok (.iconst 1, 1) := by decide +kernel
theorem dX12_readRest_109 : decode cX12_readRest 109 = .ok (.iadd, 1) := by decide +kernel
theorem dX12_readRest_110 : decode cX12_readRest 110 = .ok (.aload_n 0, 1) := by decide +kernel
theorem dX12_readRest_111 : decode cX12_readRest 111 = .ok (.iconst 1, 1) := by decide +kernel
theorem dX12_readRest_112 : decode cX12_readRest 112 = .ok (.bipush 99, 2) := by decide +kernel
theorem dX12_readRest_114 : decode cX12_readRest 114 = .ok (.invokevirtual 229, 3) := by decide +kernel
theorem dX12_readRest_117 : decode cX12_readRest 117 = .ok (.iastore, 1) := by decide +kernel
theorem dX12_readRest_118 : decode cX12_readRest 118 = .ok (.goto 14, 3) := by decide +kernel
theorem dX12_readRest_121 : decode cX12_readRest 121 = .ok (.iload_n 2, 1) := by decide +kernel
theorem dX12_readRest_122 : decode cX12_readRest 122 = .ok (.bipush 6, 2) := by decide +kernel
theorem dX12_readRest_124 : decode cX12_readRest 124 = .ok (.if_icmp .ne 8, 3) := by decide +kernel
theorem dX12_readRest_127 : decode cX12_readRest 127 = .ok (.aload_n 0, 1) := by decide +kernel
theorem dX12_readRest_128 : decode cX12_readRest 128 = .ok (.iload_n 1, 1) := by decide +kernel
theorem dX12_readRest_129 : decode cX12_readRest 129 = .ok (.invokevirtual 316, 3) := by decide +kernel
theorem dX12_readRest_132 : decode cX12_readRest 132 = .ok (.return_, 1) := by decide +kernel
theorem dX12_readStep_0 : decode cX12_readStep 0 = .ok (.aload_n 0, 1) := by decide +kernel
theorem dX12_readStep_1 : decode cX12_readStep 1 = .ok (.invokevirtual 193, 3) := by decide +kernel
theorem dX12_readStep_4 : decode cX12_readStep 4 = .ok (.istore_n 2, 1) := by decide +kernel
theorem dX12_readStep_5 : decode cX12_readStep 5 = .ok (.iload_n 2, 1) := by decide +kernel
theorem dX12_readStep_6 : decode cX12_readStep 6 = .ok (.bipush 6, 2) := by decide +kernel
theorem dX12_readStep_8 : decode cX12_readStep 8 = .ok (.if_icmp .eq 9, 3) := by decide +kernel
theorem dX12_readStep_11 : decode cX12_readStep 11 = .ok (.iload_n 2, 1) := by decide +kernel
theorem dX12_readStep_12 : decode cX12_readStep 12 = .ok (.bipush 7, 2) := by decide +kernel
theorem dX12_readStep_14 : decode cX12_readStep 14 = .ok (.if_icmp .ne 7, 3) := by decide +kernel
theorem dX12_readStep_17 : decode cX12_readStep 17 = .ok (.iconst 1, 1) := by decide +kernel
theorem dX12_readStep_18 : decode cX12_readStep 18 = .ok (.goto 4, 3) := by decide +kernel
theorem dX12_readStep_21 : decode cX12_readStep 21 = .ok (.iconst 0, 1) := by decide +kernel
theorem dX12_readStep_22 : decode cX12_readStep 22 = .ok (.istore_n 3, 1) := by decide +kernel
theorem dX12_readStep_23 : decode cX12_readStep 23 = .ok (.iload_n 2, 1) := by decide +kernel
theorem dX12_readStep_24 : decode cX12_readStep 24 = .ok (.ifCond .ge 7, 3) := by decide +kernel
theorem dX12_readStep_27 : decode cX12_readStep 27 = .ok (.aload_n 0, 1) := by decide +kernel
theorem dX12_readStep_28 : decode cX12_readStep 28 = .ok (.invokevirtual 219, 3) := by decide +kernel
theorem dX12_readStep_31 : decode cX12_readStep 31 = .ok (.aload_n 0, 1) := by decide +kernel
theorem dX12_readStep_32 : decode cX12_readStep 32 = .ok (.getfield 206, 3) := by decide +kernel
theorem dX12_readStep_35 : decode cX12_readStep 35 = .ok (.ifCond .ne 22, 3) := by decide +kernel
theorem dX12_readStep_38 : decode cX12_readStep 38 = .ok (.aload_n 0, 1) := by decide +kernel
theorem dX12_readStep_39 : decode cX12_readStep 39 = .ok (.getfield 319, 3) := by decide +kernel
theorem dX12_readStep_42 : decode cX12_readStep 42 = .ok (.bipush 30, 2) := by decide +kernel
theorem dX12_readStep_44 : decode cX12_readStep 44 = .ok (.if_icmp .ne 13, 3) := by decide +kernel
theorem dX12_readStep_47 : decode cX12_readStep 47 = .ok (.aload_n 0, 1) := by decide +kernel
theorem dX12_readStep_48 : decode cX12_readStep 48 = .ok (.bipush 6, 2) := by decide +kernel
theorem dX12_readStep_50 : decode cX12_readStep 50 = .ok (.aload_n 0, 1) := by decide +kernel
theorem dX12_readStep_51 : decode cX12_readStep 51 = .ok (.getfield 112, 3) := by decide +kernel
theorem dX12_readStep_54 : decode cX12_readStep 54 = .ok (.invokevirtual 212, 3) := by decide +kernel
theorem dX12_readStep_57 : decode cX12_readStep 57 = .ok (.aload_n 0, 1) := by decide +kernel
theorem dX12_readStep_58 : decode cX12_readStep 58 = .ok (.getfield 206, 3) := by decide +kernel
theorem dX12_readStep_61 : decode cX12_readStep 61 = .ok (.ifCond .ne 22, 3) := by decide +kernel
theorem dX12_readStep_64 : decode cX12_readStep 64 = .ok (.iload_n 3, 1) := by decide +kernel
theorem dX12_readStep_65 : decode cX12_readStep 65 = .ok (.ifCond .eq 18, 3) := by decide +kernel
theorem dX12_readStep_68 : decode cX12_readStep 68 = .ok (.iload_n 1, 1) := by decide +kernel
theorem dX12_readStep_69 : decode cX12_readStep 69 = .ok (.iconst 3, 1) := by decide +kernel
theorem dX12_readStep_70 : decode cX12_readStep 70 = .ok (.if_icmp .ne 13, 3) := by decide +kernel
theorem dX12_readStep_73 : decode cX12_readStep 73 = .ok (.aload_n 0, 1) := by decide +kernel
theorem dX12_readStep_74 : decode cX12_readStep 74 = .ok (.bipush 7, 2) := by decide +kernel
theorem dX12_readStep_76 : decode cX12_readStep 76 = .ok (.aload_n 0, 1) := by decide +kernel
theorem dX12_readStep_77 : decode cX12_readStep 77 = .ok (.getfield 112, 3) := by decide +kernel
theorem dX12_readStep_80 : decode cX12_readStep 80 = .ok (.invokevirtual 212, 3) := by decide +kernel
theorem dX12_readStep_83 : decode cX12_readStep 83 = .ok (.aload_n 0, 1) := by decide +kernel
theorem dX12_readStep_84 : decode cX12_readStep 84 = .ok (.getfield 206, 3) := by decide +kernel
theorem dX12_readStep_87 : decode cX12_readStep 87 = .ok (.ifCond .le 4, 3) := by decide +kernel
theorem dX12_readStep_90 : decode cX12_readStep 90 = .ok (.return_, 1) := by decide +kernel
theorem dX12_readStep_91 : decode cX12_readStep 91 = .ok (.sipush 1550, 3) := by decide +kernel
theorem dX12_readStep_94 : decode cX12_readStep 94 = .ok (.bipush 9, 2) := by decide +kernel
theorem dX12_readStep_96 : decode cX12_readStep 96 = .ok (.aload_n 0, 1) := by decide +kernel
theorem dX12_readStep_97 : decode cX12_readStep 97 = .ok (.getfield 319, 3) := by decide +kernel
theorem dX12_readStep_100 : decode cX12_readStep 100 = .ok (.imul, 1) := by decide +kernel
theorem dX12_readStep_101 : decode cX12_readStep 101 = .ok (.iadd, 1) := by decide +kernel
theorem dX12_readStep_102 : decode cX12_readStep 102 = .ok (.istore 4, 2) := by decide +kernel
theorem dX12_readStep_104 : decode cX12_readStep 104 = .ok (.aload_n 0, 1) := by decide +kernel
theorem dX12_readStep_105 : decode cX12_readStep 105 = .ok (.dup, 1) := by decide +kernel
theorem dX12_readStep_106 : decode cX12_readStep 106 = .ok (.getfield 319, 3) := by decide +kernel
theorem dX12_readStep_109 : decode cX12_readStep 109 = .ok (.iconst 1, 1) := by decide +kernel
theorem dX12_readStep_110 : decode cX12_readStep 110 = .ok (.iadd, 1) := by decide +kernel
theorem dX12_readStep_111 : decode cX12_readStep 111 = .ok (.putfield 319, 3) := by decide +kernel
theorem dX12_readStep_114 : decode cX12_readStep 114 = .ok (.aload_n 0, 1) := by decide +kernel
theorem dX12_readStep_115 : decode cX12_readStep 115 = .ok (.invokevirtual 216, 3) := by decide +kernel
theorem dX12_readStep_118 : decode cX12_readStep 118 = .ok (.aload_n 0, 1) := by decide +kernel
theorem dX12_readStep_119 : decode cX12_readStep 119 = .ok (.getfield 35, 3) := by decide +kernel
theorem dX12_readStep_122 : decode cX12_readStep 122 = .ok (.iload 4, 2) := by decide +kernel
theorem dX12_readStep_124 : decode cX12_readStep 124 = .ok (.iload_n 2, 1) := by decide +kernel
theorem dX12_readStep_125 : decode cX12_readStep 125 = .ok (.iastore, 1) := by decide +kernel
theorem dX12_readStep_126 : decode cX12_readStep 126 = .ok (.aload_n 0, 1) := by decide +kernel
theorem dX12_readStep_127 : decode cX12_readStep 127 = .ok (.iload 4, 2) := by decide +kernel
theorem dX12_readStep_129 : decode cX12_readStep 129 = .ok (.invokevirtual 322, 3) := by decide +kernel
theorem dX12_readStep_132 : decode cX12_readStep 132 = .ok (.aload_n 0, 1) := by decide +kernel
theorem dX12_readStep_133 : decode cX12_readStep 133 = .ok (.aload_n 0, 1) := by decide +kernel
theorem dX12_readStep_134 : decode cX12_readStep 134 = .ok (.bipush 59, 2) := by decide +kernel
theorem dX12_readStep_136 : decode cX12_readStep 136 = .ok (.invokevirtual 307, 3) := by decide +kernel
theorem dX12_readStep_139 : decode cX12_readStep 139 = .ok (.invokevirtual 225, 3) := by decide +kernel
theorem dX12_readStep_142 : decode cX12_readStep 142 = .ok (.iload_n 3, 1) := by decide +kernel
theorem dX12_readStep_143 : decode cX12_readStep 143 = .ok (.ifCond .eq 27, 3) := by decide +kernel
theorem dX12_readStep_146 : decode cX12_readStep 146 = .ok (.aload_n 0, 1) := by decide +kernel
theorem dX12_readStep_147 : decode cX12_readStep 147 = .ok (.getfield 206, 3) := by decide +kernel
theorem dX12_readStep_150 : decode cX12_readStep 150 = .ok (.ifCond .ne 20, 3) := by decide +kernel
theorem dX12_readStep_153 : decode cX12_readStep 153 = .ok (.aload_n 0, 1) := by decide +kernel
theorem dX12_readStep_154 : decode cX12_readStep 154 = .ok (.invokevirtual 200, 3) := by decide +kernel
theorem dX12_readStep_157 : decode cX12_readStep 157 = .ok (.ifCond .ne 13, 3) := by decide +kernel
theorem dX12_readStep_160 : decode cX12_readStep 160 = .ok (.aload_n 0, 1) := by decide +kernel
theorem dX12_readStep_161 : decode cX12_readStep 161 = .ok (.iload_n 1, 1) := by decide +kernel
theorem dX12_readStep_162 : decode cX12_readStep 162 = .ok (.iconst 1, 1) := by decide +kernel
theorem dX12_readStep_163 : decode cX12_readStep 163 = .ok (.iadd, 1) := by decide +kernel
theorem dX12_readStep_164 : decode cX12_readStep 164 = .ok (.invokevirtual 325, 3) := by decide +kernel
theorem dX12_readStep_167 : decode cX12_readStep 167 = .ok (.goto (-25), 3) := by decide +kernel
theorem dX12_readStep_170 : decode cX12_readStep 170 = .ok (.iload_n 3, 1) := by decide +kernel
theorem dX12_readStep_171 : decode cX12_readStep 171 = .ok (.ifCond .eq 21, 3) := by decide +kernel
theorem dX12_readStep_174 : decode cX12_readStep 174 = .ok (.aload_n 0, 1) := by decide +kernel
theorem dX12_readStep_175 : decode cX12_readStep 175 = .ok (.aload_n 0, 1) := by decide +kernel
theorem dX12_readStep_176 : decode cX12_readStep 176 = .ok (.invokevirtual 200, 3) := by decide +kernel
theorem dX12_readStep_179 : decode cX12_readStep 179 = .ok (.invokevirtual 225, 3) := by decide +kernel
theorem dX12_readStep_182 : decode cX12_readStep 182 = .ok (.aload_n 0, 1) := by decide +kernel
theorem dX12_readStep_183 : decode cX12_readStep 183 = .ok (.aload_n 0, 1) := by decide +kernel
theorem dX12_readStep_184 : decode cX12_readStep 184 = .ok (.bipush 59, 2) := by decide +kernel
theorem dX12_readStep_186 : decode cX12_readStep 186 = .ok (.invokevirtual 307, 3) := by decide +kernel
theorem dX12_readStep_189 : decode cX12_readStep 189 = .ok (.invokevirtual 225, 3) := by decide +kernel
theorem dX12_readStep_192 : decode cX12_readStep 192 = .ok (.aload_n 0, 1) := by decide +kernel
theorem dX12_readStep_193 : decode cX12_readStep 193 = .ok (.getfield 35, 3) := by decide +kernel
theorem dX12_readStep_196 : decode cX12_readStep 196 = .ok (.iload 4, 2) := by decide +kernel
theorem dX12_readStep_198 : decode cX12_readStep 198 = .ok (.bipush 8, 2) := by decide +kernel
theorem dX12_readStep_200 : decode cX12_readStep 200 = .ok (.iadd, 1) := by decide +kernel
theorem dX12_readStep_201 : decode cX12_readStep 201 = .ok (.aload_n 0, 1) := by decide +kernel
theorem dX12_readStep_202 : decode cX12_readStep 202 = .ok (.getfield 319, 3) := by decide +kernel
theorem dX12_readStep_205 : decode cX12_readStep 205 = .ok (.iastore, 1) := by decide +kernel
theorem dX12_readStep_206 : decode cX12_readStep 206 = .ok (.return_, 1) := by decide +kernel
theorem dX12_evenings_0 : decode cX12_evenings 0 = .ok (.aload_n 0, 1) := by decide +kernel
theorem dX12_evenings_1 : decode cX12_evenings 1 = .ok (.iconst 0, 1) := by decide +kernel
theorem dX12_evenings_2 : decode cX12_evenings 2 = .ok (.putfield 63, 3) := by decide +kernel
theorem dX12_evenings_5 : decode cX12_evenings 5 = .ok (.aload_n 0, 1) := by decide +kernel
theorem dX12_evenings_6 : decode cX12_evenings 6 = .ok (.iconst 0, 1) := by decide +kernel
theorem dX12_evenings_7 : decode cX12_evenings 7 = .ok (.putfield 66, 3) := by decide +kernel
theorem dX12_evenings_10 : decode cX12_evenings 10 = .ok (.aload_n 0, 1) := by decide +kernel
theorem dX12_evenings_11 : decode cX12_evenings 11 = .ok (.iload_n 1, 1) := by decide +kernel
theorem dX12_evenings_12 : decode cX12_evenings 12 = .ok (.sipush 300, 3) := by decide +kernel
theorem dX12_evenings_15 : decode cX12_evenings 15 = .ok (.invokevirtual 301, 3) := by decide +kernel
theorem dX12_evenings_18 : decode cX12_evenings 18 = .ok (.ifCond .ne 5, 3) := by decide +kernel
theorem dX12_evenings_21 : decode cX12_evenings 21 = .ok (.iconst (-1), 1) := by decide +kernel
theorem dX12_evenings_22 : decode cX12_evenings 22 = .ok (.ireturn, 1) := by decide +kernel
theorem dX12_evenings_23 : decode cX12_evenings 23 = .ok (.aload_n 0, 1) := by decide +kernel
theorem dX12_evenings_24 : decode cX12_evenings 24 = .ok (.iconst 0, 1) := by decide +kernel
theorem dX12_evenings_25 : decode cX12_evenings 25 = .ok (.putfield 319, 3) := by decide +kernel
theorem dX12_evenings_28 : decode cX12_evenings 28 = .ok (.aload_n 0, 1) := by decide +kernel
theorem dX12_evenings_29 : decode cX12_evenings 29 = .ok (.getfield 206, 3) := by decide +kernel
theorem dX12_evenings_32 : decode cX12_evenings 32 = .ok (.ifCond .ne 18, 3) := by decide +kernel
theorem dX12_evenings_35 : decode cX12_evenings 35 = .ok (.aload_n 0, 1) := by decide +kernel
theorem dX12_evenings_36 : decode cX12_evenings 36 = .ok (.getfield 118, 3) := by decide +kernel
theorem dX12_evenings_39 : decode cX12_evenings 39 = .ok (.ifCond .eq 11, 3) := by decide +kernel
theorem dX12_evenings_42 : decode cX12_evenings 42 = .ok (.aload_n 0, 1) := by decide +kernel
theorem dX12_evenings_43 : decode cX12_evenings 43 = .ok (.iconst 0, 1) := by decide +kernel
theorem dX12_evenings_44 : decode cX12_evenings 44 = .ok (.invokevirtual 325, 3) := by decide +kernel
theorem dX12_evenings_47 : decode cX12_evenings 47 = .ok (.goto (-19), 3) := by decide +kernel
theorem dX12_evenings_50 : decode cX12_evenings 50 = .ok (.aload_n 0, 1) := by decide +kernel
theorem dX12_evenings_51 : decode cX12_evenings 51 = .ok (.invokevirtual 310, 3) := by decide +kernel
theorem dX12_evenings_54 : decode cX12_evenings 54 = .ok (.ifCond .ne 5, 3) := by decide +kernel
theorem dX12_evenings_57 : decode cX12_evenings 57 = .ok (.iconst (-1), 1) := by decide +kernel
theorem dX12_evenings_58 : decode cX12_evenings 58 = .ok (.ireturn, 1) := by decide +kernel
theorem dX12_evenings_59 : decode cX12_evenings 59 = .ok (.aload_n 0, 1) := by decide +kernel
theorem dX12_evenings_60 : decode cX12_evenings 60 = .ok (.getfield 35, 3) := by decide +kernel
theorem dX12_evenings_63 : decode cX12_evenings 63 = .ok (.bipush 92, 2) := by decide +kernel
theorem dX12_evenings_65 : decode cX12_evenings 65 = .ok (.iconst 1, 1) := by decide +kernel
theorem dX12_evenings_66 : decode cX12_evenings 66 = .ok (.iastore, 1) := by decide +kernel
theorem dX12_evenings_67 : decode cX12_evenings 67 = .ok (.aload_n 0, 1) := by decide +kernel
theorem dX12_evenings_68 : decode cX12_evenings 68 = .ok (.getfield 35, 3) := by decide +kernel
theorem dX12_evenings_71 : decode cX12_evenings 71 = .ok (.bipush 93, 2) := by decide +kernel
theorem dX12_evenings_73 : decode cX12_evenings 73 = .ok (.aload_n 0, 1) := by decide +kernel
theorem dX12_evenings_74 : decode cX12_evenings 74 = .ok (.getfield 319, 3) := by decide +kernel
theorem dX12_evenings_77 : decode cX12_evenings 77 = .ok (.iastore, 1) := by decide +kernel
theorem dX12_evenings_78 : decode cX12_evenings 78 = .ok (.iconst 0, 1) := by decide +kernel
theorem dX12_evenings_79 : decode cX12_evenings 79 = .ok (.istore_n 2, 1) := by decide +kernel
theorem dX12_evenings_80 : decode cX12_evenings 80 = .ok (.iload_n 2, 1) := by decide +kernel
theorem dX12_evenings_81 : decode cX12_evenings 81 = .ok (.bipush 9, 2) := by decide +kernel
theorem dX12_evenings_83 : decode cX12_evenings 83 = .ok (.aload_n 0, 1) := by decide +kernel
theorem dX12_evenings_84 : decode cX12_evenings 84 = .ok (.getfield 319, 3) := by decide +kernel
theorem dX12_evenings_87 : decode cX12_evenings 87 = .ok (.imul, 1) := by decide +kernel
theorem dX12_evenings_88 : decode cX12_evenings 88 = .ok (.if_icmp .ge 28, 3) := by decide +kernel
theorem dX12_evenings_91 : decode cX12_evenings 91 = .ok (.aload_n 0, 1) := by decide +kernel
theorem dX12_evenings_92 : decode cX12_evenings 92 = .ok (.getfield 35, 3) := by decide +kernel
theorem dX12_evenings_95 : decode cX12_evenings 95 = .ok (.bipush 94, 2) := by decide +kernel
theorem dX12_evenings_97 : decode cX12_evenings 97 = .ok (.iload_n 2, 1) := by decide +kernel
theorem dX12_evenings_98 : decode cX12_evenings 98 = .ok (.iadd, 1) := by decide +kernel
theorem dX12_evenings_99 : decode cX12_evenings 99 = .ok (.aload_n 0, 1) := by decide +kernel
theorem dX12_evenings_100 : decode cX12_evenings 100 = .ok (.getfield 35, 3) := by decide +kernel
theorem dX12_evenings_103 : decode cX12_evenings 103 = .ok (.sipush 1550, 3) := by decide +kernel
theorem dX12_evenings_106 : decode cX12_evenings 106 = .ok (.iload_n 2, 1) := by decide +kernel
theorem dX12_evenings_107 : decode cX12_evenings 107 = .ok (.iadd, 1) := by decide +kernel
theorem dX12_evenings_108 : decode cX12_evenings 108 = .ok (.iaload, 1) := by decide +kernel
theorem dX12_evenings_109 : decode cX12_evenings 109 = .ok (.iastore, 1) := by decide +kernel
theorem dX12_evenings_110 : decode cX12_evenings 110 = .ok (.iinc 2 1, 3) := by decide +kernel
theorem dX12_evenings_113 : decode cX12_evenings 113 = .ok (.goto (-33), 3) := by decide +kernel
theorem dX12_evenings_116 : decode cX12_evenings 116 = .ok (.aload_n 0, 1) := by decide +kernel
theorem dX12_evenings_117 : decode cX12_evenings 117 = .ok (.getfield 319, 3) := by decide +kernel
theorem dX12_evenings_120 : decode cX12_evenings 120 = .ok (.ireturn, 1) := by decide +kernel
theorem dX12_isTopicAt_0 : decode cX12_isTopicAt 0 = .ok (.iload_n 1, 1) := by decide +kernel
theorem dX12_isTopicAt_1 : decode cX12_isTopicAt 1 = .ok (.i2l, 1) := by decide +kernel
theorem dX12_isTopicAt_2 : decode cX12_isTopicAt 2 = .ok (.lconst 0, 1) := by decide +kernel
theorem dX12_isTopicAt_3 : decode cX12_isTopicAt 3 = .ok (.aload_n 0, 1) := by decide +kernel
theorem dX12_isTopicAt_4 : decode cX12_isTopicAt 4 = .ok (.getfield 35, 3) := by decide +kernel
theorem dX12_isTopicAt_7 : decode cX12_isTopicAt 7 = .ok (.iconst 0, 1) := by decide +kernel
theorem dX12_isTopicAt_8 : decode cX12_isTopicAt 8 = .ok (.iaload, 1) := by decide +kernel
theorem dX12_isTopicAt_9 : decode cX12_isTopicAt 9 = .ok (.iconst 1, 1) := by decide +kernel
theorem dX12_isTopicAt_10 : decode cX12_isTopicAt 10 = .ok (.isub, 1) := by decide +kernel
theorem dX12_isTopicAt_11 : decode cX12_isTopicAt 11 = .ok (.i2l, 1) := by decide +kernel
theorem dX12_isTopicAt_12 : decode cX12_isTopicAt 12 = .ok (.invokestatic 98, 3) := by decide +kernel
theorem dX12_isTopicAt_15 : decode cX12_isTopicAt 15 = .ok (.ireturn, 1) := by decide +kernel
theorem dX12_isClaimAt_0 : decode cX12_isClaimAt 0 = .ok (.iload_n 1, 1) := by decide +kernel
theorem dX12_isClaimAt_1 : decode cX12_isClaimAt 1 = .ok (.i2l, 1) := by decide +kernel
theorem dX12_isClaimAt_2 : decode cX12_isClaimAt 2 = .ok (.lconst 0, 1) := by decide +kernel
theorem dX12_isClaimAt_3 : decode cX12_isClaimAt 3 = .ok (.aload_n 0, 1) := by decide +kernel
theorem dX12_isClaimAt_4 : decode cX12_isClaimAt 4 = .ok (.getfield 35, 3) := by decide +kernel
theorem dX12_isClaimAt_7 : decode cX12_isClaimAt 7 = .ok (.iconst 1, 1) := by decide +kernel
theorem dX12_isClaimAt_8 : decode cX12_isClaimAt 8 = .ok (.iaload, 1) := by decide +kernel
theorem dX12_isClaimAt_9 : decode cX12_isClaimAt 9 = .ok (.iconst 1, 1) := by decide +kernel
theorem dX12_isClaimAt_10 : decode cX12_isClaimAt 10 = .ok (.isub, 1) := by decide +kernel
theorem dX12_isClaimAt_11 : decode cX12_isClaimAt 11 = .ok (.i2l, 1) := by decide +kernel
theorem dX12_isClaimAt_12 : decode cX12_isClaimAt 12 = .ok (.invokestatic 98, 3) := by decide +kernel
theorem dX12_isClaimAt_15 : decode cX12_isClaimAt 15 = .ok (.ireturn, 1) := by decide +kernel
theorem dX12_isTalkerAt_0 : decode cX12_isTalkerAt 0 = .ok (.iload_n 1, 1) := by decide +kernel
theorem dX12_isTalkerAt_1 : decode cX12_isTalkerAt 1 = .ok (.i2l, 1) := by decide +kernel
theorem dX12_isTalkerAt_2 : decode cX12_isTalkerAt 2 = .ok (.lconst 0, 1) := by decide +kernel
theorem dX12_isTalkerAt_3 : decode cX12_isTalkerAt 3 = .ok (.aload_n 0, 1) := by decide +kernel
theorem dX12_isTalkerAt_4 : decode cX12_isTalkerAt 4 = .ok (.getfield 35, 3) := by decide +kernel
theorem dX12_isTalkerAt_7 : decode cX12_isTalkerAt 7 = .ok (.iconst 2, 1) := by decide +kernel
theorem dX12_isTalkerAt_8 : decode cX12_isTalkerAt 8 = .ok (.iaload, 1) := by decide +kernel
theorem dX12_isTalkerAt_9 : decode cX12_isTalkerAt 9 = .ok (.iconst 1, 1) := by decide +kernel
theorem dX12_isTalkerAt_10 : decode cX12_isTalkerAt 10 = .ok (.isub, 1) := by decide +kernel
theorem dX12_isTalkerAt_11 : decode cX12_isTalkerAt 11 = .ok (.i2l, 1) := by decide +kernel
theorem dX12_isTalkerAt_12 : decode cX12_isTalkerAt 12 = .ok (.invokestatic 98, 3) := by decide +kernel
theorem dX12_isTalkerAt_15 : decode cX12_isTalkerAt 15 = .ok (.ireturn, 1) := by decide +kernel
theorem dX12_isHeight_0 : decode cX12_isHeight 0 = .ok (.iload_n 1, 1) := by decide +kernel
theorem dX12_isHeight_1 : decode cX12_isHeight 1 = .ok (.i2l, 1) := by decide +kernel
theorem dX12_isHeight_2 : decode cX12_isHeight 2 = .ok (.lconst 0, 1) := by decide +kernel
theorem dX12_isHeight_3 : decode cX12_isHeight 3 = .ok (.aload_n 0, 1) := by decide +kernel
theorem dX12_isHeight_4 : decode cX12_isHeight 4 = .ok (.getfield 35, 3) := by decide +kernel
theorem dX12_isHeight_7 : decode cX12_isHeight 7 = .ok (.iconst 0, 1) := by decide +kernel
theorem dX12_isHeight_8 : decode cX12_isHeight 8 = .ok (.iaload, 1) := by decide +kernel
theorem dX12_isHeight_9 : decode cX12_isHeight 9 = .ok (.i2l, 1) := by decide +kernel
theorem dX12_isHeight_10 : decode cX12_isHeight 10 = .ok (.invokestatic 98, 3) := by decide +kernel
theorem dX12_isHeight_13 : decode cX12_isHeight 13 = .ok (.ireturn, 1) := by decide +kernel
theorem dX12_standing_0 : decode cX12_standing 0 = .ok (.iconst 0, 1) := by decide +kernel
theorem dX12_standing_1 : decode cX12_standing 1 = .ok (.istore_n 3, 1) := by decide +kernel
theorem dX12_standing_2 : decode cX12_standing 2 = .ok (.iconst 0, 1) := by decide +kernel
theorem dX12_standing_3 : decode cX12_standing 3 = .ok (.istore 4, 2) := by decide +kernel
theorem dX12_standing_5 : decode cX12_standing 5 = .ok (.iload 4, 2) := by decide +kernel
theorem dX12_standing_7 : decode cX12_standing 7 = .ok (.aload_n 0, 1) := by decide +kernel
theorem dX12_standing_8 : decode cX12_standing 8 = .ok (.getfield 35, 3) := by decide +kernel
theorem dX12_standing_11 : decode cX12_standing 11 = .ok (.iconst 1, 1) := by decide +kernel
theorem dX12_standing_12 : decode cX12_standing 12 = .ok (.iaload, 1) := by decide +kernel
theorem dX12_standing_13 : decode cX12_standing 13 = .ok (.if_icmp .ge 90, 3) := by decide +kernel
theorem dX12_standing_16 : decode cX12_standing 16 = .ok (.aload_n 0, 1) := by decide +kernel
theorem dX12_standing_17 : decode cX12_standing 17 = .ok (.getfield 35, 3) := by decide +kernel
theorem dX12_standing_20 : decode cX12_standing 20 = .ok (.bipush 32, 2) := by decide +kernel
theorem dX12_standing_22 : decode cX12_standing 22 = .ok (.iload 4, 2) := by decide +kernel
theorem dX12_standing_24 : decode cX12_standing 24 = .ok (.iadd, 1) := by decide +kernel
theorem dX12_standing_25 : decode cX12_standing 25 = .ok (.iaload, 1) := by decide +kernel
theorem dX12_standing_26 : decode cX12_standing 26 = .ok (.istore 5, 2) := by decide +kernel
theorem dX12_standing_28 : decode cX12_standing 28 = .ok (.aload_n 0, 1) := by decide +kernel
theorem dX12_standing_29 : decode cX12_standing 29 = .ok (.getfield 35, 3) := by decide +kernel
theorem dX12_standing_32 : decode cX12_standing 32 = .ok (.bipush 40, 2) := by decide +kernel
theorem dX12_standing_34 : decode cX12_standing 34 = .ok (.iload 4, 2) := by decide +kernel
theorem dX12_standing_36 : decode cX12_standing 36 = .ok (.iadd, 1) := by decide +kernel
theorem dX12_standing_37 : decode cX12_standing 37 = .ok (.iaload, 1) := by decide +kernel
theorem dX12_standing_38 : decode cX12_standing 38 = .ok (.iconst 1, 1) := by decide +kernel
theorem dX12_standing_39 : decode cX12_standing 39 = .ok (.if_icmp .eq 26, 3) := by decide +kernel
theorem dX12_standing_42 : decode cX12_standing 42 = .ok (.iload_n 1, 1) := by decide +kernel
theorem dX12_standing_43 : decode cX12_standing 43 = .ok (.iload 4, 2) := by decide +kernel
theorem dX12_standing_45 : decode cX12_standing 45 = .ok (.invokestatic 102, 3) := by decide +kernel
theorem dX12_standing_48 : decode cX12_standing 48 = .ok (.ifCond .ne 17, 3) := by decide +kernel
theorem dX12_standing_51 : decode cX12_standing 51 = .ok (.iload 5, 2) := by decide +kernel
theorem dX12_standing_53 : decode cX12_standing 53 = .ok (.ifCond .eq 16, 3) := by decide +kernel
theorem dX12_standing_56 : decode cX12_standing 56 = .ok (.iload 5, 2) := by decide +kernel
theorem dX12_standing_58 : decode cX12_standing 58 = .ok (.iload_n 3, 1) := by decide +kernel
theorem dX12_standing_59 : decode cX12_standing 59 = .ok (.iconst (-1), 1) := by decide +kernel
theorem dX12_standing_60 : decode cX12_standing 60 = .ok (.ixor, 1) := by decide +kernel
theorem dX12_standing_61 : decode cX12_standing 61 = .ok (.iand, 1) := by decide +kernel
theorem dX12_standing_62 : decode cX12_standing 62 = .ok (.ifCond .ne 7, 3) := by decide +kernel
theorem dX12_standing_65 : decode cX12_standing 65 = .ok (.iconst 1, 1) := by decide +kernel
theorem dX12_standing_66 : decode cX12_standing 66 = .ok (.goto 4, 3) := by decide +kernel
theorem dX12_standing_69 : decode cX12_standing 69 = .ok (.iconst 0, 1) := by decide +kernel
theorem dX12_standing_70 : decode cX12_standing 70 = .ok (.istore 6, 2) := by decide +kernel
theorem dX12_standing_72 : decode cX12_standing 72 = .ok (.iload_n 3, 1) := by decide +kernel
theorem dX12_standing_73 : decode cX12_standing 73 = .ok (.iload 6, 2) := by decide +kernel
theorem dX12_standing_75 : decode cX12_standing 75 = .ok (.ifCond .eq 19, 3) := by decide +kernel
theorem dX12_standing_78 : decode cX12_standing 78 = .ok (.iload_n 2, 1) := by decide +kernel
theorem dX12_standing_79 : decode cX12_standing 79 = .ok (.iload 4, 2) := by decide +kernel
theorem dX12_standing_81 : decode cX12_standing 81 = .ok (.invokestatic 102, 3) := by decide +kernel
theorem dX12_standing_84 : decode cX12_standing 84 = .ok (.ifCond .ne 10, 3) := by decide +kernel
theorem dX12_standing_87 : decode cX12_standing 87 = .ok (.iconst 1, 1) := by decide +kernel
theorem dX12_standing_88 : decode cX12_standing 88 = .ok (.iload 4, 2) := by decide +kernel
theorem dX12_standing_90 : decode cX12_standing 90 = .ok (.ishl, 1) := by decide +kernel
theorem dX12_standing_91 : decode cX12_standing 91 = .ok (.goto 4, 3) := by decide +kernel
theorem dX12_standing_94 : decode cX12_standing 94 = .ok (.iconst 0, 1) := by decide +kernel
theorem dX12_standing_95 : decode cX12_standing 95 = .ok (.ior, 1) := by decide +kernel
theorem dX12_standing_96 : decode cX12_standing 96 = .ok (.istore_n 3, 1) := by decide +kernel
theorem dX12_standing_97 : decode cX12_standing 97 = .ok (.iinc 4 1, 3) := by decide +kernel
theorem dX12_standing_100 : decode cX12_standing 100 = .ok (.goto (-95), 3) := by decide +kernel
theorem dX12_standing_103 : decode cX12_standing 103 = .ok (.iload_n 3, 1) := by decide +kernel
theorem dX12_standing_104 : decode cX12_standing 104 = .ok (.ireturn, 1) := by decide +kernel
theorem dX12_isHollow_0 : decode cX12_isHollow 0 = .ok (.aload_n 0, 1) := by decide +kernel
theorem dX12_isHollow_1 : decode cX12_isHollow 1 = .ok (.iconst 0, 1) := by decide +kernel
theorem dX12_isHollow_2 : decode cX12_isHollow 2 = .ok (.iconst 0, 1) := by decide +kernel
theorem dX12_isHollow_3 : decode cX12_isHollow 3 = .ok (.invokevirtual 328, 3) := by decide +kernel
theorem dX12_isHollow_6 : decode cX12_isHollow 6 = .ok (.iload_n 1, 1) := by decide +kernel
theorem dX12_isHollow_7 : decode cX12_isHollow 7 = .ok (.invokestatic 102, 3) := by decide +kernel
theorem dX12_isHollow_10 : decode cX12_isHollow 10 = .ok (.ifCond .ne 7, 3) := by decide +kernel
theorem dX12_isHollow_13 : decode cX12_isHollow 13 = .ok (.iconst 1, 1) := by decide +kernel
theorem dX12_isHollow_14 : decode cX12_isHollow 14 = .ok (.goto 4, 3) := by decide +kernel
theorem dX12_isHollow_17 : decode cX12_isHollow 17 = .ok (.iconst 0, 1) := by decide +kernel
theorem dX12_isHollow_18 : decode cX12_isHollow 18 = .ok (.ireturn, 1) := by decide +kernel
theorem dX12_propped_0 : decode cX12_propped 0 = .ok (.iconst 0, 1) := by decide +kernel
theorem dX12_propped_1 : decode cX12_propped 1 = .ok (.istore_n 1, 1) := by decide +kernel
theorem dX12_propped_2 : decode cX12_propped 2 = .ok (.iconst 0, 1) := by decide +kernel
theorem dX12_propped_3 : decode cX12_propped 3 = .ok (.istore_n 2, 1) := by decide +kernel
theorem dX12_propped_4 : decode cX12_propped 4 = .ok (.iload_n 2, 1) := by decide +kernel
theorem dX12_propped_5 : decode cX12_propped 5 = .ok (.aload_n 0, 1) := by decide +kernel
theorem dX12_propped_6 : decode cX12_propped 6 = .ok (.getfield 35, 3) := by decide +kernel
theorem dX12_propped_9 : decode cX12_propped 9 = .ok (.iconst 1, 1) := by decide +kernel
theorem dX12_propped_10 : decode cX12_propped 10 = .ok (.iaload, 1) := by decide +kernel
theorem dX12_propped_11 : decode cX12_propped 11 = .ok (.if_icmp .ge 23, 3) := by decide +kernel
theorem dX12_propped_14 : decode cX12_propped 14 = .ok (.iload_n 1, 1) := by decide +kernel
theorem dX12_propped_15 : decode cX12_propped 15 = .ok (.aload_n 0, 1) := by decide +kernel
theorem dX12_propped_16 : decode cX12_propped 16 = .ok (.getfield 35, 3) := by decide +kernel
theorem dX12_propped_19 : decode cX12_propped 19 = .ok (.bipush 40, 2) := by decide +kernel
theorem dX12_propped_21 : decode cX12_propped 21 = .ok (.iload_n 2, 1) := by decide +kernel
theorem dX12_propped_22 : decode cX12_propped 22 = .ok (.iadd, 1) := by decide +kernel
theorem dX12_propped_23 : decode cX12_propped 23 = .ok (.iaload, 1) := by decide +kernel
theorem dX12_propped_24 : decode cX12_propped 24 = .ok (.iload_n 2, 1) := by decide +kernel
theorem dX12_propped_25 : decode cX12_propped 25 = .ok (.ishl, 1) := by decide +kernel
theorem dX12_propped_26 : decode cX12_propped 26 = .ok (.ior, 1) := by decide +kernel
theorem dX12_propped_27 : decode cX12_propped 27 = .ok (.istore_n 1, 1) := by decide +kernel
theorem dX12_propped_28 : decode cX12_propped 28 = .ok (.iinc 2 1, 3) := by decide +kernel
theorem dX12_propped_31 : decode cX12_propped 31 = .ok (.goto (-27), 3) := by decide +kernel
theorem dX12_propped_34 : decode cX12_propped 34 = .ok (.iload_n 1, 1) := by decide +kernel
theorem dX12_propped_35 : decode cX12_propped 35 = .ok (.ireturn, 1) := by decide +kernel
theorem dX12_falling_0 : decode cX12_falling 0 = .ok (.iconst 0, 1) := by decide +kernel
theorem dX12_falling_1 : decode cX12_falling 1 = .ok (.istore_n 1, 1) := by decide +kernel
theorem dX12_falling_2 : decode cX12_falling 2 = .ok (.iconst 0, 1) := by decide +kernel
theorem dX12_falling_3 : decode cX12_falling 3 = .ok (.istore_n 2, 1) := by decide +kernel
theorem dX12_falling_4 : decode cX12_falling 4 = .ok (.iload_n 2, 1) := by decide +kernel
theorem dX12_falling_5 : decode cX12_falling 5 = .ok (.aload_n 0, 1) := by decide +kernel
theorem dX12_falling_6 : decode cX12_falling 6 = .ok (.getfield 35, 3) := by decide +kernel
theorem dX12_falling_9 : decode cX12_falling 9 = .ok (.iconst 2, 1) := by decide +kernel
theorem dX12_falling_10 : decode cX12_falling 10 = .ok (.iaload, 1) := by decide +kernel
theorem dX12_falling_11 : decode cX12_falling 11 = .ok (.if_icmp .ge 23, 3) := by decide +kernel
theorem dX12_falling_14 : decode cX12_falling 14 = .ok (.iload_n 1, 1) := by decide +kernel
theorem dX12_falling_15 : decode cX12_falling 15 = .ok (.aload_n 0, 1) := by decide +kernel
theorem dX12_falling_16 : decode cX12_falling 16 = .ok (.getfield 35, 3) := by decide +kernel
theorem dX12_falling_19 : decode cX12_falling 19 = .ok (.bipush 60, 2) := by decide +kernel
theorem dX12_falling_21 : decode cX12_falling 21 = .ok (.iload_n 2, 1) := by decide +kernel
theorem dX12_falling_22 : decode cX12_falling 22 = .ok (.iadd, 1) := by decide +kernel
theorem dX12_falling_23 : decode cX12_falling 23 = .ok (.iaload, 1) := by decide +kernel
theorem dX12_falling_24 : decode cX12_falling 24 = .ok (.iload_n 2, 1) := by decide +kernel
theorem dX12_falling_25 : decode cX12_falling 25 = .ok (.ishl, 1) := by decide +kernel
theorem dX12_falling_26 : decode cX12_falling 26 = .ok (.ior, 1) := by decide +kernel
theorem dX12_falling_27 : decode cX12_falling 27 = .ok (.istore_n 1, 1) := by decide +kernel
theorem dX12_falling_28 : decode cX12_falling 28 = .ok (.iinc 2 1, 3) := by decide +kernel
theorem dX12_falling_31 : decode cX12_falling 31 = .ok (.goto (-27), 3) := by decide +kernel
theorem dX12_falling_34 : decode cX12_falling 34 = .ok (.iload_n 1, 1) := by decide +kernel
theorem dX12_falling_35 : decode cX12_falling 35 = .ok (.ireturn, 1) := by decide +kernel
theorem dX12_talkersAt_0 : decode cX12_talkersAt 0 = .ok (.iconst 0, 1) := by decide +kernel
theorem dX12_talkersAt_1 : decode cX12_talkersAt 1 = .ok (.istore_n 2, 1) := by decide +kernel
theorem dX12_talkersAt_2 : decode cX12_talkersAt 2 = .ok (.iconst 0, 1) := by decide +kernel
theorem dX12_talkersAt_3 : decode cX12_talkersAt 3 = .ok (.istore_n 3, 1) := by decide +kernel
theorem dX12_talkersAt_4 : decode cX12_talkersAt 4 = .ok (.iload_n 3, 1) := by decide +kernel
theorem dX12_talkersAt_5 : decode cX12_talkersAt 5 = .ok (.aload_n 0, 1) := by decide +kernel
theorem dX12_talkersAt_6 : decode cX12_talkersAt 6 = .ok (.getfield 35, 3) := by decide +kernel
theorem dX12_talkersAt_9 : decode cX12_talkersAt 9 = .ok (.iconst 2, 1) := by decide +kernel
theorem dX12_talkersAt_10 : decode cX12_talkersAt 10 = .ok (.iaload, 1) := by decide +kernel
theorem dX12_talkersAt_11 : decode cX12_talkersAt 11 = .ok (.if_icmp .ge 32, 3) := by decide +kernel
theorem dX12_talkersAt_14 : decode cX12_talkersAt 14 = .ok (.iload_n 2, 1) := by decide +kernel
theorem dX12_talkersAt_15 : decode cX12_talkersAt 15 = .ok (.aload_n 0, 1) := by decide +kernel
theorem dX12_talkersAt_16 : decode cX12_talkersAt 16 = .ok (.getfield 35, 3) := by decide +kernel
theorem dX12_talkersAt_19 : decode cX12_talkersAt 19 = .ok (.bipush 54, 2) := by decide +kernel
theorem dX12_talkersAt_21 : decode cX12_talkersAt 21 = .ok (.iload_n 3, 1) := by decide +kernel
theorem dX12_talkersAt_22 : decode cX12_talkersAt 22 = .ok (.iadd, 1) := by decide +kernel
theorem dX12_talkersAt_23 : decode cX12_talkersAt 23 = .ok (.iaload, 1) := by decide +kernel
theorem dX12_talkersAt_24 : decode cX12_talkersAt 24 = .ok (.iload_n 1, 1) := by decide +kernel
theorem dX12_talkersAt_25 : decode cX12_talkersAt 25 = .ok (.if_icmp .ne 9, 3) := by decide +kernel
theorem dX12_talkersAt_28 : decode cX12_talkersAt 28 = .ok (.iconst 1, 1) := by decide +kernel
theorem dX12_talkersAt_29 : decode cX12_talkersAt 29 = .ok (.iload_n 3, 1) := by decide +kernel
theorem dX12_talkersAt_30 : decode cX12_talkersAt 30 = .ok (.ishl, 1) := by decide +kernel
theorem dX12_talkersAt_31 : decode cX12_talkersAt 31 = .ok (.goto 4, 3) := by decide +kernel
theorem dX12_talkersAt_34 : decode cX12_talkersAt 34 = .ok (.iconst 0, 1) := by decide +kernel
theorem dX12_talkersAt_35 : decode cX12_talkersAt 35 = .ok (.ior, 1) := by decide +kernel
theorem dX12_talkersAt_36 : decode cX12_talkersAt 36 = .ok (.istore_n 2, 1) := by decide +kernel
theorem dX12_talkersAt_37 : decode cX12_talkersAt 37 = .ok (.iinc 3 1, 3) := by decide +kernel
theorem dX12_talkersAt_40 : decode cX12_talkersAt 40 = .ok (.goto (-36), 3) := by decide +kernel
theorem dX12_talkersAt_43 : decode cX12_talkersAt 43 = .ok (.iload_n 2, 1) := by decide +kernel
theorem dX12_talkersAt_44 : decode cX12_talkersAt 44 = .ok (.ireturn, 1) := by decide +kernel
theorem dX12_many_0 : decode cX12_many 0 = .ok (.aload_n 0, 1) := by decide +kernel
theorem dX12_many_1 : decode cX12_many 1 = .ok (.iconst 0, 1) := by decide +kernel
theorem dX12_many_2 : decode cX12_many 2 = .ok (.putfield 63, 3) := by decide +kernel
theorem dX12_many_5 : decode cX12_many 5 = .ok (.aload_n 0, 1) := by decide +kernel
theorem dX12_many_6 : decode cX12_many 6 = .ok (.iconst 0, 1) := by decide +kernel
theorem dX12_many_7 : decode cX12_many 7 = .ok (.putfield 66, 3) := by decide +kernel
theorem dX12_many_10 : decode cX12_many 10 = .ok (.iload_n 1, 1) := by decide +kernel
theorem dX12_many_11 : decode cX12_many 11 = .ok (.i2l, 1) := by decide +kernel
theorem dX12_many_12 : decode cX12_many 12 = .ok (.lconst 0, 1) := by decide +kernel
theorem dX12_many_13 : decode cX12_many 13 = .ok (.ldc2_w 331, 3) := by decide +kernel
theorem dX12_many_16 : decode cX12_many 16 = .ok (.invokestatic 98, 3) := by decide +kernel
theorem dX12_many_19 : decode cX12_many 19 = .ok (.ifCond .ne 9, 3) := by decide +kernel
theorem dX12_many_22 : decode cX12_many 22 = .ok (.aload_n 0, 1) := by decide +kernel
theorem dX12_many_23 : decode cX12_many 23 = .ok (.iconst 5, 1) := by decide +kernel
theorem dX12_many_24 : decode cX12_many 24 = .ok (.invokevirtual 333, 3) := by decide +kernel
theorem dX12_many_27 : decode cX12_many 27 = .ok (.ireturn, 1) := by decide +kernel
theorem dX12_many_28 : decode cX12_many 28 = .ok (.iload_n 1, 1) := by decide +kernel
theorem dX12_many_29 : decode cX12_many 29 = .ok (.bipush 6, 2) := by decide +kernel
theorem dX12_many_31 : decode cX12_many 31 = .ok (.if_icmp .ge 10, 3) := by decide +kernel
theorem dX12_many_34 : decode cX12_many 34 = .ok (.aload_n 0, 1) := by decide +kernel
theorem dX12_many_35 : decode cX12_many 35 = .ok (.getfield 35, 3) := by decide +kernel
theorem dX12_many_38 : decode cX12_many 38 = .ok (.iload_n 1, 1) := by decide +kernel
theorem dX12_many_39 : decode cX12_many 39 = .ok (.iaload, 1) := by decide +kernel
theorem dX12_many_40 : decode cX12_many 40 = .ok (.ireturn, 1) := by decide +kernel
theorem dX12_many_41 : decode cX12_many 41 = .ok (.iload_n 1, 1) := by decide +kernel
theorem dX12_many_42 : decode cX12_many 42 = .ok (.bipush 6, 2) := by decide +kernel
theorem dX12_many_44 : decode cX12_many 44 = .ok (.if_icmp .ne 12, 3) := by decide +kernel
theorem dX12_many_47 : decode cX12_many 47 = .ok (.aload_n 0, 1) := by decide +kernel
theorem dX12_many_48 : decode cX12_many 48 = .ok (.iconst 0, 1) := by decide +kernel
theorem dX12_many_49 : decode cX12_many 49 = .ok (.iconst 0, 1) := by decide +kernel
theorem dX12_many_50 : decode cX12_many 50 = .ok (.invokevirtual 328, 3) := by decide +kernel
theorem dX12_many_53 : decode cX12_many 53 = .ok (.goto 34, 3) := by decide +kernel
theorem dX12_many_56 : decode cX12_many 56 = .ok (.iload_n 1, 1) := by decide +kernel
theorem dX12_many_57 : decode cX12_many 57 = .ok (.bipush 7, 2) := by decide +kernel
theorem dX12_many_59 : decode cX12_many 59 = .ok (.if_icmp .ne 10, 3) := by decide +kernel
theorem dX12_many_62 : decode cX12_many 62 = .ok (.aload_n 0, 1) := by decide +kernel
theorem dX12_many_63 : decode cX12_many 63 = .ok (.invokevirtual 336, 3) := by decide +kernel
theorem dX12_many_66 : decode cX12_many 66 = .ok (.goto 21, 3) := by decide +kernel
theorem dX12_many_69 : decode cX12_many 69 = .ok (.iload_n 1, 1) := by decide +kernel
theorem dX12_many_70 : decode cX12_many 70 = .ok (.bipush 8, 2) := by decide +kernel
theorem dX12_many_72 : decode cX12_many 72 = .ok (.if_icmp .ne 10, 3) := by decide +kernel
theorem dX12_many_75 : decode cX12_many 75 = .ok (.aload_n 0, 1) := by decide +kernel
theorem dX12_many_76 : decode cX12_many 76 = .ok (.invokevirtual 339, 3) := by decide +kernel
theorem dX12_many_79 : decode cX12_many 79 = .ok (.goto 8, 3) := by decide +kernel
theorem dX12_many_82 : decode cX12_many 82 = .ok (.aload_n 0, 1) := by decide +kernel
theorem dX12_many_83 : decode cX12_many 83 = .ok (.iconst 0, 1) := by decide +kernel
theorem dX12_many_84 : decode cX12_many 84 = .ok (.invokevirtual 342, 3) := by decide +kernel
theorem dX12_many_87 : decode cX12_many 87 = .ok (.ireturn, 1) := by decide +kernel
theorem dX12_claimsAt_0 : decode cX12_claimsAt 0 = .ok (.iconst 0, 1) := by decide +kernel
theorem dX12_claimsAt_1 : decode cX12_claimsAt 1 = .ok (.istore_n 2, 1) := by decide +kernel
theorem dX12_claimsAt_2 : decode cX12_claimsAt 2 = .ok (.iconst 0, 1) := by decide +kernel
theorem dX12_claimsAt_3 : decode cX12_claimsAt 3 = .ok (.istore_n 3, 1) := by decide +kernel
theorem dX12_claimsAt_4 : decode cX12_claimsAt 4 = .ok (.iload_n 3, 1) := by decide +kernel
theorem dX12_claimsAt_5 : decode cX12_claimsAt 5 = .ok (.aload_n 0, 1) := by decide +kernel
theorem dX12_claimsAt_6 : decode cX12_claimsAt 6 = .ok (.getfield 35, 3) := by decide +kernel
theorem dX12_claimsAt_9 : decode cX12_claimsAt 9 = .ok (.iconst 1, 1) := by decide +kernel
theorem dX12_claimsAt_10 : decode cX12_claimsAt 10 = .ok (.iaload, 1) := by decide +kernel
theorem dX12_claimsAt_11 : decode cX12_claimsAt 11 = .ok (.if_icmp .ge 32, 3) := by decide +kernel
theorem dX12_claimsAt_14 : decode cX12_claimsAt 14 = .ok (.iload_n 2, 1) := by decide +kernel
theorem dX12_claimsAt_15 : decode cX12_claimsAt 15 = .ok (.aload_n 0, 1) := by decide +kernel
theorem dX12_claimsAt_16 : decode cX12_claimsAt 16 = .ok (.getfield 35, 3) := by decide +kernel
theorem dX12_claimsAt_19 : decode cX12_claimsAt 19 = .ok (.bipush 24, 2) := by decide +kernel
theorem dX12_claimsAt_21 : decode cX12_claimsAt 21 = .ok (.iload_n 3, 1) := by decide +kernel
theorem dX12_claimsAt_22 : decode cX12_claimsAt 22 = .ok (.iadd, 1) := by decide +kernel
theorem dX12_claimsAt_23 : decode cX12_claimsAt 23 = .ok (.iaload, 1) := by decide +kernel
theorem dX12_claimsAt_24 : decode cX12_claimsAt 24 = .ok (.iload_n 1, 1) := by decide +kernel
theorem dX12_claimsAt_25 : decode cX12_claimsAt 25 = .ok (.if_icmp .ne 9, 3) := by decide +kernel
theorem dX12_claimsAt_28 : decode cX12_claimsAt 28 = .ok (.iconst 1, 1) := by decide +kernel
theorem dX12_claimsAt_29 : decode cX12_claimsAt 29 = .ok (.iload_n 3, 1) := by decide +kernel
theorem dX12_claimsAt_30 : decode cX12_claimsAt 30 = .ok (.ishl, 1) := by decide +kernel
theorem dX12_claimsAt_31 : decode cX12_claimsAt 31 = .ok (.goto 4, 3) := by decide +kernel
theorem dX12_claimsAt_34 : decode cX12_claimsAt 34 = .ok (.iconst 0, 1) := by decide +kernel
theorem dX12_claimsAt_35 : decode cX12_claimsAt 35 = .ok (.ior, 1) := by decide +kernel
theorem dX12_claimsAt_36 : decode cX12_claimsAt 36 = .ok (.istore_n 2, 1) := by decide +kernel
theorem dX12_claimsAt_37 : decode cX12_claimsAt 37 = .ok (.iinc 3 1, 3) := by decide +kernel
theorem dX12_claimsAt_40 : decode cX12_claimsAt 40 = .ok (.goto (-36), 3) := by decide +kernel
theorem dX12_claimsAt_43 : decode cX12_claimsAt 43 = .ok (.iload_n 2, 1) := by decide +kernel
theorem dX12_claimsAt_44 : decode cX12_claimsAt 44 = .ok (.ireturn, 1) := by decide +kernel
theorem dX12_topic_0 : decode cX12_topic 0 = .ok (.aload_n 0, 1) := by decide +kernel
theorem dX12_topic_1 : decode cX12_topic 1 = .ok (.iconst 0, 1) := by decide +kernel
theorem dX12_topic_2 : decode cX12_topic 2 = .ok (.putfield 63, 3) := by decide +kernel
theorem dX12_topic_5 : decode cX12_topic 5 = .ok (.aload_n 0, 1) := by decide +kernel
theorem dX12_topic_6 : decode cX12_topic 6 = .ok (.iconst 0, 1) := by decide +kernel
theorem dX12_topic_7 : decode cX12_topic 7 = .ok (.putfield 66, 3) := by decide +kernel
theorem dX12_topic_10 : decode cX12_topic 10 = .ok (.aload_n 0, 1) := by decide +kernel
theorem dX12_topic_11 : decode cX12_topic 11 = .ok (.iload_n 1, 1) := by decide +kernel
theorem dX12_topic_12 : decode cX12_topic 12 = .ok (.invokevirtual 345, 3) := by decide +kernel
theorem dX12_topic_15 : decode cX12_topic 15 = .ok (.ifCond .ne 9, 3) := by decide +kernel
theorem dX12_topic_18 : decode cX12_topic 18 = .ok (.aload_n 0, 1) := by decide +kernel
theorem dX12_topic_19 : decode cX12_topic 19 = .ok (.iconst 2, 1) := by decide +kernel
theorem dX12_topic_20 : decode cX12_topic 20 = .ok (.invokevirtual 333, 3) := by decide +kernel
theorem dX12_topic_23 : decode cX12_topic 23 = .ok (.ireturn, 1) := by decide +kernel
theorem dX12_topic_24 : decode cX12_topic 24 = .ok (.iload_n 2, 1) := by decide +kernel
theorem dX12_topic_25 : decode cX12_topic 25 = .ok (.i2l, 1) := by decide +kernel
theorem dX12_topic_26 : decode cX12_topic 26 = .ok (.lconst 0, 1) := by decide +kernel
theorem dX12_topic_27 : decode cX12_topic 27 = .ok (.ldc2_w 96, 3) := by decide +kernel
theorem dX12_topic_30 : decode cX12_topic 30 = .ok (.invokestatic 98, 3) := by decide +kernel
theorem dX12_topic_33 : decode cX12_topic 33 = .ok (.ifCond .ne 9, 3) := by decide +kernel
theorem dX12_topic_36 : decode cX12_topic 36 = .ok (.aload_n 0, 1) := by decide +kernel
theorem dX12_topic_37 : decode cX12_topic 37 = .ok (.iconst 5, 1) := by decide +kernel
theorem dX12_topic_38 : decode cX12_topic 38 = .ok (.invokevirtual 333, 3) := by decide +kernel
theorem dX12_topic_41 : decode cX12_topic 41 = .ok (.ireturn, 1) := by decide +kernel
theorem dX12_topic_42 : decode cX12_topic 42 = .ok (.iload_n 2, 1) := by decide +kernel
theorem dX12_topic_43 : decode cX12_topic 43 = .ok (.iconst 2, 1) := by decide +kernel
theorem dX12_topic_44 : decode cX12_topic 44 = .ok (.if_icmp .ge 20, 3) := by decide +kernel
theorem dX12_topic_47 : decode cX12_topic 47 = .ok (.aload_n 0, 1) := by decide +kernel
theorem dX12_topic_48 : decode cX12_topic 48 = .ok (.getfield 35, 3) := by decide +kernel
theorem dX12_topic_51 : decode cX12_topic 51 = .ok (.bipush 6, 2) := by decide +kernel
theorem dX12_topic_53 : decode cX12_topic 53 = .ok (.bipush 9, 2) := by decide +kernel
theorem dX12_topic_55 : decode cX12_topic 55 = .ok (.iload_n 2, 1) := by decide +kernel
theorem dX12_topic_56 : decode cX12_topic 56 = .ok (.imul, 1) := by decide +kernel
theorem dX12_topic_57 : decode cX12_topic 57 = .ok (.iadd, 1) := by decide +kernel
theorem dX12_topic_58 : decode cX12_topic 58 = .ok (.iload_n 1, 1) := by decide +kernel
theorem dX12_topic_59 : decode cX12_topic 59 = .ok (.iadd, 1) := by decide +kernel
theorem dX12_topic_60 : decode cX12_topic 60 = .ok (.iaload, 1) := by decide +kernel
theorem dX12_topic_61 : decode cX12_topic 61 = .ok (.goto 23, 3) := by decide +kernel
theorem dX12_topic_64 : decode cX12_topic 64 = .ok (.iload_n 2, 1) := by decide +kernel
theorem dX12_topic_65 : decode cX12_topic 65 = .ok (.iconst 2, 1) := by decide +kernel
theorem dX12_topic_66 : decode cX12_topic 66 = .ok (.if_icmp .ne 11, 3) := by decide +kernel
theorem dX12_topic_69 : decode cX12_topic 69 = .ok (.aload_n 0, 1) := by decide +kernel
theorem dX12_topic_70 : decode cX12_topic 70 = .ok (.iload_n 1, 1) := by decide +kernel
theorem dX12_topic_71 : decode cX12_topic 71 = .ok (.invokevirtual 348, 3) := by decide +kernel
theorem dX12_topic_74 : decode cX12_topic 74 = .ok (.goto 10, 3) := by decide +kernel
theorem dX12_topic_77 : decode cX12_topic 77 = .ok (.aload_n 0, 1) := by decide +kernel
theorem dX12_topic_78 : decode cX12_topic 78 = .ok (.iload_n 1, 1) := by decide +kernel
theorem dX12_topic_79 : decode cX12_topic 79 = .ok (.iconst 1, 1) := by decide +kernel
theorem dX12_topic_80 : decode cX12_topic 80 = .ok (.iadd, 1) := by decide +kernel
theorem dX12_topic_81 : decode cX12_topic 81 = .ok (.invokevirtual 342, 3) := by decide +kernel
theorem dX12_topic_84 : decode cX12_topic 84 = .ok (.ireturn, 1) := by decide +kernel
theorem dX12_claim_0 : decode cX12_claim 0 = .ok (.aload_n 0, 1) := by decide +kernel
theorem dX12_claim_1 : decode cX12_claim 1 = .ok (.iconst 0, 1) := by decide +kernel
theorem dX12_claim_2 : decode cX12_claim 2 = .ok (.putfield 63, 3) := by decide +kernel
theorem dX12_claim_5 : decode cX12_claim 5 = .ok (.aload_n 0, 1) := by decide +kernel
theorem dX12_claim_6 : decode cX12_claim 6 = .ok (.iconst 0, 1) := by decide +kernel
theorem dX12_claim_7 : decode cX12_claim 7 = .ok (.putfield 66, 3) := by decide +kernel
theorem dX12_claim_10 : decode cX12_claim 10 = .ok (.aload_n 0, 1) := by decide +kernel
theorem dX12_claim_11 : decode cX12_claim 11 = .ok (.iload_n 1, 1) := by decide +kernel
theorem dX12_claim_12 : decode cX12_claim 12 = .ok (.invokevirtual 351, 3) := by decide +kernel
theorem dX12_claim_15 : decode cX12_claim 15 = .ok (.ifCond .ne 9, 3) := by decide +kernel
theorem dX12_claim_18 : decode cX12_claim 18 = .ok (.aload_n 0, 1) := by decide +kernel
theorem dX12_claim_19 : decode cX12_claim 19 = .ok (.iconst 2, 1) := by decide +kernel
theorem dX12_claim_20 : decode cX12_claim 20 = .ok (.invokevirtual 333, 3) := by decide +kernel
theorem dX12_claim_23 : decode cX12_claim 23 = .ok (.ireturn, 1) := by decide +kernel
theorem dX12_claim_24 : decode cX12_claim 24 = .ok (.iload_n 2, 1) := by decide +kernel
theorem dX12_claim_25 : decode cX12_claim 25 = .ok (.i2l, 1) := by decide +kernel
theorem dX12_claim_26 : decode cX12_claim 26 = .ok (.lconst 0, 1) := by decide +kernel
theorem dX12_claim_27 : decode cX12_claim 27 = .ok (.ldc2_w 96, 3) := by decide +kernel
theorem dX12_claim_30 : decode cX12_claim 30 = .ok (.invokestatic 98, 3) := by decide +kernel
theorem dX12_claim_33 : decode cX12_claim 33 = .ok (.ifCond .ne 9, 3) := by decide +kernel
theorem dX12_claim_36 : decode cX12_claim 36 = .ok (.aload_n 0, 1) := by decide +kernel
theorem dX12_claim_37 : decode cX12_claim 37 = .ok (.iconst 5, 1) := by decide +kernel
theorem dX12_claim_38 : decode cX12_claim 38 = .ok (.invokevirtual 333, 3) := by decide +kernel
theorem dX12_claim_41 : decode cX12_claim 41 = .ok (.ireturn, 1) := by decide +kernel
theorem dX12_claim_42 : decode cX12_claim 42 = .ok (.iload_n 2, 1) := by decide +kernel
theorem dX12_claim_43 : decode cX12_claim 43 = .ok (.iconst 3, 1) := by decide +kernel
theorem dX12_claim_44 : decode cX12_claim 44 = .ok (.if_icmp .ge 20, 3) := by decide +kernel
theorem dX12_claim_47 : decode cX12_claim 47 = .ok (.aload_n 0, 1) := by decide +kernel
theorem dX12_claim_48 : decode cX12_claim 48 = .ok (.getfield 35, 3) := by decide +kernel
theorem dX12_claim_51 : decode cX12_claim 51 = .ok (.bipush 24, 2) := by decide +kernel
theorem dX12_claim_53 : decode cX12_claim 53 = .ok (.bipush 8, 2) := by decide +kernel
theorem dX12_claim_55 : decode cX12_claim 55 = .ok (.iload_n 2, 1) := by decide +kernel
theorem dX12_claim_56 : decode cX12_claim 56 = .ok (.imul, 1) := by decide +kernel
theorem dX12_claim_57 : decode cX12_claim 57 = .ok (.iadd, 1) := by decide +kernel
theorem dX12_claim_58 : decode cX12_claim 58 = .ok (.iload_n 1, 1) := by decide +kernel
theorem dX12_claim_59 : decode cX12_claim 59 = .ok (.iadd, 1) := by decide +kernel
theorem dX12_claim_60 : decode cX12_claim 60 = .ok (.iaload, 1) := by decide +kernel
theorem dX12_claim_61 : decode cX12_claim 61 = .ok (.goto 16, 3) := by decide +kernel
theorem dX12_claim_64 : decode cX12_claim 64 = .ok (.aload_n 0, 1) := by decide +kernel
theorem dX12_claim_65 : decode cX12_claim 65 = .ok (.iload_n 1, 1) := by decide +kernel
theorem dX12_claim_66 : decode cX12_claim 66 = .ok (.invokevirtual 354, 3) := by decide +kernel
theorem dX12_claim_69 : decode cX12_claim 69 = .ok (.ifCond .eq 7, 3) := by decide +kernel
theorem dX12_claim_72 : decode cX12_claim 72 = .ok (.iconst 0, 1) := by decide +kernel
theorem dX12_claim_73 : decode cX12_claim 73 = .ok (.goto 4, 3) := by decide +kernel
theorem dX12_claim_76 : decode cX12_claim 76 = .ok (.iconst 1, 1) := by decide +kernel
theorem dX12_claim_77 : decode cX12_claim 77 = .ok (.ireturn, 1) := by decide +kernel
theorem dX12_canSay_0 : decode cX12_canSay 0 = .ok (.aload_n 0, 1) := by decide +kernel
theorem dX12_canSay_1 : decode cX12_canSay 1 = .ok (.getfield 35, 3) := by decide +kernel
theorem dX12_canSay_4 : decode cX12_canSay 4 = .ok (.bipush 60, 2) := by decide +kernel
theorem dX12_canSay_6 : decode cX12_canSay 6 = .ok (.iload_n 1, 1) := by decide +kernel
theorem dX12_canSay_7 : decode cX12_canSay 7 = .ok (.iadd, 1) := by decide +kernel
theorem dX12_canSay_8 : decode cX12_canSay 8 = .ok (.iaload, 1) := by decide +kernel
theorem dX12_canSay_9 : decode cX12_canSay 9 = .ok (.ifCond .ne 47, 3) := by decide +kernel
theorem dX12_canSay_12 : decode cX12_canSay 12 = .ok (.aload_n 0, 1) := by decide +kernel
theorem dX12_canSay_13 : decode cX12_canSay 13 = .ok (.getfield 35, 3) := by decide +kernel
theorem dX12_canSay_16 : decode cX12_canSay 16 = .ok (.bipush 54, 2) := by decide +kernel
theorem dX12_canSay_18 : decode cX12_canSay 18 = .ok (.iload_n 1, 1) := by decide +kernel
theorem dX12_canSay_19 : decode cX12_canSay 19 = .ok (.iadd, 1) := by decide +kernel
theorem dX12_canSay_20 : decode cX12_canSay 20 = .ok (.iaload, 1) := by decide +kernel
theorem dX12_canSay_21 : decode cX12_canSay 21 = .ok (.ifCond .le 35, 3) := by decide +kernel
theorem dX12_canSay_24 : decode cX12_canSay 24 = .ok (.aload_n 0, 1) := by decide +kernel
theorem dX12_canSay_25 : decode cX12_canSay 25 = .ok (.getfield 35, 3) := by decide +kernel
theorem dX12_canSay_28 : decode cX12_canSay 28 = .ok (.bipush 24, 2) := by decide +kernel
theorem dX12_canSay_30 : decode cX12_canSay 30 = .ok (.iload_n 2, 1) := by decide +kernel
theorem dX12_canSay_31 : decode cX12_canSay 31 = .ok (.iadd, 1) := by decide +kernel
theorem dX12_canSay_32 : decode cX12_canSay 32 = .ok (.iaload, 1) := by decide +kernel
theorem dX12_canSay_33 : decode cX12_canSay 33 = .ok (.iconst 1, 1) := by decide +kernel
theorem dX12_canSay_34 : decode cX12_canSay 34 = .ok (.iadd, 1) := by decide +kernel
theorem dX12_canSay_35 : decode cX12_canSay 35 = .ok (.aload_n 0, 1) := by decide +kernel
theorem dX12_canSay_36 : decode cX12_canSay 36 = .ok (.getfield 35, 3) := by decide +kernel
theorem dX12_canSay_39 : decode cX12_canSay 39 = .ok (.bipush 54, 2) := by decide +kernel
theorem dX12_canSay_41 : decode cX12_canSay 41 = .ok (.iload_n 1, 1) := by decide +kernel
theorem dX12_canSay_42 : decode cX12_canSay 42 = .ok (.iadd, 1) := by decide +kernel
theorem dX12_canSay_43 : decode cX12_canSay 43 = .ok (.iaload, 1) := by decide +kernel
theorem dX12_canSay_44 : decode cX12_canSay 44 = .ok (.isub, 1) := by decide +kernel
theorem dX12_canSay_45 : decode cX12_canSay 45 = .ok (.invokestatic 357, 3) := by decide +kernel
theorem dX12_canSay_48 : decode cX12_canSay 48 = .ok (.iconst 2, 1) := by decide +kernel
theorem dX12_canSay_49 : decode cX12_canSay 49 = .ok (.if_icmp .ge 7, 3) := by decide +kernel
theorem dX12_canSay_52 : decode cX12_canSay 52 = .ok (.iconst 1, 1) := by decide +kernel
theorem dX12_canSay_53 : decode cX12_canSay 53 = .ok (.goto 4, 3) := by decide +kernel
theorem dX12_canSay_56 : decode cX12_canSay 56 = .ok (.iconst 0, 1) := by decide +kernel
theorem dX12_canSay_57 : decode cX12_canSay 57 = .ok (.ireturn, 1) := by decide +kernel
theorem dX12_sayable_0 : decode cX12_sayable 0 = .ok (.iconst 0, 1) := by decide +kernel
theorem dX12_sayable_1 : decode cX12_sayable 1 = .ok (.istore_n 2, 1) := by decide +kernel
theorem dX12_sayable_2 : decode cX12_sayable 2 = .ok (.iconst 0, 1) := by decide +kernel
theorem dX12_sayable_3 : decode cX12_sayable 3 = .ok (.istore_n 3, 1) := by decide +kernel
theorem dX12_sayable_4 : decode cX12_sayable 4 = .ok (.iload_n 3, 1) := by decide +kernel
theorem dX12_sayable_5 : decode cX12_sayable 5 = .ok (.aload_n 0, 1) := by decide +kernel
theorem dX12_sayable_6 : decode cX12_sayable 6 = .ok (.getfield 35, 3) := by decide +kernel
theorem dX12_sayable_9 : decode cX12_sayable 9 = .ok (.iconst 1, 1) := by decide +kernel
theorem dX12_sayable_10 : decode cX12_sayable 10 = .ok (.iaload, 1) := by decide +kernel
theorem dX12_sayable_11 : decode cX12_sayable 11 = .ok (.if_icmp .ge 28, 3) := by decide +kernel
theorem dX12_sayable_14 : decode cX12_sayable 14 = .ok (.iload_n 2, 1) := by decide +kernel
theorem dX12_sayable_15 : decode cX12_sayable 15 = .ok (.aload_n 0, 1) := by decide +kernel
theorem dX12_sayable_16 : decode cX12_sayable 16 = .ok (.iload_n 1, 1) := by decide +kernel
theorem dX12_sayable_17 : decode cX12_sayable 17 = .ok (.iload_n 3, 1) := by decide +kernel
theorem dX12_sayable_18 : decode cX12_sayable 18 = .ok (.invokevirtual 359, 3) := by decide +kernel
theorem dX12_sayable_21 : decode cX12_sayable 21 = .ok (.ifCond .eq 9, 3) := by decide +kernel
theorem dX12_sayable_24 : decode cX12_sayable 24 = .ok (.iconst 1, 1) := by decide +kernel
theorem dX12_sayable_25 : decode cX12_sayable 25 = .ok (.iload_n 3, 1) := by decide +kernel
theorem dX12_sayable_26 : decode cX12_sayable 26 = .ok (.ishl, 1) := by decide +kernel
theorem dX12_sayable_27 : decode cX12_sayable 27 = .ok (.goto 4, 3) := by decide +kernel
theorem dX12_sayable_30 : decode cX12_sayable 30 = .ok (.iconst 0, 1) := by decide +kernel
theorem dX12_sayable_31 : decode cX12_sayable 31 = .ok (.ior, 1) := by decide +kernel
theorem dX12_sayable_32 : decode cX12_sayable 32 = .ok (.istore_n 2, 1) := by decide +kernel
theorem dX12_sayable_33 : decode cX12_sayable 33 = .ok (.iinc 3 1, 3) := by decide +kernel
theorem dX12_sayable_36 : decode cX12_sayable 36 = .ok (.goto (-32), 3) := by decide +kernel
theorem dX12_sayable_39 : decode cX12_sayable 39 = .ok (.iload_n 2, 1) := by decide +kernel
theorem dX12_sayable_40 : decode cX12_sayable 40 = .ok (.ireturn, 1) := by decide +kernel
theorem dX12_talker_0 : decode cX12_talker 0 = .ok (.aload_n 0, 1) := by decide +kernel
theorem dX12_talker_1 : decode cX12_talker 1 = .ok (.iconst 0, 1) := by decide +kernel
theorem dX12_talker_2 : decode cX12_talker 2 = .ok (.putfield 63, 3) := by decide +kernel
theorem dX12_talker_5 : decode cX12_talker 5 = .ok (.aload_n 0, 1) := by decide +kernel
theorem dX12_talker_6 : decode cX12_talker 6 = .ok (.iconst 0, 1) := by decide +kernel
theorem dX12_talker_7 : decode cX12_talker 7 = .ok (.putfield 66, 3) := by decide +kernel
theorem dX12_talker_10 : decode cX12_talker 10 = .ok (.aload_n 0, 1) := by decide +kernel
theorem dX12_talker_11 : decode cX12_talker 11 = .ok (.iload_n 1, 1) := by decide +kernel
theorem dX12_talker_12 : decode cX12_talker 12 = .ok (.invokevirtual 362, 3) := by decide +kernel
theorem dX12_talker_15 : decode cX12_talker 15 = .ok (.ifCond .ne 9, 3) := by decide +kernel
theorem dX12_talker_18 : decode cX12_talker 18 = .ok (.aload_n 0, 1) := by decide +kernel
theorem dX12_talker_19 : decode cX12_talker 19 = .ok (.iconst 2, 1) := by decide +kernel
theorem dX12_talker_20 : decode cX12_talker 20 = .ok (.invokevirtual 333, 3) := by decide +kernel
theorem dX12_talker_23 : decode cX12_talker 23 = .ok (.ireturn, 1) := by decide +kernel
theorem dX12_talker_24 : decode cX12_talker 24 = .ok (.iload_n 2, 1) := by decide +kernel
theorem dX12_talker_25 : decode cX12_talker 25 = .ok (.i2l, 1) := by decide +kernel
theorem dX12_talker_26 : decode cX12_talker 26 = .ok (.lconst 0, 1) := by decide +kernel
theorem dX12_talker_27 : decode cX12_talker 27 = .ok (.ldc2_w 365, 3) := by decide +kernel
theorem dX12_talker_30 : decode cX12_talker 30 = .ok (.invokestatic 98, 3) := by decide +kernel
theorem dX12_talker_33 : decode cX12_talker 33 = .ok (.ifCond .ne 9, 3) := by decide +kernel
theorem dX12_talker_36 : decode cX12_talker 36 = .ok (.aload_n 0, 1) := by decide +kernel
theorem dX12_talker_37 : decode cX12_talker 37 = .ok (.iconst 5, 1) := by decide +kernel
theorem dX12_talker_38 : decode cX12_talker 38 = .ok (.invokevirtual 333, 3) := by decide +kernel
theorem dX12_talker_41 : decode cX12_talker 41 = .ok (.ireturn, 1) := by decide +kernel
theorem dX12_talker_42 : decode cX12_talker 42 = .ok (.iload_n 2, 1) := by decide +kernel
theorem dX12_talker_43 : decode cX12_talker 43 = .ok (.iconst 4, 1) := by decide +kernel
theorem dX12_talker_44 : decode cX12_talker 44 = .ok (.if_icmp .ge 20, 3) := by decide +kernel
theorem dX12_talker_47 : decode cX12_talker 47 = .ok (.aload_n 0, 1) := by decide +kernel
theorem dX12_talker_48 : decode cX12_talker 48 = .ok (.getfield 35, 3) := by decide +kernel
theorem dX12_talker_51 : decode cX12_talker 51 = .ok (.bipush 48, 2) := by decide +kernel
theorem dX12_talker_53 : decode cX12_talker 53 = .ok (.bipush 6, 2) := by decide +kernel
theorem dX12_talker_55 : decode cX12_talker 55 = .ok (.iload_n 2, 1) := by decide +kernel
theorem dX12_talker_56 : decode cX12_talker 56 = .ok (.imul, 1) := by decide +kernel
theorem dX12_talker_57 : decode cX12_talker 57 = .ok (.iadd, 1) := by decide +kernel
theorem dX12_talker_58 : decode cX12_talker 58 = .ok (.iload_n 1, 1) := by decide +kernel
theorem dX12_talker_59 : decode cX12_talker 59 = .ok (.iadd, 1) := by decide +kernel
theorem dX12_talker_60 : decode cX12_talker 60 = .ok (.iaload, 1) := by decide +kernel
theorem dX12_talker_61 : decode cX12_talker 61 = .ok (.goto 8, 3) := by decide +kernel
theorem dX12_talker_64 : decode cX12_talker 64 = .ok (.aload_n 0, 1) := by decide +kernel
theorem dX12_talker_65 : decode cX12_talker 65 = .ok (.iload_n 1, 1) := by decide +kernel
theorem dX12_talker_66 : decode cX12_talker 66 = .ok (.invokevirtual 367, 3) := by decide +kernel
theorem dX12_talker_69 : decode cX12_talker 69 = .ok (.ireturn, 1) := by decide +kernel
theorem dX12_feud_0 : decode cX12_feud 0 = .ok (.aload_n 0, 1) := by decide +kernel
theorem dX12_feud_1 : decode cX12_feud 1 = .ok (.iconst 0, 1) := by decide +kernel
theorem dX12_feud_2 : decode cX12_feud 2 = .ok (.putfield 63, 3) := by decide +kernel
theorem dX12_feud_5 : decode cX12_feud 5 = .ok (.aload_n 0, 1) := by decide +kernel
theorem dX12_feud_6 : decode cX12_feud 6 = .ok (.iconst 0, 1) := by decide +kernel
theorem dX12_feud_7 : decode cX12_feud 7 = .ok (.putfield 66, 3) := by decide +kernel
theorem dX12_feud_10 : decode cX12_feud 10 = .ok (.iload_n 1, 1) := by decide +kernel
theorem dX12_feud_11 : decode cX12_feud 11 = .ok (.i2l, 1) := by decide +kernel
theorem dX12_feud_12 : decode cX12_feud 12 = .ok (.lconst 0, 1) := by decide +kernel
theorem dX12_feud_13 : decode cX12_feud 13 = .ok (.aload_n 0, 1) := by decide +kernel
theorem dX12_feud_14 : decode cX12_feud 14 = .ok (.getfield 35, 3) := by decide +kernel
theorem dX12_feud_17 : decode cX12_feud 17 = .ok (.iconst 3, 1) := by decide +kernel
theorem dX12_feud_18 : decode cX12_feud 18 = .ok (.iaload, 1) := by decide +kernel
theorem dX12_feud_19 : decode cX12_feud 19 = .ok (.iconst 1, 1) := by decide +kernel
theorem dX12_feud_20 : decode cX12_feud 20 = .ok (.isub, 1) := by decide +kernel
theorem dX12_feud_21 : decode cX12_feud 21 = .ok (.i2l, 1) := by decide +kernel
theorem dX12_feud_22 : decode cX12_feud 22 = .ok (.invokestatic 98, 3) := by decide +kernel
theorem dX12_feud_25 : decode cX12_feud 25 = .ok (.ifCond .ne 9, 3) := by decide +kernel
theorem dX12_feud_28 : decode cX12_feud 28 = .ok (.aload_n 0, 1) := by decide +kernel
theorem dX12_feud_29 : decode cX12_feud 29 = .ok (.iconst 2, 1) := by decide +kernel
theorem dX12_feud_30 : decode cX12_feud 30 = .ok (.invokevirtual 333, 3) := by decide +kernel
theorem dX12_feud_33 : decode cX12_feud 33 = .ok (.ireturn, 1) := by decide +kernel
theorem dX12_feud_34 : decode cX12_feud 34 = .ok (.iload_n 2, 1) := by decide +kernel
theorem dX12_feud_35 : decode cX12_feud 35 = .ok (.i2l, 1) := by decide +kernel
theorem dX12_feud_36 : decode cX12_feud 36 = .ok (.lconst 0, 1) := by decide +kernel
theorem dX12_feud_37 : decode cX12_feud 37 = .ok (.lconst 1, 1) := by decide +kernel
theorem dX12_feud_38 : decode cX12_feud 38 = .ok (.invokestatic 98, 3) := by decide +kernel
theorem dX12_feud_41 : decode cX12_feud 41 = .ok (.ifCond .eq 20, 3) := by decide +kernel
theorem dX12_feud_44 : decode cX12_feud 44 = .ok (.aload_n 0, 1) := by decide +kernel
theorem dX12_feud_45 : decode cX12_feud 45 = .ok (.getfield 35, 3) := by decide +kernel
theorem dX12_feud_48 : decode cX12_feud 48 = .ok (.bipush 72, 2) := by decide +kernel
theorem dX12_feud_50 : decode cX12_feud 50 = .ok (.bipush 10, 2) := by decide +kernel
theorem dX12_feud_52 : decode cX12_feud 52 = .ok (.iload_n 2, 1) := by decide +kernel
theorem dX12_feud_53 : decode cX12_feud 53 = .ok (.imul, 1) := by decide +kernel
theorem dX12_feud_54 : decode cX12_feud 54 = .ok (.iadd, 1) := by decide +kernel
theorem dX12_feud_55 : decode cX12_feud 55 = .ok (.iload_n 1, 1) := by decide +kernel
theorem dX12_feud_56 : decode cX12_feud 56 = .ok (.iadd, 1) := by decide +kernel
theorem dX12_feud_57 : decode cX12_feud 57 = .ok (.iaload, 1) := by decide +kernel
theorem dX12_feud_58 : decode cX12_feud 58 = .ok (.goto 8, 3) := by decide +kernel
theorem dX12_feud_61 : decode cX12_feud 61 = .ok (.aload_n 0, 1) := by decide +kernel
theorem dX12_feud_62 : decode cX12_feud 62 = .ok (.iconst 5, 1) := by decide +kernel
theorem dX12_feud_63 : decode cX12_feud 63 = .ok (.invokevirtual 333, 3) := by decide +kernel
theorem dX12_feud_66 : decode cX12_feud 66 = .ok (.ireturn, 1) := by decide +kernel
theorem dX12_copyHeights_0 : decode cX12_copyHeights 0 = .ok (.aload_n 0, 1) := by decide +kernel
theorem dX12_copyHeights_1 : decode cX12_copyHeights 1 = .ok (.iconst 0, 1) := by decide +kernel
theorem dX12_copyHeights_2 : decode cX12_copyHeights 2 = .ok (.putfield 63, 3) := by decide +kernel
theorem dX12_copyHeights_5 : decode cX12_copyHeights 5 = .ok (.aload_n 0, 1) := by decide +kernel
theorem dX12_copyHeights_6 : decode cX12_copyHeights 6 = .ok (.iconst 0, 1) := by decide +kernel
theorem dX12_copyHeights_7 : decode cX12_copyHeights 7 = .ok (.putfield 66, 3) := by decide +kernel
theorem dX12_copyHeights_10 : decode cX12_copyHeights 10 = .ok (.aload_n 0, 1) := by decide +kernel
theorem dX12_copyHeights_11 : decode cX12_copyHeights 11 = .ok (.iload_n 1, 1) := by decide +kernel
theorem dX12_copyHeights_12 : decode cX12_copyHeights 12 = .ok (.invokevirtual 370, 3) := by decide +kernel
theorem dX12_copyHeights_15 : decode cX12_copyHeights 15 = .ok (.ifCond .ne 9, 3) := by decide +kernel
theorem dX12_copyHeights_18 : decode cX12_copyHeights 18 = .ok (.aload_n 0, 1) := by decide +kernel
theorem dX12_copyHeights_19 : decode cX12_copyHeights 19 = .ok (.iconst 1, 1) := by decide +kernel
theorem dX12_copyHeights_20 : decode cX12_copyHeights 20 = .ok (.invokevirtual 333, 3) := by decide +kernel
theorem dX12_copyHeights_23 : decode cX12_copyHeights 23 = .ok (.ireturn, 1) := by decide +kernel
theorem dX12_copyHeights_24 : decode cX12_copyHeights 24 = .ok (.aload_n 0, 1) := by decide +kernel
theorem dX12_copyHeights_25 : decode cX12_copyHeights 25 = .ok (.getfield 17, 3) := by decide +kernel
theorem dX12_copyHeights_28 : decode cX12_copyHeights 28 = .ok (.iload_n 1, 1) := by decide +kernel
theorem dX12_copyHeights_29 : decode cX12_copyHeights 29 = .ok (.iaload, 1) := by decide +kernel
theorem dX12_copyHeights_30 : decode cX12_copyHeights 30 = .ok (.ifCond .ge 9, 3) := by decide +kernel
theorem dX12_copyHeights_33 : decode cX12_copyHeights 33 = .ok (.aload_n 0, 1) := by decide +kernel
theorem dX12_copyHeights_34 : decode cX12_copyHeights 34 = .ok (.iconst 3, 1) := by decide +kernel
theorem dX12_copyHeights_35 : decode cX12_copyHeights 35 = .ok (.invokevirtual 333, 3) := by decide +kernel
theorem dX12_copyHeights_38 : decode cX12_copyHeights 38 = .ok (.ireturn, 1) := by decide +kernel
theorem dX12_copyHeights_39 : decode cX12_copyHeights 39 = .ok (.aload_n 0, 1) := by decide +kernel
theorem dX12_copyHeights_40 : decode cX12_copyHeights 40 = .ok (.getfield 17, 3) := by decide +kernel
theorem dX12_copyHeights_43 : decode cX12_copyHeights 43 = .ok (.iload_n 1, 1) := by decide +kernel
theorem dX12_copyHeights_44 : decode cX12_copyHeights 44 = .ok (.iaload, 1) := by decide +kernel
theorem dX12_copyHeights_45 : decode cX12_copyHeights 45 = .ok (.aload_n 0, 1) := by decide +kernel
theorem dX12_copyHeights_46 : decode cX12_copyHeights 46 = .ok (.getfield 35, 3) := by decide +kernel
theorem dX12_copyHeights_49 : decode cX12_copyHeights 49 = .ok (.iconst 2, 1) := by decide +kernel
theorem dX12_copyHeights_50 : decode cX12_copyHeights 50 = .ok (.iaload, 1) := by decide +kernel
theorem dX12_copyHeights_51 : decode cX12_copyHeights 51 = .ok (.if_icmp .ge 9, 3) := by decide +kernel
theorem dX12_copyHeights_54 : decode cX12_copyHeights 54 = .ok (.aload_n 0, 1) := by decide +kernel
theorem dX12_copyHeights_55 : decode cX12_copyHeights 55 = .ok (.iconst 4, 1) := by decide +kernel
theorem dX12_copyHeights_56 : decode cX12_copyHeights 56 = .ok (.invokevirtual 333, 3) := by decide +kernel
theorem dX12_copyHeights_59 : decode cX12_copyHeights 59 = .ok (.ireturn, 1) := by decide +kernel
theorem dX12_copyHeights_60 : decode cX12_copyHeights 60 = .ok (.iconst 0, 1) := by decide +kernel
theorem dX12_copyHeights_61 : decode cX12_copyHeights 61 = .ok (.istore_n 2, 1) := by decide +kernel
theorem dX12_copyHeights_62 : decode cX12_copyHeights 62 = .ok (.iload_n 2, 1) := by decide +kernel
theorem dX12_copyHeights_63 : decode cX12_copyHeights 63 = .ok (.aload_n 0, 1) := by decide +kernel
theorem dX12_copyHeights_64 : decode cX12_copyHeights 64 = .ok (.getfield 35, 3) := by decide +kernel
theorem dX12_copyHeights_67 : decode cX12_copyHeights 67 = .ok (.iconst 2, 1) := by decide +kernel
theorem dX12_copyHeights_68 : decode cX12_copyHeights 68 = .ok (.iaload, 1) := by decide +kernel
theorem dX12_copyHeights_69 : decode cX12_copyHeights 69 = .ok (.if_icmp .ge 26, 3) := by decide +kernel
theorem dX12_copyHeights_72 : decode cX12_copyHeights 72 = .ok (.aload_n 0, 1) := by decide +kernel
theorem dX12_copyHeights_73 : decode cX12_copyHeights 73 = .ok (.iload_n 1, 1) := by decide +kernel
theorem dX12_copyHeights_74 : decode cX12_copyHeights 74 = .ok (.iload_n 2, 1) := by decide +kernel
theorem dX12_copyHeights_75 : decode cX12_copyHeights 75 = .ok (.aload_n 0, 1) := by decide +kernel
theorem dX12_copyHeights_76 : decode cX12_copyHeights 76 = .ok (.getfield 35, 3) := by decide +kernel
theorem dX12_copyHeights_79 : decode cX12_copyHeights 79 = .ok (.bipush 54, 2) := by decide +kernel
theorem dX12_copyHeights_81 : decode cX12_copyHeights 81 = .ok (.iload_n 2, 1) := by decide +kernel
theorem dX12_copyHeights_82 : decode cX12_copyHeights 82 = .ok (.iadd, 1) := by decide +kernel
theorem dX12_copyHeights_83 : decode cX12_copyHeights 83 = .ok (.iaload, 1) := by decide +kernel
theorem dX12_copyHeights_84 : decode cX12_copyHeights 84 = .ok (.i2l, 1) := by decide +kernel
theorem dX12_copyHeights_85 : decode cX12_copyHeights 85 = .ok (.invokevirtual 373, 3) := by decide +kernel
theorem dX12_copyHeights_88 : decode cX12_copyHeights 88 = .ok (.pop, 1) := by decide +kernel
theorem dX12_copyHeights_89 : decode cX12_copyHeights 89 = .ok (.iinc 2 1, 3) := by decide +kernel
theorem dX12_copyHeights_92 : decode cX12_copyHeights 92 = .ok (.goto (-30), 3) := by decide +kernel
theorem dX12_copyHeights_95 : decode cX12_copyHeights 95 = .ok (.aload_n 0, 1) := by decide +kernel
theorem dX12_copyHeights_96 : decode cX12_copyHeights 96 = .ok (.getfield 35, 3) := by decide +kernel
theorem dX12_copyHeights_99 : decode cX12_copyHeights 99 = .ok (.iconst 2, 1) := by decide +kernel
theorem dX12_copyHeights_100 : decode cX12_copyHeights 100 = .ok (.iaload, 1) := by decide +kernel
theorem dX12_copyHeights_101 : decode cX12_copyHeights 101 = .ok (.ireturn, 1) := by decide +kernel
theorem dX12_says_0 : decode cX12_says 0 = .ok (.aload_n 0, 1) := by decide +kernel
theorem dX12_says_1 : decode cX12_says 1 = .ok (.iload_n 1, 1) := by decide +kernel
theorem dX12_says_2 : decode cX12_says 2 = .ok (.iload_n 2, 1) := by decide +kernel
theorem dX12_says_3 : decode cX12_says 3 = .ok (.invokevirtual 359, 3) := by decide +kernel
theorem dX12_says_6 : decode cX12_says 6 = .ok (.ifCond .ne 5, 3) := by decide +kernel
theorem dX12_says_9 : decode cX12_says 9 = .ok (.iconst 0, 1) := by decide +kernel
theorem dX12_says_10 : decode cX12_says 10 = .ok (.ireturn, 1) := by decide +kernel
theorem dX12_says_11 : decode cX12_says 11 = .ok (.aload_n 0, 1) := by decide +kernel
theorem dX12_says_12 : decode cX12_says 12 = .ok (.getfield 35, 3) := by decide +kernel
theorem dX12_says_15 : decode cX12_says 15 = .ok (.bipush 54, 2) := by decide +kernel
theorem dX12_says_17 : decode cX12_says 17 = .ok (.iload_n 1, 1) := by decide +kernel
theorem dX12_says_18 : decode cX12_says 18 = .ok (.iadd, 1) := by decide +kernel
theorem dX12_says_19 : decode cX12_says 19 = .ok (.aload_n 0, 1) := by decide +kernel
theorem dX12_says_20 : decode cX12_says 20 = .ok (.getfield 35, 3) := by decide +kernel
theorem dX12_says_23 : decode cX12_says 23 = .ok (.bipush 24, 2) := by decide +kernel
theorem dX12_says_25 : decode cX12_says 25 = .ok (.iload_n 2, 1) := by decide +kernel
theorem dX12_says_26 : decode cX12_says 26 = .ok (.iadd, 1) := by decide +kernel
theorem dX12_says_27 : decode cX12_says 27 = .ok (.iaload, 1) := by decide +kernel
theorem dX12_says_28 : decode cX12_says 28 = .ok (.iconst 1, 1) := by decide +kernel
theorem dX12_says_29 : decode cX12_says 29 = .ok (.iadd, 1) := by decide +kernel
theorem dX12_says_30 : decode cX12_says 30 = .ok (.iastore, 1) := by decide +kernel
theorem dX12_says_31 : decode cX12_says 31 = .ok (.aload_n 0, 1) := by decide +kernel
theorem dX12_says_32 : decode cX12_says 32 = .ok (.getfield 35, 3) := by decide +kernel
theorem dX12_says_35 : decode cX12_says 35 = .ok (.bipush 60, 2) := by decide +kernel
theorem dX12_says_37 : decode cX12_says 37 = .ok (.iload_n 1, 1) := by decide +kernel
theorem dX12_says_38 : decode cX12_says 38 = .ok (.iadd, 1) := by decide +kernel
theorem dX12_says_39 : decode cX12_says 39 = .ok (.aload_n 0, 1) := by decide +kernel
theorem dX12_says_40 : decode cX12_says 40 = .ok (.iload_n 2, 1) := by decide +kernel
theorem dX12_says_41 : decode cX12_says 41 = .ok (.invokevirtual 354, 3) := by decide +kernel
theorem dX12_says_44 : decode cX12_says 44 = .ok (.ifCond .eq 7, 3) := by decide +kernel
theorem dX12_says_47 : decode cX12_says 47 = .ok (.iconst 1, 1) := by decide +kernel
theorem dX12_says_48 : decode cX12_says 48 = .ok (.goto 4, 3) := by decide +kernel
theorem dX12_says_51 : decode cX12_says 51 = .ok (.iconst 0, 1) := by decide +kernel
theorem dX12_says_52 : decode cX12_says 52 = .ok (.iastore, 1) := by decide +kernel
theorem dX12_says_53 : decode cX12_says 53 = .ok (.aload_n 0, 1) := by decide +kernel
theorem dX12_says_54 : decode cX12_says 54 = .ok (.getfield 35, 3) := by decide +kernel
theorem dX12_says_57 : decode cX12_says 57 = .ok (.iconst 5, 1) := by decide +kernel
theorem dX12_says_58 : decode cX12_says 58 = .ok (.dup2, 1) := by decide +kernel
theorem dX12_says_59 : decode cX12_says 59 = .ok (.iaload, 1) := by decide +kernel
theorem dX12_says_60 : decode cX12_says 60 = .ok (.iconst 1, 1) := by decide +kernel
theorem dX12_says_61 : decode cX12_says 61 = .ok (.iadd, 1) := by decide +kernel
theorem dX12_says_62 : decode cX12_says 62 = .ok (.iastore, 1) := by decide +kernel
theorem dX12_says_63 : decode cX12_says 63 = .ok (.iconst 1, 1) := by decide +kernel
theorem dX12_says_64 : decode cX12_says 64 = .ok (.ireturn, 1) := by decide +kernel
theorem dX12_say_0 : decode cX12_say 0 = .ok (.aload_n 0, 1) := by decide +kernel
theorem dX12_say_1 : decode cX12_say 1 = .ok (.iconst 0, 1) := by decide +kernel
theorem dX12_say_2 : decode cX12_say 2 = .ok (.putfield 63, 3) := by decide +kernel
theorem dX12_say_5 : decode cX12_say 5 = .ok (.aload_n 0, 1) := by decide +kernel
theorem dX12_say_6 : decode cX12_say 6 = .ok (.iconst 0, 1) := by decide +kernel
theorem dX12_say_7 : decode cX12_say 7 = .ok (.putfield 66, 3) := by decide +kernel
theorem dX12_say_10 : decode cX12_say 10 = .ok (.aload_n 0, 1) := by decide +kernel
theorem dX12_say_11 : decode cX12_say 11 = .ok (.iload_n 1, 1) := by decide +kernel
theorem dX12_say_12 : decode cX12_say 12 = .ok (.invokevirtual 362, 3) := by decide +kernel
theorem dX12_say_15 : decode cX12_say 15 = .ok (.ifCond .eq 11, 3) := by decide +kernel
theorem dX12_say_18 : decode cX12_say 18 = .ok (.aload_n 0, 1) := by decide +kernel
theorem dX12_say_19 : decode cX12_say 19 = .ok (.iload_n 2, 1) := by decide +kernel
theorem dX12_say_20 : decode cX12_say 20 = .ok (.invokevirtual 351, 3) := by decide +kernel
theorem dX12_say_23 : decode cX12_say 23 = .ok (.ifCond .ne 9, 3) := by decide +kernel
theorem dX12_say_26 : decode cX12_say 26 = .ok (.aload_n 0, 1) := by decide +kernel
theorem dX12_say_27 : decode cX12_say 27 = .ok (.iconst 2, 1) := by decide +kernel
theorem dX12_say_28 : decode cX12_say 28 = .ok (.invokevirtual 333, 3) := by decide +kernel
theorem dX12_say_31 : decode cX12_say 31 = .ok (.ireturn, 1) := by decide +kernel
theorem dX12_say_32 : decode cX12_say 32 = .ok (.aload_n 0, 1) := by decide +kernel
theorem dX12_say_33 : decode cX12_say 33 = .ok (.iload_n 1, 1) := by decide +kernel
theorem dX12_say_34 : decode cX12_say 34 = .ok (.iload_n 2, 1) := by decide +kernel
theorem dX12_say_35 : decode cX12_say 35 = .ok (.invokevirtual 377, 3) := by decide +kernel
theorem dX12_say_38 : decode cX12_say 38 = .ok (.ifCond .eq 15, 3) := by decide +kernel
theorem dX12_say_41 : decode cX12_say 41 = .ok (.aload_n 0, 1) := by decide +kernel
theorem dX12_say_42 : decode cX12_say 42 = .ok (.getfield 35, 3) := by decide +kernel
theorem dX12_say_45 : decode cX12_say 45 = .ok (.bipush 54, 2) := by decide +kernel
theorem dX12_say_47 : decode cX12_say 47 = .ok (.iload_n 1, 1) := by decide +kernel
theorem dX12_say_48 : decode cX12_say 48 = .ok (.iadd, 1) := by decide +kernel
theorem dX12_say_49 : decode cX12_say 49 = .ok (.iaload, 1) := by decide +kernel
theorem dX12_say_50 : decode cX12_say 50 = .ok (.goto 9, 3) := by decide +kernel
theorem dX12_say_53 : decode cX12_say 53 = .ok (.aload_n 0, 1) := by decide +kernel
theorem dX12_say_54 : decode cX12_say 54 = .ok (.bipush 9, 2) := by decide +kernel
theorem dX12_say_56 : decode cX12_say 56 = .ok (.invokevirtual 333, 3) := by decide +kernel
theorem dX12_say_59 : decode cX12_say 59 = .ok (.ireturn, 1) := by decide +kernel
theorem dX12_lowers_0 : decode cX12_lowers 0 = .ok (.aload_n 0, 1) := by decide +kernel
theorem dX12_lowers_1 : decode cX12_lowers 1 = .ok (.getfield 35, 3) := by decide +kernel
theorem dX12_lowers_4 : decode cX12_lowers 4 = .ok (.bipush 54, 2) := by decide +kernel
theorem dX12_lowers_6 : decode cX12_lowers 6 = .ok (.iload_n 1, 1) := by decide +kernel
theorem dX12_lowers_7 : decode cX12_lowers 7 = .ok (.iadd, 1) := by decide +kernel
theorem dX12_lowers_8 : decode cX12_lowers 8 = .ok (.iconst 0, 1) := by decide +kernel
theorem dX12_lowers_9 : decode cX12_lowers 9 = .ok (.aload_n 0, 1) := by decide +kernel
theorem dX12_lowers_10 : decode cX12_lowers 10 = .ok (.getfield 35, 3) := by decide +kernel
theorem dX12_lowers_13 : decode cX12_lowers 13 = .ok (.bipush 54, 2) := by decide +kernel
theorem dX12_lowers_15 : decode cX12_lowers 15 = .ok (.iload_n 1, 1) := by decide +kernel
theorem dX12_lowers_16 : decode cX12_lowers 16 = .ok (.iadd, 1) := by decide +kernel
theorem dX12_lowers_17 : decode cX12_lowers 17 = .ok (.iaload, 1) := by decide +kernel
theorem dX12_lowers_18 : decode cX12_lowers 18 = .ok (.iload_n 2, 1) := by decide +kernel
theorem dX12_lowers_19 : decode cX12_lowers 19 = .ok (.isub, 1) := by decide +kernel
theorem dX12_lowers_20 : decode cX12_lowers 20 = .ok (.invokestatic 247, 3) := by decide +kernel
theorem dX12_lowers_23 : decode cX12_lowers 23 = .ok (.iastore, 1) := by decide +kernel
theorem dX12_lowers_24 : decode cX12_lowers 24 = .ok (.aload_n 0, 1) := by decide +kernel
theorem dX12_lowers_25 : decode cX12_lowers 25 = .ok (.getfield 35, 3) := by decide +kernel
theorem dX12_lowers_28 : decode cX12_lowers 28 = .ok (.bipush 54, 2) := by decide +kernel
theorem dX12_lowers_30 : decode cX12_lowers 30 = .ok (.iload_n 1, 1) := by decide +kernel
theorem dX12_lowers_31 : decode cX12_lowers 31 = .ok (.iadd, 1) := by decide +kernel
theorem dX12_lowers_32 : decode cX12_lowers 32 = .ok (.iaload, 1) := by decide +kernel
theorem dX12_lowers_33 : decode cX12_lowers 33 = .ok (.ifCond .ne 13, 3) := by decide +kernel
theorem dX12_lowers_36 : decode cX12_lowers 36 = .ok (.aload_n 0, 1) := by decide +kernel
theorem dX12_lowers_37 : decode cX12_lowers 37 = .ok (.getfield 35, 3) := by decide +kernel
theorem dX12_lowers_40 : decode cX12_lowers 40 = .ok (.bipush 60, 2) := by decide +kernel
theorem dX12_lowers_42 : decode cX12_lowers 42 = .ok (.iload_n 1, 1) := by decide +kernel
theorem dX12_lowers_43 : decode cX12_lowers 43 = .ok (.iadd, 1) := by decide +kernel
theorem dX12_lowers_44 : decode cX12_lowers 44 = .ok (.iconst 0, 1) := by decide +kernel
theorem dX12_lowers_45 : decode cX12_lowers 45 = .ok (.iastore, 1) := by decide +kernel
theorem dX12_lowers_46 : decode cX12_lowers 46 = .ok (.return_, 1) := by decide +kernel
theorem dX12_drops_0 : decode cX12_drops 0 = .ok (.aload_n 0, 1) := by decide +kernel
theorem dX12_drops_1 : decode cX12_drops 1 = .ok (.getfield 35, 3) := by decide +kernel
theorem dX12_drops_4 : decode cX12_drops 4 = .ok (.bipush 60, 2) := by decide +kernel
theorem dX12_drops_6 : decode cX12_drops 6 = .ok (.iload_n 1, 1) := by decide +kernel
theorem dX12_drops_7 : decode cX12_drops 7 = .ok (.iadd, 1) := by decide +kernel
theorem dX12_drops_8 : decode cX12_drops 8 = .ok (.iaload, 1) := by decide +kernel
theorem dX12_drops_9 : decode cX12_drops 9 = .ok (.ifCond .ne 5, 3) := by decide +kernel
theorem dX12_drops_12 : decode cX12_drops 12 = .ok (.iconst 0, 1) := by decide +kernel
theorem dX12_drops_13 : decode cX12_drops 13 = .ok (.ireturn, 1) := by decide +kernel
theorem dX12_drops_14 : decode cX12_drops 14 = .ok (.aload_n 0, 1) := by decide +kernel
theorem dX12_drops_15 : decode cX12_drops 15 = .ok (.iload_n 1, 1) := by decide +kernel
theorem dX12_drops_16 : decode cX12_drops 16 = .ok (.iload_n 2, 1) := by decide +kernel
theorem dX12_drops_17 : decode cX12_drops 17 = .ok (.invokevirtual 380, 3) := by decide +kernel
theorem dX12_drops_20 : decode cX12_drops 20 = .ok (.iconst 1, 1) := by decide +kernel
theorem dX12_drops_21 : decode cX12_drops 21 = .ok (.ireturn, 1) := by decide +kernel
theorem dX12_drop_0 : decode cX12_drop 0 = .ok (.aload_n 0, 1) := by decide +kernel
theorem dX12_drop_1 : decode cX12_drop 1 = .ok (.iconst 0, 1) := by decide +kernel
theorem dX12_drop_2 : decode cX12_drop 2 = .ok (.putfield 63, 3) := by decide +kernel
theorem dX12_drop_5 : decode cX12_drop 5 = .ok (.aload_n 0, 1) := by decide +kernel
theorem dX12_drop_6 : decode cX12_drop 6 = .ok (.iconst 0, 1) := by decide +kernel
theorem dX12_drop_7 : decode cX12_drop 7 = .ok (.putfield 66, 3) := by decide +kernel
theorem dX12_drop_10 : decode cX12_drop 10 = .ok (.aload_n 0, 1) := by decide +kernel
theorem dX12_drop_11 : decode cX12_drop 11 = .ok (.iload_n 1, 1) := by decide +kernel
theorem dX12_drop_12 : decode cX12_drop 12 = .ok (.invokevirtual 362, 3) := by decide +kernel
theorem dX12_drop_15 : decode cX12_drop 15 = .ok (.ifCond .ne 9, 3) := by decide +kernel
theorem dX12_drop_18 : decode cX12_drop 18 = .ok (.aload_n 0, 1) := by decide +kernel
theorem dX12_drop_19 : decode cX12_drop 19 = .ok (.iconst 2, 1) := by decide +kernel
theorem dX12_drop_20 : decode cX12_drop 20 = .ok (.invokevirtual 333, 3) := by decide +kernel
theorem dX12_drop_23 : decode cX12_drop 23 = .ok (.ireturn, 1) := by decide +kernel
theorem dX12_drop_24 : decode cX12_drop 24 = .ok (.iload_n 2, 1) := by decide +kernel
theorem dX12_drop_25 : decode cX12_drop 25 = .ok (.i2l, 1) := by decide +kernel
theorem dX12_drop_26 : decode cX12_drop 26 = .ok (.lconst 1, 1) := by decide +kernel
theorem dX12_drop_27 : decode cX12_drop 27 = .ok (.ldc2_w 331, 3) := by decide +kernel
theorem dX12_drop_30 : decode cX12_drop 30 = .ok (.invokestatic 98, 3) := by decide +kernel
theorem dX12_drop_33 : decode cX12_drop 33 = .ok (.ifCond .ne 9, 3) := by decide +kernel
theorem dX12_drop_36 : decode cX12_drop 36 = .ok (.aload_n 0, 1) := by decide +kernel
theorem dX12_drop_37 : decode cX12_drop 37 = .ok (.iconst 5, 1) := by decide +kernel
theorem dX12_drop_38 : decode cX12_drop 38 = .ok (.invokevirtual 333, 3) := by decide +kernel
theorem dX12_drop_41 : decode cX12_drop 41 = .ok (.ireturn, 1) := by decide +kernel
theorem dX12_drop_42 : decode cX12_drop 42 = .ok (.aload_n 0, 1) := by decide +kernel
theorem dX12_drop_43 : decode cX12_drop 43 = .ok (.iload_n 1, 1) := by decide +kernel
theorem dX12_drop_44 : decode cX12_drop 44 = .ok (.iload_n 2, 1) := by decide +kernel
theorem dX12_drop_45 : decode cX12_drop 45 = .ok (.invokevirtual 383, 3) := by decide +kernel
theorem dX12_drop_48 : decode cX12_drop 48 = .ok (.ifCond .eq 15, 3) := by decide +kernel
theorem dX12_drop_51 : decode cX12_drop 51 = .ok (.aload_n 0, 1) := by decide +kernel
theorem dX12_drop_52 : decode cX12_drop 52 = .ok (.getfield 35, 3) := by decide +kernel
theorem dX12_drop_55 : decode cX12_drop 55 = .ok (.bipush 54, 2) := by decide +kernel
theorem dX12_drop_57 : decode cX12_drop 57 = .ok (.iload_n 1, 1) := by decide +kernel
theorem dX12_drop_58 : decode cX12_drop 58 = .ok (.iadd, 1) := by decide +kernel
theorem dX12_drop_59 : decode cX12_drop 59 = .ok (.iaload, 1) := by decide +kernel
theorem dX12_drop_60 : decode cX12_drop 60 = .ok (.goto 9, 3) := by decide +kernel
theorem dX12_drop_63 : decode cX12_drop 63 = .ok (.aload_n 0, 1) := by decide +kernel
theorem dX12_drop_64 : decode cX12_drop 64 = .ok (.bipush 9, 2) := by decide +kernel
theorem dX12_drop_66 : decode cX12_drop 66 = .ok (.invokevirtual 333, 3) := by decide +kernel
theorem dX12_drop_69 : decode cX12_drop 69 = .ok (.ireturn, 1) := by decide +kernel
theorem dX12_landing_0 : decode cX12_landing 0 = .ok (.iload_n 1, 1) := by decide +kernel
theorem dX12_landing_1 : decode cX12_landing 1 = .ok (.ifCond .ne 7, 3) := by decide +kernel
theorem dX12_landing_4 : decode cX12_landing 4 = .ok (.iconst 0, 1) := by decide +kernel
theorem dX12_landing_5 : decode cX12_landing 5 = .ok (.goto 20, 3) := by decide +kernel
theorem dX12_landing_8 : decode cX12_landing 8 = .ok (.iconst 0, 1) := by decide +kernel
theorem dX12_landing_9 : decode cX12_landing 9 = .ok (.iload_n 1, 1) := by decide +kernel
theorem dX12_landing_10 : decode cX12_landing 10 = .ok (.aload_n 0, 1) := by decide +kernel
theorem dX12_landing_11 : decode cX12_landing 11 = .ok (.getfield 35, 3) := by decide +kernel
theorem dX12_landing_14 : decode cX12_landing 14 = .ok (.bipush 15, 2) := by decide +kernel
theorem dX12_landing_16 : decode cX12_landing 16 = .ok (.iload_n 1, 1) := by decide +kernel
theorem dX12_landing_17 : decode cX12_landing 17 = .ok (.iadd, 1) := by decide +kernel
theorem dX12_landing_18 : decode cX12_landing 18 = .ok (.iconst 1, 1) := by decide +kernel
theorem dX12_landing_19 : decode cX12_landing 19 = .ok (.isub, 1) := by decide +kernel
theorem dX12_landing_20 : decode cX12_landing 20 = .ok (.iaload, 1) := by decide +kernel
theorem dX12_landing_21 : decode cX12_landing 21 = .ok (.isub, 1) := by decide +kernel
theorem dX12_landing_22 : decode cX12_landing 22 = .ok (.invokestatic 247, 3) := by decide +kernel
theorem dX12_landing_25 : decode cX12_landing 25 = .ok (.ireturn, 1) := by decide +kernel
theorem dX12_pulls_0 : decode cX12_pulls 0 = .ok (.aload_n 0, 1) := by decide +kernel
theorem dX12_pulls_1 : decode cX12_pulls 1 = .ok (.getfield 35, 3) := by decide +kernel
theorem dX12_pulls_4 : decode cX12_pulls 4 = .ok (.bipush 60, 2) := by decide +kernel
theorem dX12_pulls_6 : decode cX12_pulls 6 = .ok (.iload_n 1, 1) := by decide +kernel
theorem dX12_pulls_7 : decode cX12_pulls 7 = .ok (.iadd, 1) := by decide +kernel
theorem dX12_pulls_8 : decode cX12_pulls 8 = .ok (.iaload, 1) := by decide +kernel
theorem dX12_pulls_9 : decode cX12_pulls 9 = .ok (.ifCond .ne 5, 3) := by decide +kernel
theorem dX12_pulls_12 : decode cX12_pulls 12 = .ok (.iconst 0, 1) := by decide +kernel
theorem dX12_pulls_13 : decode cX12_pulls 13 = .ok (.ireturn, 1) := by decide +kernel
theorem dX12_pulls_14 : decode cX12_pulls 14 = .ok (.aload_n 0, 1) := by decide +kernel
theorem dX12_pulls_15 : decode cX12_pulls 15 = .ok (.getfield 35, 3) := by decide +kernel
theorem dX12_pulls_18 : decode cX12_pulls 18 = .ok (.bipush 54, 2) := by decide +kernel
theorem dX12_pulls_20 : decode cX12_pulls 20 = .ok (.iload_n 1, 1) := by decide +kernel
theorem dX12_pulls_21 : decode cX12_pulls 21 = .ok (.iadd, 1) := by decide +kernel
theorem dX12_pulls_22 : decode cX12_pulls 22 = .ok (.iload_n 2, 1) := by decide +kernel
theorem dX12_pulls_23 : decode cX12_pulls 23 = .ok (.ifCond .eq 19, 3) := by decide +kernel
theorem dX12_pulls_26 : decode cX12_pulls 26 = .ok (.aload_n 0, 1) := by decide +kernel
theorem dX12_pulls_27 : decode cX12_pulls 27 = .ok (.aload_n 0, 1) := by decide +kernel
theorem dX12_pulls_28 : decode cX12_pulls 28 = .ok (.getfield 35, 3) := by decide +kernel
theorem dX12_pulls_31 : decode cX12_pulls 31 = .ok (.bipush 54, 2) := by decide +kernel
theorem dX12_pulls_33 : decode cX12_pulls 33 = .ok (.iload_n 1, 1) := by decide +kernel
theorem dX12_pulls_34 : decode cX12_pulls 34 = .ok (.iadd, 1) := by decide +kernel
theorem dX12_pulls_35 : decode cX12_pulls 35 = .ok (.iaload, 1) := by decide +kernel
theorem dX12_pulls_36 : decode cX12_pulls 36 = .ok (.invokevirtual 386, 3) := by decide +kernel
theorem dX12_pulls_39 : decode cX12_pulls 39 = .ok (.goto 4, 3) := by decide +kernel
theorem dX12_pulls_42 : decode cX12_pulls 42 = .ok (.iconst 0, 1) := by decide +kernel
theorem dX12_pulls_43 : decode cX12_pulls 43 = .ok (.iastore, 1) := by decide +kernel
theorem dX12_pulls_44 : decode cX12_pulls 44 = .ok (.aload_n 0, 1) := by decide +kernel
theorem dX12_pulls_45 : decode cX12_pulls 45 = .ok (.getfield 35, 3) := by decide +kernel
theorem dX12_pulls_48 : decode cX12_pulls 48 = .ok (.bipush 60, 2) := by decide +kernel
theorem dX12_pulls_50 : decode cX12_pulls 50 = .ok (.iload_n 1, 1) := by decide +kernel
theorem dX12_pulls_51 : decode cX12_pulls 51 = .ok (.iadd, 1) := by decide +kernel
theorem dX12_pulls_52 : decode cX12_pulls 52 = .ok (.iconst 0, 1) := by decide +kernel
theorem dX12_pulls_53 : decode cX12_pulls 53 = .ok (.iastore, 1) := by decide +kernel
theorem dX12_pulls_54 : decode cX12_pulls 54 = .ok (.iconst 1, 1) := by decide +kernel
theorem dX12_pulls_55 : decode cX12_pulls 55 = .ok (.ireturn, 1) := by decide +kernel
theorem dX12_pull_0 : decode cX12_pull 0 = .ok (.aload_n 0, 1) := by decide +kernel
theorem dX12_pull_1 : decode cX12_pull 1 = .ok (.iconst 0, 1) := by decide +kernel
theorem dX12_pull_2 : decode cX12_pull 2 = .ok (.putfield 63, 3) := by decide +kernel
theorem dX12_pull_5 : decode cX12_pull 5 = .ok (.aload_n 0, 1) := by decide +kernel
theorem dX12_pull_6 : decode cX12_pull 6 = .ok (.iconst 0, 1) := by decide +kernel
theorem dX12_pull_7 : decode cX12_pull 7 = .ok (.putfield 66, 3) := by decide +kernel
theorem dX12_pull_10 : decode cX12_pull 10 = .ok (.aload_n 0, 1) := by decide +kernel
theorem dX12_pull_11 : decode cX12_pull 11 = .ok (.iload_n 1, 1) := by decide +kernel
theorem dX12_pull_12 : decode cX12_pull 12 = .ok (.invokevirtual 362, 3) := by decide +kernel
theorem dX12_pull_15 : decode cX12_pull 15 = .ok (.ifCond .ne 9, 3) := by decide +kernel
theorem dX12_pull_18 : decode cX12_pull 18 = .ok (.aload_n 0, 1) := by decide +kernel
theorem dX12_pull_19 : decode cX12_pull 19 = .ok (.iconst 2, 1) := by decide +kernel
theorem dX12_pull_20 : decode cX12_pull 20 = .ok (.invokevirtual 333, 3) := by decide +kernel
theorem dX12_pull_23 : decode cX12_pull 23 = .ok (.ireturn, 1) := by decide +kernel
theorem dX12_pull_24 : decode cX12_pull 24 = .ok (.aload_n 0, 1) := by decide +kernel
theorem dX12_pull_25 : decode cX12_pull 25 = .ok (.iload_n 1, 1) := by decide +kernel
theorem dX12_pull_26 : decode cX12_pull 26 = .ok (.iload_n 2, 1) := by decide +kernel
theorem dX12_pull_27 : decode cX12_pull 27 = .ok (.invokevirtual 389, 3) := by decide +kernel
theorem dX12_pull_30 : decode cX12_pull 30 = .ok (.ifCond .eq 15, 3) := by decide +kernel
theorem dX12_pull_33 : decode cX12_pull 33 = .ok (.aload_n 0, 1) := by decide +kernel
theorem dX12_pull_34 : decode cX12_pull 34 = .ok (.getfield 35, 3) := by decide +kernel
theorem dX12_pull_37 : decode cX12_pull 37 = .ok (.bipush 54, 2) := by decide +kernel
theorem dX12_pull_39 : decode cX12_pull 39 = .ok (.iload_n 1, 1) := by decide +kernel
theorem dX12_pull_40 : decode cX12_pull 40 = .ok (.iadd, 1) := by decide +kernel
theorem dX12_pull_41 : decode cX12_pull 41 = .ok (.iaload, 1) := by decide +kernel
theorem dX12_pull_42 : decode cX12_pull 42 = .ok (.goto 9, 3) := by decide +kernel
theorem dX12_pull_45 : decode cX12_pull 45 = .ok (.aload_n 0, 1) := by decide +kernel
theorem dX12_pull_46 : decode cX12_pull 46 = .ok (.bipush 9, 2) := by decide +kernel
theorem dX12_pull_48 : decode cX12_pull 48 = .ok (.invokevirtual 333, 3) := by decide +kernel
theorem dX12_pull_51 : decode cX12_pull 51 = .ok (.ireturn, 1) := by decide +kernel
theorem dX12_becomes_0 : decode cX12_becomes 0 = .ok (.aload_n 0, 1) := by decide +kernel
theorem dX12_becomes_1 : decode cX12_becomes 1 = .ok (.getfield 35, 3) := by decide +kernel
theorem dX12_becomes_4 : decode cX12_becomes 4 = .ok (.iload_n 1, 1) := by decide +kernel
theorem dX12_becomes_5 : decode cX12_becomes 5 = .ok (.iaload, 1) := by decide +kernel
theorem dX12_becomes_6 : decode cX12_becomes 6 = .ok (.iload_n 2, 1) := by decide +kernel
theorem dX12_becomes_7 : decode cX12_becomes 7 = .ok (.if_icmp .ne 5, 3) := by decide +kernel
theorem dX12_becomes_10 : decode cX12_becomes 10 = .ok (.iconst 0, 1) := by decide +kernel
theorem dX12_becomes_11 : decode cX12_becomes 11 = .ok (.ireturn, 1) := by decide +kernel
theorem dX12_becomes_12 : decode cX12_becomes 12 = .ok (.aload_n 0, 1) := by decide +kernel
theorem dX12_becomes_13 : decode cX12_becomes 13 = .ok (.getfield 35, 3) := by decide +kernel
theorem dX12_becomes_16 : decode cX12_becomes 16 = .ok (.iload_n 1, 1) := by decide +kernel
theorem dX12_becomes_17 : decode cX12_becomes 17 = .ok (.iload_n 2, 1) := by decide +kernel
theorem dX12_becomes_18 : decode cX12_becomes 18 = .ok (.iastore, 1) := by decide +kernel
theorem dX12_becomes_19 : decode cX12_becomes 19 = .ok (.iconst 1, 1) := by decide +kernel
theorem dX12_becomes_20 : decode cX12_becomes 20 = .ok (.ireturn, 1) := by decide +kernel
theorem dX12_prop_0 : decode cX12_prop 0 = .ok (.aload_n 0, 1) := by decide +kernel
theorem dX12_prop_1 : decode cX12_prop 1 = .ok (.iconst 0, 1) := by decide +kernel
theorem dX12_prop_2 : decode cX12_prop 2 = .ok (.putfield 63, 3) := by decide +kernel
theorem dX12_prop_5 : decode cX12_prop 5 = .ok (.aload_n 0, 1) := by decide +kernel
theorem dX12_prop_6 : decode cX12_prop 6 = .ok (.iconst 0, 1) := by decide +kernel
theorem dX12_prop_7 : decode cX12_prop 7 = .ok (.putfield 66, 3) := by decide +kernel
theorem dX12_prop_10 : decode cX12_prop 10 = .ok (.aload_n 0, 1) := by decide +kernel
theorem dX12_prop_11 : decode cX12_prop 11 = .ok (.iload_n 1, 1) := by decide +kernel
theorem dX12_prop_12 : decode cX12_prop 12 = .ok (.invokevirtual 351, 3) := by decide +kernel
theorem dX12_prop_15 : decode cX12_prop 15 = .ok (.ifCond .ne 9, 3) := by decide +kernel
theorem dX12_prop_18 : decode cX12_prop 18 = .ok (.aload_n 0, 1) := by decide +kernel
theorem dX12_prop_19 : decode cX12_prop 19 = .ok (.iconst 2, 1) := by decide +kernel
theorem dX12_prop_20 : decode cX12_prop 20 = .ok (.invokevirtual 333, 3) := by decide +kernel
theorem dX12_prop_23 : decode cX12_prop 23 = .ok (.ireturn, 1) := by decide +kernel
theorem dX12_prop_24 : decode cX12_prop 24 = .ok (.aload_n 0, 1) := by decide +kernel
theorem dX12_prop_25 : decode cX12_prop 25 = .ok (.bipush 40, 2) := by decide +kernel
theorem dX12_prop_27 : decode cX12_prop 27 = .ok (.iload_n 1, 1) := by decide +kernel
theorem dX12_prop_28 : decode cX12_prop 28 = .ok (.iadd, 1) := by decide +kernel
theorem dX12_prop_29 : decode cX12_prop 29 = .ok (.iconst 1, 1) := by decide +kernel
theorem dX12_prop_30 : decode cX12_prop 30 = .ok (.invokevirtual 393, 3) := by decide +kernel
theorem dX12_prop_33 : decode cX12_prop 33 = .ok (.ifCond .eq 15, 3) := by decide +kernel
theorem dX12_prop_36 : decode cX12_prop 36 = .ok (.aload_n 0, 1) := by decide +kernel
theorem dX12_prop_37 : decode cX12_prop 37 = .ok (.iconst 0, 1) := by decide +kernel
theorem dX12_prop_38 : decode cX12_prop 38 = .ok (.iconst 0, 1) := by decide +kernel
theorem dX12_prop_39 : decode cX12_prop 39 = .ok (.invokevirtual 328, 3) := by decide +kernel
theorem dX12_prop_42 : decode cX12_prop 42 = .ok (.invokestatic 396, 3) := by decide +kernel
theorem dX12_prop_45 : decode cX12_prop 45 = .ok (.goto 9, 3) := by decide +kernel
theorem dX12_prop_48 : decode cX12_prop 48 = .ok (.aload_n 0, 1) := by decide +kernel
theorem dX12_prop_49 : decode cX12_prop 49 = .ok (.bipush 9, 2) := by decide +kernel
theorem dX12_prop_51 : decode cX12_prop 51 = .ok (.invokevirtual 333, 3) := by decide +kernel
theorem dX12_prop_54 : decode cX12_prop 54 = .ok (.ireturn, 1) := by decide +kernel
theorem dX12_cut_0 : decode cX12_cut 0 = .ok (.aload_n 0, 1) := by decide +kernel
theorem dX12_cut_1 : decode cX12_cut 1 = .ok (.iconst 0, 1) := by decide +kernel
theorem dX12_cut_2 : decode cX12_cut 2 = .ok (.putfield 63, 3) := by decide +kernel
theorem dX12_cut_5 : decode cX12_cut 5 = .ok (.aload_n 0, 1) := by decide +kernel
theorem dX12_cut_6 : decode cX12_cut 6 = .ok (.iconst 0, 1) := by decide +kernel
theorem dX12_cut_7 : decode cX12_cut 7 = .ok (.putfield 66, 3) := by decide +kernel
theorem dX12_cut_10 : decode cX12_cut 10 = .ok (.aload_n 0, 1) := by decide +kernel
theorem dX12_cut_11 : decode cX12_cut 11 = .ok (.iload_n 1, 1) := by decide +kernel
theorem dX12_cut_12 : decode cX12_cut 12 = .ok (.invokevirtual 351, 3) := by decide +kernel
theorem dX12_cut_15 : decode cX12_cut 15 = .ok (.ifCond .ne 9, 3) := by decide +kernel
theorem dX12_cut_18 : decode cX12_cut 18 = .ok (.aload_n 0, 1) := by decide +kernel
theorem dX12_cut_19 : decode cX12_cut 19 = .ok (.iconst 2, 1) := by decide +kernel
theorem dX12_cut_20 : decode cX12_cut 20 = .ok (.invokevirtual 333, 3) := by decide +kernel
theorem dX12_cut_23 : decode cX12_cut 23 = .ok (.ireturn, 1) := by decide +kernel
theorem dX12_cut_24 : decode cX12_cut 24 = .ok (.aload_n 0, 1) := by decide +kernel
theorem dX12_cut_25 : decode cX12_cut 25 = .ok (.bipush 40, 2) := by decide +kernel
theorem dX12_cut_27 : decode cX12_cut 27 = .ok (.iload_n 1, 1) := by decide +kernel
theorem dX12_cut_28 : decode cX12_cut 28 = .ok (.iadd, 1) := by decide +kernel
theorem dX12_cut_29 : decode cX12_cut 29 = .ok (.iconst 0, 1) := by decide +kernel
theorem dX12_cut_30 : decode cX12_cut 30 = .ok (.invokevirtual 393, 3) := by decide +kernel
theorem dX12_cut_33 : decode cX12_cut 33 = .ok (.ifCond .eq 15, 3) := by decide +kernel
theorem dX12_cut_36 : decode cX12_cut 36 = .ok (.aload_n 0, 1) := by decide +kernel
theorem dX12_cut_37 : decode cX12_cut 37 = .ok (.iconst 0, 1) := by decide +kernel
theorem dX12_cut_38 : decode cX12_cut 38 = .ok (.iconst 0, 1) := by decide +kernel
theorem dX12_cut_39 : decode cX12_cut 39 = .ok (.invokevirtual 328, 3) := by decide +kernel
theorem dX12_cut_42 : decode cX12_cut 42 = .ok (.invokestatic 396, 3) := by decide +kernel
theorem dX12_cut_45 : decode cX12_cut 45 = .ok (.goto 9, 3) := by decide +kernel
theorem dX12_cut_48 : decode cX12_cut 48 = .ok (.aload_n 0, 1) := by decide +kernel
theorem dX12_cut_49 : decode cX12_cut 49 = .ok (.bipush 9, 2) := by decide +kernel
theorem dX12_cut_51 : decode cX12_cut 51 = .ok (.invokevirtual 333, 3) := by decide +kernel
theorem dX12_cut_54 : decode cX12_cut 54 = .ok (.ireturn, 1) := by decide +kernel
theorem dX12_lift_0 : decode cX12_lift 0 = .ok (.aload_n 0, 1) := by decide +kernel
theorem dX12_lift_1 : decode cX12_lift 1 = .ok (.iconst 0, 1) := by decide +kernel
theorem dX12_lift_2 : decode cX12_lift 2 = .ok (.putfield 63, 3) := by decide +kernel
theorem dX12_lift_5 : decode cX12_lift 5 = .ok (.aload_n 0, 1) := by decide +kernel
theorem dX12_lift_6 : decode cX12_lift 6 = .ok (.iconst 0, 1) := by decide +kernel
theorem dX12_lift_7 : decode cX12_lift 7 = .ok (.putfield 66, 3) := by decide +kernel
theorem dX12_lift_10 : decode cX12_lift 10 = .ok (.aload_n 0, 1) := by decide +kernel
theorem dX12_lift_11 : decode cX12_lift 11 = .ok (.iload_n 1, 1) := by decide +kernel
theorem dX12_lift_12 : decode cX12_lift 12 = .ok (.invokevirtual 362, 3) := by decide +kernel
theorem dX12_lift_15 : decode cX12_lift 15 = .ok (.ifCond .eq 11, 3) := by decide +kernel
theorem dX12_lift_18 : decode cX12_lift 18 = .ok (.aload_n 0, 1) := by decide +kernel
theorem dX12_lift_19 : decode cX12_lift 19 = .ok (.iload_n 2, 1) := by decide +kernel
theorem dX12_lift_20 : decode cX12_lift 20 = .ok (.invokevirtual 399, 3) := by decide +kernel
theorem dX12_lift_23 : decode cX12_lift 23 = .ok (.ifCond .ne 9, 3) := by decide +kernel
theorem dX12_lift_26 : decode cX12_lift 26 = .ok (.aload_n 0, 1) := by decide +kernel
theorem dX12_lift_27 : decode cX12_lift 27 = .ok (.iconst 2, 1) := by decide +kernel
theorem dX12_lift_28 : decode cX12_lift 28 = .ok (.invokevirtual 333, 3) := by decide +kernel
theorem dX12_lift_31 : decode cX12_lift 31 = .ok (.ireturn, 1) := by decide +kernel
theorem dX12_lift_32 : decode cX12_lift 32 = .ok (.iload_n 2, 1) := by decide +kernel
theorem dX12_lift_33 : decode cX12_lift 33 = .ok (.ifCond .ne 9, 3) := by decide +kernel
theorem dX12_lift_36 : decode cX12_lift 36 = .ok (.aload_n 0, 1) := by decide +kernel
theorem dX12_lift_37 : decode cX12_lift 37 = .ok (.iconst 5, 1) := by decide +kernel
theorem dX12_lift_38 : decode cX12_lift 38 = .ok (.invokevirtual 333, 3) := by decide +kernel
theorem dX12_lift_41 : decode cX12_lift 41 = .ok (.ireturn, 1) := by decide +kernel
theorem dX12_lift_42 : decode cX12_lift 42 = .ok (.aload_n 0, 1) := by decide +kernel
theorem dX12_lift_43 : decode cX12_lift 43 = .ok (.getfield 35, 3) := by decide +kernel
theorem dX12_lift_46 : decode cX12_lift 46 = .ok (.bipush 54, 2) := by decide +kernel
theorem dX12_lift_48 : decode cX12_lift 48 = .ok (.iload_n 1, 1) := by decide +kernel
theorem dX12_lift_49 : decode cX12_lift 49 = .ok (.iadd, 1) := by decide +kernel
theorem dX12_lift_50 : decode cX12_lift 50 = .ok (.iaload, 1) := by decide +kernel
theorem dX12_lift_51 : decode cX12_lift 51 = .ok (.istore_n 3, 1) := by decide +kernel
theorem dX12_lift_52 : decode cX12_lift 52 = .ok (.aload_n 0, 1) := by decide +kernel
theorem dX12_lift_53 : decode cX12_lift 53 = .ok (.getfield 35, 3) := by decide +kernel
theorem dX12_lift_56 : decode cX12_lift 56 = .ok (.bipush 54, 2) := by decide +kernel
theorem dX12_lift_58 : decode cX12_lift 58 = .ok (.iload_n 1, 1) := by decide +kernel
theorem dX12_lift_59 : decode cX12_lift 59 = .ok (.iadd, 1) := by decide +kernel
theorem dX12_lift_60 : decode cX12_lift 60 = .ok (.iload_n 2, 1) := by decide +kernel
theorem dX12_lift_61 : decode cX12_lift 61 = .ok (.iastore, 1) := by decide +kernel
theorem dX12_lift_62 : decode cX12_lift 62 = .ok (.aload_n 0, 1) := by decide +kernel
theorem dX12_lift_63 : decode cX12_lift 63 = .ok (.getfield 35, 3) := by decide +kernel
theorem dX12_lift_66 : decode cX12_lift 66 = .ok (.bipush 60, 2) := by decide +kernel
theorem dX12_lift_68 : decode cX12_lift 68 = .ok (.iload_n 1, 1) := by decide +kernel
theorem dX12_lift_69 : decode cX12_lift 69 = .ok (.iadd, 1) := by decide +kernel
theorem dX12_lift_70 : decode cX12_lift 70 = .ok (.iconst 0, 1) := by decide +kernel
theorem dX12_lift_71 : decode cX12_lift 71 = .ok (.iastore, 1) := by decide +kernel
theorem dX12_lift_72 : decode cX12_lift 72 = .ok (.iload_n 3, 1) := by decide +kernel
theorem dX12_lift_73 : decode cX12_lift 73 = .ok (.ireturn, 1) := by decide +kernel
theorem dX12_rewrite_0 : decode cX12_rewrite 0 = .ok (.aload_n 0, 1) := by decide +kernel
theorem dX12_rewrite_1 : decode cX12_rewrite 1 = .ok (.iconst 0, 1) := by decide +kernel
theorem dX12_rewrite_2 : decode cX12_rewrite 2 = .ok (.putfield 63, 3) := by decide +kernel
theorem dX12_rewrite_5 : decode cX12_rewrite 5 = .ok (.aload_n 0, 1) := by decide +kernel
theorem dX12_rewrite_6 : decode cX12_rewrite 6 = .ok (.iconst 0, 1) := by decide +kernel
theorem dX12_rewrite_7 : decode cX12_rewrite 7 = .ok (.putfield 66, 3) := by decide +kernel
theorem dX12_rewrite_10 : decode cX12_rewrite 10 = .ok (.aload_n 0, 1) := by decide +kernel
theorem dX12_rewrite_11 : decode cX12_rewrite 11 = .ok (.iload_n 1, 1) := by decide +kernel
theorem dX12_rewrite_12 : decode cX12_rewrite 12 = .ok (.invokevirtual 345, 3) := by decide +kernel
theorem dX12_rewrite_15 : decode cX12_rewrite 15 = .ok (.ifCond .ne 9, 3) := by decide +kernel
theorem dX12_rewrite_18 : decode cX12_rewrite 18 = .ok (.aload_n 0, 1) := by decide +kernel
theorem dX12_rewrite_19 : decode cX12_rewrite 19 = .ok (.iconst 2, 1) := by decide +kernel
theorem dX12_rewrite_20 : decode cX12_rewrite 20 = .ok (.invokevirtual 333, 3) := by decide +kernel
theorem dX12_rewrite_23 : decode cX12_rewrite 23 = .ok (.ireturn, 1) := by decide +kernel
theorem dX12_rewrite_24 : decode cX12_rewrite 24 = .ok (.iload_n 2, 1) := by decide +kernel
theorem dX12_rewrite_25 : decode cX12_rewrite 25 = .ok (.i2l, 1) := by decide +kernel
theorem dX12_rewrite_26 : decode cX12_rewrite 26 = .ok (.lconst 0, 1) := by decide +kernel
theorem dX12_rewrite_27 : decode cX12_rewrite 27 = .ok (.lconst 1, 1) := by decide +kernel
theorem dX12_rewrite_28 : decode cX12_rewrite 28 = .ok (.invokestatic 98, 3) := by decide +kernel
theorem dX12_rewrite_31 : decode cX12_rewrite 31 = .ok (.ifCond .eq 25, 3) := by decide +kernel
theorem dX12_rewrite_34 : decode cX12_rewrite 34 = .ok (.iload_n 3, 1) := by decide +kernel
theorem dX12_rewrite_35 : decode cX12_rewrite 35 = .ok (.i2l, 1) := by decide +kernel
theorem dX12_rewrite_36 : decode cX12_rewrite 36 = .ok (.lconst 0, 1) := by decide +kernel
theorem dX12_rewrite_37 : decode cX12_rewrite 37 = .ok (.iload_n 2, 1) := by decide +kernel
theorem dX12_rewrite_38 : decode cX12_rewrite 38 = .ok (.ifCond .ne 9, 3) := by decide +kernel
theorem dX12_rewrite_41 : decode cX12_rewrite 41 = .ok (.ldc2_w 402, 3) := by decide +kernel
theorem dX12_rewrite_44 : decode cX12_rewrite 44 = .ok (.goto 6, 3) := by decide +kernel
theorem dX12_rewrite_47 : decode cX12_rewrite 47 = .ok (.ldc2_w 96, 3) := by decide +kernel
theorem dX12_rewrite_50 : decode cX12_rewrite 50 = .ok (.invokestatic 98, 3) := by decide +kernel
theorem dX12_rewrite_53 : decode cX12_rewrite 53 = .ok (.ifCond .ne 9, 3) := by decide +kernel
theorem dX12_rewrite_56 : decode cX12_rewrite 56 = .ok (.aload_n 0, 1) := by decide +kernel
theorem dX12_rewrite_57 : decode cX12_rewrite 57 = .ok (.iconst 5, 1) := by decide +kernel
theorem dX12_rewrite_58 : decode cX12_rewrite 58 = .ok (.invokevirtual 333, 3) := by decide +kernel
theorem dX12_rewrite_61 : decode cX12_rewrite 61 = .ok (.ireturn, 1) := by decide +kernel
theorem dX12_rewrite_62 : decode cX12_rewrite 62 = .ok (.aload_n 0, 1) := by decide +kernel
theorem dX12_rewrite_63 : decode cX12_rewrite 63 = .ok (.getfield 35, 3) := by decide +kernel
theorem dX12_rewrite_66 : decode cX12_rewrite 66 = .ok (.bipush 6, 2) := by decide +kernel
theorem dX12_rewrite_68 : decode cX12_rewrite 68 = .ok (.bipush 9, 2) := by decide +kernel
theorem dX12_rewrite_70 : decode cX12_rewrite 70 = .ok (.iload_n 2, 1) := by decide +kernel
theorem dX12_rewrite_71 : decode cX12_rewrite 71 = .ok (.imul, 1) := by decide +kernel
theorem dX12_rewrite_72 : decode cX12_rewrite 72 = .ok (.iadd, 1) := by decide +kernel
theorem dX12_rewrite_73 : decode cX12_rewrite 73 = .ok (.iload_n 1, 1) := by decide +kernel
theorem dX12_rewrite_74 : decode cX12_rewrite 74 = .ok (.iadd, 1) := by decide +kernel
theorem dX12_rewrite_75 : decode cX12_rewrite 75 = .ok (.iaload, 1) := by decide +kernel
theorem dX12_rewrite_76 : decode cX12_rewrite 76 = .ok (.istore 4, 2) := by decide +kernel
theorem dX12_rewrite_78 : decode cX12_rewrite 78 = .ok (.aload_n 0, 1) := by decide +kernel
theorem dX12_rewrite_79 : decode cX12_rewrite 79 = .ok (.getfield 35, 3) := by decide +kernel
theorem dX12_rewrite_82 : decode cX12_rewrite 82 = .ok (.bipush 6, 2) := by decide +kernel
theorem dX12_rewrite_84 : decode cX12_rewrite 84 = .ok (.bipush 9, 2) := by decide +kernel
theorem dX12_rewrite_86 : decode cX12_rewrite 86 = .ok (.iload_n 2, 1) := by decide +kernel
theorem dX12_rewrite_87 : decode cX12_rewrite 87 = .ok (.imul, 1) := by decide +kernel
theorem dX12_rewrite_88 : decode cX12_rewrite 88 = .ok (.iadd, 1) := by decide +kernel
theorem dX12_rewrite_89 : decode cX12_rewrite 89 = .ok (.iload_n 1, 1) := by decide +kernel
theorem dX12_rewrite_90 : decode cX12_rewrite 90 = .ok (.iadd, 1) := by decide +kernel
theorem dX12_rewrite_91 : decode cX12_rewrite 91 = .ok (.iload_n 3, 1) := by decide +kernel
theorem dX12_rewrite_92 : decode cX12_rewrite 92 = .ok (.iastore, 1) := by decide +kernel
theorem dX12_rewrite_93 : decode cX12_rewrite 93 = .ok (.iload 4, 2) := by decide +kernel
theorem dX12_rewrite_95 : decode cX12_rewrite 95 = .ok (.ireturn, 1) := by decide +kernel
theorem dX12_think_0 : decode cX12_think 0 = .ok (.aload_n 0, 1) := by decide +kernel
theorem dX12_think_1 : decode cX12_think 1 = .ok (.iconst 0, 1) := by decide +kernel
theorem dX12_think_2 : decode cX12_think 2 = .ok (.putfield 63, 3) := by decide +kernel
theorem dX12_think_5 : decode cX12_think 5 = .ok (.aload_n 0, 1) := by decide +kernel
theorem dX12_think_6 : decode cX12_think 6 = .ok (.iconst 0, 1) := by decide +kernel
theorem dX12_think_7 : decode cX12_think 7 = .ok (.putfield 66, 3) := by decide +kernel
theorem dX12_think_10 : decode cX12_think 10 = .ok (.aload_n 0, 1) := by decide +kernel
theorem dX12_think_11 : decode cX12_think 11 = .ok (.iload_n 1, 1) := by decide +kernel
theorem dX12_think_12 : decode cX12_think 12 = .ok (.invokevirtual 345, 3) := by decide +kernel
theorem dX12_think_15 : decode cX12_think 15 = .ok (.ifCond .ne 9, 3) := by decide +kernel
theorem dX12_think_18 : decode cX12_think 18 = .ok (.aload_n 0, 1) := by decide +kernel
theorem dX12_think_19 : decode cX12_think 19 = .ok (.iconst 2, 1) := by decide +kernel
theorem dX12_think_20 : decode cX12_think 20 = .ok (.invokevirtual 333, 3) := by decide +kernel
theorem dX12_think_23 : decode cX12_think 23 = .ok (.ireturn, 1) := by decide +kernel
theorem dX12_think_24 : decode cX12_think 24 = .ok (.iload_n 2, 1) := by decide +kernel
theorem dX12_think_25 : decode cX12_think 25 = .ok (.i2l, 1) := by decide +kernel
theorem dX12_think_26 : decode cX12_think 26 = .ok (.lconst 0, 1) := by decide +kernel
theorem dX12_think_27 : decode cX12_think 27 = .ok (.iconst 1, 1) := by decide +kernel
theorem dX12_think_28 : decode cX12_think 28 = .ok (.aload_n 0, 1) := by decide +kernel
theorem dX12_think_29 : decode cX12_think 29 = .ok (.getfield 35, 3) := by decide +kernel
theorem dX12_think_32 : decode cX12_think 32 = .ok (.iconst 1, 1) := by decide +kernel
theorem dX12_think_33 : decode cX12_think 33 = .ok (.iaload, 1) := by decide +kernel
theorem dX12_think_34 : decode cX12_think 34 = .ok (.ishl, 1) := by decide +kernel
theorem dX12_think_35 : decode cX12_think 35 = .ok (.iconst 1, 1) := by decide +kernel
theorem dX12_think_36 : decode cX12_think 36 = .ok (.isub, 1) := by decide +kernel
theorem dX12_think_37 : decode cX12_think 37 = .ok (.i2l, 1) := by decide +kernel
theorem dX12_think_38 : decode cX12_think 38 = .ok (.invokestatic 98, 3) := by decide +kernel
theorem dX12_think_41 : decode cX12_think 41 = .ok (.ifCond .ne 9, 3) := by decide +kernel
theorem dX12_think_44 : decode cX12_think 44 = .ok (.aload_n 0, 1) := by decide +kernel
theorem dX12_think_45 : decode cX12_think 45 = .ok (.iconst 5, 1) := by decide +kernel
theorem dX12_think_46 : decode cX12_think 46 = .ok (.invokevirtual 333, 3) := by decide +kernel
theorem dX12_think_49 : decode cX12_think 49 = .ok (.ireturn, 1) := by decide +kernel
theorem dX12_think_50 : decode cX12_think 50 = .ok (.aload_n 0, 1) := by decide +kernel
theorem dX12_think_51 : decode cX12_think 51 = .ok (.getfield 35, 3) := by decide +kernel
theorem dX12_think_54 : decode cX12_think 54 = .ok (.iconst 1, 1) := by decide +kernel
theorem dX12_think_55 : decode cX12_think 55 = .ok (.iaload, 1) := by decide +kernel
theorem dX12_think_56 : decode cX12_think 56 = .ok (.istore_n 3, 1) := by decide +kernel
theorem dX12_think_57 : decode cX12_think 57 = .ok (.iload_n 3, 1) := by decide +kernel
theorem dX12_think_58 : decode cX12_think 58 = .ok (.bipush 8, 2) := by decide +kernel
theorem dX12_think_60 : decode cX12_think 60 = .ok (.if_icmp .ne 10, 3) := by decide +kernel
theorem dX12_think_63 : decode cX12_think 63 = .ok (.aload_n 0, 1) := by decide +kernel
theorem dX12_think_64 : decode cX12_think 64 = .ok (.bipush 7, 2) := by decide +kernel
theorem dX12_think_66 : decode cX12_think 66 = .ok (.invokevirtual 333, 3) := by decide +kernel
theorem dX12_think_69 : decode cX12_think 69 = .ok (.ireturn, 1) := by decide +kernel
theorem dX12_think_70 : decode cX12_think 70 = .ok (.aload_n 0, 1) := by decide +kernel
theorem dX12_think_71 : decode cX12_think 71 = .ok (.getfield 41, 3) := by decide +kernel
theorem dX12_think_74 : decode cX12_think 74 = .ok (.bipush 9, 2) := by decide +kernel
theorem dX12_think_76 : decode cX12_think 76 = .ok (.iload_n 3, 1) := by decide +kernel
theorem dX12_think_77 : decode cX12_think 77 = .ok (.iadd, 1) := by decide +kernel
theorem dX12_think_78 : decode cX12_think 78 = .ok (.lconst 0, 1) := by decide +kernel
theorem dX12_think_79 : decode cX12_think 79 = .ok (.lastore, 1) := by decide +kernel
theorem dX12_think_80 : decode cX12_think 80 = .ok (.aload_n 0, 1) := by decide +kernel
theorem dX12_think_81 : decode cX12_think 81 = .ok (.iconst 0, 1) := by decide +kernel
theorem dX12_think_82 : decode cX12_think 82 = .ok (.iload_n 1, 1) := by decide +kernel
theorem dX12_think_83 : decode cX12_think 83 = .ok (.iload_n 2, 1) := by decide +kernel
theorem dX12_think_84 : decode cX12_think 84 = .ok (.iconst 0, 1) := by decide +kernel
theorem dX12_think_85 : decode cX12_think 85 = .ok (.invokevirtual 271, 3) := by decide +kernel
theorem dX12_think_88 : decode cX12_think 88 = .ok (.iload_n 3, 1) := by decide +kernel
theorem dX12_think_89 : decode cX12_think 89 = .ok (.ireturn, 1) := by decide +kernel
theorem dX12_anger_0 : decode cX12_anger 0 = .ok (.aload_n 0, 1) := by decide +kernel
theorem dX12_anger_1 : decode cX12_anger 1 = .ok (.iconst 0, 1) := by decide +kernel
theorem dX12_anger_2 : decode cX12_anger 2 = .ok (.putfield 63, 3) := by decide +kernel
theorem dX12_anger_5 : decode cX12_anger 5 = .ok (.aload_n 0, 1) := by decide +kernel
theorem dX12_anger_6 : decode cX12_anger 6 = .ok (.iconst 0, 1) := by decide +kernel
theorem dX12_anger_7 : decode cX12_anger 7 = .ok (.putfield 66, 3) := by decide +kernel
theorem dX12_anger_10 : decode cX12_anger 10 = .ok (.aload_n 0, 1) := by decide +kernel
theorem dX12_anger_11 : decode cX12_anger 11 = .ok (.iload_n 1, 1) := by decide +kernel
theorem dX12_anger_12 : decode cX12_anger 12 = .ok (.invokevirtual 362, 3) := by decide +kernel
theorem dX12_anger_15 : decode cX12_anger 15 = .ok (.ifCond .eq 11, 3) := by decide +kernel
theorem dX12_anger_18 : decode cX12_anger 18 = .ok (.aload_n 0, 1) := by decide +kernel
theorem dX12_anger_19 : decode cX12_anger 19 = .ok (.iload_n 2, 1) := by decide +kernel
theorem dX12_anger_20 : decode cX12_anger 20 = .ok (.invokevirtual 362, 3) := by decide +kernel
theorem dX12_anger_23 : decode cX12_anger 23 = .ok (.ifCond .ne 9, 3) := by decide +kernel
theorem dX12_anger_26 : decode cX12_anger 26 = .ok (.aload_n 0, 1) := by decide +kernel
theorem dX12_anger_27 : decode cX12_anger 27 = .ok (.iconst 2, 1) := by decide +kernel
theorem dX12_anger_28 : decode cX12_anger 28 = .ok (.invokevirtual 333, 3) := by decide +kernel
theorem dX12_anger_31 : decode cX12_anger 31 = .ok (.ireturn, 1) := by decide +kernel
theorem dX12_anger_32 : decode cX12_anger 32 = .ok (.iload_n 1, 1) := by decide +kernel
theorem dX12_anger_33 : decode cX12_anger 33 = .ok (.iload_n 2, 1) := by decide +kernel
theorem dX12_anger_34 : decode cX12_anger 34 = .ok (.if_icmp .ne 9, 3) := by decide +kernel
theorem dX12_anger_37 : decode cX12_anger 37 = .ok (.aload_n 0, 1) := by decide +kernel
theorem dX12_anger_38 : decode cX12_anger 38 = .ok (.iconst 5, 1) := by decide +kernel
theorem dX12_anger_39 : decode cX12_anger 39 = .ok (.invokevirtual 333, 3) := by decide +kernel
theorem dX12_anger_42 : decode cX12_anger 42 = .ok (.ireturn, 1) := by decide +kernel
theorem dX12_anger_43 : decode cX12_anger 43 = .ok (.aload_n 0, 1) := by decide +kernel
theorem dX12_anger_44 : decode cX12_anger 44 = .ok (.getfield 35, 3) := by decide +kernel
theorem dX12_anger_47 : decode cX12_anger 47 = .ok (.iconst 3, 1) := by decide +kernel
theorem dX12_anger_48 : decode cX12_anger 48 = .ok (.iaload, 1) := by decide +kernel
theorem dX12_anger_49 : decode cX12_anger 49 = .ok (.bipush 10, 2) := by decide +kernel
theorem dX12_anger_51 : decode cX12_anger 51 = .ok (.if_icmp .ne 10, 3) := by decide +kernel
theorem dX12_anger_54 : decode cX12_anger 54 = .ok (.aload_n 0, 1) := by decide +kernel
theorem dX12_anger_55 : decode cX12_anger 55 = .ok (.bipush 7, 2) := by decide +kernel
theorem dX12_anger_57 : decode cX12_anger 57 = .ok (.invokevirtual 333, 3) := by decide +kernel
theorem dX12_anger_60 : decode cX12_anger 60 = .ok (.ireturn, 1) := by decide +kernel
theorem dX12_anger_61 : decode cX12_anger 61 = .ok (.aload_n 0, 1) := by decide +kernel
theorem dX12_anger_62 : decode cX12_anger 62 = .ok (.iconst 0, 1) := by decide +kernel
theorem dX12_anger_63 : decode cX12_anger 63 = .ok (.iload_n 1, 1) := by decide +kernel
theorem dX12_anger_64 : decode cX12_anger 64 = .ok (.iload_n 2, 1) := by decide +kernel
theorem dX12_anger_65 : decode cX12_anger 65 = .ok (.invokevirtual 278, 3) := by decide +kernel
theorem dX12_anger_68 : decode cX12_anger 68 = .ok (.ifCond .eq 10, 3) := by decide +kernel
theorem dX12_anger_71 : decode cX12_anger 71 = .ok (.aload_n 0, 1) := by decide +kernel
theorem dX12_anger_72 : decode cX12_anger 72 = .ok (.bipush 9, 2) := by decide +kernel
theorem dX12_anger_74 : decode cX12_anger 74 = .ok (.invokevirtual 333, 3) := by decide +kernel
theorem dX12_anger_77 : decode cX12_anger 77 = .ok (.ireturn, 1) := by decide +kernel
theorem dX12_anger_78 : decode cX12_anger 78 = .ok (.aload_n 0, 1) := by decide +kernel
theorem dX12_anger_79 : decode cX12_anger 79 = .ok (.iconst 0, 1) := by decide +kernel
theorem dX12_anger_80 : decode cX12_anger 80 = .ok (.iload_n 1, 1) := by decide +kernel
theorem dX12_anger_81 : decode cX12_anger 81 = .ok (.iload_n 2, 1) := by decide +kernel
theorem dX12_anger_82 : decode cX12_anger 82 = .ok (.invokevirtual 282, 3) := by decide +kernel
theorem dX12_anger_85 : decode cX12_anger 85 = .ok (.aload_n 0, 1) := by decide +kernel
theorem dX12_anger_86 : decode cX12_anger 86 = .ok (.getfield 35, 3) := by decide +kernel
theorem dX12_anger_89 : decode cX12_anger 89 = .ok (.iconst 3, 1) := by decide +kernel
theorem dX12_anger_90 : decode cX12_anger 90 = .ok (.iaload, 1) := by decide +kernel
theorem dX12_anger_91 : decode cX12_anger 91 = .ok (.iconst 1, 1) := by decide +kernel
theorem dX12_anger_92 : decode cX12_anger 92 = .ok (.isub, 1) := by decide +kernel
theorem dX12_anger_93 : decode cX12_anger 93 = .ok (.ireturn, 1) := by decide +kernel
theorem dX12_rule_0 : decode cX12_rule 0 = .ok (.aload_n 0, 1) := by decide +kernel
theorem dX12_rule_1 : decode cX12_rule 1 = .ok (.iconst 0, 1) := by decide +kernel
theorem dX12_rule_2 : decode cX12_rule 2 = .ok (.putfield 63, 3) := by decide +kernel
theorem dX12_rule_5 : decode cX12_rule 5 = .ok (.aload_n 0, 1) := by decide +kernel
theorem dX12_rule_6 : decode cX12_rule 6 = .ok (.iconst 0, 1) := by decide +kernel
theorem dX12_rule_7 : decode cX12_rule 7 = .ok (.putfield 66, 3) := by decide +kernel
theorem dX12_rule_10 : decode cX12_rule 10 = .ok (.iload_n 1, 1) := by decide +kernel
theorem dX12_rule_11 : decode cX12_rule 11 = .ok (.i2l, 1) := by decide +kernel
theorem dX12_rule_12 : decode cX12_rule 12 = .ok (.lconst 0, 1) := by decide +kernel
theorem dX12_rule_13 : decode cX12_rule 13 = .ok (.ldc2_w 404, 3) := by decide +kernel
theorem dX12_rule_16 : decode cX12_rule 16 = .ok (.invokestatic 98, 3) := by decide +kernel
theorem dX12_rule_19 : decode cX12_rule 19 = .ok (.ifCond .ne 9, 3) := by decide +kernel
theorem dX12_rule_22 : decode cX12_rule 22 = .ok (.aload_n 0, 1) := by decide +kernel
theorem dX12_rule_23 : decode cX12_rule 23 = .ok (.iconst 5, 1) := by decide +kernel
theorem dX12_rule_24 : decode cX12_rule 24 = .ok (.invokevirtual 78, 3) := by decide +kernel
theorem dX12_rule_27 : decode cX12_rule 27 = .ok (.ireturn, 1) := by decide +kernel
theorem dX12_rule_28 : decode cX12_rule 28 = .ok (.aload_n 0, 1) := by decide +kernel
theorem dX12_rule_29 : decode cX12_rule 29 = .ok (.getfield 35, 3) := by decide +kernel
theorem dX12_rule_32 : decode cX12_rule 32 = .ok (.iconst 4, 1) := by decide +kernel
theorem dX12_rule_33 : decode cX12_rule 33 = .ok (.iload_n 1, 1) := by decide +kernel
theorem dX12_rule_34 : decode cX12_rule 34 = .ok (.iastore, 1) := by decide +kernel
theorem dX12_rule_35 : decode cX12_rule 35 = .ok (.iconst 1, 1) := by decide +kernel
theorem dX12_rule_36 : decode cX12_rule 36 = .ok (.ireturn, 1) := by decide +kernel
theorem dX12_props_0 : decode cX12_props 0 = .ok (.iconst (-1), 1) := by decide +kernel
theorem dX12_props_1 : decode cX12_props 1 = .ok (.istore_n 2, 1) := by decide +kernel
theorem dX12_props_2 : decode cX12_props 2 = .ok (.iconst 0, 1) := by decide +kernel
theorem dX12_props_3 : decode cX12_props 3 = .ok (.istore_n 3, 1) := by decide +kernel
theorem dX12_props_4 : decode cX12_props 4 = .ok (.iload_n 3, 1) := by decide +kernel
theorem dX12_props_5 : decode cX12_props 5 = .ok (.iconst 1, 1) := by decide +kernel
theorem dX12_props_6 : decode cX12_props 6 = .ok (.aload_n 0, 1) := by decide +kernel
theorem dX12_props_7 : decode cX12_props 7 = .ok (.getfield 35, 3) := by decide +kernel
theorem dX12_props_10 : decode cX12_props 10 = .ok (.iconst 1, 1) := by decide +kernel
theorem dX12_props_11 : decode cX12_props 11 = .ok (.iaload, 1) := by decide +kernel
theorem dX12_props_12 : decode cX12_props 12 = .ok (.ishl, 1) := by decide +kernel
theorem dX12_props_13 : decode cX12_props 13 = .ok (.if_icmp .ge 39, 3) := by decide +kernel
theorem dX12_props_16 : decode cX12_props 16 = .ok (.iload_n 2, 1) := by decide +kernel
theorem dX12_props_17 : decode cX12_props 17 = .ok (.ifCond .lt 14, 3) := by decide +kernel
theorem dX12_props_20 : decode cX12_props 20 = .ok (.iload_n 3, 1) := by decide +kernel
theorem dX12_props_21 : decode cX12_props 21 = .ok (.invokestatic 396, 3) := by decide +kernel
theorem dX12_props_24 : decode cX12_props 24 = .ok (.iload_n 2, 1) := by decide +kernel
theorem dX12_props_25 : decode cX12_props 25 = .ok (.invokestatic 396, 3) := by decide +kernel
theorem dX12_props_28 : decode cX12_props 28 = .ok (.if_icmp .ge 18, 3) := by decide +kernel
theorem dX12_props_31 : decode cX12_props 31 = .ok (.aload_n 0, 1) := by decide +kernel
theorem dX12_props_32 : decode cX12_props 32 = .ok (.iload_n 3, 1) := by decide +kernel
theorem dX12_props_33 : decode cX12_props 33 = .ok (.iconst 0, 1) := by decide +kernel
theorem dX12_props_34 : decode cX12_props 34 = .ok (.invokevirtual 328, 3) := by decide +kernel
theorem dX12_props_37 : decode cX12_props 37 = .ok (.iload_n 1, 1) := by decide +kernel
theorem dX12_props_38 : decode cX12_props 38 = .ok (.invokestatic 102, 3) := by decide +kernel
theorem dX12_props_41 : decode cX12_props 41 = .ok (.ifCond .eq 5, 3) := by decide +kernel
theorem dX12_props_44 : decode cX12_props 44 = .ok (.iload_n 3, 1) := by decide +kernel
theorem dX12_props_45 : decode cX12_props 45 = .ok (.istore_n 2, 1) := by decide +kernel
theorem dX12_props_46 : decode cX12_props 46 = .ok (.iinc 3 1, 3) := by decide +kernel
theorem dX12_props_49 : decode cX12_props 49 = .ok (.goto (-45), 3) := by decide +kernel
theorem dX12_props_52 : decode cX12_props 52 = .ok (.iload_n 2, 1) := by decide +kernel
theorem dX12_props_53 : decode cX12_props 53 = .ok (.ireturn, 1) := by decide +kernel
theorem dX12_holdsUp_0 : decode cX12_holdsUp 0 = .ok (.aload_n 0, 1) := by decide +kernel
theorem dX12_holdsUp_1 : decode cX12_holdsUp 1 = .ok (.iconst 0, 1) := by decide +kernel
theorem dX12_holdsUp_2 : decode cX12_holdsUp 2 = .ok (.putfield 63, 3) := by decide +kernel
theorem dX12_holdsUp_5 : decode cX12_holdsUp 5 = .ok (.aload_n 0, 1) := by decide +kernel
theorem dX12_holdsUp_6 : decode cX12_holdsUp 6 = .ok (.iconst 0, 1) := by decide +kernel
theorem dX12_holdsUp_7 : decode cX12_holdsUp 7 = .ok (.putfield 66, 3) := by decide +kernel
theorem dX12_holdsUp_10 : decode cX12_holdsUp 10 = .ok (.aload_n 0, 1) := by decide +kernel
theorem dX12_holdsUp_11 : decode cX12_holdsUp 11 = .ok (.iload_n 1, 1) := by decide +kernel
theorem dX12_holdsUp_12 : decode cX12_holdsUp 12 = .ok (.invokevirtual 351, 3) := by decide +kernel
theorem dX12_holdsUp_15 : decode cX12_holdsUp 15 = .ok (.ifCond .eq 14, 3) := by decide +kernel
theorem dX12_holdsUp_18 : decode cX12_holdsUp 18 = .ok (.aload_n 0, 1) := by decide +kernel
theorem dX12_holdsUp_19 : decode cX12_holdsUp 19 = .ok (.iload_n 1, 1) := by decide +kernel
theorem dX12_holdsUp_20 : decode cX12_holdsUp 20 = .ok (.invokevirtual 406, 3) := by decide +kernel
theorem dX12_holdsUp_23 : decode cX12_holdsUp 23 = .ok (.invokestatic 396, 3) := by decide +kernel
theorem dX12_holdsUp_26 : decode cX12_holdsUp 26 = .ok (.goto 8, 3) := by decide +kernel
theorem dX12_holdsUp_29 : decode cX12_holdsUp 29 = .ok (.aload_n 0, 1) := by decide +kernel
theorem dX12_holdsUp_30 : decode cX12_holdsUp 30 = .ok (.iconst 2, 1) := by decide +kernel
theorem dX12_holdsUp_31 : decode cX12_holdsUp 31 = .ok (.invokevirtual 333, 3) := by decide +kernel
theorem dX12_holdsUp_34 : decode cX12_holdsUp 34 = .ok (.ireturn, 1) := by decide +kernel
theorem dX12_holdsUpSet_0 : decode cX12_holdsUpSet 0 = .ok (.aload_n 0, 1) := by decide +kernel
theorem dX12_holdsUpSet_1 : decode cX12_holdsUpSet 1 = .ok (.iconst 0, 1) := by decide +kernel
theorem dX12_holdsUpSet_2 : decode cX12_holdsUpSet 2 = .ok (.putfield 63, 3) := by decide +kernel
theorem dX12_holdsUpSet_5 : decode cX12_holdsUpSet 5 = .ok (.aload_n 0, 1) := by decide +kernel
theorem dX12_holdsUpSet_6 : decode cX12_holdsUpSet 6 = .ok (.iconst 0, 1) := by decide +kernel
theorem dX12_holdsUpSet_7 : decode cX12_holdsUpSet 7 = .ok (.putfield 66, 3) := by decide +kernel
theorem dX12_holdsUpSet_10 : decode cX12_holdsUpSet 10 = .ok (.aload_n 0, 1) := by decide +kernel
theorem dX12_holdsUpSet_11 : decode cX12_holdsUpSet 11 = .ok (.iload_n 1, 1) := by decide +kernel
theorem dX12_holdsUpSet_12 : decode cX12_holdsUpSet 12 = .ok (.invokevirtual 351, 3) := by decide +kernel
theorem dX12_holdsUpSet_15 : decode cX12_holdsUpSet 15 = .ok (.ifCond .eq 11, 3) := by decide +kernel
theorem dX12_holdsUpSet_18 : decode cX12_holdsUpSet 18 = .ok (.aload_n 0, 1) := by decide +kernel
theorem dX12_holdsUpSet_19 : decode cX12_holdsUpSet 19 = .ok (.iload_n 1, 1) := by decide +kernel
theorem dX12_holdsUpSet_20 : decode cX12_holdsUpSet 20 = .ok (.invokevirtual 406, 3) := by decide +kernel
theorem dX12_holdsUpSet_23 : decode cX12_holdsUpSet 23 = .ok (.goto 8, 3) := by decide +kernel
theorem dX12_holdsUpSet_26 : decode cX12_holdsUpSet 26 = .ok (.aload_n 0, 1) := by decide +kernel
theorem dX12_holdsUpSet_27 : decode cX12_holdsUpSet 27 = .ok (.iconst 2, 1) := by decide +kernel
theorem dX12_holdsUpSet_28 : decode cX12_holdsUpSet 28 = .ok (.invokevirtual 333, 3) := by decide +kernel
theorem dX12_holdsUpSet_31 : decode cX12_holdsUpSet 31 = .ok (.ireturn, 1) := by decide +kernel
theorem dX12_bringsDown_0 : decode cX12_bringsDown 0 = .ok (.aload_n 0, 1) := by decide +kernel
theorem dX12_bringsDown_1 : decode cX12_bringsDown 1 = .ok (.iconst 0, 1) := by decide +kernel
theorem dX12_bringsDown_2 : decode cX12_bringsDown 2 = .ok (.putfield 63, 3) := by decide +kernel
theorem dX12_bringsDown_5 : decode cX12_bringsDown 5 = .ok (.aload_n 0, 1) := by decide +kernel
theorem dX12_bringsDown_6 : decode cX12_bringsDown 6 = .ok (.iconst 0, 1) := by decide +kernel
theorem dX12_bringsDown_7 : decode cX12_bringsDown 7 = .ok (.putfield 66, 3) := by decide +kernel
theorem dX12_bringsDown_10 : decode cX12_bringsDown 10 = .ok (.aload_n 0, 1) := by decide +kernel
theorem dX12_bringsDown_11 : decode cX12_bringsDown 11 = .ok (.iload_n 1, 1) := by decide +kernel
theorem dX12_bringsDown_12 : decode cX12_bringsDown 12 = .ok (.invokevirtual 351, 3) := by decide +kernel
theorem dX12_bringsDown_15 : decode cX12_bringsDown 15 = .ok (.ifCond .ne 9, 3) := by decide +kernel
theorem dX12_bringsDown_18 : decode cX12_bringsDown 18 = .ok (.aload_n 0, 1) := by decide +kernel
theorem dX12_bringsDown_19 : decode cX12_bringsDown 19 = .ok (.iconst 2, 1) := by decide +kernel
theorem dX12_bringsDown_20 : decode cX12_bringsDown 20 = .ok (.invokevirtual 333, 3) := by decide +kernel
theorem dX12_bringsDown_23 : decode cX12_bringsDown 23 = .ok (.ireturn, 1) := by decide +kernel
theorem dX12_bringsDown_24 : decode cX12_bringsDown 24 = .ok (.aload_n 0, 1) := by decide +kernel
theorem dX12_bringsDown_25 : decode cX12_bringsDown 25 = .ok (.iload_n 1, 1) := by decide +kernel
theorem dX12_bringsDown_26 : decode cX12_bringsDown 26 = .ok (.invokevirtual 354, 3) := by decide +kernel
theorem dX12_bringsDown_29 : decode cX12_bringsDown 29 = .ok (.ifCond .eq 12, 3) := by decide +kernel
theorem dX12_bringsDown_32 : decode cX12_bringsDown 32 = .ok (.aload_n 0, 1) := by decide +kernel
theorem dX12_bringsDown_33 : decode cX12_bringsDown 33 = .ok (.bipush 9, 2) := by decide +kernel
theorem dX12_bringsDown_35 : decode cX12_bringsDown 35 = .ok (.invokevirtual 333, 3) := by decide +kernel
theorem dX12_bringsDown_38 : decode cX12_bringsDown 38 = .ok (.goto 20, 3) := by decide +kernel
theorem dX12_bringsDown_41 : decode cX12_bringsDown 41 = .ok (.aload_n 0, 1) := by decide +kernel
theorem dX12_bringsDown_42 : decode cX12_bringsDown 42 = .ok (.iconst 0, 1) := by decide +kernel
theorem dX12_bringsDown_43 : decode cX12_bringsDown 43 = .ok (.iconst 0, 1) := by decide +kernel
theorem dX12_bringsDown_44 : decode cX12_bringsDown 44 = .ok (.invokevirtual 328, 3) := by decide +kernel
theorem dX12_bringsDown_47 : decode cX12_bringsDown 47 = .ok (.aload_n 0, 1) := by decide +kernel
theorem dX12_bringsDown_48 : decode cX12_bringsDown 48 = .ok (.iconst 0, 1) := by decide +kernel
theorem dX12_bringsDown_49 : decode cX12_bringsDown 49 = .ok (.iconst 1, 1) := by decide +kernel
theorem dX12_bringsDown_50 : decode cX12_bringsDown 50 = .ok (.iload_n 1, 1) := by decide +kernel
theorem dX12_bringsDown_51 : decode cX12_bringsDown 51 = .ok (.ishl, 1) := by decide +kernel
theorem dX12_bringsDown_52 : decode cX12_bringsDown 52 = .ok (.invokevirtual 328, 3) := by decide +kernel
theorem dX12_bringsDown_55 : decode cX12_bringsDown 55 = .ok (.iconst (-1), 1) := by decide +kernel
theorem dX12_bringsDown_56 : decode cX12_bringsDown 56 = .ok (.ixor, 1) := by decide +kernel
theorem dX12_bringsDown_57 : decode cX12_bringsDown 57 = .ok (.iand, 1) := by decide +kernel
theorem dX12_bringsDown_58 : decode cX12_bringsDown 58 = .ok (.ireturn, 1) := by decide +kernel
theorem dX12_endOf_0 : decode cX12_endOf 0 = .ok (.aload_n 0, 1) := by decide +kernel
theorem dX12_endOf_1 : decode cX12_endOf 1 = .ok (.getfield 35, 3) := by decide +kernel
theorem dX12_endOf_4 : decode cX12_endOf 4 = .ok (.bipush 24, 2) := by decide +kernel
theorem dX12_endOf_6 : decode cX12_endOf 6 = .ok (.iload_n 1, 1) := by decide +kernel
theorem dX12_endOf_7 : decode cX12_endOf 7 = .ok (.iadd, 1) := by decide +kernel
theorem dX12_endOf_8 : decode cX12_endOf 8 = .ok (.iaload, 1) := by decide +kernel
theorem dX12_endOf_9 : decode cX12_endOf 9 = .ok (.iconst 1, 1) := by decide +kernel
theorem dX12_endOf_10 : decode cX12_endOf 10 = .ok (.iadd, 1) := by decide +kernel
theorem dX12_endOf_11 : decode cX12_endOf 11 = .ok (.istore_n 3, 1) := by decide +kernel
theorem dX12_endOf_12 : decode cX12_endOf 12 = .ok (.aload_n 0, 1) := by decide +kernel
theorem dX12_endOf_13 : decode cX12_endOf 13 = .ok (.iload_n 1, 1) := by decide +kernel
theorem dX12_endOf_14 : decode cX12_endOf 14 = .ok (.invokevirtual 354, 3) := by decide +kernel
theorem dX12_endOf_17 : decode cX12_endOf 17 = .ok (.ifCond .ne 13, 3) := by decide +kernel
theorem dX12_endOf_20 : decode cX12_endOf 20 = .ok (.iload_n 2, 1) := by decide +kernel
theorem dX12_endOf_21 : decode cX12_endOf 21 = .ok (.ifCond .ne 7, 3) := by decide +kernel
theorem dX12_endOf_24 : decode cX12_endOf 24 = .ok (.iload_n 3, 1) := by decide +kernel
theorem dX12_endOf_25 : decode cX12_endOf 25 = .ok (.goto 4, 3) := by decide +kernel
theorem dX12_endOf_28 : decode cX12_endOf 28 = .ok (.iconst (-1), 1) := by decide +kernel
theorem dX12_endOf_29 : decode cX12_endOf 29 = .ok (.ireturn, 1) := by decide +kernel
theorem dX12_endOf_30 : decode cX12_endOf 30 = .ok (.aload_n 0, 1) := by decide +kernel
theorem dX12_endOf_31 : decode cX12_endOf 31 = .ok (.iconst 0, 1) := by decide +kernel
theorem dX12_endOf_32 : decode cX12_endOf 32 = .ok (.iload_n 3, 1) := by decide +kernel
theorem dX12_endOf_33 : decode cX12_endOf 33 = .ok (.iload_n 2, 1) := by decide +kernel
theorem dX12_endOf_34 : decode cX12_endOf 34 = .ok (.isub, 1) := by decide +kernel
theorem dX12_endOf_35 : decode cX12_endOf 35 = .ok (.invokestatic 247, 3) := by decide +kernel
theorem dX12_endOf_38 : decode cX12_endOf 38 = .ok (.invokevirtual 386, 3) := by decide +kernel
theorem dX12_endOf_41 : decode cX12_endOf 41 = .ok (.ireturn, 1) := by decide +kernel
theorem dX12_isNearTo_0 : decode cX12_isNearTo 0 = .ok (.aload_n 0, 1) := by decide +kernel
theorem dX12_isNearTo_1 : decode cX12_isNearTo 1 = .ok (.getfield 35, 3) := by decide +kernel
theorem dX12_isNearTo_4 : decode cX12_isNearTo 4 = .ok (.bipush 24, 2) := by decide +kernel
theorem dX12_isNearTo_6 : decode cX12_isNearTo 6 = .ok (.iload_n 2, 1) := by decide +kernel
theorem dX12_isNearTo_7 : decode cX12_isNearTo 7 = .ok (.iadd, 1) := by decide +kernel
theorem dX12_isNearTo_8 : decode cX12_isNearTo 8 = .ok (.iaload, 1) := by decide +kernel
theorem dX12_isNearTo_9 : decode cX12_isNearTo 9 = .ok (.iconst 1, 1) := by decide +kernel
theorem dX12_isNearTo_10 : decode cX12_isNearTo 10 = .ok (.iadd, 1) := by decide +kernel
theorem dX12_isNearTo_11 : decode cX12_isNearTo 11 = .ok (.iload_n 1, 1) := by decide +kernel
theorem dX12_isNearTo_12 : decode cX12_isNearTo 12 = .ok (.isub, 1) := by decide +kernel
theorem dX12_isNearTo_13 : decode cX12_isNearTo 13 = .ok (.invokestatic 357, 3) := by decide +kernel
theorem dX12_isNearTo_16 : decode cX12_isNearTo 16 = .ok (.iconst 2, 1) := by decide +kernel
theorem dX12_isNearTo_17 : decode cX12_isNearTo 17 = .ok (.if_icmp .ge 7, 3) := by decide +kernel
theorem dX12_isNearTo_20 : decode cX12_isNearTo 20 = .ok (.iconst 1, 1) := by decide +kernel
theorem dX12_isNearTo_21 : decode cX12_isNearTo 21 = .ok (.goto 4, 3) := by decide +kernel
theorem dX12_isNearTo_24 : decode cX12_isNearTo 24 = .ok (.iconst 0, 1) := by decide +kernel
theorem dX12_isNearTo_25 : decode cX12_isNearTo 25 = .ok (.ireturn, 1) := by decide +kernel
theorem dX12_laysWays_0 : decode cX12_laysWays 0 = .ok (.iconst 0, 1) := by decide +kernel
theorem dX12_laysWays_1 : decode cX12_laysWays 1 = .ok (.istore_n 2, 1) := by decide +kernel
theorem dX12_laysWays_2 : decode cX12_laysWays 2 = .ok (.iload_n 2, 1) := by decide +kernel
theorem dX12_laysWays_3 : decode cX12_laysWays 3 = .ok (.bipush 9, 2) := by decide +kernel
theorem dX12_laysWays_5 : decode cX12_laysWays 5 = .ok (.if_icmp .gt 25, 3) := by decide +kernel
theorem dX12_laysWays_8 : decode cX12_laysWays 8 = .ok (.aload_n 0, 1) := by decide +kernel
theorem dX12_laysWays_9 : decode cX12_laysWays 9 = .ok (.getfield 44, 3) := by decide +kernel
theorem dX12_laysWays_12 : decode cX12_laysWays 12 = .ok (.iload_n 2, 1) := by decide +kernel
theorem dX12_laysWays_13 : decode cX12_laysWays 13 = .ok (.iload_n 2, 1) := by decide +kernel
theorem dX12_laysWays_14 : decode cX12_laysWays 14 = .ok (.iload_n 1, 1) := by decide +kernel
theorem dX12_laysWays_15 : decode cX12_laysWays 15 = .ok (.if_icmp .ne 7, 3) := by decide +kernel
theorem dX12_laysWays_18 : decode cX12_laysWays 18 = .ok (.iconst 0, 1) := by decide +kernel
theorem dX12_laysWays_19 : decode cX12_laysWays 19 = .ok (.goto 4, 3) := by decide +kernel
theorem dX12_laysWays_22 : decode cX12_laysWays 22 = .ok (.iconst (-1), 1) := by decide +kernel
theorem dX12_laysWays_23 : decode cX12_laysWays 23 = .ok (.iastore, 1) := by decide +kernel
theorem dX12_laysWays_24 : decode cX12_laysWays 24 = .ok (.iinc 2 1, 3) := by decide +kernel
theorem dX12_laysWays_27 : decode cX12_laysWays 27 = .ok (.goto (-25), 3) := by decide +kernel
theorem dX12_laysWays_30 : decode cX12_laysWays 30 = .ok (.iconst 1, 1) := by decide +kernel
theorem dX12_laysWays_31 : decode cX12_laysWays 31 = .ok (.istore_n 2, 1) := by decide +kernel
theorem dX12_laysWays_32 : decode cX12_laysWays 32 = .ok (.iload_n 2, 1) := by decide +kernel
theorem dX12_laysWays_33 : decode cX12_laysWays 33 = .ok (.bipush 9, 2) := by decide +kernel
theorem dX12_laysWays_35 : decode cX12_laysWays 35 = .ok (.if_icmp .gt 138, 3) := by decide +kernel
theorem dX12_laysWays_38 : decode cX12_laysWays 38 = .ok (.iconst 1, 1) := by decide +kernel
theorem dX12_laysWays_39 : decode cX12_laysWays 39 = .ok (.istore_n 3, 1) := by decide +kernel
theorem dX12_laysWays_40 : decode cX12_laysWays 40 = .ok (.iload_n 3, 1) := by decide +kernel
theorem dX12_laysWays_41 : decode cX12_laysWays 41 = .ok (.aload_n 0, 1) := by decide +kernel
theorem dX12_laysWays_42 : decode cX12_laysWays 42 = .ok (.getfield 35, 3) := by decide +kernel
theorem dX12_laysWays_45 : decode cX12_laysWays 45 = .ok (.iconst 0, 1) := by decide +kernel
theorem dX12_laysWays_46 : decode cX12_laysWays 46 = .ok (.iaload, 1) := by decide +kernel
theorem dX12_laysWays_47 : decode cX12_laysWays 47 = .ok (.if_icmp .gt 120, 3) := by decide +kernel
theorem dX12_laysWays_50 : decode cX12_laysWays 50 = .ok (.iconst 0, 1) := by decide +kernel
theorem dX12_laysWays_51 : decode cX12_laysWays 51 = .ok (.istore 4, 2) := by decide +kernel
theorem dX12_laysWays_53 : decode cX12_laysWays 53 = .ok (.iconst 0, 1) := by decide +kernel
theorem dX12_laysWays_54 : decode cX12_laysWays 54 = .ok (.istore 5, 2) := by decide +kernel
theorem dX12_laysWays_56 : decode cX12_laysWays 56 = .ok (.iload 5, 2) := by decide +kernel
theorem dX12_laysWays_58 : decode cX12_laysWays 58 = .ok (.aload_n 0, 1) := by decide +kernel
theorem dX12_laysWays_59 : decode cX12_laysWays 59 = .ok (.getfield 35, 3) := by decide +kernel
theorem dX12_laysWays_62 : decode cX12_laysWays 62 = .ok (.iconst 1, 1) := by decide +kernel
theorem dX12_laysWays_63 : decode cX12_laysWays 63 = .ok (.iaload, 1) := by decide +kernel
theorem dX12_laysWays_64 : decode cX12_laysWays 64 = .ok (.if_icmp .ge 76, 3) := by decide +kernel
theorem dX12_laysWays_67 : decode cX12_laysWays 67 = .ok (.iconst 0, 1) := by decide +kernel
theorem dX12_laysWays_68 : decode cX12_laysWays 68 = .ok (.istore 6, 2) := by decide +kernel
theorem dX12_laysWays_70 : decode cX12_laysWays 70 = .ok (.iload 6, 2) := by decide +kernel
theorem dX12_laysWays_72 : decode cX12_laysWays 72 = .ok (.iconst 3, 1) := by decide +kernel
theorem dX12_laysWays_73 : decode cX12_laysWays 73 = .ok (.if_icmp .gt 61, 3) := by decide +kernel
theorem dX12_laysWays_76 : decode cX12_laysWays 76 = .ok (.aload_n 0, 1) := by decide +kernel
theorem dX12_laysWays_77 : decode cX12_laysWays 77 = .ok (.iload_n 3, 1) := by decide +kernel
theorem dX12_laysWays_78 : decode cX12_laysWays 78 = .ok (.iload 5, 2) := by decide +kernel
theorem dX12_laysWays_80 : decode cX12_laysWays 80 = .ok (.invokevirtual 409, 3) := by decide +kernel
theorem dX12_laysWays_83 : decode cX12_laysWays 83 = .ok (.ifCond .eq 51, 3) := by decide +kernel
theorem dX12_laysWays_86 : decode cX12_laysWays 86 = .ok (.iload 4, 2) := by decide +kernel
theorem dX12_laysWays_88 : decode cX12_laysWays 88 = .ok (.ifCond .ne 33, 3) := by decide +kernel
theorem dX12_laysWays_91 : decode cX12_laysWays 91 = .ok (.aload_n 0, 1) := by decide +kernel
theorem dX12_laysWays_92 : decode cX12_laysWays 92 = .ok (.iload 5, 2) := by decide +kernel
theorem dX12_laysWays_94 : decode cX12_laysWays 94 = .ok (.iload 6, 2) := by decide +kernel
theorem dX12_laysWays_96 : decode cX12_laysWays 96 = .ok (.invokevirtual 412, 3) := by decide +kernel
theorem dX12_laysWays_99 : decode cX12_laysWays 99 = .ok (.ifCond .lt 26, 3) := by decide +kernel
theorem dX12_laysWays_102 : decode cX12_laysWays 102 = .ok (.aload_n 0, 1) := by decide +kernel
theorem dX12_laysWays_103 : decode cX12_laysWays 103 = .ok (.getfield 44, 3) := by decide +kernel
theorem dX12_laysWays_106 : decode cX12_laysWays 106 = .ok (.aload_n 0, 1) := by decide +kernel
theorem dX12_laysWays_107 : decode cX12_laysWays 107 = .ok (.iload 5, 2) := by decide +kernel
theorem dX12_laysWays_109 : decode cX12_laysWays 109 = .ok (.iload 6, 2) := by decide +kernel
theorem dX12_laysWays_111 : decode cX12_laysWays 111 = .ok (.invokevirtual 412, 3) := by decide +kernel
theorem dX12_laysWays_114 : decode cX12_laysWays 114 = .ok (.iaload, 1) := by decide +kernel
theorem dX12_laysWays_115 : decode cX12_laysWays 115 = .ok (.iload_n 2, 1) := by decide +kernel
theorem dX12_laysWays_116 : decode cX12_laysWays 116 = .ok (.iconst 1, 1) := by decide +kernel
theorem dX12_laysWays_117 : decode cX12_laysWays 117 = .ok (.isub, 1) := by decide +kernel
theorem dX12_laysWays_118 : decode cX12_laysWays 118 = .ok (.if_icmp .ne 7, 3) := by decide +kernel
theorem dX12_laysWays_121 : decode cX12_laysWays 121 = .ok (.iconst 1, 1) := by decide +kernel
theorem dX12_laysWays_122 : decode cX12_laysWays 122 = .ok (.goto 4, 3) := by decide +kernel
theorem dX12_laysWays_125 : decode cX12_laysWays 125 = .ok (.iconst 0, 1) := by decide +kernel
theorem dX12_laysWays_126 : decode cX12_laysWays 126 = .ok (.istore 4, 2) := by decide +kernel
theorem dX12_laysWays_128 : decode cX12_laysWays 128 = .ok (.iinc 6 1, 3) := by decide +kernel
theorem dX12_laysWays_131 : decode cX12_laysWays 131 = .ok (.goto (-61), 3) := by decide +kernel
theorem dX12_laysWays_134 : decode cX12_laysWays 134 = .ok (.iinc 5 1, 3) := by decide +kernel
theorem dX12_laysWays_137 : decode cX12_laysWays 137 = .ok (.goto (-81), 3) := by decide +kernel
theorem dX12_laysWays_140 : decode cX12_laysWays 140 = .ok (.iload 4, 2) := by decide +kernel
theorem dX12_laysWays_142 : decode cX12_laysWays 142 = .ok (.ifCond .eq 19, 3) := by decide +kernel
theorem dX12_laysWays_145 : decode cX12_laysWays 145 = .ok (.aload_n 0, 1) := by decide +kernel
theorem dX12_laysWays_146 : decode cX12_laysWays 146 = .ok (.getfield 44, 3) := by decide +kernel
theorem dX12_laysWays_149 : decode cX12_laysWays 149 = .ok (.iload_n 3, 1) := by decide +kernel
theorem dX12_laysWays_150 : decode cX12_laysWays 150 = .ok (.iaload, 1) := by decide +kernel
theorem dX12_laysWays_151 : decode cX12_laysWays 151 = .ok (.ifCond .ge 10, 3) := by decide +kernel
theorem dX12_laysWays_154 : decode cX12_laysWays 154 = .ok (.aload_n 0, 1) := by decide +kernel
theorem dX12_laysWays_155 : decode cX12_laysWays 155 = .ok (.getfield 44, 3) := by decide +kernel
theorem dX12_laysWays_158 : decode cX12_laysWays 158 = .ok (.iload_n 3, 1) := by decide +kernel
theorem dX12_laysWays_159 : decode cX12_laysWays 159 = .ok (.iload_n 2, 1) := by decide +kernel
theorem dX12_laysWays_160 : decode cX12_laysWays 160 = .ok (.iastore, 1) := by decide +kernel
theorem dX12_laysWays_161 : decode cX12_laysWays 161 = .ok (.iinc 3 1, 3) := by decide +kernel
theorem dX12_laysWays_164 : decode cX12_laysWays 164 = .ok (.goto (-124), 3) := by decide +kernel
theorem dX12_laysWays_167 : decode cX12_laysWays 167 = .ok (.iinc 2 1, 3) := by decide +kernel
theorem dX12_laysWays_170 : decode cX12_laysWays 170 = .ok (.goto (-138), 3) := by decide +kernel
theorem dX12_laysWays_173 : decode cX12_laysWays 173 = .ok (.return_, 1) := by decide +kernel
theorem dX12_whyNoWay_0 : decode cX12_whyNoWay 0 = .ok (.aload_n 0, 1) := by decide +kernel
theorem dX12_whyNoWay_1 : decode cX12_whyNoWay 1 = .ok (.iload_n 1, 1) := by decide +kernel
theorem dX12_whyNoWay_2 : decode cX12_whyNoWay 2 = .ok (.invokevirtual 399, 3) := by decide +kernel
theorem dX12_whyNoWay_5 : decode cX12_whyNoWay 5 = .ok (.ifCond .eq 11, 3) := by decide +kernel
theorem dX12_whyNoWay_8 : decode cX12_whyNoWay 8 = .ok (.aload_n 0, 1) := by decide +kernel
theorem dX12_whyNoWay_9 : decode cX12_whyNoWay 9 = .ok (.iload_n 2, 1) := by decide +kernel
theorem dX12_whyNoWay_10 : decode cX12_whyNoWay 10 = .ok (.invokevirtual 399, 3) := by decide +kernel
theorem dX12_whyNoWay_13 : decode cX12_whyNoWay 13 = .ok (.ifCond .ne 7, 3) := by decide +kernel
theorem dX12_whyNoWay_16 : decode cX12_whyNoWay 16 = .ok (.iconst 2, 1) := by decide +kernel
theorem dX12_whyNoWay_17 : decode cX12_whyNoWay 17 = .ok (.goto 12, 3) := by decide +kernel
theorem dX12_whyNoWay_20 : decode cX12_whyNoWay 20 = .ok (.iload_n 1, 1) := by decide +kernel
theorem dX12_whyNoWay_21 : decode cX12_whyNoWay 21 = .ok (.ifCond .ne 7, 3) := by decide +kernel
theorem dX12_whyNoWay_24 : decode cX12_whyNoWay 24 = .ok (.iconst 5, 1) := by decide +kernel
theorem dX12_whyNoWay_25 : decode cX12_whyNoWay 25 = .ok (.goto 4, 3) := by decide +kernel
theorem dX12_whyNoWay_28 : decode cX12_whyNoWay 28 = .ok (.iconst 0, 1) := by decide +kernel
theorem dX12_whyNoWay_29 : decode cX12_whyNoWay 29 = .ok (.ireturn, 1) := by decide +kernel
theorem dX12_way_0 : decode cX12_way 0 = .ok (.aload_n 0, 1) := by decide +kernel
theorem dX12_way_1 : decode cX12_way 1 = .ok (.iconst 0, 1) := by decide +kernel
theorem dX12_way_2 : decode cX12_way 2 = .ok (.putfield 63, 3) := by decide +kernel
theorem dX12_way_5 : decode cX12_way 5 = .ok (.aload_n 0, 1) := by decide +kernel
theorem dX12_way_6 : decode cX12_way 6 = .ok (.aload_n 0, 1) := by decide +kernel
theorem dX12_way_7 : decode cX12_way 7 = .ok (.iload_n 1, 1) := by decide +kernel
theorem dX12_way_8 : decode cX12_way 8 = .ok (.iload_n 2, 1) := by decide +kernel
theorem dX12_way_9 : decode cX12_way 9 = .ok (.invokevirtual 415, 3) := by decide +kernel
theorem dX12_way_12 : decode cX12_way 12 = .ok (.putfield 66, 3) := by decide +kernel
theorem dX12_way_15 : decode cX12_way 15 = .ok (.aload_n 0, 1) := by decide +kernel
theorem dX12_way_16 : decode cX12_way 16 = .ok (.getfield 66, 3) := by decide +kernel
theorem dX12_way_19 : decode cX12_way 19 = .ok (.ifCond .le 5, 3) := by decide +kernel
theorem dX12_way_22 : decode cX12_way 22 = .ok (.iconst (-1), 1) := by decide +kernel
theorem dX12_way_23 : decode cX12_way 23 = .ok (.ireturn, 1) := by decide +kernel
theorem dX12_way_24 : decode cX12_way 24 = .ok (.aload_n 0, 1) := by decide +kernel
theorem dX12_way_25 : decode cX12_way 25 = .ok (.iload_n 2, 1) := by decide +kernel
theorem dX12_way_26 : decode cX12_way 26 = .ok (.invokevirtual 418, 3) := by decide +kernel
theorem dX12_way_29 : decode cX12_way 29 = .ok (.aload_n 0, 1) := by decide +kernel
theorem dX12_way_30 : decode cX12_way 30 = .ok (.getfield 44, 3) := by decide +kernel
theorem dX12_way_33 : decode cX12_way 33 = .ok (.iload_n 1, 1) := by decide +kernel
theorem dX12_way_34 : decode cX12_way 34 = .ok (.iaload, 1) := by decide +kernel
theorem dX12_way_35 : decode cX12_way 35 = .ok (.ifCond .ge 12, 3) := by decide +kernel
theorem dX12_way_38 : decode cX12_way 38 = .ok (.aload_n 0, 1) := by decide +kernel
theorem dX12_way_39 : decode cX12_way 39 = .ok (.bipush 8, 2) := by decide +kernel
theorem dX12_way_41 : decode cX12_way 41 = .ok (.invokevirtual 333, 3) := by decide +kernel
theorem dX12_way_44 : decode cX12_way 44 = .ok (.goto 9, 3) := by decide +kernel
theorem dX12_way_47 : decode cX12_way 47 = .ok (.aload_n 0, 1) := by decide +kernel
theorem dX12_way_48 : decode cX12_way 48 = .ok (.getfield 44, 3) := by decide +kernel
theorem dX12_way_51 : decode cX12_way 51 = .ok (.iload_n 1, 1) := by decide +kernel
theorem dX12_way_52 : decode cX12_way 52 = .ok (.iaload, 1) := by decide +kernel
theorem dX12_way_53 : decode cX12_way 53 = .ok (.ireturn, 1) := by decide +kernel
theorem dX12_firstSaying_0 : decode cX12_firstSaying 0 = .ok (.iconst 0, 1) := by decide +kernel
theorem dX12_firstSaying_1 : decode cX12_firstSaying 1 = .ok (.istore_n 2, 1) := by decide +kernel
theorem dX12_firstSaying_2 : decode cX12_firstSaying 2 = .ok (.iload_n 2, 1) := by decide +kernel
theorem dX12_firstSaying_3 : decode cX12_firstSaying 3 = .ok (.aload_n 0, 1) := by decide +kernel
theorem dX12_firstSaying_4 : decode cX12_firstSaying 4 = .ok (.getfield 35, 3) := by decide +kernel
theorem dX12_firstSaying_7 : decode cX12_firstSaying 7 = .ok (.iconst 1, 1) := by decide +kernel
theorem dX12_firstSaying_8 : decode cX12_firstSaying 8 = .ok (.iaload, 1) := by decide +kernel
theorem dX12_firstSaying_9 : decode cX12_firstSaying 9 = .ok (.if_icmp .ge 68, 3) := by decide +kernel
theorem dX12_firstSaying_12 : decode cX12_firstSaying 12 = .ok (.iconst 0, 1) := by decide +kernel
theorem dX12_firstSaying_13 : decode cX12_firstSaying 13 = .ok (.istore_n 3, 1) := by decide +kernel
theorem dX12_firstSaying_14 : decode cX12_firstSaying 14 = .ok (.iload_n 3, 1) := by decide +kernel
theorem dX12_firstSaying_15 : decode cX12_firstSaying 15 = .ok (.iconst 3, 1) := by decide +kernel
theorem dX12_firstSaying_16 : decode cX12_firstSaying 16 = .ok (.if_icmp .gt 55, 3) := by decide +kernel
theorem dX12_firstSaying_19 : decode cX12_firstSaying 19 = .ok (.aload_n 0, 1) := by decide +kernel
theorem dX12_firstSaying_20 : decode cX12_firstSaying 20 = .ok (.iload_n 1, 1) := by decide +kernel
theorem dX12_firstSaying_21 : decode cX12_firstSaying 21 = .ok (.iload_n 2, 1) := by decide +kernel
theorem dX12_firstSaying_22 : decode cX12_firstSaying 22 = .ok (.invokevirtual 409, 3) := by decide +kernel
theorem dX12_firstSaying_25 : decode cX12_firstSaying 25 = .ok (.ifCond .eq 46, 3) := by decide +kernel
theorem dX12_firstSaying_28 : decode cX12_firstSaying 28 = .ok (.aload_n 0, 1) := by decide +kernel
theorem dX12_firstSaying_29 : decode cX12_firstSaying 29 = .ok (.iload_n 2, 1) := by decide +kernel
theorem dX12_firstSaying_30 : decode cX12_firstSaying 30 = .ok (.iload_n 3, 1) := by decide +kernel
theorem dX12_firstSaying_31 : decode cX12_firstSaying 31 = .ok (.invokevirtual 412, 3) := by decide +kernel
theorem dX12_firstSaying_34 : decode cX12_firstSaying 34 = .ok (.istore 4, 2) := by decide +kernel
theorem dX12_firstSaying_36 : decode cX12_firstSaying 36 = .ok (.iload 4, 2) := by decide +kernel
theorem dX12_firstSaying_38 : decode cX12_firstSaying 38 = .ok (.ifCond .lt 27, 3) := by decide +kernel
theorem dX12_firstSaying_41 : decode cX12_firstSaying 41 = .ok (.aload_n 0, 1) := by decide +kernel
theorem dX12_firstSaying_42 : decode cX12_firstSaying 42 = .ok (.getfield 44, 3) := by decide +kernel
theorem dX12_firstSaying_45 : decode cX12_firstSaying 45 = .ok (.iload 4, 2) := by decide +kernel
theorem dX12_firstSaying_47 : decode cX12_firstSaying 47 = .ok (.iaload, 1) := by decide +kernel
theorem dX12_firstSaying_48 : decode cX12_firstSaying 48 = .ok (.aload_n 0, 1) := by decide +kernel
theorem dX12_firstSaying_49 : decode cX12_firstSaying 49 = .ok (.getfield 44, 3) := by decide +kernel
theorem dX12_firstSaying_52 : decode cX12_firstSaying 52 = .ok (.iload_n 1, 1) := by decide +kernel
theorem dX12_firstSaying_53 : decode cX12_firstSaying 53 = .ok (.iaload, 1) := by decide +kernel
theorem dX12_firstSaying_54 : decode cX12_firstSaying 54 = .ok (.iconst 1, 1) := by decide +kernel
theorem dX12_firstSaying_55 : decode cX12_firstSaying 55 = .ok (.isub, 1) := by decide +kernel
theorem dX12_firstSaying_56 : decode cX12_firstSaying 56 = .ok (.if_icmp .ne 9, 3) := by decide +kernel
theorem dX12_firstSaying_59 : decode cX12_firstSaying 59 = .ok (.iconst 4, 1) := by decide +kernel
theorem dX12_firstSaying_60 : decode cX12_firstSaying 60 = .ok (.iload_n 2, 1) := by decide +kernel
theorem dX12_firstSaying_61 : decode cX12_firstSaying 61 = .ok (.imul, 1) := by decide +kernel
theorem dX12_firstSaying_62 : decode cX12_firstSaying 62 = .ok (.iload_n 3, 1) := by decide +kernel
theorem dX12_firstSaying_63 : decode cX12_firstSaying 63 = .ok (.iadd, 1) := by decide +kernel
theorem dX12_firstSaying_64 : decode cX12_firstSaying 64 = .ok (.ireturn, 1) := by decide +kernel
theorem dX12_firstSaying_65 : decode cX12_firstSaying 65 = .ok (.iinc 3 1, 3) := by decide +kernel
theorem dX12_firstSaying_68 : decode cX12_firstSaying 68 = .ok (.goto (-54), 3) := by decide +kernel
theorem dX12_firstSaying_71 : decode cX12_firstSaying 71 = .ok (.iinc 2 1, 3) := by decide +kernel
theorem dX12_firstSaying_74 : decode cX12_firstSaying 74 = .ok (.goto (-72), 3) := by decide +kernel
theorem dX12_firstSaying_77 : decode cX12_firstSaying 77 = .ok (.iconst (-1), 1) := by decide +kernel
theorem dX12_firstSaying_78 : decode cX12_firstSaying 78 = .ok (.ireturn, 1) := by decide +kernel
theorem dX12_wayAt_0 : decode cX12_wayAt 0 = .ok (.aload_n 0, 1) := by decide +kernel
theorem dX12_wayAt_1 : decode cX12_wayAt 1 = .ok (.iconst 0, 1) := by decide +kernel
theorem dX12_wayAt_2 : decode cX12_wayAt 2 = .ok (.putfield 63, 3) := by decide +kernel
theorem dX12_wayAt_5 : decode cX12_wayAt 5 = .ok (.aload_n 0, 1) := by decide +kernel
theorem dX12_wayAt_6 : decode cX12_wayAt 6 = .ok (.aload_n 0, 1) := by decide +kernel
theorem dX12_wayAt_7 : decode cX12_wayAt 7 = .ok (.iload_n 1, 1) := by decide +kernel
theorem dX12_wayAt_8 : decode cX12_wayAt 8 = .ok (.iload_n 2, 1) := by decide +kernel
theorem dX12_wayAt_9 : decode cX12_wayAt 9 = .ok (.invokevirtual 415, 3) := by decide +kernel
theorem dX12_wayAt_12 : decode cX12_wayAt 12 = .ok (.putfield 66, 3) := by decide +kernel
theorem dX12_wayAt_15 : decode cX12_wayAt 15 = .ok (.aload_n 0, 1) := by decide +kernel
theorem dX12_wayAt_16 : decode cX12_wayAt 16 = .ok (.getfield 66, 3) := by decide +kernel
theorem dX12_wayAt_19 : decode cX12_wayAt 19 = .ok (.ifCond .ne 21, 3) := by decide +kernel
theorem dX12_wayAt_22 : decode cX12_wayAt 22 = .ok (.iload 4, 2) := by decide +kernel
theorem dX12_wayAt_24 : decode cX12_wayAt 24 = .ok (.i2l, 1) := by decide +kernel
theorem dX12_wayAt_25 : decode cX12_wayAt 25 = .ok (.lconst 0, 1) := by decide +kernel
theorem dX12_wayAt_26 : decode cX12_wayAt 26 = .ok (.ldc2_w 421, 3) := by decide +kernel
theorem dX12_wayAt_29 : decode cX12_wayAt 29 = .ok (.invokestatic 98, 3) := by decide +kernel
theorem dX12_wayAt_32 : decode cX12_wayAt 32 = .ok (.ifCond .ne 8, 3) := by decide +kernel
theorem dX12_wayAt_35 : decode cX12_wayAt 35 = .ok (.aload_n 0, 1) := by decide +kernel
theorem dX12_wayAt_36 : decode cX12_wayAt 36 = .ok (.iconst 5, 1) := by decide +kernel
theorem dX12_wayAt_37 : decode cX12_wayAt 37 = .ok (.putfield 66, 3) := by decide +kernel
theorem dX12_wayAt_40 : decode cX12_wayAt 40 = .ok (.aload_n 0, 1) := by decide +kernel
theorem dX12_wayAt_41 : decode cX12_wayAt 41 = .ok (.getfield 66, 3) := by decide +kernel
theorem dX12_wayAt_44 : decode cX12_wayAt 44 = .ok (.ifCond .le 5, 3) := by decide +kernel
theorem dX12_wayAt_47 : decode cX12_wayAt 47 = .ok (.iconst (-1), 1) := by decide +kernel
theorem dX12_wayAt_48 : decode cX12_wayAt 48 = .ok (.ireturn, 1) := by decide +kernel
theorem dX12_wayAt_49 : decode cX12_wayAt 49 = .ok (.aload_n 0, 1) := by decide +kernel
theorem dX12_wayAt_50 : decode cX12_wayAt 50 = .ok (.iload_n 2, 1) := by decide +kernel
theorem dX12_wayAt_51 : decode cX12_wayAt 51 = .ok (.invokevirtual 418, 3) := by decide +kernel
theorem dX12_wayAt_54 : decode cX12_wayAt 54 = .ok (.iload_n 3, 1) := by decide +kernel
theorem dX12_wayAt_55 : decode cX12_wayAt 55 = .ok (.i2l, 1) := by decide +kernel
theorem dX12_wayAt_56 : decode cX12_wayAt 56 = .ok (.lconst 0, 1) := by decide +kernel
theorem dX12_wayAt_57 : decode cX12_wayAt 57 = .ok (.aload_n 0, 1) := by decide +kernel
theorem dX12_wayAt_58 : decode cX12_wayAt 58 = .ok (.getfield 44, 3) := by decide +kernel
theorem dX12_wayAt_61 : decode cX12_wayAt 61 = .ok (.iload_n 1, 1) := by decide +kernel
theorem dX12_wayAt_62 : decode cX12_wayAt 62 = .ok (.iaload, 1) := by decide +kernel
theorem dX12_wayAt_63 : decode cX12_wayAt 63 = .ok (.iconst 1, 1) := by decide +kernel
theorem dX12_wayAt_64 : decode cX12_wayAt 64 = .ok (.isub, 1) := by decide +kernel
theorem dX12_wayAt_65 : decode cX12_wayAt 65 = .ok (.i2l, 1) := by decide +kernel
theorem dX12_wayAt_66 : decode cX12_wayAt 66 = .ok (.invokestatic 98, 3) := by decide +kernel
theorem dX12_wayAt_69 : decode cX12_wayAt 69 = .ok (.ifCond .ne 10, 3) := by decide +kernel
theorem dX12_wayAt_72 : decode cX12_wayAt 72 = .ok (.aload_n 0, 1) := by decide +kernel
theorem dX12_wayAt_73 : decode cX12_wayAt 73 = .ok (.bipush 8, 2) := by decide +kernel
theorem dX12_wayAt_75 : decode cX12_wayAt 75 = .ok (.invokevirtual 333, 3) := by decide +kernel
theorem dX12_wayAt_78 : decode cX12_wayAt 78 = .ok (.ireturn, 1) := by decide +kernel
theorem dX12_wayAt_79 : decode cX12_wayAt 79 = .ok (.iload_n 1, 1) := by decide +kernel
theorem dX12_wayAt_80 : decode cX12_wayAt 80 = .ok (.istore 5, 2) := by decide +kernel
theorem dX12_wayAt_82 : decode cX12_wayAt 82 = .ok (.iconst 0, 1) := by decide +kernel
theorem dX12_wayAt_83 : decode cX12_wayAt 83 = .ok (.istore 6, 2) := by decide +kernel
theorem dX12_wayAt_85 : decode cX12_wayAt 85 = .ok (.iconst 0, 1) := by decide +kernel
theorem dX12_wayAt_86 : decode cX12_wayAt 86 = .ok (.istore 7, 2) := by decide +kernel
theorem dX12_wayAt_88 : decode cX12_wayAt 88 = .ok (.iload 7, 2) := by decide +kernel
theorem dX12_wayAt_90 : decode cX12_wayAt 90 = .ok (.iload_n 3, 1) := by decide +kernel
theorem dX12_wayAt_91 : decode cX12_wayAt 91 = .ok (.if_icmp .gt 31, 3) := by decide +kernel
theorem dX12_wayAt_94 : decode cX12_wayAt 94 = .ok (.aload_n 0, 1) := by decide +kernel
theorem dX12_wayAt_95 : decode cX12_wayAt 95 = .ok (.iload 5, 2) := by decide +kernel
theorem dX12_wayAt_97 : decode cX12_wayAt 97 = .ok (.invokevirtual 423, 3) := by decide +kernel
theorem dX12_wayAt_100 : decode cX12_wayAt 100 = .ok (.istore 6, 2) := by decide +kernel
theorem dX12_wayAt_102 : decode cX12_wayAt 102 = .ok (.aload_n 0, 1) := by decide +kernel
theorem dX12_wayAt_103 : decode cX12_wayAt 103 = .ok (.iload 6, 2) := by decide +kernel
theorem dX12_wayAt_105 : decode cX12_wayAt 105 = .ok (.iconst 4, 1) := by decide +kernel
theorem dX12_wayAt_106 : decode cX12_wayAt 106 = .ok (.idiv, 1) := by decide +kernel
theorem dX12_wayAt_107 : decode cX12_wayAt 107 = .ok (.iload 6, 2) := by decide +kernel
theorem dX12_wayAt_109 : decode cX12_wayAt 109 = .ok (.iconst 4, 1) := by decide +kernel
theorem dX12_wayAt_110 : decode cX12_wayAt 110 = .ok (.irem, 1) := by decide +kernel
theorem dX12_wayAt_111 : decode cX12_wayAt 111 = .ok (.invokevirtual 412, 3) := by decide +kernel
theorem dX12_wayAt_114 : decode cX12_wayAt 114 = .ok (.istore 5, 2) := by decide +kernel
theorem dX12_wayAt_116 : decode cX12_wayAt 116 = .ok (.iinc 7 1, 3) := by decide +kernel
theorem dX12_wayAt_119 : decode cX12_wayAt 119 = .ok (.goto (-31), 3) := by decide +kernel
theorem dX12_wayAt_122 : decode cX12_wayAt 122 = .ok (.iload 4, 2) := by decide +kernel
theorem dX12_wayAt_124 : decode cX12_wayAt 124 = .ok (.ifCond .ne 10, 3) := by decide +kernel
theorem dX12_wayAt_127 : decode cX12_wayAt 127 = .ok (.iload 6, 2) := by decide +kernel
theorem dX12_wayAt_129 : decode cX12_wayAt 129 = .ok (.iconst 4, 1) := by decide +kernel
theorem dX12_wayAt_130 : decode cX12_wayAt 130 = .ok (.idiv, 1) := by decide +kernel
theorem dX12_wayAt_131 : decode cX12_wayAt 131 = .ok (.goto 18, 3) := by decide +kernel
theorem dX12_wayAt_134 : decode cX12_wayAt 134 = .ok (.iload 4, 2) := by decide +kernel
theorem dX12_wayAt_136 : decode cX12_wayAt 136 = .ok (.iconst 1, 1) := by decide +kernel
theorem dX12_wayAt_137 : decode cX12_wayAt 137 = .ok (.if_icmp .ne 10, 3) := by decide +kernel
theorem dX12_wayAt_140 : decode cX12_wayAt 140 = .ok (.iload 6, 2) := by decide +kernel
theorem dX12_wayAt_142 : decode cX12_wayAt 142 = .ok (.iconst 4, 1) := by decide +kernel
theorem dX12_wayAt_143 : decode cX12_wayAt 143 = .ok (.irem, 1) := by decide +kernel
theorem dX12_wayAt_144 : decode cX12_wayAt 144 = .ok (.goto 5, 3) := by decide +kernel
theorem dX12_wayAt_147 : decode cX12_wayAt 147 = .ok (.iload 5, 2) := by decide +kernel
theorem dX12_wayAt_149 : decode cX12_wayAt 149 = .ok (.ireturn, 1) := by decide +kernel
theorem dX12_couplesTo_0 : decode cX12_couplesTo 0 = .ok (.iconst 0, 1) := by decide +kernel
theorem dX12_couplesTo_1 : decode cX12_couplesTo 1 = .ok (.istore_n 3, 1) := by decide +kernel
theorem dX12_couplesTo_2 : decode cX12_couplesTo 2 = .ok (.iconst 0, 1) := by decide +kernel
theorem dX12_couplesTo_3 : decode cX12_couplesTo 3 = .ok (.istore 4, 2) := by decide +kernel
theorem dX12_couplesTo_5 : decode cX12_couplesTo 5 = .ok (.iload 4, 2) := by decide +kernel
theorem dX12_couplesTo_7 : decode cX12_couplesTo 7 = .ok (.aload_n 0, 1) := by decide +kernel
theorem dX12_couplesTo_8 : decode cX12_couplesTo 8 = .ok (.getfield 35, 3) := by decide +kernel
theorem dX12_couplesTo_11 : decode cX12_couplesTo 11 = .ok (.iconst 1, 1) := by decide +kernel
theorem dX12_couplesTo_12 : decode cX12_couplesTo 12 = .ok (.iaload, 1) := by decide +kernel
theorem dX12_couplesTo_13 : decode cX12_couplesTo 13 = .ok (.if_icmp .ge 63, 3) := by decide +kernel
theorem dX12_couplesTo_16 : decode cX12_couplesTo 16 = .ok (.iconst 0, 1) := by decide +kernel
theorem dX12_couplesTo_17 : decode cX12_couplesTo 17 = .ok (.istore 5, 2) := by decide +kernel
theorem dX12_couplesTo_19 : decode cX12_couplesTo 19 = .ok (.iload 5, 2) := by decide +kernel
theorem dX12_couplesTo_21 : decode cX12_couplesTo 21 = .ok (.iconst 3, 1) := by decide +kernel
theorem dX12_couplesTo_22 : decode cX12_couplesTo 22 = .ok (.if_icmp .gt 48, 3) := by decide +kernel
theorem dX12_couplesTo_25 : decode cX12_couplesTo 25 = .ok (.iload_n 3, 1) := by decide +kernel
theorem dX12_couplesTo_26 : decode cX12_couplesTo 26 = .ok (.aload_n 0, 1) := by decide +kernel
theorem dX12_couplesTo_27 : decode cX12_couplesTo 27 = .ok (.iload 4, 2) := by decide +kernel
theorem dX12_couplesTo_29 : decode cX12_couplesTo 29 = .ok (.invokevirtual 354, 3) := by decide +kernel
theorem dX12_couplesTo_32 : decode cX12_couplesTo 32 = .ok (.ifCond .eq 29, 3) := by decide +kernel
theorem dX12_couplesTo_35 : decode cX12_couplesTo 35 = .ok (.aload_n 0, 1) := by decide +kernel
theorem dX12_couplesTo_36 : decode cX12_couplesTo 36 = .ok (.iload 4, 2) := by decide +kernel
theorem dX12_couplesTo_38 : decode cX12_couplesTo 38 = .ok (.iload 5, 2) := by decide +kernel
theorem dX12_couplesTo_40 : decode cX12_couplesTo 40 = .ok (.invokevirtual 412, 3) := by decide +kernel
theorem dX12_couplesTo_43 : decode cX12_couplesTo 43 = .ok (.iload_n 1, 1) := by decide +kernel
theorem dX12_couplesTo_44 : decode cX12_couplesTo 44 = .ok (.if_icmp .ne 17, 3) := by decide +kernel
theorem dX12_couplesTo_47 : decode cX12_couplesTo 47 = .ok (.iload_n 2, 1) := by decide +kernel
theorem dX12_couplesTo_48 : decode cX12_couplesTo 48 = .ok (.ifCond .lt 9, 3) := by decide +kernel
theorem dX12_couplesTo_51 : decode cX12_couplesTo 51 = .ok (.iload_n 2, 1) := by decide +kernel
theorem dX12_couplesTo_52 : decode cX12_couplesTo 52 = .ok (.iload 4, 2) := by decide +kernel
theorem dX12_couplesTo_54 : decode cX12_couplesTo 54 = .ok (.if_icmp .ne 7, 3) := by decide +kernel
theorem dX12_couplesTo_57 : decode cX12_couplesTo 57 = .ok (.iconst 1, 1) := by decide +kernel
theorem dX12_couplesTo_58 : decode cX12_couplesTo 58 = .ok (.goto 4, 3) := by decide +kernel
theorem dX12_couplesTo_61 : decode cX12_couplesTo 61 = .ok (.iconst 0, 1) := by decide +kernel
theorem dX12_couplesTo_62 : decode cX12_couplesTo 62 = .ok (.iadd, 1) := by decide +kernel
theorem dX12_couplesTo_63 : decode cX12_couplesTo 63 = .ok (.istore_n 3, 1) := by decide +kernel
theorem dX12_couplesTo_64 : decode cX12_couplesTo 64 = .ok (.iinc 5 1, 3) := by decide +kernel
theorem dX12_couplesTo_67 : decode cX12_couplesTo 67 = .ok (.goto (-48), 3) := by decide +kernel
theorem dX12_couplesTo_70 : decode cX12_couplesTo 70 = .ok (.iinc 4 1, 3) := by decide +kernel
theorem dX12_couplesTo_73 : decode cX12_couplesTo 73 = .ok (.goto (-68), 3) := by decide +kernel
theorem dX12_couplesTo_76 : decode cX12_couplesTo 76 = .ok (.iload_n 3, 1) := by decide +kernel
theorem dX12_couplesTo_77 : decode cX12_couplesTo 77 = .ok (.ireturn, 1) := by decide +kernel
theorem dX12_from_0 : decode cX12_from 0 = .ok (.aload_n 0, 1) := by decide +kernel
theorem dX12_from_1 : decode cX12_from 1 = .ok (.iconst 0, 1) := by decide +kernel
theorem dX12_from_2 : decode cX12_from 2 = .ok (.putfield 63, 3) := by decide +kernel
theorem dX12_from_5 : decode cX12_from 5 = .ok (.aload_n 0, 1) := by decide +kernel
theorem dX12_from_6 : decode cX12_from 6 = .ok (.iconst 0, 1) := by decide +kernel
theorem dX12_from_7 : decode cX12_from 7 = .ok (.putfield 66, 3) := by decide +kernel
theorem dX12_from_10 : decode cX12_from 10 = .ok (.aload_n 0, 1) := by decide +kernel
theorem dX12_from_11 : decode cX12_from 11 = .ok (.iload_n 1, 1) := by decide +kernel
theorem dX12_from_12 : decode cX12_from 12 = .ok (.invokevirtual 399, 3) := by decide +kernel
theorem dX12_from_15 : decode cX12_from 15 = .ok (.ifCond .eq 12, 3) := by decide +kernel
theorem dX12_from_18 : decode cX12_from 18 = .ok (.aload_n 0, 1) := by decide +kernel
theorem dX12_from_19 : decode cX12_from 19 = .ok (.iload_n 1, 1) := by decide +kernel
theorem dX12_from_20 : decode cX12_from 20 = .ok (.iconst (-1), 1) := by decide +kernel
theorem dX12_from_21 : decode cX12_from 21 = .ok (.invokevirtual 426, 3) := by decide +kernel
theorem dX12_from_24 : decode cX12_from 24 = .ok (.goto 8, 3) := by decide +kernel
theorem dX12_from_27 : decode cX12_from 27 = .ok (.aload_n 0, 1) := by decide +kernel
theorem dX12_from_28 : decode cX12_from 28 = .ok (.iconst 2, 1) := by decide +kernel
theorem dX12_from_29 : decode cX12_from 29 = .ok (.invokevirtual 333, 3) := by decide +kernel
theorem dX12_from_32 : decode cX12_from 32 = .ok (.ireturn, 1) := by decide +kernel
theorem dX12_oddsThat_0 : decode cX12_oddsThat 0 = .ok (.aload_n 0, 1) := by decide +kernel
theorem dX12_oddsThat_1 : decode cX12_oddsThat 1 = .ok (.iconst 0, 1) := by decide +kernel
theorem dX12_oddsThat_2 : decode cX12_oddsThat 2 = .ok (.putfield 63, 3) := by decide +kernel
theorem dX12_oddsThat_5 : decode cX12_oddsThat 5 = .ok (.aload_n 0, 1) := by decide +kernel
theorem dX12_oddsThat_6 : decode cX12_oddsThat 6 = .ok (.iconst 0, 1) := by decide +kernel
theorem dX12_oddsThat_7 : decode cX12_oddsThat 7 = .ok (.putfield 66, 3) := by decide +kernel
theorem dX12_oddsThat_10 : decode cX12_oddsThat 10 = .ok (.aload_n 0, 1) := by decide +kernel
theorem dX12_oddsThat_11 : decode cX12_oddsThat 11 = .ok (.iload_n 1, 1) := by decide +kernel
theorem dX12_oddsThat_12 : decode cX12_oddsThat 12 = .ok (.invokevirtual 399, 3) := by decide +kernel
theorem dX12_oddsThat_15 : decode cX12_oddsThat 15 = .ok (.ifCond .eq 11, 3) := by decide +kernel
theorem dX12_oddsThat_18 : decode cX12_oddsThat 18 = .ok (.aload_n 0, 1) := by decide +kernel
theorem dX12_oddsThat_19 : decode cX12_oddsThat 19 = .ok (.iload_n 2, 1) := by decide +kernel
theorem dX12_oddsThat_20 : decode cX12_oddsThat 20 = .ok (.invokevirtual 351, 3) := by decide +kernel
theorem dX12_oddsThat_23 : decode cX12_oddsThat 23 = .ok (.ifCond .ne 9, 3) := by decide +kernel
theorem dX12_oddsThat_26 : decode cX12_oddsThat 26 = .ok (.aload_n 0, 1) := by decide +kernel
theorem dX12_oddsThat_27 : decode cX12_oddsThat 27 = .ok (.iconst 2, 1) := by decide +kernel
theorem dX12_oddsThat_28 : decode cX12_oddsThat 28 = .ok (.invokevirtual 78, 3) := by decide +kernel
theorem dX12_oddsThat_31 : decode cX12_oddsThat 31 = .ok (.ireturn, 1) := by decide +kernel
theorem dX12_oddsThat_32 : decode cX12_oddsThat 32 = .ok (.aload_n 0, 1) := by decide +kernel
theorem dX12_oddsThat_33 : decode cX12_oddsThat 33 = .ok (.iload_n 1, 1) := by decide +kernel
theorem dX12_oddsThat_34 : decode cX12_oddsThat 34 = .ok (.iconst (-1), 1) := by decide +kernel
theorem dX12_oddsThat_35 : decode cX12_oddsThat 35 = .ok (.invokevirtual 426, 3) := by decide +kernel
theorem dX12_oddsThat_38 : decode cX12_oddsThat 38 = .ok (.istore_n 3, 1) := by decide +kernel
theorem dX12_oddsThat_39 : decode cX12_oddsThat 39 = .ok (.iload_n 3, 1) := by decide +kernel
theorem dX12_oddsThat_40 : decode cX12_oddsThat 40 = .ok (.ifCond .ne 12, 3) := by decide +kernel
theorem dX12_oddsThat_43 : decode cX12_oddsThat 43 = .ok (.aload_n 0, 1) := by decide +kernel
theorem dX12_oddsThat_44 : decode cX12_oddsThat 44 = .ok (.bipush 8, 2) := by decide +kernel
theorem dX12_oddsThat_46 : decode cX12_oddsThat 46 = .ok (.invokevirtual 78, 3) := by decide +kernel
theorem dX12_oddsThat_49 : decode cX12_oddsThat 49 = .ok (.goto 16, 3) := by decide +kernel
theorem dX12_oddsThat_52 : decode cX12_oddsThat 52 = .ok (.aload_n 0, 1) := by decide +kernel
theorem dX12_oddsThat_53 : decode cX12_oddsThat 53 = .ok (.aload_n 0, 1) := by decide +kernel
theorem dX12_oddsThat_54 : decode cX12_oddsThat 54 = .ok (.iload_n 1, 1) := by decide +kernel
theorem dX12_oddsThat_55 : decode cX12_oddsThat 55 = .ok (.iload_n 2, 1) := by decide +kernel
theorem dX12_oddsThat_56 : decode cX12_oddsThat 56 = .ok (.invokevirtual 426, 3) := by decide +kernel
theorem dX12_oddsThat_59 : decode cX12_oddsThat 59 = .ok (.i2l, 1) := by decide +kernel
theorem dX12_oddsThat_60 : decode cX12_oddsThat 60 = .ok (.iload_n 3, 1) := by decide +kernel
theorem dX12_oddsThat_61 : decode cX12_oddsThat 61 = .ok (.i2l, 1) := by decide +kernel
theorem dX12_oddsThat_62 : decode cX12_oddsThat 62 = .ok (.invokevirtual 429, 3) := by decide +kernel
theorem dX12_oddsThat_65 : decode cX12_oddsThat 65 = .ok (.ireturn, 1) := by decide +kernel
theorem dX12_lands_0 : decode cX12_lands 0 = .ok (.iconst 0, 1) := by decide +kernel
theorem dX12_lands_1 : decode cX12_lands 1 = .ok (.iload_n 1, 1) := by decide +kernel
theorem dX12_lands_2 : decode cX12_lands 2 = .ok (.iload_n 0, 1) := by decide +kernel
theorem dX12_lands_3 : decode cX12_lands 3 = .ok (.bipush 8, 2) := by decide +kernel
theorem dX12_lands_5 : decode cX12_lands 5 = .ok (.idiv, 1) := by decide +kernel
theorem dX12_lands_6 : decode cX12_lands 6 = .ok (.iload_n 1, 1) := by decide +kernel
theorem dX12_lands_7 : decode cX12_lands 7 = .ok (.imul, 1) := by decide +kernel
theorem dX12_lands_8 : decode cX12_lands 8 = .ok (.iload_n 0, 1) := by decide +kernel
theorem dX12_lands_9 : decode cX12_lands 9 = .ok (.bipush 8, 2) := by decide +kernel
theorem dX12_lands_11 : decode cX12_lands 11 = .ok (.irem, 1) := by decide +kernel
theorem dX12_lands_12 : decode cX12_lands 12 = .ok (.iadd, 1) := by decide +kernel
theorem dX12_lands_13 : decode cX12_lands 13 = .ok (.iconst 4, 1) := by decide +kernel
theorem dX12_lands_14 : decode cX12_lands 14 = .ok (.idiv, 1) := by decide +kernel
theorem dX12_lands_15 : decode cX12_lands 15 = .ok (.isub, 1) := by decide +kernel
theorem dX12_lands_16 : decode cX12_lands 16 = .ok (.invokestatic 247, 3) := by decide +kernel
theorem dX12_lands_19 : decode cX12_lands 19 = .ok (.ireturn, 1) := by decide +kernel
theorem dX12_whyNoLaw_0 : decode cX12_whyNoLaw 0 = .ok (.aload_n 0, 1) := by decide +kernel
theorem dX12_whyNoLaw_1 : decode cX12_whyNoLaw 1 = .ok (.iload_n 1, 1) := by decide +kernel
theorem dX12_whyNoLaw_2 : decode cX12_whyNoLaw 2 = .ok (.invokevirtual 370, 3) := by decide +kernel
theorem dX12_whyNoLaw_5 : decode cX12_whyNoLaw 5 = .ok (.ifCond .ne 5, 3) := by decide +kernel
theorem dX12_whyNoLaw_8 : decode cX12_whyNoLaw 8 = .ok (.iconst 1, 1) := by decide +kernel
theorem dX12_whyNoLaw_9 : decode cX12_whyNoLaw 9 = .ok (.ireturn, 1) := by decide +kernel
theorem dX12_whyNoLaw_10 : decode cX12_whyNoLaw 10 = .ok (.aload_n 0, 1) := by decide +kernel
theorem dX12_whyNoLaw_11 : decode cX12_whyNoLaw 11 = .ok (.getfield 17, 3) := by decide +kernel
theorem dX12_whyNoLaw_14 : decode cX12_whyNoLaw 14 = .ok (.iload_n 1, 1) := by decide +kernel
theorem dX12_whyNoLaw_15 : decode cX12_whyNoLaw 15 = .ok (.iaload, 1) := by decide +kernel
theorem dX12_whyNoLaw_16 : decode cX12_whyNoLaw 16 = .ok (.ifCond .ge 5, 3) := by decide +kernel
theorem dX12_whyNoLaw_19 : decode cX12_whyNoLaw 19 = .ok (.iconst 3, 1) := by decide +kernel
theorem dX12_whyNoLaw_20 : decode cX12_whyNoLaw 20 = .ok (.ireturn, 1) := by decide +kernel
theorem dX12_whyNoLaw_21 : decode cX12_whyNoLaw 21 = .ok (.aload_n 0, 1) := by decide +kernel
theorem dX12_whyNoLaw_22 : decode cX12_whyNoLaw 22 = .ok (.getfield 17, 3) := by decide +kernel
theorem dX12_whyNoLaw_25 : decode cX12_whyNoLaw 25 = .ok (.iload_n 1, 1) := by decide +kernel
theorem dX12_whyNoLaw_26 : decode cX12_whyNoLaw 26 = .ok (.iaload, 1) := by decide +kernel
theorem dX12_whyNoLaw_27 : decode cX12_whyNoLaw 27 = .ok (.i2l, 1) := by decide +kernel
theorem dX12_whyNoLaw_28 : decode cX12_whyNoLaw 28 = .ok (.ldc2_w 421, 3) := by decide +kernel
theorem dX12_whyNoLaw_31 : decode cX12_whyNoLaw 31 = .ok (.iload_n 2, 1) := by decide +kernel
theorem dX12_whyNoLaw_32 : decode cX12_whyNoLaw 32 = .ok (.i2l, 1) := by decide +kernel
theorem dX12_whyNoLaw_33 : decode cX12_whyNoLaw 33 = .ok (.lmul, 1) := by decide +kernel
theorem dX12_whyNoLaw_34 : decode cX12_whyNoLaw 34 = .ok (.lcmp, 1) := by decide +kernel
theorem dX12_whyNoLaw_35 : decode cX12_whyNoLaw 35 = .ok (.ifCond .ge 5, 3) := by decide +kernel
theorem dX12_whyNoLaw_38 : decode cX12_whyNoLaw 38 = .ok (.iconst 4, 1) := by decide +kernel
theorem dX12_whyNoLaw_39 : decode cX12_whyNoLaw 39 = .ok (.ireturn, 1) := by decide +kernel
theorem dX12_whyNoLaw_40 : decode cX12_whyNoLaw 40 = .ok (.iload_n 2, 1) := by decide +kernel
theorem dX12_whyNoLaw_41 : decode cX12_whyNoLaw 41 = .ok (.i2l, 1) := by decide +kernel
theorem dX12_whyNoLaw_42 : decode cX12_whyNoLaw 42 = .ok (.lconst 0, 1) := by decide +kernel
theorem dX12_whyNoLaw_43 : decode cX12_whyNoLaw 43 = .ok (.ldc2_w 402, 3) := by decide +kernel
theorem dX12_whyNoLaw_46 : decode cX12_whyNoLaw 46 = .ok (.invokestatic 98, 3) := by decide +kernel
theorem dX12_whyNoLaw_49 : decode cX12_whyNoLaw 49 = .ok (.ifCond .ne 5, 3) := by decide +kernel
theorem dX12_whyNoLaw_52 : decode cX12_whyNoLaw 52 = .ok (.iconst 5, 1) := by decide +kernel
theorem dX12_whyNoLaw_53 : decode cX12_whyNoLaw 53 = .ok (.ireturn, 1) := by decide +kernel
theorem dX12_whyNoLaw_54 : decode cX12_whyNoLaw 54 = .ok (.iconst 0, 1) := by decide +kernel
theorem dX12_whyNoLaw_55 : decode cX12_whyNoLaw 55 = .ok (.istore_n 3, 1) := by decide +kernel
theorem dX12_whyNoLaw_56 : decode cX12_whyNoLaw 56 = .ok (.iload_n 3, 1) := by decide +kernel
theorem dX12_whyNoLaw_57 : decode cX12_whyNoLaw 57 = .ok (.iload_n 2, 1) := by decide +kernel
theorem dX12_whyNoLaw_58 : decode cX12_whyNoLaw 58 = .ok (.if_icmp .ge 49, 3) := by decide +kernel
theorem dX12_whyNoLaw_61 : decode cX12_whyNoLaw 61 = .ok (.aload_n 0, 1) := by decide +kernel
theorem dX12_whyNoLaw_62 : decode cX12_whyNoLaw 62 = .ok (.iload_n 1, 1) := by decide +kernel
theorem dX12_whyNoLaw_63 : decode cX12_whyNoLaw 63 = .ok (.iconst 2, 1) := by decide +kernel
theorem dX12_whyNoLaw_64 : decode cX12_whyNoLaw 64 = .ok (.iload_n 3, 1) := by decide +kernel
theorem dX12_whyNoLaw_65 : decode cX12_whyNoLaw 65 = .ok (.imul, 1) := by decide +kernel
theorem dX12_whyNoLaw_66 : decode cX12_whyNoLaw 66 = .ok (.invokevirtual 433, 3) := by decide +kernel
theorem dX12_whyNoLaw_69 : decode cX12_whyNoLaw 69 = .ok (.lconst 1, 1) := by decide +kernel
theorem dX12_whyNoLaw_70 : decode cX12_whyNoLaw 70 = .ok (.ldc2_w 331, 3) := by decide +kernel
theorem dX12_whyNoLaw_73 : decode cX12_whyNoLaw 73 = .ok (.invokestatic 98, 3) := by decide +kernel
theorem dX12_whyNoLaw_76 : decode cX12_whyNoLaw 76 = .ok (.ifCond .eq 23, 3) := by decide +kernel
theorem dX12_whyNoLaw_79 : decode cX12_whyNoLaw 79 = .ok (.aload_n 0, 1) := by decide +kernel
theorem dX12_whyNoLaw_80 : decode cX12_whyNoLaw 80 = .ok (.iload_n 1, 1) := by decide +kernel
theorem dX12_whyNoLaw_81 : decode cX12_whyNoLaw 81 = .ok (.iconst 2, 1) := by decide +kernel
theorem dX12_whyNoLaw_82 : decode cX12_whyNoLaw 82 = .ok (.iload_n 3, 1) := by decide +kernel
theorem dX12_whyNoLaw_83 : decode cX12_whyNoLaw 83 = .ok (.imul, 1) := by decide +kernel
theorem dX12_whyNoLaw_84 : decode cX12_whyNoLaw 84 = .ok (.iconst 1, 1) := by decide +kernel
theorem dX12_whyNoLaw_85 : decode cX12_whyNoLaw 85 = .ok (.iadd, 1) := by decide +kernel
theorem dX12_whyNoLaw_86 : decode cX12_whyNoLaw 86 = .ok (.invokevirtual 433, 3) := by decide +kernel
theorem dX12_whyNoLaw_89 : decode cX12_whyNoLaw 89 = .ok (.lconst 0, 1) := by decide +kernel
theorem dX12_whyNoLaw_90 : decode cX12_whyNoLaw 90 = .ok (.ldc2_w 331, 3) := by decide +kernel
theorem dX12_whyNoLaw_93 : decode cX12_whyNoLaw 93 = .ok (.invokestatic 98, 3) := by decide +kernel
theorem dX12_whyNoLaw_96 : decode cX12_whyNoLaw 96 = .ok (.ifCond .ne 5, 3) := by decide +kernel
theorem dX12_whyNoLaw_99 : decode cX12_whyNoLaw 99 = .ok (.iconst 5, 1) := by decide +kernel
theorem dX12_whyNoLaw_100 : decode cX12_whyNoLaw 100 = .ok (.ireturn, 1) := by decide +kernel
theorem dX12_whyNoLaw_101 : decode cX12_whyNoLaw 101 = .ok (.iinc 3 1, 3) := by decide +kernel
theorem dX12_whyNoLaw_104 : decode cX12_whyNoLaw 104 = .ok (.goto (-48), 3) := by decide +kernel
theorem dX12_whyNoLaw_107 : decode cX12_whyNoLaw 107 = .ok (.iconst 0, 1) := by decide +kernel
theorem dX12_whyNoLaw_108 : decode cX12_whyNoLaw 108 = .ok (.ireturn, 1) := by decide +kernel
theorem dX12_laysLaws_0 : decode cX12_laysLaws 0 = .ok (.aload_n 0, 1) := by decide +kernel
theorem dX12_laysLaws_1 : decode cX12_laysLaws 1 = .ok (.iconst 0, 1) := by decide +kernel
theorem dX12_laysLaws_2 : decode cX12_laysLaws 2 = .ok (.putfield 437, 3) := by decide +kernel
theorem dX12_laysLaws_5 : decode cX12_laysLaws 5 = .ok (.aload_n 0, 1) := by decide +kernel
theorem dX12_laysLaws_6 : decode cX12_laysLaws 6 = .ok (.iconst 0, 1) := by decide +kernel
theorem dX12_laysLaws_7 : decode cX12_laysLaws 7 = .ok (.putfield 440, 3) := by decide +kernel
theorem dX12_laysLaws_10 : decode cX12_laysLaws 10 = .ok (.iconst 0, 1) := by decide +kernel
theorem dX12_laysLaws_11 : decode cX12_laysLaws 11 = .ok (.istore_n 3, 1) := by decide +kernel
theorem dX12_laysLaws_12 : decode cX12_laysLaws 12 = .ok (.iload_n 3, 1) := by decide +kernel
theorem dX12_laysLaws_13 : decode cX12_laysLaws 13 = .ok (.bipush 32, 2) := by decide +kernel
theorem dX12_laysLaws_15 : decode cX12_laysLaws 15 = .ok (.if_icmp .ge 109, 3) := by decide +kernel
theorem dX12_laysLaws_18 : decode cX12_laysLaws 18 = .ok (.iconst 1, 1) := by decide +kernel
theorem dX12_laysLaws_19 : decode cX12_laysLaws 19 = .ok (.istore 4, 2) := by decide +kernel
theorem dX12_laysLaws_21 : decode cX12_laysLaws 21 = .ok (.iconst 0, 1) := by decide +kernel
theorem dX12_laysLaws_22 : decode cX12_laysLaws 22 = .ok (.istore 5, 2) := by decide +kernel
theorem dX12_laysLaws_24 : decode cX12_laysLaws 24 = .ok (.iload 5, 2) := by decide +kernel
theorem dX12_laysLaws_26 : decode cX12_laysLaws 26 = .ok (.iload_n 2, 1) := by decide +kernel
theorem dX12_laysLaws_27 : decode cX12_laysLaws 27 = .ok (.if_icmp .ge 51, 3) := by decide +kernel
theorem dX12_laysLaws_30 : decode cX12_laysLaws 30 = .ok (.iload 4, 2) := by decide +kernel
theorem dX12_laysLaws_32 : decode cX12_laysLaws 32 = .ok (.ifCond .eq 37, 3) := by decide +kernel
theorem dX12_laysLaws_35 : decode cX12_laysLaws 35 = .ok (.iload_n 3, 1) := by decide +kernel
theorem dX12_laysLaws_36 : decode cX12_laysLaws 36 = .ok (.aload_n 0, 1) := by decide +kernel
theorem dX12_laysLaws_37 : decode cX12_laysLaws 37 = .ok (.iload_n 1, 1) := by decide +kernel
theorem dX12_laysLaws_38 : decode cX12_laysLaws 38 = .ok (.iconst 2, 1) := by decide +kernel
theorem dX12_laysLaws_39 : decode cX12_laysLaws 39 = .ok (.iload 5, 2) := by decide +kernel
theorem dX12_laysLaws_41 : decode cX12_laysLaws 41 = .ok (.imul, 1) := by decide +kernel
theorem dX12_laysLaws_42 : decode cX12_laysLaws 42 = .ok (.invokevirtual 433, 3) := by decide +kernel
theorem dX12_laysLaws_45 : decode cX12_laysLaws 45 = .ok (.l2i, 1) := by decide +kernel
theorem dX12_laysLaws_46 : decode cX12_laysLaws 46 = .ok (.invokestatic 443, 3) := by decide +kernel
theorem dX12_laysLaws_49 : decode cX12_laysLaws 49 = .ok (.i2l, 1) := by decide +kernel
theorem dX12_laysLaws_50 : decode cX12_laysLaws 50 = .ok (.aload_n 0, 1) := by decide +kernel
theorem dX12_laysLaws_51 : decode cX12_laysLaws 51 = .ok (.iload_n 1, 1) := by decide +kernel
theorem dX12_laysLaws_52 : decode cX12_laysLaws 52 = .ok (.iconst 2, 1) := by decide +kernel
theorem dX12_laysLaws_53 : decode cX12_laysLaws 53 = .ok (.iload 5, 2) := by decide +kernel
theorem dX12_laysLaws_55 : decode cX12_laysLaws 55 = .ok (.imul, 1) := by decide +kernel
theorem dX12_laysLaws_56 : decode cX12_laysLaws 56 = .ok (.iconst 1, 1) := by decide +kernel
theorem dX12_laysLaws_57 : decode cX12_laysLaws 57 = .ok (.iadd, 1) := by decide +kernel
theorem dX12_laysLaws_58 : decode cX12_laysLaws 58 = .ok (.invokevirtual 433, 3) := by decide +kernel
theorem dX12_laysLaws_61 : decode cX12_laysLaws 61 = .ok (.lcmp, 1) := by decide +kernel
theorem dX12_laysLaws_62 : decode cX12_laysLaws 62 = .ok (.ifCond .ne 7, 3) := by decide +kernel
theorem dX12_laysLaws_65 : decode cX12_laysLaws 65 = .ok (.iconst 1, 1) := by decide +kernel
theorem dX12_laysLaws_66 : decode cX12_laysLaws 66 = .ok (.goto 4, 3) := by decide +kernel
theorem dX12_laysLaws_69 : decode cX12_laysLaws 69 = .ok (.iconst 0, 1) := by decide +kernel
theorem dX12_laysLaws_70 : decode cX12_laysLaws 70 = .ok (.istore 4, 2) := by decide +kernel
theorem dX12_laysLaws_72 : decode cX12_laysLaws 72 = .ok (.iinc 5 1, 3) := by decide +kernel
theorem dX12_laysLaws_75 : decode cX12_laysLaws 75 = .ok (.goto (-51), 3) := by decide +kernel
theorem dX12_laysLaws_78 : decode cX12_laysLaws 78 = .ok (.aload_n 0, 1) := by decide +kernel
theorem dX12_laysLaws_79 : decode cX12_laysLaws 79 = .ok (.dup, 1) := by decide +kernel
theorem dX12_laysLaws_80 : decode cX12_laysLaws 80 = .ok (.getfield 437, 3) := by decide +kernel
theorem dX12_laysLaws_83 : decode cX12_laysLaws 83 = .ok (.iload 4, 2) := by decide +kernel
theorem dX12_laysLaws_85 : decode cX12_laysLaws 85 = .ok (.ifCond .eq 7, 3) := by decide +kernel
theorem dX12_laysLaws_88 : decode cX12_laysLaws 88 = .ok (.iconst 1, 1) := by decide +kernel
theorem dX12_laysLaws_89 : decode cX12_laysLaws 89 = .ok (.goto 4, 3) := by decide +kernel
theorem dX12_laysLaws_92 : decode cX12_laysLaws 92 = .ok (.iconst 0, 1) := by decide +kernel
theorem dX12_laysLaws_93 : decode cX12_laysLaws 93 = .ok (.iadd, 1) := by decide +kernel
theorem dX12_laysLaws_94 : decode cX12_laysLaws 94 = .ok (.putfield 437, 3) := by decide +kernel
theorem dX12_laysLaws_97 : decode cX12_laysLaws 97 = .ok (.aload_n 0, 1) := by decide +kernel
theorem dX12_laysLaws_98 : decode cX12_laysLaws 98 = .ok (.dup, 1) := by decide +kernel
theorem dX12_laysLaws_99 : decode cX12_laysLaws 99 = .ok (.getfield 440, 3) := by decide +kernel
theorem dX12_laysLaws_102 : decode cX12_laysLaws 102 = .ok (.iload 4, 2) := by decide +kernel
theorem dX12_laysLaws_104 : decode cX12_laysLaws 104 = .ok (.ifCond .eq 9, 3) := by decide +kernel
theorem dX12_laysLaws_107 : decode cX12_laysLaws 107 = .ok (.iconst 1, 1) := by decide +kernel
theorem dX12_laysLaws_108 : decode cX12_laysLaws 108 = .ok (.iload_n 3, 1) := by decide +kernel
theorem dX12_laysLaws_109 : decode cX12_laysLaws 109 = .ok (.ishl, 1) := by decide +kernel
theorem dX12_laysLaws_110 : decode cX12_laysLaws 110 = .ok (.goto 4, 3) := by decide +kernel
theorem dX12_laysLaws_113 : decode cX12_laysLaws 113 = .ok (.iconst 0, 1) := by decide +kernel
theorem dX12_laysLaws_114 : decode cX12_laysLaws 114 = .ok (.ior, 1) := by decide +kernel
theorem dX12_laysLaws_115 : decode cX12_laysLaws 115 = .ok (.putfield 440, 3) := by decide +kernel
theorem dX12_laysLaws_118 : decode cX12_laysLaws 118 = .ok (.iinc 3 1, 3) := by decide +kernel
theorem dX12_laysLaws_121 : decode cX12_laysLaws 121 = .ok (.goto (-109), 3) := by decide +kernel
theorem dX12_laysLaws_124 : decode cX12_laysLaws 124 = .ok (.return_, 1) := by decide +kernel
theorem dX12_laws_0 : decode cX12_laws 0 = .ok (.aload_n 0, 1) := by decide +kernel
theorem dX12_laws_1 : decode cX12_laws 1 = .ok (.iconst 0, 1) := by decide +kernel
theorem dX12_laws_2 : decode cX12_laws 2 = .ok (.putfield 63, 3) := by decide +kernel
theorem dX12_laws_5 : decode cX12_laws 5 = .ok (.aload_n 0, 1) := by decide +kernel
theorem dX12_laws_6 : decode cX12_laws 6 = .ok (.aload_n 0, 1) := by decide +kernel
theorem dX12_laws_7 : decode cX12_laws 7 = .ok (.iload_n 1, 1) := by decide +kernel
theorem dX12_laws_8 : decode cX12_laws 8 = .ok (.iload_n 2, 1) := by decide +kernel
theorem dX12_laws_9 : decode cX12_laws 9 = .ok (.invokevirtual 446, 3) := by decide +kernel
theorem dX12_laws_12 : decode cX12_laws 12 = .ok (.putfield 66, 3) := by decide +kernel
theorem dX12_laws_15 : decode cX12_laws 15 = .ok (.aload_n 0, 1) := by decide +kernel
theorem dX12_laws_16 : decode cX12_laws 16 = .ok (.getfield 66, 3) := by decide +kernel
theorem dX12_laws_19 : decode cX12_laws 19 = .ok (.ifCond .le 5, 3) := by decide +kernel
theorem dX12_laws_22 : decode cX12_laws 22 = .ok (.iconst (-1), 1) := by decide +kernel
theorem dX12_laws_23 : decode cX12_laws 23 = .ok (.ireturn, 1) := by decide +kernel
theorem dX12_laws_24 : decode cX12_laws 24 = .ok (.aload_n 0, 1) := by decide +kernel
theorem dX12_laws_25 : decode cX12_laws 25 = .ok (.iload_n 1, 1) := by decide +kernel
theorem dX12_laws_26 : decode cX12_laws 26 = .ok (.iload_n 2, 1) := by decide +kernel
theorem dX12_laws_27 : decode cX12_laws 27 = .ok (.invokevirtual 449, 3) := by decide +kernel
theorem dX12_laws_30 : decode cX12_laws 30 = .ok (.aload_n 0, 1) := by decide +kernel
theorem dX12_laws_31 : decode cX12_laws 31 = .ok (.getfield 437, 3) := by decide +kernel
theorem dX12_laws_34 : decode cX12_laws 34 = .ok (.ireturn, 1) := by decide +kernel
theorem dX12_lawOf_0 : decode cX12_lawOf 0 = .ok (.aload_n 0, 1) := by decide +kernel
theorem dX12_lawOf_1 : decode cX12_lawOf 1 = .ok (.iconst 0, 1) := by decide +kernel
theorem dX12_lawOf_2 : decode cX12_lawOf 2 = .ok (.putfield 63, 3) := by decide +kernel
theorem dX12_lawOf_5 : decode cX12_lawOf 5 = .ok (.aload_n 0, 1) := by decide +kernel
theorem dX12_lawOf_6 : decode cX12_lawOf 6 = .ok (.aload_n 0, 1) := by decide +kernel
theorem dX12_lawOf_7 : decode cX12_lawOf 7 = .ok (.iload_n 1, 1) := by decide +kernel
theorem dX12_lawOf_8 : decode cX12_lawOf 8 = .ok (.iload_n 2, 1) := by decide +kernel
theorem dX12_lawOf_9 : decode cX12_lawOf 9 = .ok (.invokevirtual 446, 3) := by decide +kernel
theorem dX12_lawOf_12 : decode cX12_lawOf 12 = .ok (.putfield 66, 3) := by decide +kernel
theorem dX12_lawOf_15 : decode cX12_lawOf 15 = .ok (.aload_n 0, 1) := by decide +kernel
theorem dX12_lawOf_16 : decode cX12_lawOf 16 = .ok (.getfield 66, 3) := by decide +kernel
theorem dX12_lawOf_19 : decode cX12_lawOf 19 = .ok (.ifCond .ne 18, 3) := by decide +kernel
theorem dX12_lawOf_22 : decode cX12_lawOf 22 = .ok (.iload_n 3, 1) := by decide +kernel
theorem dX12_lawOf_23 : decode cX12_lawOf 23 = .ok (.i2l, 1) := by decide +kernel
theorem dX12_lawOf_24 : decode cX12_lawOf 24 = .ok (.lconst 0, 1) := by decide +kernel
theorem dX12_lawOf_25 : decode cX12_lawOf 25 = .ok (.lconst 1, 1) := by decide +kernel
theorem dX12_lawOf_26 : decode cX12_lawOf 26 = .ok (.invokestatic 98, 3) := by decide +kernel
theorem dX12_lawOf_29 : decode cX12_lawOf 29 = .ok (.ifCond .ne 8, 3) := by decide +kernel
theorem dX12_lawOf_32 : decode cX12_lawOf 32 = .ok (.aload_n 0, 1) := by decide +kernel
theorem dX12_lawOf_33 : decode cX12_lawOf 33 = .ok (.iconst 5, 1) := by decide +kernel
theorem dX12_lawOf_34 : decode cX12_lawOf 34 = .ok (.putfield 66, 3) := by decide +kernel
theorem dX12_lawOf_37 : decode cX12_lawOf 37 = .ok (.aload_n 0, 1) := by decide +kernel
theorem dX12_lawOf_38 : decode cX12_lawOf 38 = .ok (.getfield 66, 3) := by decide +kernel
theorem dX12_lawOf_41 : decode cX12_lawOf 41 = .ok (.ifCond .le 5, 3) := by decide +kernel
theorem dX12_lawOf_44 : decode cX12_lawOf 44 = .ok (.iconst (-1), 1) := by decide +kernel
theorem dX12_lawOf_45 : decode cX12_lawOf 45 = .ok (.ireturn, 1) := by decide +kernel
theorem dX12_lawOf_46 : decode cX12_lawOf 46 = .ok (.aload_n 0, 1) := by decide +kernel
theorem dX12_lawOf_47 : decode cX12_lawOf 47 = .ok (.iload_n 1, 1) := by decide +kernel
theorem dX12_lawOf_48 : decode cX12_lawOf 48 = .ok (.iload_n 2, 1) := by decide +kernel
theorem dX12_lawOf_49 : decode cX12_lawOf 49 = .ok (.invokevirtual 449, 3) := by decide +kernel
theorem dX12_lawOf_52 : decode cX12_lawOf 52 = .ok (.iconst 0, 1) := by decide +kernel
theorem dX12_lawOf_53 : decode cX12_lawOf 53 = .ok (.istore 4, 2) := by decide +kernel
theorem dX12_lawOf_55 : decode cX12_lawOf 55 = .ok (.iload 4, 2) := by decide +kernel
theorem dX12_lawOf_57 : decode cX12_lawOf 57 = .ok (.bipush 32, 2) := by decide +kernel
theorem dX12_lawOf_59 : decode cX12_lawOf 59 = .ok (.if_icmp .ge 39, 3) := by decide +kernel
theorem dX12_lawOf_62 : decode cX12_lawOf 62 = .ok (.aload_n 0, 1) := by decide +kernel
theorem dX12_lawOf_63 : decode cX12_lawOf 63 = .ok (.getfield 440, 3) := by decide +kernel
theorem dX12_lawOf_66 : decode cX12_lawOf 66 = .ok (.iload 4, 2) := by decide +kernel
theorem dX12_lawOf_68 : decode cX12_lawOf 68 = .ok (.invokestatic 102, 3) := by decide +kernel
theorem dX12_lawOf_71 : decode cX12_lawOf 71 = .ok (.ifCond .eq 21, 3) := by decide +kernel
theorem dX12_lawOf_74 : decode cX12_lawOf 74 = .ok (.iload_n 3, 1) := by decide +kernel
theorem dX12_lawOf_75 : decode cX12_lawOf 75 = .ok (.ifCond .ne 11, 3) := by decide +kernel
theorem dX12_lawOf_78 : decode cX12_lawOf 78 = .ok (.iload 4, 2) := by decide +kernel
theorem dX12_lawOf_80 : decode cX12_lawOf 80 = .ok (.bipush 8, 2) := by decide +kernel
theorem dX12_lawOf_82 : decode cX12_lawOf 82 = .ok (.idiv, 1) := by decide +kernel
theorem dX12_lawOf_83 : decode cX12_lawOf 83 = .ok (.goto 8, 3) := by decide +kernel
theorem dX12_lawOf_86 : decode cX12_lawOf 86 = .ok (.iload 4, 2) := by decide +kernel
theorem dX12_lawOf_88 : decode cX12_lawOf 88 = .ok (.bipush 8, 2) := by decide +kernel
theorem dX12_lawOf_90 : decode cX12_lawOf 90 = .ok (.irem, 1) := by decide +kernel
theorem dX12_lawOf_91 : decode cX12_lawOf 91 = .ok (.ireturn, 1) := by decide +kernel
theorem dX12_lawOf_92 : decode cX12_lawOf 92 = .ok (.iinc 4 1, 3) := by decide +kernel
theorem dX12_lawOf_95 : decode cX12_lawOf 95 = .ok (.goto (-40), 3) := by decide +kernel
theorem dX12_lawOf_98 : decode cX12_lawOf 98 = .ok (.aload_n 0, 1) := by decide +kernel
theorem dX12_lawOf_99 : decode cX12_lawOf 99 = .ok (.bipush 8, 2) := by decide +kernel
theorem dX12_lawOf_101 : decode cX12_lawOf 101 = .ok (.invokevirtual 333, 3) := by decide +kernel
theorem dX12_lawOf_104 : decode cX12_lawOf 104 = .ok (.ireturn, 1) := by decide +kernel
theorem dX12_mostAlike_0 : decode cX12_mostAlike 0 = .ok (.iconst 0, 1) := by decide +kernel
theorem dX12_mostAlike_1 : decode cX12_mostAlike 1 = .ok (.istore_n 2, 1) := by decide +kernel
theorem dX12_mostAlike_2 : decode cX12_mostAlike 2 = .ok (.iconst 0, 1) := by decide +kernel
theorem dX12_mostAlike_3 : decode cX12_mostAlike 3 = .ok (.istore_n 3, 1) := by decide +kernel
theorem dX12_mostAlike_4 : decode cX12_mostAlike 4 = .ok (.iload_n 3, 1) := by decide +kernel
theorem dX12_mostAlike_5 : decode cX12_mostAlike 5 = .ok (.bipush 9, 2) := by decide +kernel
theorem dX12_mostAlike_7 : decode cX12_mostAlike 7 = .ok (.if_icmp .gt 67, 3) := by decide +kernel
theorem dX12_mostAlike_10 : decode cX12_mostAlike 10 = .ok (.iconst 0, 1) := by decide +kernel
theorem dX12_mostAlike_11 : decode cX12_mostAlike 11 = .ok (.istore 4, 2) := by decide +kernel
theorem dX12_mostAlike_13 : decode cX12_mostAlike 13 = .ok (.iconst 0, 1) := by decide +kernel
theorem dX12_mostAlike_14 : decode cX12_mostAlike 14 = .ok (.istore 5, 2) := by decide +kernel
theorem dX12_mostAlike_16 : decode cX12_mostAlike 16 = .ok (.iload 5, 2) := by decide +kernel
theorem dX12_mostAlike_18 : decode cX12_mostAlike 18 = .ok (.bipush 32, 2) := by decide +kernel
theorem dX12_mostAlike_20 : decode cX12_mostAlike 20 = .ok (.if_icmp .ge 41, 3) := by decide +kernel
theorem dX12_mostAlike_23 : decode cX12_mostAlike 23 = .ok (.iload 4, 2) := by decide +kernel
theorem dX12_mostAlike_25 : decode cX12_mostAlike 25 = .ok (.aload_n 0, 1) := by decide +kernel
theorem dX12_mostAlike_26 : decode cX12_mostAlike 26 = .ok (.getfield 440, 3) := by decide +kernel
theorem dX12_mostAlike_29 : decode cX12_mostAlike 29 = .ok (.iload 5, 2) := by decide +kernel
theorem dX12_mostAlike_31 : decode cX12_mostAlike 31 = .ok (.invokestatic 102, 3) := by decide +kernel
theorem dX12_mostAlike_34 : decode cX12_mostAlike 34 = .ok (.ifCond .eq 17, 3) := by decide +kernel
theorem dX12_mostAlike_37 : decode cX12_mostAlike 37 = .ok (.iload 5, 2) := by decide +kernel
theorem dX12_mostAlike_39 : decode cX12_mostAlike 39 = .ok (.iload_n 1, 1) := by decide +kernel
theorem dX12_mostAlike_40 : decode cX12_mostAlike 40 = .ok (.invokestatic 443, 3) := by decide +kernel
theorem dX12_mostAlike_43 : decode cX12_mostAlike 43 = .ok (.iload_n 3, 1) := by decide +kernel
theorem dX12_mostAlike_44 : decode cX12_mostAlike 44 = .ok (.if_icmp .ne 7, 3) := by decide +kernel
theorem dX12_mostAlike_47 : decode cX12_mostAlike 47 = .ok (.iconst 1, 1) := by decide +kernel
theorem dX12_mostAlike_48 : decode cX12_mostAlike 48 = .ok (.goto 4, 3) := by decide +kernel
theorem dX12_mostAlike_51 : decode cX12_mostAlike 51 = .ok (.iconst 0, 1) := by decide +kernel
theorem dX12_mostAlike_52 : decode cX12_mostAlike 52 = .ok (.iadd, 1) := by decide +kernel
theorem dX12_mostAlike_53 : decode cX12_mostAlike 53 = .ok (.istore 4, 2) := by decide +kernel
theorem dX12_mostAlike_55 : decode cX12_mostAlike 55 = .ok (.iinc 5 1, 3) := by decide +kernel
theorem dX12_mostAlike_58 : decode cX12_mostAlike 58 = .ok (.goto (-42), 3) := by decide +kernel
theorem dX12_mostAlike_61 : decode cX12_mostAlike 61 = .ok (.iload_n 2, 1) := by decide +kernel
theorem dX12_mostAlike_62 : decode cX12_mostAlike 62 = .ok (.iload 4, 2) := by decide +kernel
theorem dX12_mostAlike_64 : decode cX12_mostAlike 64 = .ok (.invokestatic 247, 3) := by decide +kernel
theorem dX12_mostAlike_67 : decode cX12_mostAlike 67 = .ok (.istore_n 2, 1) := by decide +kernel
theorem dX12_mostAlike_68 : decode cX12_mostAlike 68 = .ok (.iinc 3 1, 3) := by decide +kernel
theorem dX12_mostAlike_71 : decode cX12_mostAlike 71 = .ok (.goto (-67), 3) := by decide +kernel
theorem dX12_mostAlike_74 : decode cX12_mostAlike 74 = .ok (.iload_n 2, 1) := by decide +kernel
theorem dX12_mostAlike_75 : decode cX12_mostAlike 75 = .ok (.ireturn, 1) := by decide +kernel
theorem dX12_ask_0 : decode cX12_ask 0 = .ok (.aload_n 0, 1) := by decide +kernel
theorem dX12_ask_1 : decode cX12_ask 1 = .ok (.iconst 0, 1) := by decide +kernel
theorem dX12_ask_2 : decode cX12_ask 2 = .ok (.putfield 63, 3) := by decide +kernel
theorem dX12_ask_5 : decode cX12_ask 5 = .ok (.aload_n 0, 1) := by decide +kernel
theorem dX12_ask_6 : decode cX12_ask 6 = .ok (.aload_n 0, 1) := by decide +kernel
theorem dX12_ask_7 : decode cX12_ask 7 = .ok (.iload_n 1, 1) := by decide +kernel
theorem dX12_ask_8 : decode cX12_ask 8 = .ok (.iload_n 2, 1) := by decide +kernel
theorem dX12_ask_9 : decode cX12_ask 9 = .ok (.invokevirtual 446, 3) := by decide +kernel
theorem dX12_ask_12 : decode cX12_ask 12 = .ok (.putfield 66, 3) := by decide +kernel
theorem dX12_ask_15 : decode cX12_ask 15 = .ok (.aload_n 0, 1) := by decide +kernel
theorem dX12_ask_16 : decode cX12_ask 16 = .ok (.getfield 66, 3) := by decide +kernel
theorem dX12_ask_19 : decode cX12_ask 19 = .ok (.ifCond .le 5, 3) := by decide +kernel
theorem dX12_ask_22 : decode cX12_ask 22 = .ok (.iconst (-1), 1) := by decide +kernel
theorem dX12_ask_23 : decode cX12_ask 23 = .ok (.ireturn, 1) := by decide +kernel
theorem dX12_ask_24 : decode cX12_ask 24 = .ok (.aload_n 0, 1) := by decide +kernel
theorem dX12_ask_25 : decode cX12_ask 25 = .ok (.iload_n 1, 1) := by decide +kernel
theorem dX12_ask_26 : decode cX12_ask 26 = .ok (.iload_n 2, 1) := by decide +kernel
theorem dX12_ask_27 : decode cX12_ask 27 = .ok (.invokevirtual 449, 3) := by decide +kernel
theorem dX12_ask_30 : decode cX12_ask 30 = .ok (.aload_n 0, 1) := by decide +kernel
theorem dX12_ask_31 : decode cX12_ask 31 = .ok (.getfield 437, 3) := by decide +kernel
theorem dX12_ask_34 : decode cX12_ask 34 = .ok (.iconst 2, 1) := by decide +kernel
theorem dX12_ask_35 : decode cX12_ask 35 = .ok (.if_icmp .ge 10, 3) := by decide +kernel
theorem dX12_ask_38 : decode cX12_ask 38 = .ok (.aload_n 0, 1) := by decide +kernel
theorem dX12_ask_39 : decode cX12_ask 39 = .ok (.bipush 8, 2) := by decide +kernel
theorem dX12_ask_41 : decode cX12_ask 41 = .ok (.invokevirtual 333, 3) := by decide +kernel
theorem dX12_ask_44 : decode cX12_ask 44 = .ok (.ireturn, 1) := by decide +kernel
theorem dX12_ask_45 : decode cX12_ask 45 = .ok (.iconst 1, 1) := by decide +kernel
theorem dX12_ask_46 : decode cX12_ask 46 = .ok (.istore_n 3, 1) := by decide +kernel
theorem dX12_ask_47 : decode cX12_ask 47 = .ok (.iconst 2, 1) := by decide +kernel
theorem dX12_ask_48 : decode cX12_ask 48 = .ok (.istore 4, 2) := by decide +kernel
theorem dX12_ask_50 : decode cX12_ask 50 = .ok (.iload 4, 2) := by decide +kernel
theorem dX12_ask_52 : decode cX12_ask 52 = .ok (.bipush 9, 2) := by decide +kernel
theorem dX12_ask_54 : decode cX12_ask 54 = .ok (.if_icmp .gt 26, 3) := by decide +kernel
theorem dX12_ask_57 : decode cX12_ask 57 = .ok (.aload_n 0, 1) := by decide +kernel
theorem dX12_ask_58 : decode cX12_ask 58 = .ok (.iload 4, 2) := by decide +kernel
theorem dX12_ask_60 : decode cX12_ask 60 = .ok (.invokevirtual 452, 3) := by decide +kernel
theorem dX12_ask_63 : decode cX12_ask 63 = .ok (.aload_n 0, 1) := by decide +kernel
theorem dX12_ask_64 : decode cX12_ask 64 = .ok (.iload_n 3, 1) := by decide +kernel
theorem dX12_ask_65 : decode cX12_ask 65 = .ok (.invokevirtual 452, 3) := by decide +kernel
theorem dX12_ask_68 : decode cX12_ask 68 = .ok (.if_icmp .ge 6, 3) := by decide +kernel
theorem dX12_ask_71 : decode cX12_ask 71 = .ok (.iload 4, 2) := by decide +kernel
theorem dX12_ask_73 : decode cX12_ask 73 = .ok (.istore_n 3, 1) := by decide +kernel
theorem dX12_ask_74 : decode cX12_ask 74 = .ok (.iinc 4 1, 3) := by decide +kernel
theorem dX12_ask_77 : decode cX12_ask 77 = .ok (.goto (-27), 3) := by decide +kernel
theorem dX12_ask_80 : decode cX12_ask 80 = .ok (.iload_n 3, 1) := by decide +kernel
theorem dX12_ask_81 : decode cX12_ask 81 = .ok (.ireturn, 1) := by decide +kernel
theorem dX12_worthAt_0 : decode cX12_worthAt 0 = .ok (.iload_n 1, 1) := by decide +kernel
theorem dX12_worthAt_1 : decode cX12_worthAt 1 = .ok (.ifCond .ne 7, 3) := by decide +kernel
theorem dX12_worthAt_4 : decode cX12_worthAt 4 = .ok (.iconst 0, 1) := by decide +kernel
theorem dX12_worthAt_5 : decode cX12_worthAt 5 = .ok (.goto 14, 3) := by decide +kernel
theorem dX12_worthAt_8 : decode cX12_worthAt 8 = .ok (.aload_n 0, 1) := by decide +kernel
theorem dX12_worthAt_9 : decode cX12_worthAt 9 = .ok (.getfield 35, 3) := by decide +kernel
theorem dX12_worthAt_12 : decode cX12_worthAt 12 = .ok (.bipush 6, 2) := by decide +kernel
theorem dX12_worthAt_14 : decode cX12_worthAt 14 = .ok (.iload_n 1, 1) := by decide +kernel
theorem dX12_worthAt_15 : decode cX12_worthAt 15 = .ok (.iadd, 1) := by decide +kernel
theorem dX12_worthAt_16 : decode cX12_worthAt 16 = .ok (.iconst 1, 1) := by decide +kernel
theorem dX12_worthAt_17 : decode cX12_worthAt 17 = .ok (.isub, 1) := by decide +kernel
theorem dX12_worthAt_18 : decode cX12_worthAt 18 = .ok (.iaload, 1) := by decide +kernel
theorem dX12_worthAt_19 : decode cX12_worthAt 19 = .ok (.ireturn, 1) := by decide +kernel
theorem dX12_laysBest_0 : decode cX12_laysBest 0 = .ok (.aload_n 0, 1) := by decide +kernel
theorem dX12_laysBest_1 : decode cX12_laysBest 1 = .ok (.lconst 0, 1) := by decide +kernel
theorem dX12_laysBest_2 : decode cX12_laysBest 2 = .ok (.putfield 455, 3) := by decide +kernel
theorem dX12_laysBest_5 : decode cX12_laysBest 5 = .ok (.aload_n 0, 1) := by decide +kernel
theorem dX12_laysBest_6 : decode cX12_laysBest 6 = .ok (.lconst 1, 1) := by decide +kernel
theorem dX12_laysBest_7 : decode cX12_laysBest 7 = .ok (.putfield 458, 3) := by decide +kernel
theorem dX12_laysBest_10 : decode cX12_laysBest 10 = .ok (.iconst 1, 1) := by decide +kernel
theorem dX12_laysBest_11 : decode cX12_laysBest 11 = .ok (.istore_n 3, 1) := by decide +kernel
theorem dX12_laysBest_12 : decode cX12_laysBest 12 = .ok (.iload_n 3, 1) := by decide +kernel
theorem dX12_laysBest_13 : decode cX12_laysBest 13 = .ok (.iload_n 2, 1) := by decide +kernel
theorem dX12_laysBest_14 : decode cX12_laysBest 14 = .ok (.if_icmp .gt 92, 3) := by decide +kernel
theorem dX12_laysBest_17 : decode cX12_laysBest 17 = .ok (.bipush 16, 2) := by decide +kernel
theorem dX12_laysBest_19 : decode cX12_laysBest 19 = .ok (.aload_n 0, 1) := by decide +kernel
theorem dX12_laysBest_20 : decode cX12_laysBest 20 = .ok (.getfield 35, 3) := by decide +kernel
theorem dX12_laysBest_23 : decode cX12_laysBest 23 = .ok (.bipush 66, 2) := by decide +kernel
theorem dX12_laysBest_25 : decode cX12_laysBest 25 = .ok (.iload_n 1, 1) := by decide +kernel
theorem dX12_laysBest_26 : decode cX12_laysBest 26 = .ok (.iadd, 1) := by decide +kernel
theorem dX12_laysBest_27 : decode cX12_laysBest 27 = .ok (.iaload, 1) := by decide +kernel
theorem dX12_laysBest_28 : decode cX12_laysBest 28 = .ok (.isub, 1) := by decide +kernel
theorem dX12_laysBest_29 : decode cX12_laysBest 29 = .ok (.aload_n 0, 1) := by decide +kernel
theorem dX12_laysBest_30 : decode cX12_laysBest 30 = .ok (.aload_n 0, 1) := by decide +kernel
theorem dX12_laysBest_31 : decode cX12_laysBest 31 = .ok (.iload_n 3, 1) := by decide +kernel
theorem dX12_laysBest_32 : decode cX12_laysBest 32 = .ok (.invokevirtual 386, 3) := by decide +kernel
theorem dX12_laysBest_35 : decode cX12_laysBest 35 = .ok (.invokevirtual 461, 3) := by decide +kernel
theorem dX12_laysBest_38 : decode cX12_laysBest 38 = .ok (.imul, 1) := by decide +kernel
theorem dX12_laysBest_39 : decode cX12_laysBest 39 = .ok (.i2l, 1) := by decide +kernel
theorem dX12_laysBest_40 : decode cX12_laysBest 40 = .ok (.aload_n 0, 1) := by decide +kernel
theorem dX12_laysBest_41 : decode cX12_laysBest 41 = .ok (.getfield 458, 3) := by decide +kernel
theorem dX12_laysBest_44 : decode cX12_laysBest 44 = .ok (.lmul, 1) := by decide +kernel
theorem dX12_laysBest_45 : decode cX12_laysBest 45 = .ok (.lstore 4, 2) := by decide +kernel
theorem dX12_laysBest_47 : decode cX12_laysBest 47 = .ok (.bipush 16, 2) := by decide +kernel
theorem dX12_laysBest_49 : decode cX12_laysBest 49 = .ok (.aload_n 0, 1) := by decide +kernel
theorem dX12_laysBest_50 : decode cX12_laysBest 50 = .ok (.getfield 35, 3) := by decide +kernel
theorem dX12_laysBest_53 : decode cX12_laysBest 53 = .ok (.iconst 4, 1) := by decide +kernel
theorem dX12_laysBest_54 : decode cX12_laysBest 54 = .ok (.iaload, 1) := by decide +kernel
theorem dX12_laysBest_55 : decode cX12_laysBest 55 = .ok (.isub, 1) := by decide +kernel
theorem dX12_laysBest_56 : decode cX12_laysBest 56 = .ok (.i2l, 1) := by decide +kernel
theorem dX12_laysBest_57 : decode cX12_laysBest 57 = .ok (.aload_n 0, 1) := by decide +kernel
theorem dX12_laysBest_58 : decode cX12_laysBest 58 = .ok (.getfield 455, 3) := by decide +kernel
theorem dX12_laysBest_61 : decode cX12_laysBest 61 = .ok (.lmul, 1) := by decide +kernel
theorem dX12_laysBest_62 : decode cX12_laysBest 62 = .ok (.lstore 6, 2) := by decide +kernel
theorem dX12_laysBest_64 : decode cX12_laysBest 64 = .ok (.aload_n 0, 1) := by decide +kernel
theorem dX12_laysBest_65 : decode cX12_laysBest 65 = .ok (.dup, 1) := by decide +kernel
theorem dX12_laysBest_66 : decode cX12_laysBest 66 = .ok (.getfield 458, 3) := by decide +kernel
theorem dX12_laysBest_69 : decode cX12_laysBest 69 = .ok (.ldc2_w 404, 3) := by decide +kernel
theorem dX12_laysBest_72 : decode cX12_laysBest 72 = .ok (.lmul, 1) := by decide +kernel
theorem dX12_laysBest_73 : decode cX12_laysBest 73 = .ok (.putfield 458, 3) := by decide +kernel
theorem dX12_laysBest_76 : decode cX12_laysBest 76 = .ok (.aload_n 0, 1) := by decide +kernel
theorem dX12_laysBest_77 : decode cX12_laysBest 77 = .ok (.lload 4, 2) := by decide +kernel
theorem dX12_laysBest_79 : decode cX12_laysBest 79 = .ok (.lload 6, 2) := by decide +kernel
theorem dX12_laysBest_81 : decode cX12_laysBest 81 = .ok (.invokestatic 464, 3) := by decide +kernel
theorem dX12_laysBest_84 : decode cX12_laysBest 84 = .ok (.putfield 455, 3) := by decide +kernel
theorem dX12_laysBest_87 : decode cX12_laysBest 87 = .ok (.lload 4, 2) := by decide +kernel
theorem dX12_laysBest_89 : decode cX12_laysBest 89 = .ok (.lload 6, 2) := by decide +kernel
theorem dX12_laysBest_91 : decode cX12_laysBest 91 = .ok (.lcmp, 1) := by decide +kernel
theorem dX12_laysBest_92 : decode cX12_laysBest 92 = .ok (.ifCond .lt 8, 3) := by decide +kernel
theorem dX12_laysBest_95 : decode cX12_laysBest 95 = .ok (.aload_n 0, 1) := by decide +kernel
theorem dX12_laysBest_96 : decode cX12_laysBest 96 = .ok (.iload_n 3, 1) := by decide +kernel
theorem dX12_laysBest_97 : decode cX12_laysBest 97 = .ok (.putfield 467, 3) := by decide +kernel
theorem dX12_laysBest_100 : decode cX12_laysBest 100 = .ok (.iinc 3 1, 3) := by decide +kernel
theorem dX12_laysBest_103 : decode cX12_laysBest 103 = .ok (.goto (-91), 3) := by decide +kernel
theorem dX12_laysBest_106 : decode cX12_laysBest 106 = .ok (.return_, 1) := by decide +kernel
theorem dX12_whyNoBest_0 : decode cX12_whyNoBest 0 = .ok (.aload_n 0, 1) := by decide +kernel
theorem dX12_whyNoBest_1 : decode cX12_whyNoBest 1 = .ok (.iload_n 1, 1) := by decide +kernel
theorem dX12_whyNoBest_2 : decode cX12_whyNoBest 2 = .ok (.invokevirtual 362, 3) := by decide +kernel
theorem dX12_whyNoBest_5 : decode cX12_whyNoBest 5 = .ok (.ifCond .eq 11, 3) := by decide +kernel
theorem dX12_whyNoBest_8 : decode cX12_whyNoBest 8 = .ok (.aload_n 0, 1) := by decide +kernel
theorem dX12_whyNoBest_9 : decode cX12_whyNoBest 9 = .ok (.iload_n 2, 1) := by decide +kernel
theorem dX12_whyNoBest_10 : decode cX12_whyNoBest 10 = .ok (.invokevirtual 399, 3) := by decide +kernel
theorem dX12_whyNoBest_13 : decode cX12_whyNoBest 13 = .ok (.ifCond .ne 7, 3) := by decide +kernel
theorem dX12_whyNoBest_16 : decode cX12_whyNoBest 16 = .ok (.iconst 2, 1) := by decide +kernel
theorem dX12_whyNoBest_17 : decode cX12_whyNoBest 17 = .ok (.goto 12, 3) := by decide +kernel
theorem dX12_whyNoBest_20 : decode cX12_whyNoBest 20 = .ok (.iload_n 2, 1) := by decide +kernel
theorem dX12_whyNoBest_21 : decode cX12_whyNoBest 21 = .ok (.ifCond .ne 7, 3) := by decide +kernel
theorem dX12_whyNoBest_24 : decode cX12_whyNoBest 24 = .ok (.iconst 5, 1) := by decide +kernel
theorem dX12_whyNoBest_25 : decode cX12_whyNoBest 25 = .ok (.goto 4, 3) := by decide +kernel
theorem dX12_whyNoBest_28 : decode cX12_whyNoBest 28 = .ok (.iconst 0, 1) := by decide +kernel
theorem dX12_whyNoBest_29 : decode cX12_whyNoBest 29 = .ok (.ireturn, 1) := by decide +kernel
theorem dX12_best_0 : decode cX12_best 0 = .ok (.aload_n 0, 1) := by decide +kernel
theorem dX12_best_1 : decode cX12_best 1 = .ok (.iconst 0, 1) := by decide +kernel
theorem dX12_best_2 : decode cX12_best 2 = .ok (.putfield 63, 3) := by decide +kernel
theorem dX12_best_5 : decode cX12_best 5 = .ok (.aload_n 0, 1) := by decide +kernel
theorem dX12_best_6 : decode cX12_best 6 = .ok (.aload_n 0, 1) := by decide +kernel
theorem dX12_best_7 : decode cX12_best 7 = .ok (.iload_n 1, 1) := by decide +kernel
theorem dX12_best_8 : decode cX12_best 8 = .ok (.iload_n 2, 1) := by decide +kernel
theorem dX12_best_9 : decode cX12_best 9 = .ok (.invokevirtual 470, 3) := by decide +kernel
theorem dX12_best_12 : decode cX12_best 12 = .ok (.putfield 66, 3) := by decide +kernel
theorem dX12_best_15 : decode cX12_best 15 = .ok (.aload_n 0, 1) := by decide +kernel
theorem dX12_best_16 : decode cX12_best 16 = .ok (.getfield 66, 3) := by decide +kernel
theorem dX12_best_19 : decode cX12_best 19 = .ok (.ifCond .le 5, 3) := by decide +kernel
theorem dX12_best_22 : decode cX12_best 22 = .ok (.iconst 0, 1) := by decide +kernel
theorem dX12_best_23 : decode cX12_best 23 = .ok (.ireturn, 1) := by decide +kernel
theorem dX12_best_24 : decode cX12_best 24 = .ok (.aload_n 0, 1) := by decide +kernel
theorem dX12_best_25 : decode cX12_best 25 = .ok (.iload_n 1, 1) := by decide +kernel
theorem dX12_best_26 : decode cX12_best 26 = .ok (.iload_n 2, 1) := by decide +kernel
theorem dX12_best_27 : decode cX12_best 27 = .ok (.invokevirtual 473, 3) := by decide +kernel
theorem dX12_best_30 : decode cX12_best 30 = .ok (.aload_n 0, 1) := by decide +kernel
theorem dX12_best_31 : decode cX12_best 31 = .ok (.aload_n 0, 1) := by decide +kernel
theorem dX12_best_32 : decode cX12_best 32 = .ok (.getfield 455, 3) := by decide +kernel
theorem dX12_best_35 : decode cX12_best 35 = .ok (.aload_n 0, 1) := by decide +kernel
theorem dX12_best_36 : decode cX12_best 36 = .ok (.getfield 458, 3) := by decide +kernel
theorem dX12_best_39 : decode cX12_best 39 = .ok (.invokevirtual 429, 3) := by decide +kernel
theorem dX12_best_42 : decode cX12_best 42 = .ok (.ireturn, 1) := by decide +kernel
theorem dX12_bestAt_0 : decode cX12_bestAt 0 = .ok (.aload_n 0, 1) := by decide +kernel
theorem dX12_bestAt_1 : decode cX12_bestAt 1 = .ok (.iconst 0, 1) := by decide +kernel
theorem dX12_bestAt_2 : decode cX12_bestAt 2 = .ok (.putfield 63, 3) := by decide +kernel
theorem dX12_bestAt_5 : decode cX12_bestAt 5 = .ok (.aload_n 0, 1) := by decide +kernel
theorem dX12_bestAt_6 : decode cX12_bestAt 6 = .ok (.aload_n 0, 1) := by decide +kernel
theorem dX12_bestAt_7 : decode cX12_bestAt 7 = .ok (.iload_n 1, 1) := by decide +kernel
theorem dX12_bestAt_8 : decode cX12_bestAt 8 = .ok (.iload_n 2, 1) := by decide +kernel
theorem dX12_bestAt_9 : decode cX12_bestAt 9 = .ok (.invokevirtual 470, 3) := by decide +kernel
theorem dX12_bestAt_12 : decode cX12_bestAt 12 = .ok (.putfield 66, 3) := by decide +kernel
theorem dX12_bestAt_15 : decode cX12_bestAt 15 = .ok (.aload_n 0, 1) := by decide +kernel
theorem dX12_bestAt_16 : decode cX12_bestAt 16 = .ok (.getfield 66, 3) := by decide +kernel
theorem dX12_bestAt_19 : decode cX12_bestAt 19 = .ok (.ifCond .le 5, 3) := by decide +kernel
theorem dX12_bestAt_22 : decode cX12_bestAt 22 = .ok (.iconst (-1), 1) := by decide +kernel
theorem dX12_bestAt_23 : decode cX12_bestAt 23 = .ok (.ireturn, 1) := by decide +kernel
theorem dX12_bestAt_24 : decode cX12_bestAt 24 = .ok (.aload_n 0, 1) := by decide +kernel
theorem dX12_bestAt_25 : decode cX12_bestAt 25 = .ok (.iload_n 1, 1) := by decide +kernel
theorem dX12_bestAt_26 : decode cX12_bestAt 26 = .ok (.iload_n 2, 1) := by decide +kernel
theorem dX12_bestAt_27 : decode cX12_bestAt 27 = .ok (.invokevirtual 473, 3) := by decide +kernel
theorem dX12_bestAt_30 : decode cX12_bestAt 30 = .ok (.aload_n 0, 1) := by decide +kernel
theorem dX12_bestAt_31 : decode cX12_bestAt 31 = .ok (.getfield 467, 3) := by decide +kernel
theorem dX12_bestAt_34 : decode cX12_bestAt 34 = .ok (.ireturn, 1) := by decide +kernel
theorem dX12_laysTopics_0 : decode cX12_laysTopics 0 = .ok (.iload_n 1, 1) := by decide +kernel
theorem dX12_laysTopics_1 : decode cX12_laysTopics 1 = .ok (.istore_n 3, 1) := by decide +kernel
theorem dX12_laysTopics_2 : decode cX12_laysTopics 2 = .ok (.aload_n 0, 1) := by decide +kernel
theorem dX12_laysTopics_3 : decode cX12_laysTopics 3 = .ok (.getfield 35, 3) := by decide +kernel
theorem dX12_laysTopics_6 : decode cX12_laysTopics 6 = .ok (.iconst 2, 1) := by decide +kernel
theorem dX12_laysTopics_7 : decode cX12_laysTopics 7 = .ok (.iaload, 1) := by decide +kernel
theorem dX12_laysTopics_8 : decode cX12_laysTopics 8 = .ok (.iconst 1, 1) := by decide +kernel
theorem dX12_laysTopics_9 : decode cX12_laysTopics 9 = .ok (.isub, 1) := by decide +kernel
theorem dX12_laysTopics_10 : decode cX12_laysTopics 10 = .ok (.istore 4, 2) := by decide +kernel
theorem dX12_laysTopics_12 : decode cX12_laysTopics 12 = .ok (.iload 4, 2) := by decide +kernel
theorem dX12_laysTopics_14 : decode cX12_laysTopics 14 = .ok (.ifCond .lt 23, 3) := by decide +kernel
theorem dX12_laysTopics_17 : decode cX12_laysTopics 17 = .ok (.aload_n 0, 1) := by decide +kernel
theorem dX12_laysTopics_18 : decode cX12_laysTopics 18 = .ok (.getfield 47, 3) := by decide +kernel
theorem dX12_laysTopics_21 : decode cX12_laysTopics 21 = .ok (.iload 4, 2) := by decide +kernel
theorem dX12_laysTopics_23 : decode cX12_laysTopics 23 = .ok (.iload_n 3, 1) := by decide +kernel
theorem dX12_laysTopics_24 : decode cX12_laysTopics 24 = .ok (.iload_n 2, 1) := by decide +kernel
theorem dX12_laysTopics_25 : decode cX12_laysTopics 25 = .ok (.irem, 1) := by decide +kernel
theorem dX12_laysTopics_26 : decode cX12_laysTopics 26 = .ok (.iastore, 1) := by decide +kernel
theorem dX12_laysTopics_27 : decode cX12_laysTopics 27 = .ok (.iload_n 3, 1) := by decide +kernel
theorem dX12_laysTopics_28 : decode cX12_laysTopics 28 = .ok (.iload_n 2, 1) := by decide +kernel
theorem dX12_laysTopics_29 : decode cX12_laysTopics 29 = .ok (.idiv, 1) := by decide +kernel
theorem dX12_laysTopics_30 : decode cX12_laysTopics 30 = .ok (.istore_n 3, 1) := by decide +kernel
theorem dX12_laysTopics_31 : decode cX12_laysTopics 31 = .ok (.iinc 4 (-1), 3) := by decide +kernel
theorem dX12_laysTopics_34 : decode cX12_laysTopics 34 = .ok (.goto (-22), 3) := by decide +kernel
theorem dX12_laysTopics_37 : decode cX12_laysTopics 37 = .ok (.return_, 1) := by decide +kernel
theorem dX12_laysQuarrels_0 : decode cX12_laysQuarrels 0 = .ok (.iconst 1, 1) := by decide +kernel
theorem dX12_laysQuarrels_1 : decode cX12_laysQuarrels 1 = .ok (.istore_n 2, 1) := by decide +kernel
theorem dX12_laysQuarrels_2 : decode cX12_laysQuarrels 2 = .ok (.iconst 0, 1) := by decide +kernel
theorem dX12_laysQuarrels_3 : decode cX12_laysQuarrels 3 = .ok (.istore_n 3, 1) := by decide +kernel
theorem dX12_laysQuarrels_4 : decode cX12_laysQuarrels 4 = .ok (.iload_n 3, 1) := by decide +kernel
theorem dX12_laysQuarrels_5 : decode cX12_laysQuarrels 5 = .ok (.aload_n 0, 1) := by decide +kernel
theorem dX12_laysQuarrels_6 : decode cX12_laysQuarrels 6 = .ok (.getfield 35, 3) := by decide +kernel
theorem dX12_laysQuarrels_9 : decode cX12_laysQuarrels 9 = .ok (.iconst 2, 1) := by decide +kernel
theorem dX12_laysQuarrels_10 : decode cX12_laysQuarrels 10 = .ok (.iaload, 1) := by decide +kernel
theorem dX12_laysQuarrels_11 : decode cX12_laysQuarrels 11 = .ok (.if_icmp .ge 13, 3) := by decide +kernel
theorem dX12_laysQuarrels_14 : decode cX12_laysQuarrels 14 = .ok (.iload_n 2, 1) := by decide +kernel
theorem dX12_laysQuarrels_15 : decode cX12_laysQuarrels 15 = .ok (.iload_n 1, 1) := by decide +kernel
theorem dX12_laysQuarrels_16 : decode cX12_laysQuarrels 16 = .ok (.imul, 1) := by decide +kernel
theorem dX12_laysQuarrels_17 : decode cX12_laysQuarrels 17 = .ok (.istore_n 2, 1) := by decide +kernel
theorem dX12_laysQuarrels_18 : decode cX12_laysQuarrels 18 = .ok (.iinc 3 1, 3) := by decide +kernel
theorem dX12_laysQuarrels_21 : decode cX12_laysQuarrels 21 = .ok (.goto (-17), 3) := by decide +kernel
theorem dX12_laysQuarrels_24 : decode cX12_laysQuarrels 24 = .ok (.aload_n 0, 1) := by decide +kernel
theorem dX12_laysQuarrels_25 : decode cX12_laysQuarrels 25 = .ok (.iconst (-1), 1) := by decide +kernel
theorem dX12_laysQuarrels_26 : decode cX12_laysQuarrels 26 = .ok (.putfield 476, 3) := by decide +kernel
theorem dX12_laysQuarrels_29 : decode cX12_laysQuarrels 29 = .ok (.iconst 0, 1) := by decide +kernel
theorem dX12_laysQuarrels_30 : decode cX12_laysQuarrels 30 = .ok (.istore_n 3, 1) := by decide +kernel
theorem dX12_laysQuarrels_31 : decode cX12_laysQuarrels 31 = .ok (.iload_n 3, 1) := by decide +kernel
theorem dX12_laysQuarrels_32 : decode cX12_laysQuarrels 32 = .ok (.iload_n 2, 1) := by decide +kernel
theorem dX12_laysQuarrels_33 : decode cX12_laysQuarrels 33 = .ok (.if_icmp .ge 111, 3) := by decide +kernel
theorem dX12_laysQuarrels_36 : decode cX12_laysQuarrels 36 = .ok (.aload_n 0, 1) := by decide +kernel
theorem dX12_laysQuarrels_37 : decode cX12_laysQuarrels 37 = .ok (.iload_n 3, 1) := by decide +kernel
theorem dX12_laysQuarrels_38 : decode cX12_laysQuarrels 38 = .ok (.iload_n 1, 1) := by decide +kernel
theorem dX12_laysQuarrels_39 : decode cX12_laysQuarrels 39 = .ok (.invokevirtual 479, 3) := by decide +kernel
theorem dX12_laysQuarrels_42 : decode cX12_laysQuarrels 42 = .ok (.iconst 0, 1) := by decide +kernel
theorem dX12_laysQuarrels_43 : decode cX12_laysQuarrels 43 = .ok (.istore 4, 2) := by decide +kernel
theorem dX12_laysQuarrels_45 : decode cX12_laysQuarrels 45 = .ok (.iconst 0, 1) := by decide +kernel
theorem dX12_laysQuarrels_46 : decode cX12_laysQuarrels 46 = .ok (.istore 5, 2) := by decide +kernel
theorem dX12_laysQuarrels_48 : decode cX12_laysQuarrels 48 = .ok (.iload 5, 2) := by decide +kernel
theorem dX12_laysQuarrels_50 : decode cX12_laysQuarrels 50 = .ok (.aload_n 0, 1) := by decide +kernel
theorem dX12_laysQuarrels_51 : decode cX12_laysQuarrels 51 = .ok (.getfield 35, 3) := by decide +kernel
theorem dX12_laysQuarrels_54 : decode cX12_laysQuarrels 54 = .ok (.iconst 3, 1) := by decide +kernel
theorem dX12_laysQuarrels_55 : decode cX12_laysQuarrels 55 = .ok (.iaload, 1) := by decide +kernel
theorem dX12_laysQuarrels_56 : decode cX12_laysQuarrels 56 = .ok (.if_icmp .ge 52, 3) := by decide +kernel
theorem dX12_laysQuarrels_59 : decode cX12_laysQuarrels 59 = .ok (.iload 4, 2) := by decide +kernel
theorem dX12_laysQuarrels_61 : decode cX12_laysQuarrels 61 = .ok (.aload_n 0, 1) := by decide +kernel
theorem dX12_laysQuarrels_62 : decode cX12_laysQuarrels 62 = .ok (.getfield 47, 3) := by decide +kernel
theorem dX12_laysQuarrels_65 : decode cX12_laysQuarrels 65 = .ok (.aload_n 0, 1) := by decide +kernel
theorem dX12_laysQuarrels_66 : decode cX12_laysQuarrels 66 = .ok (.getfield 35, 3) := by decide +kernel
theorem dX12_laysQuarrels_69 : decode cX12_laysQuarrels 69 = .ok (.bipush 72, 2) := by decide +kernel
theorem dX12_laysQuarrels_71 : decode cX12_laysQuarrels 71 = .ok (.iload 5, 2) := by decide +kernel
theorem dX12_laysQuarrels_73 : decode cX12_laysQuarrels 73 = .ok (.iadd, 1) := by decide +kernel
theorem dX12_laysQuarrels_74 : decode cX12_laysQuarrels 74 = .ok (.iaload, 1) := by decide +kernel
theorem dX12_laysQuarrels_75 : decode cX12_laysQuarrels 75 = .ok (.iaload, 1) := by decide +kernel
theorem dX12_laysQuarrels_76 : decode cX12_laysQuarrels 76 = .ok (.aload_n 0, 1) := by decide +kernel
theorem dX12_laysQuarrels_77 : decode cX12_laysQuarrels 77 = .ok (.getfield 47, 3) := by decide +kernel
theorem dX12_laysQuarrels_80 : decode cX12_laysQuarrels 80 = .ok (.aload_n 0, 1) := by decide +kernel
theorem dX12_laysQuarrels_81 : decode cX12_laysQuarrels 81 = .ok (.getfield 35, 3) := by decide +kernel
theorem dX12_laysQuarrels_84 : decode cX12_laysQuarrels 84 = .ok (.bipush 82, 2) := by decide +kernel
theorem dX12_laysQuarrels_86 : decode cX12_laysQuarrels 86 = .ok (.iload 5, 2) := by decide +kernel
theorem dX12_laysQuarrels_88 : decode cX12_laysQuarrels 88 = .ok (.iadd, 1) := by decide +kernel
theorem dX12_laysQuarrels_89 : decode cX12_laysQuarrels 89 = .ok (.iaload, 1) := by decide +kernel
theorem dX12_laysQuarrels_90 : decode cX12_laysQuarrels 90 = .ok (.iaload, 1) := by decide +kernel
theorem dX12_laysQuarrels_91 : decode cX12_laysQuarrels 91 = .ok (.if_icmp .ne 7, 3) := by decide +kernel
theorem dX12_laysQuarrels_94 : decode cX12_laysQuarrels 94 = .ok (.iconst 1, 1) := by decide +kernel
theorem dX12_laysQuarrels_95 : decode cX12_laysQuarrels 95 = .ok (.goto 4, 3) := by decide +kernel
theorem dX12_laysQuarrels_98 : decode cX12_laysQuarrels 98 = .ok (.iconst 0, 1) := by decide +kernel
theorem dX12_laysQuarrels_99 : decode cX12_laysQuarrels 99 = .ok (.iadd, 1) := by decide +kernel
theorem dX12_laysQuarrels_100 : decode cX12_laysQuarrels 100 = .ok (.istore 4, 2) := by decide +kernel
theorem dX12_laysQuarrels_102 : decode cX12_laysQuarrels 102 = .ok (.iinc 5 1, 3) := by decide +kernel
theorem dX12_laysQuarrels_105 : decode cX12_laysQuarrels 105 = .ok (.goto (-57), 3) := by decide +kernel
theorem dX12_laysQuarrels_108 : decode cX12_laysQuarrels 108 = .ok (.aload_n 0, 1) := by decide +kernel
theorem dX12_laysQuarrels_109 : decode cX12_laysQuarrels 109 = .ok (.getfield 476, 3) := by decide +kernel
theorem dX12_laysQuarrels_112 : decode cX12_laysQuarrels 112 = .ok (.ifCond .lt 15, 3) := by decide +kernel
theorem dX12_laysQuarrels_115 : decode cX12_laysQuarrels 115 = .ok (.iload 4, 2) := by decide +kernel
theorem dX12_laysQuarrels_117 : decode cX12_laysQuarrels 117 = .ok (.aload_n 0, 1) := by decide +kernel
theorem dX12_laysQuarrels_118 : decode cX12_laysQuarrels 118 = .ok (.getfield 476, 3) := by decide +kernel
theorem dX12_laysQuarrels_121 : decode cX12_laysQuarrels 121 = .ok (.if_icmp .lt 6, 3) := by decide +kernel
theorem dX12_laysQuarrels_124 : decode cX12_laysQuarrels 124 = .ok (.goto 14, 3) := by decide +kernel
theorem dX12_laysQuarrels_127 : decode cX12_laysQuarrels 127 = .ok (.aload_n 0, 1) := by decide +kernel
theorem dX12_laysQuarrels_128 : decode cX12_laysQuarrels 128 = .ok (.iload 4, 2) := by decide +kernel
theorem dX12_laysQuarrels_130 : decode cX12_laysQuarrels 130 = .ok (.putfield 476, 3) := by decide +kernel
theorem dX12_laysQuarrels_133 : decode cX12_laysQuarrels 133 = .ok (.aload_n 0, 1) := by decide +kernel
theorem dX12_laysQuarrels_134 : decode cX12_laysQuarrels 134 = .ok (.iload_n 3, 1) := by decide +kernel
theorem dX12_laysQuarrels_135 : decode cX12_laysQuarrels 135 = .ok (.putfield 482, 3) := by decide +kernel
theorem dX12_laysQuarrels_138 : decode cX12_laysQuarrels 138 = .ok (.iinc 3 1, 3) := by decide +kernel
theorem dX12_laysQuarrels_141 : decode cX12_laysQuarrels 141 = .ok (.goto (-110), 3) := by decide +kernel
theorem dX12_laysQuarrels_144 : decode cX12_laysQuarrels 144 = .ok (.return_, 1) := by decide +kernel
theorem dX12_peace_0 : decode cX12_peace 0 = .ok (.aload_n 0, 1) := by decide +kernel
theorem dX12_peace_1 : decode cX12_peace 1 = .ok (.iconst 0, 1) := by decide +kernel
theorem dX12_peace_2 : decode cX12_peace 2 = .ok (.putfield 63, 3) := by decide +kernel
theorem dX12_peace_5 : decode cX12_peace 5 = .ok (.aload_n 0, 1) := by decide +kernel
theorem dX12_peace_6 : decode cX12_peace 6 = .ok (.iconst 0, 1) := by decide +kernel
theorem dX12_peace_7 : decode cX12_peace 7 = .ok (.putfield 66, 3) := by decide +kernel
theorem dX12_peace_10 : decode cX12_peace 10 = .ok (.aload_n 0, 1) := by decide +kernel
theorem dX12_peace_11 : decode cX12_peace 11 = .ok (.getfield 35, 3) := by decide +kernel
theorem dX12_peace_14 : decode cX12_peace 14 = .ok (.iconst 2, 1) := by decide +kernel
theorem dX12_peace_15 : decode cX12_peace 15 = .ok (.iaload, 1) := by decide +kernel
theorem dX12_peace_16 : decode cX12_peace 16 = .ok (.ifCond .ne 5, 3) := by decide +kernel
theorem dX12_peace_19 : decode cX12_peace 19 = .ok (.iconst 0, 1) := by decide +kernel
theorem dX12_peace_20 : decode cX12_peace 20 = .ok (.ireturn, 1) := by decide +kernel
theorem dX12_peace_21 : decode cX12_peace 21 = .ok (.iconst 1, 1) := by decide +kernel
theorem dX12_peace_22 : decode cX12_peace 22 = .ok (.istore_n 1, 1) := by decide +kernel
theorem dX12_peace_23 : decode cX12_peace 23 = .ok (.aload_n 0, 1) := by decide +kernel
theorem dX12_peace_24 : decode cX12_peace 24 = .ok (.iconst 1, 1) := by decide +kernel
theorem dX12_peace_25 : decode cX12_peace 25 = .ok (.invokevirtual 485, 3) := by decide +kernel
theorem dX12_peace_28 : decode cX12_peace 28 = .ok (.aload_n 0, 1) := by decide +kernel
theorem dX12_peace_29 : decode cX12_peace 29 = .ok (.getfield 476, 3) := by decide +kernel
theorem dX12_peace_32 : decode cX12_peace 32 = .ok (.ifCond .le 14, 3) := by decide +kernel
theorem dX12_peace_35 : decode cX12_peace 35 = .ok (.iinc 1 1, 3) := by decide +kernel
theorem dX12_peace_38 : decode cX12_peace 38 = .ok (.aload_n 0, 1) := by decide +kernel
theorem dX12_peace_39 : decode cX12_peace 39 = .ok (.iload_n 1, 1) := by decide +kernel
theorem dX12_peace_40 : decode cX12_peace 40 = .ok (.invokevirtual 485, 3) := by decide +kernel
theorem dX12_peace_43 : decode cX12_peace 43 = .ok (.goto (-15), 3) := by decide +kernel
theorem dX12_peace_46 : decode cX12_peace 46 = .ok (.iload_n 1, 1) := by decide +kernel
theorem dX12_peace_47 : decode cX12_peace 47 = .ok (.ireturn, 1) := by decide +kernel
theorem dX12_quarrels_0 : decode cX12_quarrels 0 = .ok (.aload_n 0, 1) := by decide +kernel
theorem dX12_quarrels_1 : decode cX12_quarrels 1 = .ok (.iconst 0, 1) := by decide +kernel
theorem dX12_quarrels_2 : decode cX12_quarrels 2 = .ok (.putfield 63, 3) := by decide +kernel
theorem dX12_quarrels_5 : decode cX12_quarrels 5 = .ok (.aload_n 0, 1) := by decide +kernel
theorem dX12_quarrels_6 : decode cX12_quarrels 6 = .ok (.iconst 0, 1) := by decide +kernel
theorem dX12_quarrels_7 : decode cX12_quarrels 7 = .ok (.putfield 66, 3) := by decide +kernel
theorem dX12_quarrels_10 : decode cX12_quarrels 10 = .ok (.iload_n 1, 1) := by decide +kernel
theorem dX12_quarrels_11 : decode cX12_quarrels 11 = .ok (.i2l, 1) := by decide +kernel
theorem dX12_quarrels_12 : decode cX12_quarrels 12 = .ok (.lconst 1, 1) := by decide +kernel
theorem dX12_quarrels_13 : decode cX12_quarrels 13 = .ok (.ldc2_w 365, 3) := by decide +kernel
theorem dX12_quarrels_16 : decode cX12_quarrels 16 = .ok (.invokestatic 98, 3) := by decide +kernel
theorem dX12_quarrels_19 : decode cX12_quarrels 19 = .ok (.ifCond .ne 9, 3) := by decide +kernel
theorem dX12_quarrels_22 : decode cX12_quarrels 22 = .ok (.aload_n 0, 1) := by decide +kernel
theorem dX12_quarrels_23 : decode cX12_quarrels 23 = .ok (.iconst 5, 1) := by decide +kernel
theorem dX12_quarrels_24 : decode cX12_quarrels 24 = .ok (.invokevirtual 333, 3) := by decide +kernel
theorem dX12_quarrels_27 : decode cX12_quarrels 27 = .ok (.ireturn, 1) := by decide +kernel
theorem dX12_quarrels_28 : decode cX12_quarrels 28 = .ok (.aload_n 0, 1) := by decide +kernel
theorem dX12_quarrels_29 : decode cX12_quarrels 29 = .ok (.iload_n 1, 1) := by decide +kernel
theorem dX12_quarrels_30 : decode cX12_quarrels 30 = .ok (.invokevirtual 485, 3) := by decide +kernel
theorem dX12_quarrels_33 : decode cX12_quarrels 33 = .ok (.aload_n 0, 1) := by decide +kernel
theorem dX12_quarrels_34 : decode cX12_quarrels 34 = .ok (.getfield 476, 3) := by decide +kernel
theorem dX12_quarrels_37 : decode cX12_quarrels 37 = .ok (.ireturn, 1) := by decide +kernel
theorem dX12_spread_0 : decode cX12_spread 0 = .ok (.aload_n 0, 1) := by decide +kernel
theorem dX12_spread_1 : decode cX12_spread 1 = .ok (.iconst 0, 1) := by decide +kernel
theorem dX12_spread_2 : decode cX12_spread 2 = .ok (.putfield 63, 3) := by decide +kernel
theorem dX12_spread_5 : decode cX12_spread 5 = .ok (.aload_n 0, 1) := by decide +kernel
theorem dX12_spread_6 : decode cX12_spread 6 = .ok (.iconst 0, 1) := by decide +kernel
theorem dX12_spread_7 : decode cX12_spread 7 = .ok (.putfield 66, 3) := by decide +kernel
theorem dX12_spread_10 : decode cX12_spread 10 = .ok (.aload_n 0, 1) := by decide +kernel
theorem dX12_spread_11 : decode cX12_spread 11 = .ok (.iload_n 2, 1) := by decide +kernel
theorem dX12_spread_12 : decode cX12_spread 12 = .ok (.invokevirtual 362, 3) := by decide +kernel
theorem dX12_spread_15 : decode cX12_spread 15 = .ok (.ifCond .ne 9, 3) := by decide +kernel
theorem dX12_spread_18 : decode cX12_spread 18 = .ok (.aload_n 0, 1) := by decide +kernel
theorem dX12_spread_19 : decode cX12_spread 19 = .ok (.iconst 2, 1) := by decide +kernel
theorem dX12_spread_20 : decode cX12_spread 20 = .ok (.invokevirtual 333, 3) := by decide +kernel
theorem dX12_spread_23 : decode cX12_spread 23 = .ok (.ireturn, 1) := by decide +kernel
theorem dX12_spread_24 : decode cX12_spread 24 = .ok (.iload_n 1, 1) := by decide +kernel
theorem dX12_spread_25 : decode cX12_spread 25 = .ok (.i2l, 1) := by decide +kernel
theorem dX12_spread_26 : decode cX12_spread 26 = .ok (.lconst 1, 1) := by decide +kernel
theorem dX12_spread_27 : decode cX12_spread 27 = .ok (.ldc2_w 365, 3) := by decide +kernel
theorem dX12_spread_30 : decode cX12_spread 30 = .ok (.invokestatic 98, 3) := by decide +kernel
theorem dX12_spread_33 : decode cX12_spread 33 = .ok (.ifCond .ne 9, 3) := by decide +kernel
theorem dX12_spread_36 : decode cX12_spread 36 = .ok (.aload_n 0, 1) := by decide +kernel
theorem dX12_spread_37 : decode cX12_spread 37 = .ok (.iconst 5, 1) := by decide +kernel
theorem dX12_spread_38 : decode cX12_spread 38 = .ok (.invokevirtual 333, 3) := by decide +kernel
theorem dX12_spread_41 : decode cX12_spread 41 = .ok (.ireturn, 1) := by decide +kernel
theorem dX12_spread_42 : decode cX12_spread 42 = .ok (.aload_n 0, 1) := by decide +kernel
theorem dX12_spread_43 : decode cX12_spread 43 = .ok (.iload_n 1, 1) := by decide +kernel
theorem dX12_spread_44 : decode cX12_spread 44 = .ok (.invokevirtual 485, 3) := by decide +kernel
theorem dX12_spread_47 : decode cX12_spread 47 = .ok (.aload_n 0, 1) := by decide +kernel
theorem dX12_spread_48 : decode cX12_spread 48 = .ok (.aload_n 0, 1) := by decide +kernel
theorem dX12_spread_49 : decode cX12_spread 49 = .ok (.getfield 482, 3) := by decide +kernel
theorem dX12_spread_52 : decode cX12_spread 52 = .ok (.iload_n 1, 1) := by decide +kernel
theorem dX12_spread_53 : decode cX12_spread 53 = .ok (.invokevirtual 479, 3) := by decide +kernel
theorem dX12_spread_56 : decode cX12_spread 56 = .ok (.aload_n 0, 1) := by decide +kernel
theorem dX12_spread_57 : decode cX12_spread 57 = .ok (.getfield 47, 3) := by decide +kernel
theorem dX12_spread_60 : decode cX12_spread 60 = .ok (.iload_n 2, 1) := by decide +kernel
theorem dX12_spread_61 : decode cX12_spread 61 = .ok (.iaload, 1) := by decide +kernel
theorem dX12_spread_62 : decode cX12_spread 62 = .ok (.ireturn, 1) := by decide +kernel
theorem dX12_isBeside_0 : decode cX12_isBeside 0 = .ok (.aload_n 0, 1) := by decide +kernel
theorem dX12_isBeside_1 : decode cX12_isBeside 1 = .ok (.getfield 35, 3) := by decide +kernel
theorem dX12_isBeside_4 : decode cX12_isBeside 4 = .ok (.iconst 2, 1) := by decide +kernel
theorem dX12_isBeside_5 : decode cX12_isBeside 5 = .ok (.iaload, 1) := by decide +kernel
theorem dX12_isBeside_6 : decode cX12_isBeside 6 = .ok (.istore_n 3, 1) := by decide +kernel
theorem dX12_isBeside_7 : decode cX12_isBeside 7 = .ok (.iload_n 1, 1) := by decide +kernel
theorem dX12_isBeside_8 : decode cX12_isBeside 8 = .ok (.iconst 1, 1) := by decide +kernel
theorem dX12_isBeside_9 : decode cX12_isBeside 9 = .ok (.iadd, 1) := by decide +kernel
theorem dX12_isBeside_10 : decode cX12_isBeside 10 = .ok (.iload_n 3, 1) := by decide +kernel
theorem dX12_isBeside_11 : decode cX12_isBeside 11 = .ok (.irem, 1) := by decide +kernel
theorem dX12_isBeside_12 : decode cX12_isBeside 12 = .ok (.iload_n 2, 1) := by decide +kernel
theorem dX12_isBeside_13 : decode cX12_isBeside 13 = .ok (.if_icmp .eq 12, 3) := by decide +kernel
theorem dX12_isBeside_16 : decode cX12_isBeside 16 = .ok (.iload_n 2, 1) := by decide +kernel
theorem dX12_isBeside_17 : decode cX12_isBeside 17 = .ok (.iconst 1, 1) := by decide +kernel
theorem dX12_isBeside_18 : decode cX12_isBeside 18 = .ok (.iadd, 1) := by decide +kernel
theorem dX12_isBeside_19 : decode cX12_isBeside 19 = .ok (.iload_n 3, 1) := by decide +kernel
theorem dX12_isBeside_20 : decode cX12_isBeside 20 = .ok (.irem, 1) := by decide +kernel
theorem dX12_isBeside_21 : decode cX12_isBeside 21 = .ok (.iload_n 1, 1) := by decide +kernel
theorem dX12_isBeside_22 : decode cX12_isBeside 22 = .ok (.if_icmp .ne 7, 3) := by decide +kernel
theorem dX12_isBeside_25 : decode cX12_isBeside 25 = .ok (.iconst 1, 1) := by decide +kernel
theorem dX12_isBeside_26 : decode cX12_isBeside 26 = .ok (.goto 4, 3) := by decide +kernel
theorem dX12_isBeside_29 : decode cX12_isBeside 29 = .ok (.iconst 0, 1) := by decide +kernel
theorem dX12_isBeside_30 : decode cX12_isBeside 30 = .ok (.ireturn, 1) := by decide +kernel
theorem dX12_besideNow_0 : decode cX12_besideNow 0 = .ok (.iconst 0, 1) := by decide +kernel
theorem dX12_besideNow_1 : decode cX12_besideNow 1 = .ok (.istore_n 1, 1) := by decide +kernel
theorem dX12_besideNow_2 : decode cX12_besideNow 2 = .ok (.iconst 0, 1) := by decide +kernel
theorem dX12_besideNow_3 : decode cX12_besideNow 3 = .ok (.istore_n 2, 1) := by decide +kernel
theorem dX12_besideNow_4 : decode cX12_besideNow 4 = .ok (.iload_n 2, 1) := by decide +kernel
theorem dX12_besideNow_5 : decode cX12_besideNow 5 = .ok (.aload_n 0, 1) := by decide +kernel
theorem dX12_besideNow_6 : decode cX12_besideNow 6 = .ok (.getfield 35, 3) := by decide +kernel
theorem dX12_besideNow_9 : decode cX12_besideNow 9 = .ok (.iconst 3, 1) := by decide +kernel
theorem dX12_besideNow_10 : decode cX12_besideNow 10 = .ok (.iaload, 1) := by decide +kernel
theorem dX12_besideNow_11 : decode cX12_besideNow 11 = .ok (.if_icmp .ge 106, 3) := by decide +kernel
theorem dX12_besideNow_14 : decode cX12_besideNow 14 = .ok (.iconst 0, 1) := by decide +kernel
theorem dX12_besideNow_15 : decode cX12_besideNow 15 = .ok (.istore_n 3, 1) := by decide +kernel
theorem dX12_besideNow_16 : decode cX12_besideNow 16 = .ok (.iconst 0, 1) := by decide +kernel
theorem dX12_besideNow_17 : decode cX12_besideNow 17 = .ok (.istore 4, 2) := by decide +kernel
theorem dX12_besideNow_19 : decode cX12_besideNow 19 = .ok (.iconst 0, 1) := by decide +kernel
theorem dX12_besideNow_20 : decode cX12_besideNow 20 = .ok (.istore 5, 2) := by decide +kernel
theorem dX12_besideNow_22 : decode cX12_besideNow 22 = .ok (.iload 5, 2) := by decide +kernel
theorem dX12_besideNow_24 : decode cX12_besideNow 24 = .ok (.aload_n 0, 1) := by decide +kernel
theorem dX12_besideNow_25 : decode cX12_besideNow 25 = .ok (.getfield 35, 3) := by decide +kernel
theorem dX12_besideNow_28 : decode cX12_besideNow 28 = .ok (.iconst 2, 1) := by decide +kernel
theorem dX12_besideNow_29 : decode cX12_besideNow 29 = .ok (.iaload, 1) := by decide +kernel
theorem dX12_besideNow_30 : decode cX12_besideNow 30 = .ok (.if_icmp .ge 63, 3) := by decide +kernel
theorem dX12_besideNow_33 : decode cX12_besideNow 33 = .ok (.aload_n 0, 1) := by decide +kernel
theorem dX12_besideNow_34 : decode cX12_besideNow 34 = .ok (.getfield 50, 3) := by decide +kernel
theorem dX12_besideNow_37 : decode cX12_besideNow 37 = .ok (.iload 5, 2) := by decide +kernel
theorem dX12_besideNow_39 : decode cX12_besideNow 39 = .ok (.iaload, 1) := by decide +kernel
theorem dX12_besideNow_40 : decode cX12_besideNow 40 = .ok (.aload_n 0, 1) := by decide +kernel
theorem dX12_besideNow_41 : decode cX12_besideNow 41 = .ok (.getfield 35, 3) := by decide +kernel
theorem dX12_besideNow_44 : decode cX12_besideNow 44 = .ok (.bipush 72, 2) := by decide +kernel
theorem dX12_besideNow_46 : decode cX12_besideNow 46 = .ok (.iload_n 2, 1) := by decide +kernel
theorem dX12_besideNow_47 : decode cX12_besideNow 47 = .ok (.iadd, 1) := by decide +kernel
theorem dX12_besideNow_48 : decode cX12_besideNow 48 = .ok (.iaload, 1) := by decide +kernel
theorem dX12_besideNow_49 : decode cX12_besideNow 49 = .ok (.if_icmp .ne 8, 3) := by decide +kernel
theorem dX12_besideNow_52 : decode cX12_besideNow 52 = .ok (.iload 5, 2) := by decide +kernel
theorem dX12_besideNow_54 : decode cX12_besideNow 54 = .ok (.goto 4, 3) := by decide +kernel
theorem dX12_besideNow_57 : decode cX12_besideNow 57 = .ok (.iload_n 3, 1) := by decide +kernel
theorem dX12_besideNow_58 : decode cX12_besideNow 58 = .ok (.istore_n 3, 1) := by decide +kernel
theorem dX12_besideNow_59 : decode cX12_besideNow 59 = .ok (.aload_n 0, 1) := by decide +kernel
theorem dX12_besideNow_60 : decode cX12_besideNow 60 = .ok (.getfield 50, 3) := by decide +kernel
theorem dX12_besideNow_63 : decode cX12_besideNow 63 = .ok (.iload 5, 2) := by decide +kernel
theorem dX12_besideNow_65 : decode cX12_besideNow 65 = .ok (.iaload, 1) := by decide +kernel
theorem dX12_besideNow_66 : decode cX12_besideNow 66 = .ok (.aload_n 0, 1) := by decide +kernel
theorem dX12_besideNow_67 : decode cX12_besideNow 67 = .ok (.getfield 35, 3) := by decide +kernel
theorem dX12_besideNow_70 : decode cX12_besideNow 70 = .ok (.bipush 82, 2) := by decide +kernel
theorem dX12_besideNow_72 : decode cX12_besideNow 72 = .ok (.iload_n 2, 1) := by decide +kernel
theorem dX12_besideNow_73 : decode cX12_besideNow 73 = .ok (.iadd, 1) := by decide +kernel
theorem dX12_besideNow_74 : decode cX12_besideNow 74 = .ok (.iaload, 1) := by decide +kernel
theorem dX12_besideNow_75 : decode cX12_besideNow 75 = .ok (.if_icmp .ne 8, 3) := by decide +kernel
theorem dX12_besideNow_78 : decode cX12_besideNow 78 = .ok (.iload 5, 2) := by decide +kernel
theorem dX12_besideNow_80 : decode cX12_besideNow 80 = .ok (.goto 5, 3) := by decide +kernel
theorem dX12_besideNow_83 : decode cX12_besideNow 83 = .ok (.iload 4, 2) := by decide +kernel
theorem dX12_besideNow_85 : decode cX12_besideNow 85 = .ok (.istore 4, 2) := by decide +kernel
theorem dX12_besideNow_87 : decode cX12_besideNow 87 = .ok (.iinc 5 1, 3) := by decide +kernel
theorem dX12_besideNow_90 : decode cX12_besideNow 90 = .ok (.goto (-68), 3) := by decide +kernel
theorem dX12_besideNow_93 : decode cX12_besideNow 93 = .ok (.iload_n 1, 1) := by decide +kernel
theorem dX12_besideNow_94 : decode cX12_besideNow 94 = .ok (.aload_n 0, 1) := by decide +kernel
theorem dX12_besideNow_95 : decode cX12_besideNow 95 = .ok (.iload_n 3, 1) := by decide +kernel
theorem dX12_besideNow_96 : decode cX12_besideNow 96 = .ok (.iload 4, 2) := by decide +kernel
theorem dX12_besideNow_98 : decode cX12_besideNow 98 = .ok (.invokevirtual 488, 3) := by decide +kernel
theorem dX12_besideNow_101 : decode cX12_besideNow 101 = .ok (.ifCond .eq 7, 3) := by decide +kernel
theorem dX12_besideNow_104 : decode cX12_besideNow 104 = .ok (.iconst 1, 1) := by decide +kernel
theorem dX12_besideNow_105 : decode cX12_besideNow 105 = .ok (.goto 4, 3) := by decide +kernel
theorem dX12_besideNow_108 : decode cX12_besideNow 108 = .ok (.iconst 0, 1) := by decide +kernel
theorem dX12_besideNow_109 : decode cX12_besideNow 109 = .ok (.iadd, 1) := by decide +kernel
theorem dX12_besideNow_110 : decode cX12_besideNow 110 = .ok (.istore_n 1, 1) := by decide +kernel
theorem dX12_besideNow_111 : decode cX12_besideNow 111 = .ok (.iinc 2 1, 3) := by decide +kernel
theorem dX12_besideNow_114 : decode cX12_besideNow 114 = .ok (.goto (-110), 3) := by decide +kernel
theorem dX12_besideNow_117 : decode cX12_besideNow 117 = .ok (.iload_n 1, 1) := by decide +kernel
theorem dX12_besideNow_118 : decode cX12_besideNow 118 = .ok (.ireturn, 1) := by decide +kernel
theorem dX12_seats_0 : decode cX12_seats 0 = .ok (.iload_n 1, 1) := by decide +kernel
theorem dX12_seats_1 : decode cX12_seats 1 = .ok (.aload_n 0, 1) := by decide +kernel
theorem dX12_seats_2 : decode cX12_seats 2 = .ok (.getfield 35, 3) := by decide +kernel
theorem dX12_seats_5 : decode cX12_seats 5 = .ok (.iconst 2, 1) := by decide +kernel
theorem dX12_seats_6 : decode cX12_seats 6 = .ok (.iaload, 1) := by decide +kernel
theorem dX12_seats_7 : decode cX12_seats 7 = .ok (.if_icmp .ge 52, 3) := by decide +kernel
theorem dX12_seats_10 : decode cX12_seats 10 = .ok (.iconst 0, 1) := by decide +kernel
theorem dX12_seats_11 : decode cX12_seats 11 = .ok (.istore_n 3, 1) := by decide +kernel
theorem dX12_seats_12 : decode cX12_seats 12 = .ok (.iload_n 3, 1) := by decide +kernel
theorem dX12_seats_13 : decode cX12_seats 13 = .ok (.aload_n 0, 1) := by decide +kernel
theorem dX12_seats_14 : decode cX12_seats 14 = .ok (.getfield 35, 3) := by decide +kernel
theorem dX12_seats_17 : decode cX12_seats 17 = .ok (.iconst 2, 1) := by decide +kernel
theorem dX12_seats_18 : decode cX12_seats 18 = .ok (.iaload, 1) := by decide +kernel
theorem dX12_seats_19 : decode cX12_seats 19 = .ok (.if_icmp .ge 39, 3) := by decide +kernel
theorem dX12_seats_22 : decode cX12_seats 22 = .ok (.iload_n 2, 1) := by decide +kernel
theorem dX12_seats_23 : decode cX12_seats 23 = .ok (.iload_n 3, 1) := by decide +kernel
theorem dX12_seats_24 : decode cX12_seats 24 = .ok (.invokestatic 102, 3) := by decide +kernel
theorem dX12_seats_27 : decode cX12_seats 27 = .ok (.ifCond .eq 6, 3) := by decide +kernel
theorem dX12_seats_30 : decode cX12_seats 30 = .ok (.goto 22, 3) := by decide +kernel
theorem dX12_seats_33 : decode cX12_seats 33 = .ok (.aload_n 0, 1) := by decide +kernel
theorem dX12_seats_34 : decode cX12_seats 34 = .ok (.getfield 50, 3) := by decide +kernel
theorem dX12_seats_37 : decode cX12_seats 37 = .ok (.iload_n 1, 1) := by decide +kernel
theorem dX12_seats_38 : decode cX12_seats 38 = .ok (.iload_n 3, 1) := by decide +kernel
theorem dX12_seats_39 : decode cX12_seats 39 = .ok (.iastore, 1) := by decide +kernel
theorem dX12_seats_40 : decode cX12_seats 40 = .ok (.aload_n 0, 1) := by decide +kernel
theorem dX12_seats_41 : decode cX12_seats 41 = .ok (.iload_n 1, 1) := by decide +kernel
theorem dX12_seats_42 : decode cX12_seats 42 = .ok (.iconst 1, 1) := by decide +kernel
theorem dX12_seats_43 : decode cX12_seats 43 = .ok (.iadd, 1) := by decide +kernel
theorem dX12_seats_44 : decode cX12_seats 44 = .ok (.iload_n 2, 1) := by decide +kernel
theorem dX12_seats_45 : decode cX12_seats 45 = .ok (.iconst 1, 1) := by decide +kernel
theorem dX12_seats_46 : decode cX12_seats 46 = .ok (.iload_n 3, 1) := by decide +kernel
theorem dX12_seats_47 : decode cX12_seats 47 = .ok (.ishl, 1) := by decide +kernel
theorem dX12_seats_48 : decode cX12_seats 48 = .ok (.ior, 1) := by decide +kernel
theorem dX12_seats_49 : decode cX12_seats 49 = .ok (.invokevirtual 491, 3) := by decide +kernel
theorem dX12_seats_52 : decode cX12_seats 52 = .ok (.iinc 3 1, 3) := by decide +kernel
theorem dX12_seats_55 : decode cX12_seats 55 = .ok (.goto (-43), 3) := by decide +kernel
theorem dX12_seats_58 : decode cX12_seats 58 = .ok (.return_, 1) := by decide +kernel
theorem dX12_seats_59 : decode cX12_seats 59 = .ok (.aload_n 0, 1) := by decide +kernel
theorem dX12_seats_60 : decode cX12_seats 60 = .ok (.invokevirtual 494, 3) := by decide +kernel
theorem dX12_seats_63 : decode cX12_seats 63 = .ok (.istore_n 3, 1) := by decide +kernel
theorem dX12_seats_64 : decode cX12_seats 64 = .ok (.aload_n 0, 1) := by decide +kernel
theorem dX12_seats_65 : decode cX12_seats 65 = .ok (.getfield 497, 3) := by decide +kernel
theorem dX12_seats_68 : decode cX12_seats 68 = .ok (.ifCond .lt 12, 3) := by decide +kernel
theorem dX12_seats_71 : decode cX12_seats 71 = .ok (.iload_n 3, 1) := by decide +kernel
theorem dX12_seats_72 : decode cX12_seats 72 = .ok (.aload_n 0, 1) := by decide +kernel
theorem dX12_seats_73 : decode cX12_seats 73 = .ok (.getfield 497, 3) := by decide +kernel
theorem dX12_seats_76 : decode cX12_seats 76 = .ok (.if_icmp .lt 4, 3) := by decide +kernel
theorem dX12_seats_79 : decode cX12_seats 79 = .ok (.return_, 1) := by decide +kernel
theorem dX12_seats_80 : decode cX12_seats 80 = .ok (.aload_n 0, 1) := by decide +kernel
theorem dX12_seats_81 : decode cX12_seats 81 = .ok (.iload_n 3, 1) := by decide +kernel
theorem dX12_seats_82 : decode cX12_seats 82 = .ok (.putfield 497, 3) := by decide +kernel
theorem dX12_seats_85 : decode cX12_seats 85 = .ok (.iconst 0, 1) := by decide +kernel
theorem dX12_seats_86 : decode cX12_seats 86 = .ok (.istore 4, 2) := by decide +kernel
theorem dX12_seats_88 : decode cX12_seats 88 = .ok (.iload 4, 2) := by decide +kernel
theorem dX12_seats_90 : decode cX12_seats 90 = .ok (.iload_n 1, 1) := by decide +kernel
theorem dX12_seats_91 : decode cX12_seats 91 = .ok (.if_icmp .ge 23, 3) := by decide +kernel
theorem dX12_seats_94 : decode cX12_seats 94 = .ok (.aload_n 0, 1) := by decide +kernel
theorem dX12_seats_95 : decode cX12_seats 95 = .ok (.getfield 53, 3) := by decide +kernel
theorem dX12_seats_98 : decode cX12_seats 98 = .ok (.iload 4, 2) := by decide +kernel
theorem dX12_seats_100 : decode cX12_seats 100 = .ok (.aload_n 0, 1) := by decide +kernel
theorem dX12_seats_101 : decode cX12_seats 101 = .ok (.getfield 50, 3) := by decide +kernel
theorem dX12_seats_104 : decode cX12_seats 104 = .ok (.iload 4, 2) := by decide +kernel
theorem dX12_seats_106 : decode cX12_seats 106 = .ok (.iaload, 1) := by decide +kernel
theorem dX12_seats_107 : decode cX12_seats 107 = .ok (.iastore, 1) := by decide +kernel
theorem dX12_seats_108 : decode cX12_seats 108 = .ok (.iinc 4 1, 3) := by decide +kernel
theorem dX12_seats_111 : decode cX12_seats 111 = .ok (.goto (-23), 3) := by decide +kernel
theorem dX12_seats_114 : decode cX12_seats 114 = .ok (.return_, 1) := by decide +kernel
theorem dX12_laysSeats_0 : decode cX12_laysSeats 0 = .ok (.aload_n 0, 1) := by decide +kernel
theorem dX12_laysSeats_1 : decode cX12_laysSeats 1 = .ok (.iconst (-1), 1) := by decide +kernel
theorem dX12_laysSeats_2 : decode cX12_laysSeats 2 = .ok (.putfield 497, 3) := by decide +kernel
theorem dX12_laysSeats_5 : decode cX12_laysSeats 5 = .ok (.aload_n 0, 1) := by decide +kernel
theorem dX12_laysSeats_6 : decode cX12_laysSeats 6 = .ok (.iconst 0, 1) := by decide +kernel
theorem dX12_laysSeats_7 : decode cX12_laysSeats 7 = .ok (.iconst 0, 1) := by decide +kernel
theorem dX12_laysSeats_8 : decode cX12_laysSeats 8 = .ok (.invokevirtual 491, 3) := by decide +kernel
theorem dX12_laysSeats_11 : decode cX12_laysSeats 11 = .ok (.return_, 1) := by decide +kernel
theorem dX12_seating_0 : decode cX12_seating 0 = .ok (.aload_n 0, 1) := by decide +kernel
theorem dX12_seating_1 : decode cX12_seating 1 = .ok (.iconst 0, 1) := by decide +kernel
theorem dX12_seating_2 : decode cX12_seating 2 = .ok (.putfield 63, 3) := by decide +kernel
theorem dX12_seating_5 : decode cX12_seating 5 = .ok (.aload_n 0, 1) := by decide +kernel
theorem dX12_seating_6 : decode cX12_seating 6 = .ok (.iconst 0, 1) := by decide +kernel
theorem dX12_seating_7 : decode cX12_seating 7 = .ok (.putfield 66, 3) := by decide +kernel
theorem dX12_seating_10 : decode cX12_seating 10 = .ok (.aload_n 0, 1) := by decide +kernel
theorem dX12_seating_11 : decode cX12_seating 11 = .ok (.invokevirtual 500, 3) := by decide +kernel
theorem dX12_seating_14 : decode cX12_seating 14 = .ok (.aload_n 0, 1) := by decide +kernel
theorem dX12_seating_15 : decode cX12_seating 15 = .ok (.getfield 497, 3) := by decide +kernel
theorem dX12_seating_18 : decode cX12_seating 18 = .ok (.ireturn, 1) := by decide +kernel
theorem dX12_seatOf_0 : decode cX12_seatOf 0 = .ok (.aload_n 0, 1) := by decide +kernel
theorem dX12_seatOf_1 : decode cX12_seatOf 1 = .ok (.iconst 0, 1) := by decide +kernel
theorem dX12_seatOf_2 : decode cX12_seatOf 2 = .ok (.putfield 63, 3) := by decide +kernel
theorem dX12_seatOf_5 : decode cX12_seatOf 5 = .ok (.aload_n 0, 1) := by decide +kernel
theorem dX12_seatOf_6 : decode cX12_seatOf 6 = .ok (.iconst 0, 1) := by decide +kernel
theorem dX12_seatOf_7 : decode cX12_seatOf 7 = .ok (.putfield 66, 3) := by decide +kernel
theorem dX12_seatOf_10 : decode cX12_seatOf 10 = .ok (.aload_n 0, 1) := by decide +kernel
theorem dX12_seatOf_11 : decode cX12_seatOf 11 = .ok (.iload_n 1, 1) := by decide +kernel
theorem dX12_seatOf_12 : decode cX12_seatOf 12 = .ok (.invokevirtual 362, 3) := by decide +kernel
theorem dX12_seatOf_15 : decode cX12_seatOf 15 = .ok (.ifCond .ne 9, 3) := by decide +kernel
theorem dX12_seatOf_18 : decode cX12_seatOf 18 = .ok (.aload_n 0, 1) := by decide +kernel
theorem dX12_seatOf_19 : decode cX12_seatOf 19 = .ok (.iconst 2, 1) := by decide +kernel
theorem dX12_seatOf_20 : decode cX12_seatOf 20 = .ok (.invokevirtual 333, 3) := by decide +kernel
theorem dX12_seatOf_23 : decode cX12_seatOf 23 = .ok (.ireturn, 1) := by decide +kernel
theorem dX12_seatOf_24 : decode cX12_seatOf 24 = .ok (.aload_n 0, 1) := by decide +kernel
theorem dX12_seatOf_25 : decode cX12_seatOf 25 = .ok (.invokevirtual 500, 3) := by decide +kernel
theorem dX12_seatOf_28 : decode cX12_seatOf 28 = .ok (.aload_n 0, 1) := by decide +kernel
theorem dX12_seatOf_29 : decode cX12_seatOf 29 = .ok (.getfield 53, 3) := by decide +kernel
theorem dX12_seatOf_32 : decode cX12_seatOf 32 = .ok (.iload_n 1, 1) := by decide +kernel
theorem dX12_seatOf_33 : decode cX12_seatOf 33 = .ok (.iaload, 1) := by decide +kernel
theorem dX12_seatOf_34 : decode cX12_seatOf 34 = .ok (.ireturn, 1) := by decide +kernel
theorem dX12_plays_0 : decode cX12_plays 0 = .ok (.iload_n 3, 1) := by decide +kernel
theorem dX12_plays_1 : decode cX12_plays 1 = .ok (.iload 4, 2) := by decide +kernel
theorem dX12_plays_3 : decode cX12_plays 3 = .ok (.if_icmp .ne 31, 3) := by decide +kernel
theorem dX12_plays_6 : decode cX12_plays 6 = .ok (.aload_n 0, 1) := by decide +kernel
theorem dX12_plays_7 : decode cX12_plays 7 = .ok (.aload_n 0, 1) := by decide +kernel
theorem dX12_plays_8 : decode cX12_plays 8 = .ok (.getfield 35, 3) := by decide +kernel
theorem dX12_plays_11 : decode cX12_plays 11 = .ok (.bipush 54, 2) := by decide +kernel
theorem dX12_plays_13 : decode cX12_plays 13 = .ok (.iload_n 1, 1) := by decide +kernel
theorem dX12_plays_14 : decode cX12_plays 14 = .ok (.iadd, 1) := by decide +kernel
theorem dX12_plays_15 : decode cX12_plays 15 = .ok (.iaload, 1) := by decide +kernel
theorem dX12_plays_16 : decode cX12_plays 16 = .ok (.invokevirtual 461, 3) := by decide +kernel
theorem dX12_plays_19 : decode cX12_plays 19 = .ok (.aload_n 0, 1) := by decide +kernel
theorem dX12_plays_20 : decode cX12_plays 20 = .ok (.aload_n 0, 1) := by decide +kernel
theorem dX12_plays_21 : decode cX12_plays 21 = .ok (.getfield 35, 3) := by decide +kernel
theorem dX12_plays_24 : decode cX12_plays 24 = .ok (.bipush 54, 2) := by decide +kernel
theorem dX12_plays_26 : decode cX12_plays 26 = .ok (.iload_n 2, 1) := by decide +kernel
theorem dX12_plays_27 : decode cX12_plays 27 = .ok (.iadd, 1) := by decide +kernel
theorem dX12_plays_28 : decode cX12_plays 28 = .ok (.iaload, 1) := by decide +kernel
theorem dX12_plays_29 : decode cX12_plays 29 = .ok (.invokevirtual 461, 3) := by decide +kernel
theorem dX12_plays_32 : decode cX12_plays 32 = .ok (.isub, 1) := by decide +kernel
theorem dX12_plays_33 : decode cX12_plays 33 = .ok (.ireturn, 1) := by decide +kernel
theorem dX12_plays_34 : decode cX12_plays 34 = .ok (.iload_n 3, 1) := by decide +kernel
theorem dX12_plays_35 : decode cX12_plays 35 = .ok (.iconst 2, 1) := by decide +kernel
theorem dX12_plays_36 : decode cX12_plays 36 = .ok (.irem, 1) := by decide +kernel
theorem dX12_plays_37 : decode cX12_plays 37 = .ok (.ifCond .ne 7, 3) := by decide +kernel
theorem dX12_plays_40 : decode cX12_plays 40 = .ok (.iconst 1, 1) := by decide +kernel
theorem dX12_plays_41 : decode cX12_plays 41 = .ok (.goto 4, 3) := by decide +kernel
theorem dX12_plays_44 : decode cX12_plays 44 = .ok (.iconst 0, 1) := by decide +kernel
theorem dX12_plays_45 : decode cX12_plays 45 = .ok (.istore 5, 2) := by decide +kernel
theorem dX12_plays_47 : decode cX12_plays 47 = .ok (.iload 5, 2) := by decide +kernel
theorem dX12_plays_49 : decode cX12_plays 49 = .ok (.ifCond .eq 7, 3) := by decide +kernel
theorem dX12_plays_52 : decode cX12_plays 52 = .ok (.iload_n 1, 1) := by decide +kernel
theorem dX12_plays_53 : decode cX12_plays 53 = .ok (.goto 4, 3) := by decide +kernel
theorem dX12_plays_56 : decode cX12_plays 56 = .ok (.iload_n 2, 1) := by decide +kernel
theorem dX12_plays_57 : decode cX12_plays 57 = .ok (.istore 6, 2) := by decide +kernel
theorem dX12_plays_59 : decode cX12_plays 59 = .ok (.aload_n 0, 1) := by decide +kernel
theorem dX12_plays_60 : decode cX12_plays 60 = .ok (.getfield 35, 3) := by decide +kernel
theorem dX12_plays_63 : decode cX12_plays 63 = .ok (.bipush 54, 2) := by decide +kernel
theorem dX12_plays_65 : decode cX12_plays 65 = .ok (.iload 6, 2) := by decide +kernel
theorem dX12_plays_67 : decode cX12_plays 67 = .ok (.iadd, 1) := by decide +kernel
theorem dX12_plays_68 : decode cX12_plays 68 = .ok (.iaload, 1) := by decide +kernel
theorem dX12_plays_69 : decode cX12_plays 69 = .ok (.istore 7, 2) := by decide +kernel
theorem dX12_plays_71 : decode cX12_plays 71 = .ok (.aload_n 0, 1) := by decide +kernel
theorem dX12_plays_72 : decode cX12_plays 72 = .ok (.iload 6, 2) := by decide +kernel
theorem dX12_plays_74 : decode cX12_plays 74 = .ok (.invokevirtual 367, 3) := by decide +kernel
theorem dX12_plays_77 : decode cX12_plays 77 = .ok (.aload_n 0, 1) := by decide +kernel
theorem dX12_plays_78 : decode cX12_plays 78 = .ok (.iconst 0, 1) := by decide +kernel
theorem dX12_plays_79 : decode cX12_plays 79 = .ok (.iconst 0, 1) := by decide +kernel
theorem dX12_plays_80 : decode cX12_plays 80 = .ok (.invokevirtual 328, 3) := by decide +kernel
theorem dX12_plays_83 : decode cX12_plays 83 = .ok (.iand, 1) := by decide +kernel
theorem dX12_plays_84 : decode cX12_plays 84 = .ok (.istore 8, 2) := by decide +kernel
theorem dX12_plays_86 : decode cX12_plays 86 = .ok (.iconst 0, 1) := by decide +kernel
theorem dX12_plays_87 : decode cX12_plays 87 = .ok (.istore 9, 2) := by decide +kernel
theorem dX12_plays_89 : decode cX12_plays 89 = .ok (.iconst (-1), 1) := by decide +kernel
theorem dX12_plays_90 : decode cX12_plays 90 = .ok (.istore 10, 2) := by decide +kernel
theorem dX12_plays_92 : decode cX12_plays 92 = .ok (.iconst 0, 1) := by decide +kernel
theorem dX12_plays_93 : decode cX12_plays 93 = .ok (.istore 11, 2) := by decide +kernel
theorem dX12_plays_95 : decode cX12_plays 95 = .ok (.iload 11, 2) := by decide +kernel
theorem dX12_plays_97 : decode cX12_plays 97 = .ok (.aload_n 0, 1) := by decide +kernel
theorem dX12_plays_98 : decode cX12_plays 98 = .ok (.getfield 35, 3) := by decide +kernel
theorem dX12_plays_101 : decode cX12_plays 101 = .ok (.iconst 1, 1) := by decide +kernel
theorem dX12_plays_102 : decode cX12_plays 102 = .ok (.iaload, 1) := by decide +kernel
theorem dX12_plays_103 : decode cX12_plays 103 = .ok (.if_icmp .gt 135, 3) := by decide +kernel
theorem dX12_plays_106 : decode cX12_plays 106 = .ok (.iload 11, 2) := by decide +kernel
theorem dX12_plays_108 : decode cX12_plays 108 = .ok (.aload_n 0, 1) := by decide +kernel
theorem dX12_plays_109 : decode cX12_plays 109 = .ok (.getfield 35, 3) := by decide +kernel
theorem dX12_plays_112 : decode cX12_plays 112 = .ok (.iconst 1, 1) := by decide +kernel
theorem dX12_plays_113 : decode cX12_plays 113 = .ok (.iaload, 1) := by decide +kernel
theorem dX12_plays_114 : decode cX12_plays 114 = .ok (.if_icmp .ne 7, 3) := by decide +kernel
theorem dX12_plays_117 : decode cX12_plays 117 = .ok (.iconst 1, 1) := by decide +kernel
theorem dX12_plays_118 : decode cX12_plays 118 = .ok (.goto 4, 3) := by decide +kernel
theorem dX12_plays_121 : decode cX12_plays 121 = .ok (.iconst 0, 1) := by decide +kernel
theorem dX12_plays_122 : decode cX12_plays 122 = .ok (.istore 12, 2) := by decide +kernel
theorem dX12_plays_124 : decode cX12_plays 124 = .ok (.iload 12, 2) := by decide +kernel
theorem dX12_plays_126 : decode cX12_plays 126 = .ok (.ifCond .ne 16, 3) := by decide +kernel
theorem dX12_plays_129 : decode cX12_plays 129 = .ok (.iload 8, 2) := by decide +kernel
theorem dX12_plays_131 : decode cX12_plays 131 = .ok (.iload 11, 2) := by decide +kernel
theorem dX12_plays_133 : decode cX12_plays 133 = .ok (.invokestatic 102, 3) := by decide +kernel
theorem dX12_plays_136 : decode cX12_plays 136 = .ok (.ifCond .ne 6, 3) := by decide +kernel
theorem dX12_plays_139 : decode cX12_plays 139 = .ok (.goto 93, 3) := by decide +kernel
theorem dX12_plays_142 : decode cX12_plays 142 = .ok (.iload 12, 2) := by decide +kernel
theorem dX12_plays_144 : decode cX12_plays 144 = .ok (.ifCond .ne 25, 3) := by decide +kernel
theorem dX12_plays_147 : decode cX12_plays 147 = .ok (.aload_n 0, 1) := by decide +kernel
theorem dX12_plays_148 : decode cX12_plays 148 = .ok (.getfield 35, 3) := by decide +kernel
theorem dX12_plays_151 : decode cX12_plays 151 = .ok (.bipush 54, 2) := by decide +kernel
theorem dX12_plays_153 : decode cX12_plays 153 = .ok (.iload 6, 2) := by decide +kernel
theorem dX12_plays_155 : decode cX12_plays 155 = .ok (.iadd, 1) := by decide +kernel
theorem dX12_plays_156 : decode cX12_plays 156 = .ok (.aload_n 0, 1) := by decide +kernel
theorem dX12_plays_157 : decode cX12_plays 157 = .ok (.getfield 35, 3) := by decide +kernel
theorem dX12_plays_160 : decode cX12_plays 160 = .ok (.bipush 24, 2) := by decide +kernel
theorem dX12_plays_162 : decode cX12_plays 162 = .ok (.iload 11, 2) := by decide +kernel
theorem dX12_plays_164 : decode cX12_plays 164 = .ok (.iadd, 1) := by decide +kernel
theorem dX12_plays_165 : decode cX12_plays 165 = .ok (.iaload, 1) := by decide +kernel
theorem dX12_plays_166 : decode cX12_plays 166 = .ok (.iconst 1, 1) := by decide +kernel
theorem dX12_plays_167 : decode cX12_plays 167 = .ok (.iadd, 1) := by decide +kernel
theorem dX12_plays_168 : decode cX12_plays 168 = .ok (.iastore, 1) := by decide +kernel
theorem dX12_plays_169 : decode cX12_plays 169 = .ok (.aload_n 0, 1) := by decide +kernel
theorem dX12_plays_170 : decode cX12_plays 170 = .ok (.iload_n 1, 1) := by decide +kernel
theorem dX12_plays_171 : decode cX12_plays 171 = .ok (.iload_n 2, 1) := by decide +kernel
theorem dX12_plays_172 : decode cX12_plays 172 = .ok (.iload_n 3, 1) := by decide +kernel
theorem dX12_plays_173 : decode cX12_plays 173 = .ok (.iconst 1, 1) := by decide +kernel
theorem dX12_plays_174 : decode cX12_plays 174 = .ok (.iadd, 1) := by decide +kernel
theorem dX12_plays_175 : decode cX12_plays 175 = .ok (.iload 4, 2) := by decide +kernel
theorem dX12_plays_177 : decode cX12_plays 177 = .ok (.invokevirtual 503, 3) := by decide +kernel
theorem dX12_plays_180 : decode cX12_plays 180 = .ok (.istore 13, 2) := by decide +kernel
theorem dX12_plays_182 : decode cX12_plays 182 = .ok (.aload_n 0, 1) := by decide +kernel
theorem dX12_plays_183 : decode cX12_plays 183 = .ok (.getfield 35, 3) := by decide +kernel
theorem dX12_plays_186 : decode cX12_plays 186 = .ok (.bipush 54, 2) := by decide +kernel
theorem dX12_plays_188 : decode cX12_plays 188 = .ok (.iload 6, 2) := by decide +kernel
theorem dX12_plays_190 : decode cX12_plays 190 = .ok (.iadd, 1) := by decide +kernel
theorem dX12_plays_191 : decode cX12_plays 191 = .ok (.iload 7, 2) := by decide +kernel
theorem dX12_plays_193 : decode cX12_plays 193 = .ok (.iastore, 1) := by decide +kernel
theorem dX12_plays_194 : decode cX12_plays 194 = .ok (.iload 10, 2) := by decide +kernel
theorem dX12_plays_196 : decode cX12_plays 196 = .ok (.ifCond .lt 28, 3) := by decide +kernel
theorem dX12_plays_199 : decode cX12_plays 199 = .ok (.iload 5, 2) := by decide +kernel
theorem dX12_plays_201 : decode cX12_plays 201 = .ok (.ifCond .eq 13, 3) := by decide +kernel
theorem dX12_plays_204 : decode cX12_plays 204 = .ok (.iload 13, 2) := by decide +kernel
theorem dX12_plays_206 : decode cX12_plays 206 = .ok (.iload 9, 2) := by decide +kernel
theorem dX12_plays_208 : decode cX12_plays 208 = .ok (.if_icmp .gt 16, 3) := by decide +kernel
theorem dX12_plays_211 : decode cX12_plays 211 = .ok (.goto 21, 3) := by decide +kernel
theorem dX12_plays_214 : decode cX12_plays 214 = .ok (.iload 13, 2) := by decide +kernel
theorem dX12_plays_216 : decode cX12_plays 216 = .ok (.iload 9, 2) := by decide +kernel
theorem dX12_plays_218 : decode cX12_plays 218 = .ok (.if_icmp .lt 6, 3) := by decide +kernel
theorem dX12_plays_221 : decode cX12_plays 221 = .ok (.goto 11, 3) := by decide +kernel
theorem dX12_plays_224 : decode cX12_plays 224 = .ok (.iload 13, 2) := by decide +kernel
theorem dX12_plays_226 : decode cX12_plays 226 = .ok (.istore 9, 2) := by decide +kernel
theorem dX12_plays_228 : decode cX12_plays 228 = .ok (.iload 11, 2) := by decide +kernel
theorem dX12_plays_230 : decode cX12_plays 230 = .ok (.istore 10, 2) := by decide +kernel
theorem dX12_plays_232 : decode cX12_plays 232 = .ok (.iinc 11 1, 3) := by decide +kernel
theorem dX12_plays_235 : decode cX12_plays 235 = .ok (.goto (-140), 3) := by decide +kernel
theorem dX12_plays_238 : decode cX12_plays 238 = .ok (.iload_n 3, 1) := by decide +kernel
theorem dX12_plays_239 : decode cX12_plays 239 = .ok (.ifCond .ne 9, 3) := by decide +kernel
theorem dX12_plays_242 : decode cX12_plays 242 = .ok (.aload_n 0, 1) := by decide +kernel
theorem dX12_plays_243 : decode cX12_plays 243 = .ok (.iload 10, 2) := by decide +kernel
theorem dX12_plays_245 : decode cX12_plays 245 = .ok (.putfield 507, 3) := by decide +kernel
theorem dX12_plays_248 : decode cX12_plays 248 = .ok (.iload 9, 2) := by decide +kernel
theorem dX12_plays_250 : decode cX12_plays 250 = .ok (.ireturn, 1) := by decide +kernel
theorem dX12_whyNoGame_0 : decode cX12_whyNoGame 0 = .ok (.aload_n 0, 1) := by decide +kernel
theorem dX12_whyNoGame_1 : decode cX12_whyNoGame 1 = .ok (.iload_n 1, 1) := by decide +kernel
theorem dX12_whyNoGame_2 : decode cX12_whyNoGame 2 = .ok (.invokevirtual 362, 3) := by decide +kernel
theorem dX12_whyNoGame_5 : decode cX12_whyNoGame 5 = .ok (.ifCond .eq 11, 3) := by decide +kernel
theorem dX12_whyNoGame_8 : decode cX12_whyNoGame 8 = .ok (.aload_n 0, 1) := by decide +kernel
theorem dX12_whyNoGame_9 : decode cX12_whyNoGame 9 = .ok (.iload_n 2, 1) := by decide +kernel
theorem dX12_whyNoGame_10 : decode cX12_whyNoGame 10 = .ok (.invokevirtual 362, 3) := by decide +kernel
theorem dX12_whyNoGame_13 : decode cX12_whyNoGame 13 = .ok (.ifCond .ne 5, 3) := by decide +kernel
theorem dX12_whyNoGame_16 : decode cX12_whyNoGame 16 = .ok (.iconst 2, 1) := by decide +kernel
theorem dX12_whyNoGame_17 : decode cX12_whyNoGame 17 = .ok (.ireturn, 1) := by decide +kernel
theorem dX12_whyNoGame_18 : decode cX12_whyNoGame 18 = .ok (.iload_n 1, 1) := by decide +kernel
theorem dX12_whyNoGame_19 : decode cX12_whyNoGame 19 = .ok (.iload_n 2, 1) := by decide +kernel
theorem dX12_whyNoGame_20 : decode cX12_whyNoGame 20 = .ok (.if_icmp .eq 21, 3) := by decide +kernel
theorem dX12_whyNoGame_23 : decode cX12_whyNoGame 23 = .ok (.iload_n 3, 1) := by decide +kernel
theorem dX12_whyNoGame_24 : decode cX12_whyNoGame 24 = .ok (.i2l, 1) := by decide +kernel
theorem dX12_whyNoGame_25 : decode cX12_whyNoGame 25 = .ok (.iload 4, 2) := by decide +kernel
theorem dX12_whyNoGame_27 : decode cX12_whyNoGame 27 = .ok (.i2l, 1) := by decide +kernel
theorem dX12_whyNoGame_28 : decode cX12_whyNoGame 28 = .ok (.ldc2_w 365, 3) := by decide +kernel
theorem dX12_whyNoGame_31 : decode cX12_whyNoGame 31 = .ok (.invokestatic 98, 3) := by decide +kernel
theorem dX12_whyNoGame_34 : decode cX12_whyNoGame 34 = .ok (.ifCond .eq 7, 3) := by decide +kernel
theorem dX12_whyNoGame_37 : decode cX12_whyNoGame 37 = .ok (.iconst 0, 1) := by decide +kernel
theorem dX12_whyNoGame_38 : decode cX12_whyNoGame 38 = .ok (.goto 4, 3) := by decide +kernel
theorem dX12_whyNoGame_41 : decode cX12_whyNoGame 41 = .ok (.iconst 5, 1) := by decide +kernel
theorem dX12_whyNoGame_42 : decode cX12_whyNoGame 42 = .ok (.ireturn, 1) := by decide +kernel
theorem dX12_game_0 : decode cX12_game 0 = .ok (.aload_n 0, 1) := by decide +kernel
theorem dX12_game_1 : decode cX12_game 1 = .ok (.iconst 0, 1) := by decide +kernel
theorem dX12_game_2 : decode cX12_game 2 = .ok (.putfield 63, 3) := by decide +kernel
theorem dX12_game_5 : decode cX12_game 5 = .ok (.aload_n 0, 1) := by decide +kernel
theorem dX12_game_6 : decode cX12_game 6 = .ok (.aload_n 0, 1) := by decide +kernel
theorem dX12_game_7 : decode cX12_game 7 = .ok (.iload_n 1, 1) := by decide +kernel
theorem dX12_game_8 : decode cX12_game 8 = .ok (.iload_n 2, 1) := by decide +kernel
theorem dX12_game_9 : decode cX12_game 9 = .ok (.iload_n 3, 1) := by decide +kernel
theorem dX12_game_10 : decode cX12_game 10 = .ok (.iconst 0, 1) := by decide +kernel
theorem dX12_game_11 : decode cX12_game 11 = .ok (.invokevirtual 510, 3) := by decide +kernel
theorem dX12_game_14 : decode cX12_game 14 = .ok (.putfield 66, 3) := by decide +kernel
theorem dX12_game_17 : decode cX12_game 17 = .ok (.aload_n 0, 1) := by decide +kernel
theorem dX12_game_18 : decode cX12_game 18 = .ok (.getfield 66, 3) := by decide +kernel
theorem dX12_game_21 : decode cX12_game 21 = .ok (.ifCond .le 7, 3) := by decide +kernel
theorem dX12_game_24 : decode cX12_game 24 = .ok (.iconst (-1), 1) := by decide +kernel
theorem dX12_game_25 : decode cX12_game 25 = .ok (.goto 11, 3) := by decide +kernel
theorem dX12_game_28 : decode cX12_game 28 = .ok (.aload_n 0, 1) := by decide +kernel
theorem dX12_game_29 : decode cX12_game 29 = .ok (.iload_n 1, 1) := by decide +kernel
theorem dX12_game_30 : decode cX12_game 30 = .ok (.iload_n 2, 1) := by decide +kernel
theorem dX12_game_31 : decode cX12_game 31 = .ok (.iconst 0, 1) := by decide +kernel
theorem dX12_game_32 : decode cX12_game 32 = .ok (.iload_n 3, 1) := by decide +kernel
theorem dX12_game_33 : decode cX12_game 33 = .ok (.invokevirtual 503, 3) := by decide +kernel
theorem dX12_game_36 : decode cX12_game 36 = .ok (.ireturn, 1) := by decide +kernel
theorem dX12_moveOf_0 : decode cX12_moveOf 0 = .ok (.aload_n 0, 1) := by decide +kernel
theorem dX12_moveOf_1 : decode cX12_moveOf 1 = .ok (.iconst 0, 1) := by decide +kernel
theorem dX12_moveOf_2 : decode cX12_moveOf 2 = .ok (.putfield 63, 3) := by decide +kernel
theorem dX12_moveOf_5 : decode cX12_moveOf 5 = .ok (.aload_n 0, 1) := by decide +kernel
theorem dX12_moveOf_6 : decode cX12_moveOf 6 = .ok (.aload_n 0, 1) := by decide +kernel
theorem dX12_moveOf_7 : decode cX12_moveOf 7 = .ok (.iload_n 1, 1) := by decide +kernel
theorem dX12_moveOf_8 : decode cX12_moveOf 8 = .ok (.iload_n 2, 1) := by decide +kernel
theorem dX12_moveOf_9 : decode cX12_moveOf 9 = .ok (.iload_n 3, 1) := by decide +kernel
theorem dX12_moveOf_10 : decode cX12_moveOf 10 = .ok (.iconst 1, 1) := by decide +kernel
theorem dX12_moveOf_11 : decode cX12_moveOf 11 = .ok (.invokevirtual 510, 3) := by decide +kernel
theorem dX12_moveOf_14 : decode cX12_moveOf 14 = .ok (.putfield 66, 3) := by decide +kernel
theorem dX12_moveOf_17 : decode cX12_moveOf 17 = .ok (.aload_n 0, 1) := by decide +kernel
theorem dX12_moveOf_18 : decode cX12_moveOf 18 = .ok (.getfield 66, 3) := by decide +kernel
theorem dX12_moveOf_21 : decode cX12_moveOf 21 = .ok (.ifCond .le 5, 3) := by decide +kernel
theorem dX12_moveOf_24 : decode cX12_moveOf 24 = .ok (.iconst (-1), 1) := by decide +kernel
theorem dX12_moveOf_25 : decode cX12_moveOf 25 = .ok (.ireturn, 1) := by decide +kernel
theorem dX12_moveOf_26 : decode cX12_moveOf 26 = .ok (.aload_n 0, 1) := by decide +kernel
theorem dX12_moveOf_27 : decode cX12_moveOf 27 = .ok (.iload_n 1, 1) := by decide +kernel
theorem dX12_moveOf_28 : decode cX12_moveOf 28 = .ok (.iload_n 2, 1) := by decide +kernel
theorem dX12_moveOf_29 : decode cX12_moveOf 29 = .ok (.iconst 0, 1) := by decide +kernel
theorem dX12_moveOf_30 : decode cX12_moveOf 30 = .ok (.iload_n 3, 1) := by decide +kernel
theorem dX12_moveOf_31 : decode cX12_moveOf 31 = .ok (.invokevirtual 503, 3) := by decide +kernel
theorem dX12_moveOf_34 : decode cX12_moveOf 34 = .ok (.pop, 1) := by decide +kernel
theorem dX12_moveOf_35 : decode cX12_moveOf 35 = .ok (.aload_n 0, 1) := by decide +kernel
theorem dX12_moveOf_36 : decode cX12_moveOf 36 = .ok (.getfield 507, 3) := by decide +kernel
theorem dX12_moveOf_39 : decode cX12_moveOf 39 = .ok (.aload_n 0, 1) := by decide +kernel
theorem dX12_moveOf_40 : decode cX12_moveOf 40 = .ok (.getfield 35, 3) := by decide +kernel
theorem dX12_moveOf_43 : decode cX12_moveOf 43 = .ok (.iconst 1, 1) := by decide +kernel
theorem dX12_moveOf_44 : decode cX12_moveOf 44 = .ok (.iaload, 1) := by decide +kernel
theorem dX12_moveOf_45 : decode cX12_moveOf 45 = .ok (.if_icmp .ne 12, 3) := by decide +kernel
theorem dX12_moveOf_48 : decode cX12_moveOf 48 = .ok (.aload_n 0, 1) := by decide +kernel
theorem dX12_moveOf_49 : decode cX12_moveOf 49 = .ok (.bipush 8, 2) := by decide +kernel
theorem dX12_moveOf_51 : decode cX12_moveOf 51 = .ok (.invokevirtual 333, 3) := by decide +kernel
theorem dX12_moveOf_54 : decode cX12_moveOf 54 = .ok (.goto 7, 3) := by decide +kernel
theorem dX12_moveOf_57 : decode cX12_moveOf 57 = .ok (.aload_n 0, 1) := by decide +kernel
theorem dX12_moveOf_58 : decode cX12_moveOf 58 = .ok (.getfield 507, 3) := by decide +kernel
theorem dX12_moveOf_61 : decode cX12_moveOf 61 = .ok (.ireturn, 1) := by decide +kernel
theorem dX12_chutes_0 : decode cX12_chutes 0 = .ok (.aload_n 0, 1) := by decide +kernel
theorem dX12_chutes_1 : decode cX12_chutes 1 = .ok (.iconst 0, 1) := by decide +kernel
theorem dX12_chutes_2 : decode cX12_chutes 2 = .ok (.putfield 63, 3) := by decide +kernel
theorem dX12_chutes_5 : decode cX12_chutes 5 = .ok (.aload_n 0, 1) := by decide +kernel
theorem dX12_chutes_6 : decode cX12_chutes 6 = .ok (.iconst 0, 1) := by decide +kernel
theorem dX12_chutes_7 : decode cX12_chutes 7 = .ok (.putfield 66, 3) := by decide +kernel
theorem dX12_chutes_10 : decode cX12_chutes 10 = .ok (.iload_n 1, 1) := by decide +kernel
theorem dX12_chutes_11 : decode cX12_chutes 11 = .ok (.i2l, 1) := by decide +kernel
theorem dX12_chutes_12 : decode cX12_chutes 12 = .ok (.lconst 0, 1) := by decide +kernel
theorem dX12_chutes_13 : decode cX12_chutes 13 = .ok (.ldc2_w 513, 3) := by decide +kernel
theorem dX12_chutes_16 : decode cX12_chutes 16 = .ok (.invokestatic 98, 3) := by decide +kernel
theorem dX12_chutes_19 : decode cX12_chutes 19 = .ok (.ifCond .ne 9, 3) := by decide +kernel
theorem dX12_chutes_22 : decode cX12_chutes 22 = .ok (.aload_n 0, 1) := by decide +kernel
theorem dX12_chutes_23 : decode cX12_chutes 23 = .ok (.iconst 5, 1) := by decide +kernel
theorem dX12_chutes_24 : decode cX12_chutes 24 = .ok (.invokevirtual 78, 3) := by decide +kernel
theorem dX12_chutes_27 : decode cX12_chutes 27 = .ok (.ireturn, 1) := by decide +kernel
theorem dX12_chutes_28 : decode cX12_chutes 28 = .ok (.lconst 0, 1) := by decide +kernel
theorem dX12_chutes_29 : decode cX12_chutes 29 = .ok (.lstore_n 2, 1) := by decide +kernel
theorem dX12_chutes_30 : decode cX12_chutes 30 = .ok (.lconst 0, 1) := by decide +kernel
theorem dX12_chutes_31 : decode cX12_chutes 31 = .ok (.lstore 4, 2) := by decide +kernel
theorem dX12_chutes_33 : decode cX12_chutes 33 = .ok (.iconst 0, 1) := by decide +kernel
theorem dX12_chutes_34 : decode cX12_chutes 34 = .ok (.istore 6, 2) := by decide +kernel
theorem dX12_chutes_36 : decode cX12_chutes 36 = .ok (.iload 6, 2) := by decide +kernel
theorem dX12_chutes_38 : decode cX12_chutes 38 = .ok (.iconst 1, 1) := by decide +kernel
theorem dX12_chutes_39 : decode cX12_chutes 39 = .ok (.aload_n 0, 1) := by decide +kernel
theorem dX12_chutes_40 : decode cX12_chutes 40 = .ok (.getfield 35, 3) := by decide +kernel
theorem dX12_chutes_43 : decode cX12_chutes 43 = .ok (.iconst 2, 1) := by decide +kernel
theorem dX12_chutes_44 : decode cX12_chutes 44 = .ok (.iaload, 1) := by decide +kernel
theorem dX12_chutes_45 : decode cX12_chutes 45 = .ok (.ishl, 1) := by decide +kernel
theorem dX12_chutes_46 : decode cX12_chutes 46 = .ok (.if_icmp .ge 100, 3) := by decide +kernel
theorem dX12_chutes_49 : decode cX12_chutes 49 = .ok (.lconst 1, 1) := by decide +kernel
theorem dX12_chutes_50 : decode cX12_chutes 50 = .ok (.lstore 7, 2) := by decide +kernel
theorem dX12_chutes_52 : decode cX12_chutes 52 = .ok (.iconst 0, 1) := by decide +kernel
theorem dX12_chutes_53 : decode cX12_chutes 53 = .ok (.istore 9, 2) := by decide +kernel
theorem dX12_chutes_55 : decode cX12_chutes 55 = .ok (.iload 9, 2) := by decide +kernel
theorem dX12_chutes_57 : decode cX12_chutes 57 = .ok (.aload_n 0, 1) := by decide +kernel
theorem dX12_chutes_58 : decode cX12_chutes 58 = .ok (.getfield 35, 3) := by decide +kernel
theorem dX12_chutes_61 : decode cX12_chutes 61 = .ok (.iconst 2, 1) := by decide +kernel
theorem dX12_chutes_62 : decode cX12_chutes 62 = .ok (.iaload, 1) := by decide +kernel
theorem dX12_chutes_63 : decode cX12_chutes 63 = .ok (.if_icmp .ge 52, 3) := by decide +kernel
theorem dX12_chutes_66 : decode cX12_chutes 66 = .ok (.lload 7, 2) := by decide +kernel
theorem dX12_chutes_68 : decode cX12_chutes 68 = .ok (.iload 6, 2) := by decide +kernel
theorem dX12_chutes_70 : decode cX12_chutes 70 = .ok (.iload 9, 2) := by decide +kernel
theorem dX12_chutes_72 : decode cX12_chutes 72 = .ok (.invokestatic 102, 3) := by decide +kernel
theorem dX12_chutes_75 : decode cX12_chutes 75 = .ok (.ifCond .eq 20, 3) := by decide +kernel
theorem dX12_chutes_78 : decode cX12_chutes 78 = .ok (.bipush 16, 2) := by decide +kernel
theorem dX12_chutes_80 : decode cX12_chutes 80 = .ok (.aload_n 0, 1) := by decide +kernel
theorem dX12_chutes_81 : decode cX12_chutes 81 = .ok (.getfield 35, 3) := by decide +kernel
theorem dX12_chutes_84 : decode cX12_chutes 84 = .ok (.bipush 66, 2) := by decide +kernel
theorem dX12_chutes_86 : decode cX12_chutes 86 = .ok (.iload 9, 2) := by decide +kernel
theorem dX12_chutes_88 : decode cX12_chutes 88 = .ok (.iadd, 1) := by decide +kernel
theorem dX12_chutes_89 : decode cX12_chutes 89 = .ok (.iaload, 1) := by decide +kernel
theorem dX12_chutes_90 : decode cX12_chutes 90 = .ok (.isub, 1) := by decide +kernel
theorem dX12_chutes_91 : decode cX12_chutes 91 = .ok (.i2l, 1) := by decide +kernel
theorem dX12_chutes_92 : decode cX12_chutes 92 = .ok (.goto 14, 3) := by decide +kernel
theorem dX12_chutes_95 : decode cX12_chutes 95 = .ok (.aload_n 0, 1) := by decide +kernel
theorem dX12_chutes_96 : decode cX12_chutes 96 = .ok (.getfield 35, 3) := by decide +kernel
theorem dX12_chutes_99 : decode cX12_chutes 99 = .ok (.bipush 66, 2) := by decide +kernel
theorem dX12_chutes_101 : decode cX12_chutes 101 = .ok (.iload 9, 2) := by decide +kernel
theorem dX12_chutes_103 : decode cX12_chutes 103 = .ok (.iadd, 1) := by decide +kernel
theorem dX12_chutes_104 : decode cX12_chutes 104 = .ok (.iaload, 1) := by decide +kernel
theorem dX12_chutes_105 : decode cX12_chutes 105 = .ok (.i2l, 1) := by decide +kernel
theorem dX12_chutes_106 : decode cX12_chutes 106 = .ok (.lmul, 1) := by decide +kernel
theorem dX12_chutes_107 : decode cX12_chutes 107 = .ok (.lstore 7, 2) := by decide +kernel
theorem dX12_chutes_109 : decode cX12_chutes 109 = .ok (.iinc 9 1, 3) := by decide +kernel
theorem dX12_chutes_112 : decode cX12_chutes 112 = .ok (.goto (-57), 3) := by decide +kernel
theorem dX12_chutes_115 : decode cX12_chutes 115 = .ok (.lload_n 2, 1) := by decide +kernel
theorem dX12_chutes_116 : decode cX12_chutes 116 = .ok (.iload 6, 2) := by decide +kernel
theorem dX12_chutes_118 : decode cX12_chutes 118 = .ok (.invokestatic 396, 3) := by decide +kernel
theorem dX12_chutes_121 : decode cX12_chutes 121 = .ok (.iload_n 1, 1) := by decide +kernel
theorem dX12_chutes_122 : decode cX12_chutes 122 = .ok (.if_icmp .lt 8, 3) := by decide +kernel
theorem dX12_chutes_125 : decode cX12_chutes 125 = .ok (.lload 7, 2) := by decide +kernel
theorem dX12_chutes_127 : decode cX12_chutes 127 = .ok (.goto 4, 3) := by decide +kernel
theorem dX12_chutes_130 : decode cX12_chutes 130 = .ok (.lconst 0, 1) := by decide +kernel
theorem dX12_chutes_131 : decode cX12_chutes 131 = .ok (.ladd, 1) := by decide +kernel
theorem dX12_chutes_132 : decode cX12_chutes 132 = .ok (.lstore_n 2, 1) := by decide +kernel
theorem dX12_chutes_133 : decode cX12_chutes 133 = .ok (.lload 4, 2) := by decide +kernel
theorem dX12_chutes_135 : decode cX12_chutes 135 = .ok (.lload 7, 2) := by decide +kernel
theorem dX12_chutes_137 : decode cX12_chutes 137 = .ok (.ladd, 1) := by decide +kernel
theorem dX12_chutes_138 : decode cX12_chutes 138 = .ok (.lstore 4, 2) := by decide +kernel
theorem dX12_chutes_140 : decode cX12_chutes 140 = .ok (.iinc 6 1, 3) := by decide +kernel
theorem dX12_chutes_143 : decode cX12_chutes 143 = .ok (.goto (-107), 3) := by decide +kernel
theorem dX12_chutes_146 : decode cX12_chutes 146 = .ok (.aload_n 0, 1) := by decide +kernel
theorem dX12_chutes_147 : decode cX12_chutes 147 = .ok (.lload_n 2, 1) := by decide +kernel
theorem dX12_chutes_148 : decode cX12_chutes 148 = .ok (.lload 4, 2) := by decide +kernel
theorem dX12_chutes_150 : decode cX12_chutes 150 = .ok (.invokevirtual 429, 3) := by decide +kernel
theorem dX12_chutes_153 : decode cX12_chutes 153 = .ok (.ireturn, 1) := by decide +kernel
theorem dX12_draw_0 : decode cX12_draw 0 = .ok (.aload_n 0, 1) := by decide +kernel
theorem dX12_draw_1 : decode cX12_draw 1 = .ok (.aload_n 0, 1) := by decide +kernel
theorem dX12_draw_2 : decode cX12_draw 2 = .ok (.getfield 515, 3) := by decide +kernel
theorem dX12_draw_5 : decode cX12_draw 5 = .ok (.sipush 2971, 3) := by decide +kernel
theorem dX12_draw_8 : decode cX12_draw 8 = .ok (.imul, 1) := by decide +kernel
theorem dX12_draw_9 : decode cX12_draw 9 = .ok (.sipush 10979, 3) := by decide +kernel
theorem dX12_draw_12 : decode cX12_draw 12 = .ok (.iadd, 1) := by decide +kernel
theorem dX12_draw_13 : decode cX12_draw 13 = .ok (.ldc_w 518, 3) := by decide +kernel
theorem dX12_draw_16 : decode cX12_draw 16 = .ok (.irem, 1) := by decide +kernel
theorem dX12_draw_17 : decode cX12_draw 17 = .ok (.putfield 515, 3) := by decide +kernel
theorem dX12_draw_20 : decode cX12_draw 20 = .ok (.aload_n 0, 1) := by decide +kernel
theorem dX12_draw_21 : decode cX12_draw 21 = .ok (.getfield 515, 3) := by decide +kernel
theorem dX12_draw_24 : decode cX12_draw 24 = .ok (.bipush 8, 2) := by decide +kernel
theorem dX12_draw_26 : decode cX12_draw 26 = .ok (.idiv, 1) := by decide +kernel
theorem dX12_draw_27 : decode cX12_draw 27 = .ok (.iload_n 1, 1) := by decide +kernel
theorem dX12_draw_28 : decode cX12_draw 28 = .ok (.irem, 1) := by decide +kernel
theorem dX12_draw_29 : decode cX12_draw 29 = .ok (.ireturn, 1) := by decide +kernel
theorem dX12_isSaid_0 : decode cX12_isSaid 0 = .ok (.aload_n 0, 1) := by decide +kernel
theorem dX12_isSaid_1 : decode cX12_isSaid 1 = .ok (.iload_n 1, 1) := by decide +kernel
theorem dX12_isSaid_2 : decode cX12_isSaid 2 = .ok (.iload_n 2, 1) := by decide +kernel
theorem dX12_isSaid_3 : decode cX12_isSaid 3 = .ok (.invokevirtual 377, 3) := by decide +kernel
theorem dX12_isSaid_6 : decode cX12_isSaid 6 = .ok (.istore_n 3, 1) := by decide +kernel
theorem dX12_isSaid_7 : decode cX12_isSaid 7 = .ok (.aload_n 0, 1) := by decide +kernel
theorem dX12_isSaid_8 : decode cX12_isSaid 8 = .ok (.dup, 1) := by decide +kernel
theorem dX12_isSaid_9 : decode cX12_isSaid 9 = .ok (.getfield 519, 3) := by decide +kernel
theorem dX12_isSaid_12 : decode cX12_isSaid 12 = .ok (.iload_n 3, 1) := by decide +kernel
theorem dX12_isSaid_13 : decode cX12_isSaid 13 = .ok (.ifCond .eq 15, 3) := by decide +kernel
theorem dX12_isSaid_16 : decode cX12_isSaid 16 = .ok (.aload_n 0, 1) := by decide +kernel
theorem dX12_isSaid_17 : decode cX12_isSaid 17 = .ok (.getfield 35, 3) := by decide +kernel
theorem dX12_isSaid_20 : decode cX12_isSaid 20 = .ok (.bipush 60, 2) := by decide +kernel
theorem dX12_isSaid_22 : decode cX12_isSaid 22 = .ok (.iload_n 1, 1) := by decide +kernel
theorem dX12_isSaid_23 : decode cX12_isSaid 23 = .ok (.iadd, 1) := by decide +kernel
theorem dX12_isSaid_24 : decode cX12_isSaid 24 = .ok (.iaload, 1) := by decide +kernel
theorem dX12_isSaid_25 : decode cX12_isSaid 25 = .ok (.goto 4, 3) := by decide +kernel
theorem dX12_isSaid_28 : decode cX12_isSaid 28 = .ok (.iconst 0, 1) := by decide +kernel
theorem dX12_isSaid_29 : decode cX12_isSaid 29 = .ok (.iadd, 1) := by decide +kernel
theorem dX12_isSaid_30 : decode cX12_isSaid 30 = .ok (.putfield 519, 3) := by decide +kernel
theorem dX12_isSaid_33 : decode cX12_isSaid 33 = .ok (.iload_n 3, 1) := by decide +kernel
theorem dX12_isSaid_34 : decode cX12_isSaid 34 = .ok (.ireturn, 1) := by decide +kernel
theorem dX12_isPulled_0 : decode cX12_isPulled 0 = .ok (.aload_n 0, 1) := by decide +kernel
theorem dX12_isPulled_1 : decode cX12_isPulled 1 = .ok (.getfield 35, 3) := by decide +kernel
theorem dX12_isPulled_4 : decode cX12_isPulled 4 = .ok (.bipush 60, 2) := by decide +kernel
theorem dX12_isPulled_6 : decode cX12_isPulled 6 = .ok (.iload_n 1, 1) := by decide +kernel
theorem dX12_isPulled_7 : decode cX12_isPulled 7 = .ok (.iadd, 1) := by decide +kernel
theorem dX12_isPulled_8 : decode cX12_isPulled 8 = .ok (.iaload, 1) := by decide +kernel
theorem dX12_isPulled_9 : decode cX12_isPulled 9 = .ok (.ifCond .ne 5, 3) := by decide +kernel
theorem dX12_isPulled_12 : decode cX12_isPulled 12 = .ok (.iconst 0, 1) := by decide +kernel
theorem dX12_isPulled_13 : decode cX12_isPulled 13 = .ok (.ireturn, 1) := by decide +kernel
theorem dX12_isPulled_14 : decode cX12_isPulled 14 = .ok (.aload_n 0, 1) := by decide +kernel
theorem dX12_isPulled_15 : decode cX12_isPulled 15 = .ok (.dup, 1) := by decide +kernel
theorem dX12_isPulled_16 : decode cX12_isPulled 16 = .ok (.getfield 522, 3) := by decide +kernel
theorem dX12_isPulled_19 : decode cX12_isPulled 19 = .ok (.iconst 1, 1) := by decide +kernel
theorem dX12_isPulled_20 : decode cX12_isPulled 20 = .ok (.iadd, 1) := by decide +kernel
theorem dX12_isPulled_21 : decode cX12_isPulled 21 = .ok (.putfield 522, 3) := by decide +kernel
theorem dX12_isPulled_24 : decode cX12_isPulled 24 = .ok (.aload_n 0, 1) := by decide +kernel
theorem dX12_isPulled_25 : decode cX12_isPulled 25 = .ok (.iload_n 1, 1) := by decide +kernel
theorem dX12_isPulled_26 : decode cX12_isPulled 26 = .ok (.aload_n 0, 1) := by decide +kernel
theorem dX12_isPulled_27 : decode cX12_isPulled 27 = .ok (.bipush 16, 2) := by decide +kernel
theorem dX12_isPulled_29 : decode cX12_isPulled 29 = .ok (.invokevirtual 525, 3) := by decide +kernel
theorem dX12_isPulled_32 : decode cX12_isPulled 32 = .ok (.aload_n 0, 1) := by decide +kernel
theorem dX12_isPulled_33 : decode cX12_isPulled 33 = .ok (.getfield 35, 3) := by decide +kernel
theorem dX12_isPulled_36 : decode cX12_isPulled 36 = .ok (.bipush 66, 2) := by decide +kernel
theorem dX12_isPulled_38 : decode cX12_isPulled 38 = .ok (.iload_n 1, 1) := by decide +kernel
theorem dX12_isPulled_39 : decode cX12_isPulled 39 = .ok (.iadd, 1) := by decide +kernel
theorem dX12_isPulled_40 : decode cX12_isPulled 40 = .ok (.iaload, 1) := by decide +kernel
theorem dX12_isPulled_41 : decode cX12_isPulled 41 = .ok (.if_icmp .lt 7, 3) := by decide +kernel
theorem dX12_isPulled_44 : decode cX12_isPulled 44 = .ok (.iconst 1, 1) := by decide +kernel
theorem dX12_isPulled_45 : decode cX12_isPulled 45 = .ok (.goto 4, 3) := by decide +kernel
theorem dX12_isPulled_48 : decode cX12_isPulled 48 = .ok (.iconst 0, 1) := by decide +kernel
theorem dX12_isPulled_49 : decode cX12_isPulled 49 = .ok (.invokevirtual 389, 3) := by decide +kernel
theorem dX12_isPulled_52 : decode cX12_isPulled 52 = .ok (.ireturn, 1) := by decide +kernel
theorem dX12_isAny_0 : decode cX12_isAny 0 = .ok (.aload_n 0, 1) := by decide +kernel
theorem dX12_isAny_1 : decode cX12_isAny 1 = .ok (.getfield 35, 3) := by decide +kernel
theorem dX12_isAny_4 : decode cX12_isAny 4 = .ok (.iconst 2, 1) := by decide +kernel
theorem dX12_isAny_5 : decode cX12_isAny 5 = .ok (.iaload, 1) := by decide +kernel
theorem dX12_isAny_6 : decode cX12_isAny 6 = .ok (.ifCond .eq 12, 3) := by decide +kernel
theorem dX12_isAny_9 : decode cX12_isAny 9 = .ok (.aload_n 0, 1) := by decide +kernel
theorem dX12_isAny_10 : decode cX12_isAny 10 = .ok (.getfield 35, 3) := by decide +kernel
theorem dX12_isAny_13 : decode cX12_isAny 13 = .ok (.iconst 1, 1) := by decide +kernel
theorem dX12_isAny_14 : decode cX12_isAny 14 = .ok (.iaload, 1) := by decide +kernel
theorem dX12_isAny_15 : decode cX12_isAny 15 = .ok (.ifCond .ne 5, 3) := by decide +kernel
theorem dX12_isAny_18 : decode cX12_isAny 18 = .ok (.iconst 0, 1) := by decide +kernel
theorem dX12_isAny_19 : decode cX12_isAny 19 = .ok (.ireturn, 1) := by decide +kernel
theorem dX12_isAny_20 : decode cX12_isAny 20 = .ok (.aload_n 0, 1) := by decide +kernel
theorem dX12_isAny_21 : decode cX12_isAny 21 = .ok (.aload_n 0, 1) := by decide +kernel
theorem dX12_isAny_22 : decode cX12_isAny 22 = .ok (.getfield 35, 3) := by decide +kernel
theorem dX12_isAny_25 : decode cX12_isAny 25 = .ok (.iconst 2, 1) := by decide +kernel
theorem dX12_isAny_26 : decode cX12_isAny 26 = .ok (.iaload, 1) := by decide +kernel
theorem dX12_isAny_27 : decode cX12_isAny 27 = .ok (.invokevirtual 525, 3) := by decide +kernel
theorem dX12_isAny_30 : decode cX12_isAny 30 = .ok (.istore_n 1, 1) := by decide +kernel
theorem dX12_isAny_31 : decode cX12_isAny 31 = .ok (.aload_n 0, 1) := by decide +kernel
theorem dX12_isAny_32 : decode cX12_isAny 32 = .ok (.aload_n 0, 1) := by decide +kernel
theorem dX12_isAny_33 : decode cX12_isAny 33 = .ok (.getfield 35, 3) := by decide +kernel
theorem dX12_isAny_36 : decode cX12_isAny 36 = .ok (.iconst 1, 1) := by decide +kernel
theorem dX12_isAny_37 : decode cX12_isAny 37 = .ok (.iaload, 1) := by decide +kernel
theorem dX12_isAny_38 : decode cX12_isAny 38 = .ok (.invokevirtual 525, 3) := by decide +kernel
theorem dX12_isAny_41 : decode cX12_isAny 41 = .ok (.istore_n 2, 1) := by decide +kernel
theorem dX12_isAny_42 : decode cX12_isAny 42 = .ok (.aload_n 0, 1) := by decide +kernel
theorem dX12_isAny_43 : decode cX12_isAny 43 = .ok (.getfield 35, 3) := by decide +kernel
theorem dX12_isAny_46 : decode cX12_isAny 46 = .ok (.bipush 60, 2) := by decide +kernel
theorem dX12_isAny_48 : decode cX12_isAny 48 = .ok (.iload_n 1, 1) := by decide +kernel
theorem dX12_isAny_49 : decode cX12_isAny 49 = .ok (.iadd, 1) := by decide +kernel
theorem dX12_isAny_50 : decode cX12_isAny 50 = .ok (.iaload, 1) := by decide +kernel
theorem dX12_isAny_51 : decode cX12_isAny 51 = .ok (.iconst 1, 1) := by decide +kernel
theorem dX12_isAny_52 : decode cX12_isAny 52 = .ok (.if_icmp .ne 11, 3) := by decide +kernel
theorem dX12_isAny_55 : decode cX12_isAny 55 = .ok (.aload_n 0, 1) := by decide +kernel
theorem dX12_isAny_56 : decode cX12_isAny 56 = .ok (.iload_n 1, 1) := by decide +kernel
theorem dX12_isAny_57 : decode cX12_isAny 57 = .ok (.invokevirtual 528, 3) := by decide +kernel
theorem dX12_isAny_60 : decode cX12_isAny 60 = .ok (.goto 9, 3) := by decide +kernel
theorem dX12_isAny_63 : decode cX12_isAny 63 = .ok (.aload_n 0, 1) := by decide +kernel
theorem dX12_isAny_64 : decode cX12_isAny 64 = .ok (.iload_n 1, 1) := by decide +kernel
theorem dX12_isAny_65 : decode cX12_isAny 65 = .ok (.iload_n 2, 1) := by decide +kernel
theorem dX12_isAny_66 : decode cX12_isAny 66 = .ok (.invokevirtual 531, 3) := by decide +kernel
theorem dX12_isAny_69 : decode cX12_isAny 69 = .ok (.ireturn, 1) := by decide +kernel
theorem dX12_does_0 : decode cX12_does 0 = .ok (.aload_n 0, 1) := by decide +kernel
theorem dX12_does_1 : decode cX12_does 1 = .ok (.getfield 35, 3) := by decide +kernel
theorem dX12_does_4 : decode cX12_does 4 = .ok (.iload_n 1, 1) := by decide +kernel
theorem dX12_does_5 : decode cX12_does 5 = .ok (.iaload, 1) := by decide +kernel
theorem dX12_does_6 : decode cX12_does 6 = .ok (.istore_n 2, 1) := by decide +kernel
theorem dX12_does_7 : decode cX12_does 7 = .ok (.aload_n 0, 1) := by decide +kernel
theorem dX12_does_8 : decode cX12_does 8 = .ok (.getfield 35, 3) := by decide +kernel
theorem dX12_does_11 : decode cX12_does 11 = .ok (.iload_n 1, 1) := by decide +kernel
theorem dX12_does_12 : decode cX12_does 12 = .ok (.iconst 1, 1) := by decide +kernel
theorem dX12_does_13 : decode cX12_does 13 = .ok (.iadd, 1) := by decide +kernel
theorem dX12_does_14 : decode cX12_does 14 = .ok (.iaload, 1) := by decide +kernel
theorem dX12_does_15 : decode cX12_does 15 = .ok (.istore_n 3, 1) := by decide +kernel
theorem dX12_does_16 : decode cX12_does 16 = .ok (.iload_n 2, 1) := by decide +kernel
theorem dX12_does_17 : decode cX12_does 17 = .ok (.ifCond .ne 17, 3) := by decide +kernel
theorem dX12_does_20 : decode cX12_does 20 = .ok (.aload_n 0, 1) := by decide +kernel
theorem dX12_does_21 : decode cX12_does 21 = .ok (.iload_n 3, 1) := by decide +kernel
theorem dX12_does_22 : decode cX12_does 22 = .ok (.aload_n 0, 1) := by decide +kernel
theorem dX12_does_23 : decode cX12_does 23 = .ok (.getfield 35, 3) := by decide +kernel
theorem dX12_does_26 : decode cX12_does 26 = .ok (.iload_n 1, 1) := by decide +kernel
theorem dX12_does_27 : decode cX12_does 27 = .ok (.iconst 2, 1) := by decide +kernel
theorem dX12_does_28 : decode cX12_does 28 = .ok (.iadd, 1) := by decide +kernel
theorem dX12_does_29 : decode cX12_does 29 = .ok (.iaload, 1) := by decide +kernel
theorem dX12_does_30 : decode cX12_does 30 = .ok (.invokevirtual 531, 3) := by decide +kernel
theorem dX12_does_33 : decode cX12_does 33 = .ok (.ireturn, 1) := by decide +kernel
theorem dX12_does_34 : decode cX12_does 34 = .ok (.iload_n 2, 1) := by decide +kernel
theorem dX12_does_35 : decode cX12_does 35 = .ok (.iconst 1, 1) := by decide +kernel
theorem dX12_does_36 : decode cX12_does 36 = .ok (.if_icmp .ne 17, 3) := by decide +kernel
theorem dX12_does_39 : decode cX12_does 39 = .ok (.aload_n 0, 1) := by decide +kernel
theorem dX12_does_40 : decode cX12_does 40 = .ok (.iload_n 3, 1) := by decide +kernel
theorem dX12_does_41 : decode cX12_does 41 = .ok (.aload_n 0, 1) := by decide +kernel
theorem dX12_does_42 : decode cX12_does 42 = .ok (.getfield 35, 3) := by decide +kernel
theorem dX12_does_45 : decode cX12_does 45 = .ok (.iload_n 1, 1) := by decide +kernel
theorem dX12_does_46 : decode cX12_does 46 = .ok (.iconst 2, 1) := by decide +kernel
theorem dX12_does_47 : decode cX12_does 47 = .ok (.iadd, 1) := by decide +kernel
theorem dX12_does_48 : decode cX12_does 48 = .ok (.iaload, 1) := by decide +kernel
theorem dX12_does_49 : decode cX12_does 49 = .ok (.invokevirtual 383, 3) := by decide +kernel
theorem dX12_does_52 : decode cX12_does 52 = .ok (.ireturn, 1) := by decide +kernel
theorem dX12_does_53 : decode cX12_does 53 = .ok (.iload_n 2, 1) := by decide +kernel
theorem dX12_does_54 : decode cX12_does 54 = .ok (.iconst 2, 1) := by decide +kernel
theorem dX12_does_55 : decode cX12_does 55 = .ok (.if_icmp .ne 9, 3) := by decide +kernel
theorem dX12_does_58 : decode cX12_does 58 = .ok (.aload_n 0, 1) := by decide +kernel
theorem dX12_does_59 : decode cX12_does 59 = .ok (.iload_n 3, 1) := by decide +kernel
theorem dX12_does_60 : decode cX12_does 60 = .ok (.invokevirtual 528, 3) := by decide +kernel
theorem dX12_does_63 : decode cX12_does 63 = .ok (.ireturn, 1) := by decide +kernel
theorem dX12_does_64 : decode cX12_does 64 = .ok (.iload_n 2, 1) := by decide +kernel
theorem dX12_does_65 : decode cX12_does 65 = .ok (.iconst 5, 1) := by decide +kernel
theorem dX12_does_66 : decode cX12_does 66 = .ok (.if_icmp .ne 10, 3) := by decide +kernel
theorem dX12_does_69 : decode cX12_does 69 = .ok (.aload_n 0, 1) := by decide +kernel
theorem dX12_does_70 : decode cX12_does 70 = .ok (.invokevirtual 534, 3) := by decide +kernel
theorem dX12_does_73 : decode cX12_does 73 = .ok (.goto 21, 3) := by decide +kernel
theorem dX12_does_76 : decode cX12_does 76 = .ok (.aload_n 0, 1) := by decide +kernel
theorem dX12_does_77 : decode cX12_does 77 = .ok (.bipush 40, 2) := by decide +kernel
theorem dX12_does_79 : decode cX12_does 79 = .ok (.iload_n 3, 1) := by decide +kernel
theorem dX12_does_80 : decode cX12_does 80 = .ok (.iadd, 1) := by decide +kernel
theorem dX12_does_81 : decode cX12_does 81 = .ok (.iload_n 2, 1) := by decide +kernel
theorem dX12_does_82 : decode cX12_does 82 = .ok (.iconst 3, 1) := by decide +kernel
theorem dX12_does_83 : decode cX12_does 83 = .ok (.if_icmp .ne 7, 3) := by decide +kernel
theorem dX12_does_86 : decode cX12_does 86 = .ok (.iconst 1, 1) := by decide +kernel
theorem dX12_does_87 : decode cX12_does 87 = .ok (.goto 4, 3) := by decide +kernel
theorem dX12_does_90 : decode cX12_does 90 = .ok (.iconst 0, 1) := by decide +kernel
theorem dX12_does_91 : decode cX12_does 91 = .ok (.invokevirtual 393, 3) := by decide +kernel
theorem dX12_does_94 : decode cX12_does 94 = .ok (.ireturn, 1) := by decide +kernel
theorem dX12_holds_0 : decode cX12_holds 0 = .ok (.aload_n 0, 1) := by decide +kernel
theorem dX12_holds_1 : decode cX12_holds 1 = .ok (.getfield 35, 3) := by decide +kernel
theorem dX12_holds_4 : decode cX12_holds 4 = .ok (.iload_n 1, 1) := by decide +kernel
theorem dX12_holds_5 : decode cX12_holds 5 = .ok (.iconst 5, 1) := by decide +kernel
theorem dX12_holds_6 : decode cX12_holds 6 = .ok (.iadd, 1) := by decide +kernel
theorem dX12_holds_7 : decode cX12_holds 7 = .ok (.iaload, 1) := by decide +kernel
theorem dX12_holds_8 : decode cX12_holds 8 = .ok (.istore_n 2, 1) := by decide +kernel
theorem dX12_holds_9 : decode cX12_holds 9 = .ok (.aload_n 0, 1) := by decide +kernel
theorem dX12_holds_10 : decode cX12_holds 10 = .ok (.getfield 35, 3) := by decide +kernel
theorem dX12_holds_13 : decode cX12_holds 13 = .ok (.iload_n 1, 1) := by decide +kernel
theorem dX12_holds_14 : decode cX12_holds 14 = .ok (.iconst 1, 1) := by decide +kernel
theorem dX12_holds_15 : decode cX12_holds 15 = .ok (.iadd, 1) := by decide +kernel
theorem dX12_holds_16 : decode cX12_holds 16 = .ok (.iaload, 1) := by decide +kernel
theorem dX12_holds_17 : decode cX12_holds 17 = .ok (.istore_n 3, 1) := by decide +kernel
theorem dX12_holds_18 : decode cX12_holds 18 = .ok (.iload_n 2, 1) := by decide +kernel
theorem dX12_holds_19 : decode cX12_holds 19 = .ok (.ifCond .ne 17, 3) := by decide +kernel
theorem dX12_holds_22 : decode cX12_holds 22 = .ok (.aload_n 0, 1) := by decide +kernel
theorem dX12_holds_23 : decode cX12_holds 23 = .ok (.iload_n 3, 1) := by decide +kernel
theorem dX12_holds_24 : decode cX12_holds 24 = .ok (.invokevirtual 354, 3) := by decide +kernel
theorem dX12_holds_27 : decode cX12_holds 27 = .ok (.ifCond .ne 7, 3) := by decide +kernel
theorem dX12_holds_30 : decode cX12_holds 30 = .ok (.iconst 1, 1) := by decide +kernel
theorem dX12_holds_31 : decode cX12_holds 31 = .ok (.goto 4, 3) := by decide +kernel
theorem dX12_holds_34 : decode cX12_holds 34 = .ok (.iconst 0, 1) := by decide +kernel
theorem dX12_holds_35 : decode cX12_holds 35 = .ok (.ireturn, 1) := by decide +kernel
theorem dX12_holds_36 : decode cX12_holds 36 = .ok (.iload_n 2, 1) := by decide +kernel
theorem dX12_holds_37 : decode cX12_holds 37 = .ok (.iconst 1, 1) := by decide +kernel
theorem dX12_holds_38 : decode cX12_holds 38 = .ok (.if_icmp .ne 22, 3) := by decide +kernel
theorem dX12_holds_41 : decode cX12_holds 41 = .ok (.aload_n 0, 1) := by decide +kernel
theorem dX12_holds_42 : decode cX12_holds 42 = .ok (.getfield 35, 3) := by decide +kernel
theorem dX12_holds_45 : decode cX12_holds 45 = .ok (.bipush 60, 2) := by decide +kernel
theorem dX12_holds_47 : decode cX12_holds 47 = .ok (.iload_n 3, 1) := by decide +kernel
theorem dX12_holds_48 : decode cX12_holds 48 = .ok (.iadd, 1) := by decide +kernel
theorem dX12_holds_49 : decode cX12_holds 49 = .ok (.iaload, 1) := by decide +kernel
theorem dX12_holds_50 : decode cX12_holds 50 = .ok (.iconst 1, 1) := by decide +kernel
theorem dX12_holds_51 : decode cX12_holds 51 = .ok (.if_icmp .ne 7, 3) := by decide +kernel
theorem dX12_holds_54 : decode cX12_holds 54 = .ok (.iconst 1, 1) := by decide +kernel
theorem dX12_holds_55 : decode cX12_holds 55 = .ok (.goto 4, 3) := by decide +kernel
theorem dX12_holds_58 : decode cX12_holds 58 = .ok (.iconst 0, 1) := by decide +kernel
theorem dX12_holds_59 : decode cX12_holds 59 = .ok (.ireturn, 1) := by decide +kernel
theorem dX12_holds_60 : decode cX12_holds 60 = .ok (.aload_n 0, 1) := by decide +kernel
theorem dX12_holds_61 : decode cX12_holds 61 = .ok (.getfield 35, 3) := by decide +kernel
theorem dX12_holds_64 : decode cX12_holds 64 = .ok (.bipush 54, 2) := by decide +kernel
theorem dX12_holds_66 : decode cX12_holds 66 = .ok (.iload_n 3, 1) := by decide +kernel
theorem dX12_holds_67 : decode cX12_holds 67 = .ok (.iadd, 1) := by decide +kernel
theorem dX12_holds_68 : decode cX12_holds 68 = .ok (.iaload, 1) := by decide +kernel
theorem dX12_holds_69 : decode cX12_holds 69 = .ok (.istore 4, 2) := by decide +kernel
theorem dX12_holds_71 : decode cX12_holds 71 = .ok (.aload_n 0, 1) := by decide +kernel
theorem dX12_holds_72 : decode cX12_holds 72 = .ok (.getfield 35, 3) := by decide +kernel
theorem dX12_holds_75 : decode cX12_holds 75 = .ok (.iload_n 1, 1) := by decide +kernel
theorem dX12_holds_76 : decode cX12_holds 76 = .ok (.bipush 7, 2) := by decide +kernel
theorem dX12_holds_78 : decode cX12_holds 78 = .ok (.iadd, 1) := by decide +kernel
theorem dX12_holds_79 : decode cX12_holds 79 = .ok (.iaload, 1) := by decide +kernel
theorem dX12_holds_80 : decode cX12_holds 80 = .ok (.bipush 60, 2) := by decide +kernel
theorem dX12_holds_82 : decode cX12_holds 82 = .ok (.if_icmp .ne 25, 3) := by decide +kernel
theorem dX12_holds_85 : decode cX12_holds 85 = .ok (.iload 4, 2) := by decide +kernel
theorem dX12_holds_87 : decode cX12_holds 87 = .ok (.aload_n 0, 1) := by decide +kernel
theorem dX12_holds_88 : decode cX12_holds 88 = .ok (.getfield 35, 3) := by decide +kernel
theorem dX12_holds_91 : decode cX12_holds 91 = .ok (.iload_n 1, 1) := by decide +kernel
theorem dX12_holds_92 : decode cX12_holds 92 = .ok (.bipush 6, 2) := by decide +kernel
theorem dX12_holds_94 : decode cX12_holds 94 = .ok (.iadd, 1) := by decide +kernel
theorem dX12_holds_95 : decode cX12_holds 95 = .ok (.iaload, 1) := by decide +kernel
theorem dX12_holds_96 : decode cX12_holds 96 = .ok (.if_icmp .ge 7, 3) := by decide +kernel
theorem dX12_holds_99 : decode cX12_holds 99 = .ok (.iconst 1, 1) := by decide +kernel
theorem dX12_holds_100 : decode cX12_holds 100 = .ok (.goto 62, 3) := by decide +kernel
theorem dX12_holds_103 : decode cX12_holds 103 = .ok (.iconst 0, 1) := by decide +kernel
theorem dX12_holds_104 : decode cX12_holds 104 = .ok (.goto 58, 3) := by decide +kernel
theorem dX12_holds_107 : decode cX12_holds 107 = .ok (.aload_n 0, 1) := by decide +kernel
theorem dX12_holds_108 : decode cX12_holds 108 = .ok (.getfield 35, 3) := by decide +kernel
theorem dX12_holds_111 : decode cX12_holds 111 = .ok (.iload_n 1, 1) := by decide +kernel
theorem dX12_holds_112 : decode cX12_holds 112 = .ok (.bipush 7, 2) := by decide +kernel
theorem dX12_holds_114 : decode cX12_holds 114 = .ok (.iadd, 1) := by decide +kernel
theorem dX12_holds_115 : decode cX12_holds 115 = .ok (.iaload, 1) := by decide +kernel
theorem dX12_holds_116 : decode cX12_holds 116 = .ok (.bipush 62, 2) := by decide +kernel
theorem dX12_holds_118 : decode cX12_holds 118 = .ok (.if_icmp .ne 25, 3) := by decide +kernel
theorem dX12_holds_121 : decode cX12_holds 121 = .ok (.iload 4, 2) := by decide +kernel
theorem dX12_holds_123 : decode cX12_holds 123 = .ok (.aload_n 0, 1) := by decide +kernel
theorem dX12_holds_124 : decode cX12_holds 124 = .ok (.getfield 35, 3) := by decide +kernel
theorem dX12_holds_127 : decode cX12_holds 127 = .ok (.iload_n 1, 1) := by decide +kernel
theorem dX12_holds_128 : decode cX12_holds 128 = .ok (.bipush 6, 2) := by decide +kernel
theorem dX12_holds_130 : decode cX12_holds 130 = .ok (.iadd, 1) := by decide +kernel
theorem dX12_holds_131 : decode cX12_holds 131 = .ok (.iaload, 1) := by decide +kernel
theorem dX12_holds_132 : decode cX12_holds 132 = .ok (.if_icmp .le 7, 3) := by decide +kernel
theorem dX12_holds_135 : decode cX12_holds 135 = .ok (.iconst 1, 1) := by decide +kernel
theorem dX12_holds_136 : decode cX12_holds 136 = .ok (.goto 26, 3) := by decide +kernel
theorem dX12_holds_139 : decode cX12_holds 139 = .ok (.iconst 0, 1) := by decide +kernel
theorem dX12_holds_140 : decode cX12_holds 140 = .ok (.goto 22, 3) := by decide +kernel
theorem dX12_holds_143 : decode cX12_holds 143 = .ok (.iload 4, 2) := by decide +kernel
theorem dX12_holds_145 : decode cX12_holds 145 = .ok (.aload_n 0, 1) := by decide +kernel
theorem dX12_holds_146 : decode cX12_holds 146 = .ok (.getfield 35, 3) := by decide +kernel
theorem dX12_holds_149 : decode cX12_holds 149 = .ok (.iload_n 1, 1) := by decide +kernel
theorem dX12_holds_150 : decode cX12_holds 150 = .ok (.bipush 6, 2) := by decide +kernel
theorem dX12_holds_152 : decode cX12_holds 152 = .ok (.iadd, 1) := by decide +kernel
theorem dX12_holds_153 : decode cX12_holds 153 = .ok (.iaload, 1) := by decide +kernel
theorem dX12_holds_154 : decode cX12_holds 154 = .ok (.if_icmp .ne 7, 3) := by decide +kernel
theorem dX12_holds_157 : decode cX12_holds 157 = .ok (.iconst 1, 1) := by decide +kernel
theorem dX12_holds_158 : decode cX12_holds 158 = .ok (.goto 4, 3) := by decide +kernel
theorem dX12_holds_161 : decode cX12_holds 161 = .ok (.iconst 0, 1) := by decide +kernel
theorem dX12_holds_162 : decode cX12_holds 162 = .ok (.ireturn, 1) := by decide +kernel
theorem dX12_doOne_0 : decode cX12_doOne 0 = .ok (.aload_n 0, 1) := by decide +kernel
theorem dX12_doOne_1 : decode cX12_doOne 1 = .ok (.getfield 537, 3) := by decide +kernel
theorem dX12_doOne_4 : decode cX12_doOne 4 = .ok (.sipush 300, 3) := by decide +kernel
theorem dX12_doOne_7 : decode cX12_doOne 7 = .ok (.if_icmp .ne 14, 3) := by decide +kernel
theorem dX12_doOne_10 : decode cX12_doOne 10 = .ok (.aload_n 0, 1) := by decide +kernel
theorem dX12_doOne_11 : decode cX12_doOne 11 = .ok (.iconst 1, 1) := by decide +kernel
theorem dX12_doOne_12 : decode cX12_doOne 12 = .ok (.putfield 540, 3) := by decide +kernel
theorem dX12_doOne_15 : decode cX12_doOne 15 = .ok (.aload_n 0, 1) := by decide +kernel
theorem dX12_doOne_16 : decode cX12_doOne 16 = .ok (.iconst 1, 1) := by decide +kernel
theorem dX12_doOne_17 : decode cX12_doOne 17 = .ok (.putfield 543, 3) := by decide +kernel
theorem dX12_doOne_20 : decode cX12_doOne 20 = .ok (.return_, 1) := by decide +kernel
theorem dX12_doOne_21 : decode cX12_doOne 21 = .ok (.aload_n 0, 1) := by decide +kernel
theorem dX12_doOne_22 : decode cX12_doOne 22 = .ok (.dup, 1) := by decide +kernel
theorem dX12_doOne_23 : decode cX12_doOne 23 = .ok (.getfield 537, 3) := by decide +kernel
theorem dX12_doOne_26 : decode cX12_doOne 26 = .ok (.iconst 1, 1) := by decide +kernel
theorem dX12_doOne_27 : decode cX12_doOne 27 = .ok (.iadd, 1) := by decide +kernel
theorem dX12_doOne_28 : decode cX12_doOne 28 = .ok (.putfield 537, 3) := by decide +kernel
theorem dX12_doOne_31 : decode cX12_doOne 31 = .ok (.bipush 94, 2) := by decide +kernel
theorem dX12_doOne_33 : decode cX12_doOne 33 = .ok (.bipush 9, 2) := by decide +kernel
theorem dX12_doOne_35 : decode cX12_doOne 35 = .ok (.iload_n 1, 1) := by decide +kernel
theorem dX12_doOne_36 : decode cX12_doOne 36 = .ok (.imul, 1) := by decide +kernel
theorem dX12_doOne_37 : decode cX12_doOne 37 = .ok (.iadd, 1) := by decide +kernel
theorem dX12_doOne_38 : decode cX12_doOne 38 = .ok (.istore_n 2, 1) := by decide +kernel
theorem dX12_doOne_39 : decode cX12_doOne 39 = .ok (.aload_n 0, 1) := by decide +kernel
theorem dX12_doOne_40 : decode cX12_doOne 40 = .ok (.getfield 35, 3) := by decide +kernel
theorem dX12_doOne_43 : decode cX12_doOne 43 = .ok (.iload_n 2, 1) := by decide +kernel
theorem dX12_doOne_44 : decode cX12_doOne 44 = .ok (.iaload, 1) := by decide +kernel
theorem dX12_doOne_45 : decode cX12_doOne 45 = .ok (.istore_n 3, 1) := by decide +kernel
theorem dX12_doOne_46 : decode cX12_doOne 46 = .ok (.iload_n 3, 1) := by decide +kernel
theorem dX12_doOne_47 : decode cX12_doOne 47 = .ok (.bipush 6, 2) := by decide +kernel
theorem dX12_doOne_49 : decode cX12_doOne 49 = .ok (.if_icmp .ge 28, 3) := by decide +kernel
theorem dX12_doOne_52 : decode cX12_doOne 52 = .ok (.aload_n 0, 1) := by decide +kernel
theorem dX12_doOne_53 : decode cX12_doOne 53 = .ok (.dup, 1) := by decide +kernel
theorem dX12_doOne_54 : decode cX12_doOne 54 = .ok (.getfield 546, 3) := by decide +kernel
theorem dX12_doOne_57 : decode cX12_doOne 57 = .ok (.aload_n 0, 1) := by decide +kernel
theorem dX12_doOne_58 : decode cX12_doOne 58 = .ok (.iload_n 2, 1) := by decide +kernel
theorem dX12_doOne_59 : decode cX12_doOne 59 = .ok (.invokevirtual 549, 3) := by decide +kernel
theorem dX12_doOne_62 : decode cX12_doOne 62 = .ok (.ifCond .eq 7, 3) := by decide +kernel
theorem dX12_doOne_65 : decode cX12_doOne 65 = .ok (.iconst 0, 1) := by decide +kernel
theorem dX12_doOne_66 : decode cX12_doOne 66 = .ok (.goto 4, 3) := by decide +kernel
theorem dX12_doOne_69 : decode cX12_doOne 69 = .ok (.iconst 1, 1) := by decide +kernel
theorem dX12_doOne_70 : decode cX12_doOne 70 = .ok (.iadd, 1) := by decide +kernel
theorem dX12_doOne_71 : decode cX12_doOne 71 = .ok (.putfield 546, 3) := by decide +kernel
theorem dX12_doOne_74 : decode cX12_doOne 74 = .ok (.goto 101, 3) := by decide +kernel
theorem dX12_doOne_77 : decode cX12_doOne 77 = .ok (.iload_n 3, 1) := by decide +kernel
theorem dX12_doOne_78 : decode cX12_doOne 78 = .ok (.bipush 6, 2) := by decide +kernel
theorem dX12_doOne_80 : decode cX12_doOne 80 = .ok (.if_icmp .ne 30, 3) := by decide +kernel
theorem dX12_doOne_83 : decode cX12_doOne 83 = .ok (.aload_n 0, 1) := by decide +kernel
theorem dX12_doOne_84 : decode cX12_doOne 84 = .ok (.iload_n 2, 1) := by decide +kernel
theorem dX12_doOne_85 : decode cX12_doOne 85 = .ok (.invokevirtual 552, 3) := by decide +kernel
theorem dX12_doOne_88 : decode cX12_doOne 88 = .ok (.ifCond .eq 22, 3) := by decide +kernel
theorem dX12_doOne_91 : decode cX12_doOne 91 = .ok (.aload_n 0, 1) := by decide +kernel
theorem dX12_doOne_92 : decode cX12_doOne 92 = .ok (.iload_n 1, 1) := by decide +kernel
theorem dX12_doOne_93 : decode cX12_doOne 93 = .ok (.iconst 1, 1) := by decide +kernel
theorem dX12_doOne_94 : decode cX12_doOne 94 = .ok (.iadd, 1) := by decide +kernel
theorem dX12_doOne_95 : decode cX12_doOne 95 = .ok (.aload_n 0, 1) := by decide +kernel
theorem dX12_doOne_96 : decode cX12_doOne 96 = .ok (.getfield 35, 3) := by decide +kernel
theorem dX12_doOne_99 : decode cX12_doOne 99 = .ok (.iload_n 2, 1) := by decide +kernel
theorem dX12_doOne_100 : decode cX12_doOne 100 = .ok (.bipush 8, 2) := by decide +kernel
theorem dX12_doOne_102 : decode cX12_doOne 102 = .ok (.iadd, 1) := by decide +kernel
theorem dX12_doOne_103 : decode cX12_doOne 103 = .ok (.iaload, 1) := by decide +kernel
theorem dX12_doOne_104 : decode cX12_doOne 104 = .ok (.invokevirtual 555, 3) := by decide +kernel
theorem dX12_doOne_107 : decode cX12_doOne 107 = .ok (.goto 68, 3) := by decide +kernel
theorem dX12_doOne_110 : decode cX12_doOne 110 = .ok (.iload_n 3, 1) := by decide +kernel
theorem dX12_doOne_111 : decode cX12_doOne 111 = .ok (.bipush 7, 2) := by decide +kernel
theorem dX12_doOne_113 : decode cX12_doOne 113 = .ok (.if_icmp .ne 51, 3) := by decide +kernel
theorem dX12_doOne_116 : decode cX12_doOne 116 = .ok (.iconst 0, 1) := by decide +kernel
theorem dX12_doOne_117 : decode cX12_doOne 117 = .ok (.istore 4, 2) := by decide +kernel
theorem dX12_doOne_119 : decode cX12_doOne 119 = .ok (.iload 4, 2) := by decide +kernel
theorem dX12_doOne_121 : decode cX12_doOne 121 = .ok (.aload_n 0, 1) := by decide +kernel
theorem dX12_doOne_122 : decode cX12_doOne 122 = .ok (.getfield 35, 3) := by decide +kernel
theorem dX12_doOne_125 : decode cX12_doOne 125 = .ok (.iload_n 2, 1) := by decide +kernel
theorem dX12_doOne_126 : decode cX12_doOne 126 = .ok (.iconst 1, 1) := by decide +kernel
theorem dX12_doOne_127 : decode cX12_doOne 127 = .ok (.iadd, 1) := by decide +kernel
theorem dX12_doOne_128 : decode cX12_doOne 128 = .ok (.iaload, 1) := by decide +kernel
theorem dX12_doOne_129 : decode cX12_doOne 129 = .ok (.if_icmp .ge 32, 3) := by decide +kernel
theorem dX12_doOne_132 : decode cX12_doOne 132 = .ok (.aload_n 0, 1) := by decide +kernel
theorem dX12_doOne_133 : decode cX12_doOne 133 = .ok (.getfield 540, 3) := by decide +kernel
theorem dX12_doOne_136 : decode cX12_doOne 136 = .ok (.ifCond .ne 25, 3) := by decide +kernel
theorem dX12_doOne_139 : decode cX12_doOne 139 = .ok (.aload_n 0, 1) := by decide +kernel
theorem dX12_doOne_140 : decode cX12_doOne 140 = .ok (.iload_n 1, 1) := by decide +kernel
theorem dX12_doOne_141 : decode cX12_doOne 141 = .ok (.iconst 1, 1) := by decide +kernel
theorem dX12_doOne_142 : decode cX12_doOne 142 = .ok (.iadd, 1) := by decide +kernel
theorem dX12_doOne_143 : decode cX12_doOne 143 = .ok (.aload_n 0, 1) := by decide +kernel
theorem dX12_doOne_144 : decode cX12_doOne 144 = .ok (.getfield 35, 3) := by decide +kernel
theorem dX12_doOne_147 : decode cX12_doOne 147 = .ok (.iload_n 2, 1) := by decide +kernel
theorem dX12_doOne_148 : decode cX12_doOne 148 = .ok (.bipush 8, 2) := by decide +kernel
theorem dX12_doOne_150 : decode cX12_doOne 150 = .ok (.iadd, 1) := by decide +kernel
theorem dX12_doOne_151 : decode cX12_doOne 151 = .ok (.iaload, 1) := by decide +kernel
theorem dX12_doOne_152 : decode cX12_doOne 152 = .ok (.invokevirtual 555, 3) := by decide +kernel
theorem dX12_doOne_155 : decode cX12_doOne 155 = .ok (.iinc 4 1, 3) := by decide +kernel
theorem dX12_doOne_158 : decode cX12_doOne 158 = .ok (.goto (-39), 3) := by decide +kernel
theorem dX12_doOne_161 : decode cX12_doOne 161 = .ok (.goto 14, 3) := by decide +kernel
theorem dX12_doOne_164 : decode cX12_doOne 164 = .ok (.iload_n 3, 1) := by decide +kernel
theorem dX12_doOne_165 : decode cX12_doOne 165 = .ok (.bipush 7, 2) := by decide +kernel
theorem dX12_doOne_167 : decode cX12_doOne 167 = .ok (.if_icmp .le 8, 3) := by decide +kernel
theorem dX12_doOne_170 : decode cX12_doOne 170 = .ok (.aload_n 0, 1) := by decide +kernel
theorem dX12_doOne_171 : decode cX12_doOne 171 = .ok (.iconst 1, 1) := by decide +kernel
theorem dX12_doOne_172 : decode cX12_doOne 172 = .ok (.putfield 540, 3) := by decide +kernel
theorem dX12_doOne_175 : decode cX12_doOne 175 = .ok (.return_, 1) := by decide +kernel
theorem dX12_doAll_0 : decode cX12_doAll 0 = .ok (.iload_n 1, 1) := by decide +kernel
theorem dX12_doAll_1 : decode cX12_doAll 1 = .ok (.istore_n 3, 1) := by decide +kernel
theorem dX12_doAll_2 : decode cX12_doAll 2 = .ok (.iload_n 3, 1) := by decide +kernel
theorem dX12_doAll_3 : decode cX12_doAll 3 = .ok (.iload_n 2, 1) := by decide +kernel
theorem dX12_doAll_4 : decode cX12_doAll 4 = .ok (.if_icmp .ge 34, 3) := by decide +kernel
theorem dX12_doAll_7 : decode cX12_doAll 7 = .ok (.aload_n 0, 1) := by decide +kernel
theorem dX12_doAll_8 : decode cX12_doAll 8 = .ok (.getfield 540, 3) := by decide +kernel
theorem dX12_doAll_11 : decode cX12_doAll 11 = .ok (.ifCond .ne 27, 3) := by decide +kernel
theorem dX12_doAll_14 : decode cX12_doAll 14 = .ok (.aload_n 0, 1) := by decide +kernel
theorem dX12_doAll_15 : decode cX12_doAll 15 = .ok (.iload_n 3, 1) := by decide +kernel
theorem dX12_doAll_16 : decode cX12_doAll 16 = .ok (.invokevirtual 558, 3) := by decide +kernel
theorem dX12_doAll_19 : decode cX12_doAll 19 = .ok (.aload_n 0, 1) := by decide +kernel
theorem dX12_doAll_20 : decode cX12_doAll 20 = .ok (.getfield 35, 3) := by decide +kernel
theorem dX12_doAll_23 : decode cX12_doAll 23 = .ok (.bipush 94, 2) := by decide +kernel
theorem dX12_doAll_25 : decode cX12_doAll 25 = .ok (.bipush 9, 2) := by decide +kernel
theorem dX12_doAll_27 : decode cX12_doAll 27 = .ok (.iload_n 3, 1) := by decide +kernel
theorem dX12_doAll_28 : decode cX12_doAll 28 = .ok (.imul, 1) := by decide +kernel
theorem dX12_doAll_29 : decode cX12_doAll 29 = .ok (.iadd, 1) := by decide +kernel
theorem dX12_doAll_30 : decode cX12_doAll 30 = .ok (.bipush 8, 2) := by decide +kernel
theorem dX12_doAll_32 : decode cX12_doAll 32 = .ok (.iadd, 1) := by decide +kernel
theorem dX12_doAll_33 : decode cX12_doAll 33 = .ok (.iaload, 1) := by decide +kernel
theorem dX12_doAll_34 : decode cX12_doAll 34 = .ok (.istore_n 3, 1) := by decide +kernel
theorem dX12_doAll_35 : decode cX12_doAll 35 = .ok (.goto (-33), 3) := by decide +kernel
theorem dX12_doAll_38 : decode cX12_doAll 38 = .ok (.return_, 1) := by decide +kernel
theorem dX12_runsEvenings_0 : decode cX12_runsEvenings 0 = .ok (.aload_n 0, 1) := by decide +kernel
theorem dX12_runsEvenings_1 : decode cX12_runsEvenings 1 = .ok (.iload_n 1, 1) := by decide +kernel
theorem dX12_runsEvenings_2 : decode cX12_runsEvenings 2 = .ok (.putfield 515, 3) := by decide +kernel
theorem dX12_runsEvenings_5 : decode cX12_runsEvenings 5 = .ok (.aload_n 0, 1) := by decide +kernel
theorem dX12_runsEvenings_6 : decode cX12_runsEvenings 6 = .ok (.iconst 0, 1) := by decide +kernel
theorem dX12_runsEvenings_7 : decode cX12_runsEvenings 7 = .ok (.putfield 537, 3) := by decide +kernel
theorem dX12_runsEvenings_10 : decode cX12_runsEvenings 10 = .ok (.aload_n 0, 1) := by decide +kernel
theorem dX12_runsEvenings_11 : decode cX12_runsEvenings 11 = .ok (.iconst 0, 1) := by decide +kernel
theorem dX12_runsEvenings_12 : decode cX12_runsEvenings 12 = .ok (.putfield 546, 3) := by decide +kernel
theorem dX12_runsEvenings_15 : decode cX12_runsEvenings 15 = .ok (.aload_n 0, 1) := by decide +kernel
theorem dX12_runsEvenings_16 : decode cX12_runsEvenings 16 = .ok (.aload_n 0, 1) := by decide +kernel
theorem dX12_runsEvenings_17 : decode cX12_runsEvenings 17 = .ok (.getfield 35, 3) := by decide +kernel
theorem dX12_runsEvenings_20 : decode cX12_runsEvenings 20 = .ok (.iconst 5, 1) := by decide +kernel
theorem dX12_runsEvenings_21 : decode cX12_runsEvenings 21 = .ok (.iaload, 1) := by decide +kernel
theorem dX12_runsEvenings_22 : decode cX12_runsEvenings 22 = .ok (.putfield 561, 3) := by decide +kernel
theorem dX12_runsEvenings_25 : decode cX12_runsEvenings 25 = .ok (.aload_n 0, 1) := by decide +kernel
theorem dX12_runsEvenings_26 : decode cX12_runsEvenings 26 = .ok (.iconst 0, 1) := by decide +kernel
theorem dX12_runsEvenings_27 : decode cX12_runsEvenings 27 = .ok (.putfield 519, 3) := by decide +kernel
theorem dX12_runsEvenings_30 : decode cX12_runsEvenings 30 = .ok (.aload_n 0, 1) := by decide +kernel
theorem dX12_runsEvenings_31 : decode cX12_runsEvenings 31 = .ok (.iconst 0, 1) := by decide +kernel
theorem dX12_runsEvenings_32 : decode cX12_runsEvenings 32 = .ok (.putfield 522, 3) := by decide +kernel
theorem dX12_runsEvenings_35 : decode cX12_runsEvenings 35 = .ok (.aload_n 0, 1) := by decide +kernel
theorem dX12_runsEvenings_36 : decode cX12_runsEvenings 36 = .ok (.iconst 0, 1) := by decide +kernel
theorem dX12_runsEvenings_37 : decode cX12_runsEvenings 37 = .ok (.putfield 543, 3) := by decide +kernel
theorem dX12_runsEvenings_40 : decode cX12_runsEvenings 40 = .ok (.aload_n 0, 1) := by decide +kernel
theorem dX12_runsEvenings_41 : decode cX12_runsEvenings 41 = .ok (.iconst 0, 1) := by decide +kernel
theorem dX12_runsEvenings_42 : decode cX12_runsEvenings 42 = .ok (.putfield 540, 3) := by decide +kernel
theorem dX12_runsEvenings_45 : decode cX12_runsEvenings 45 = .ok (.aload_n 0, 1) := by decide +kernel
theorem dX12_runsEvenings_46 : decode cX12_runsEvenings 46 = .ok (.iconst 0, 1) := by decide +kernel
theorem dX12_runsEvenings_47 : decode cX12_runsEvenings 47 = .ok (.aload_n 0, 1) := by decide +kernel
theorem dX12_runsEvenings_48 : decode cX12_runsEvenings 48 = .ok (.getfield 35, 3) := by decide +kernel
theorem dX12_runsEvenings_51 : decode cX12_runsEvenings 51 = .ok (.bipush 93, 2) := by decide +kernel
theorem dX12_runsEvenings_53 : decode cX12_runsEvenings 53 = .ok (.iaload, 1) := by decide +kernel
theorem dX12_runsEvenings_54 : decode cX12_runsEvenings 54 = .ok (.invokevirtual 555, 3) := by decide +kernel
theorem dX12_runsEvenings_57 : decode cX12_runsEvenings 57 = .ok (.return_, 1) := by decide +kernel
theorem dX12_live_0 : decode cX12_live 0 = .ok (.aload_n 0, 1) := by decide +kernel
theorem dX12_live_1 : decode cX12_live 1 = .ok (.iconst 0, 1) := by decide +kernel
theorem dX12_live_2 : decode cX12_live 2 = .ok (.putfield 63, 3) := by decide +kernel
theorem dX12_live_5 : decode cX12_live 5 = .ok (.aload_n 0, 1) := by decide +kernel
theorem dX12_live_6 : decode cX12_live 6 = .ok (.iconst 0, 1) := by decide +kernel
theorem dX12_live_7 : decode cX12_live 7 = .ok (.putfield 66, 3) := by decide +kernel
theorem dX12_live_10 : decode cX12_live 10 = .ok (.iload_n 1, 1) := by decide +kernel
theorem dX12_live_11 : decode cX12_live 11 = .ok (.i2l, 1) := by decide +kernel
theorem dX12_live_12 : decode cX12_live 12 = .ok (.lconst 0, 1) := by decide +kernel
theorem dX12_live_13 : decode cX12_live 13 = .ok (.ldc2_w 564, 3) := by decide +kernel
theorem dX12_live_16 : decode cX12_live 16 = .ok (.invokestatic 98, 3) := by decide +kernel
theorem dX12_live_19 : decode cX12_live 19 = .ok (.ifCond .ne 9, 3) := by decide +kernel
theorem dX12_live_22 : decode cX12_live 22 = .ok (.aload_n 0, 1) := by decide +kernel
theorem dX12_live_23 : decode cX12_live 23 = .ok (.iconst 5, 1) := by decide +kernel
theorem dX12_live_24 : decode cX12_live 24 = .ok (.invokevirtual 333, 3) := by decide +kernel
theorem dX12_live_27 : decode cX12_live 27 = .ok (.ireturn, 1) := by decide +kernel
theorem dX12_live_28 : decode cX12_live 28 = .ok (.aload_n 0, 1) := by decide +kernel
theorem dX12_live_29 : decode cX12_live 29 = .ok (.getfield 35, 3) := by decide +kernel
theorem dX12_live_32 : decode cX12_live 32 = .ok (.bipush 92, 2) := by decide +kernel
theorem dX12_live_34 : decode cX12_live 34 = .ok (.iaload, 1) := by decide +kernel
theorem dX12_live_35 : decode cX12_live 35 = .ok (.ifCond .ne 10, 3) := by decide +kernel
theorem dX12_live_38 : decode cX12_live 38 = .ok (.aload_n 0, 1) := by decide +kernel
theorem dX12_live_39 : decode cX12_live 39 = .ok (.bipush 8, 2) := by decide +kernel
theorem dX12_live_41 : decode cX12_live 41 = .ok (.invokevirtual 333, 3) := by decide +kernel
theorem dX12_live_44 : decode cX12_live 44 = .ok (.ireturn, 1) := by decide +kernel
theorem dX12_live_45 : decode cX12_live 45 = .ok (.aload_n 0, 1) := by decide +kernel
theorem dX12_live_46 : decode cX12_live 46 = .ok (.iload_n 1, 1) := by decide +kernel
theorem dX12_live_47 : decode cX12_live 47 = .ok (.invokevirtual 566, 3) := by decide +kernel
theorem dX12_live_50 : decode cX12_live 50 = .ok (.aload_n 0, 1) := by decide +kernel
theorem dX12_live_51 : decode cX12_live 51 = .ok (.getfield 56, 3) := by decide +kernel
theorem dX12_live_54 : decode cX12_live 54 = .ok (.iconst 0, 1) := by decide +kernel
theorem dX12_live_55 : decode cX12_live 55 = .ok (.aload_n 0, 1) := by decide +kernel
theorem dX12_live_56 : decode cX12_live 56 = .ok (.getfield 546, 3) := by decide +kernel
theorem dX12_live_59 : decode cX12_live 59 = .ok (.iastore, 1) := by decide +kernel
theorem dX12_live_60 : decode cX12_live 60 = .ok (.aload_n 0, 1) := by decide +kernel
theorem dX12_live_61 : decode cX12_live 61 = .ok (.getfield 56, 3) := by decide +kernel
theorem dX12_live_64 : decode cX12_live 64 = .ok (.iconst 1, 1) := by decide +kernel
theorem dX12_live_65 : decode cX12_live 65 = .ok (.aload_n 0, 1) := by decide +kernel
theorem dX12_live_66 : decode cX12_live 66 = .ok (.getfield 35, 3) := by decide +kernel
theorem dX12_live_69 : decode cX12_live 69 = .ok (.iconst 5, 1) := by decide +kernel
theorem dX12_live_70 : decode cX12_live 70 = .ok (.iaload, 1) := by decide +kernel
theorem dX12_live_71 : decode cX12_live 71 = .ok (.aload_n 0, 1) := by decide +kernel
theorem dX12_live_72 : decode cX12_live 72 = .ok (.getfield 561, 3) := by decide +kernel
theorem dX12_live_75 : decode cX12_live 75 = .ok (.isub, 1) := by decide +kernel
theorem dX12_live_76 : decode cX12_live 76 = .ok (.iastore, 1) := by decide +kernel
theorem dX12_live_77 : decode cX12_live 77 = .ok (.aload_n 0, 1) := by decide +kernel
theorem dX12_live_78 : decode cX12_live 78 = .ok (.getfield 56, 3) := by decide +kernel
theorem dX12_live_81 : decode cX12_live 81 = .ok (.iconst 2, 1) := by decide +kernel
theorem dX12_live_82 : decode cX12_live 82 = .ok (.aload_n 0, 1) := by decide +kernel
theorem dX12_live_83 : decode cX12_live 83 = .ok (.getfield 519, 3) := by decide +kernel
theorem dX12_live_86 : decode cX12_live 86 = .ok (.iastore, 1) := by decide +kernel
theorem dX12_live_87 : decode cX12_live 87 = .ok (.aload_n 0, 1) := by decide +kernel
theorem dX12_live_88 : decode cX12_live 88 = .ok (.getfield 56, 3) := by decide +kernel
theorem dX12_live_91 : decode cX12_live 91 = .ok (.iconst 3, 1) := by decide +kernel
theorem dX12_live_92 : decode cX12_live 92 = .ok (.aload_n 0, 1) := by decide +kernel
theorem dX12_live_93 : decode cX12_live 93 = .ok (.getfield 522, 3) := by decide +kernel
theorem dX12_live_96 : decode cX12_live 96 = .ok (.iastore, 1) := by decide +kernel
theorem dX12_live_97 : decode cX12_live 97 = .ok (.aload_n 0, 1) := by decide +kernel
theorem dX12_live_98 : decode cX12_live 98 = .ok (.getfield 56, 3) := by decide +kernel
theorem dX12_live_101 : decode cX12_live 101 = .ok (.iconst 4, 1) := by decide +kernel
theorem dX12_live_102 : decode cX12_live 102 = .ok (.aload_n 0, 1) := by decide +kernel
theorem dX12_live_103 : decode cX12_live 103 = .ok (.getfield 543, 3) := by decide +kernel
theorem dX12_live_106 : decode cX12_live 106 = .ok (.iastore, 1) := by decide +kernel
theorem dX12_live_107 : decode cX12_live 107 = .ok (.aload_n 0, 1) := by decide +kernel
theorem dX12_live_108 : decode cX12_live 108 = .ok (.iconst 1, 1) := by decide +kernel
theorem dX12_live_109 : decode cX12_live 109 = .ok (.putfield 569, 3) := by decide +kernel
theorem dX12_live_112 : decode cX12_live 112 = .ok (.aload_n 0, 1) := by decide +kernel
theorem dX12_live_113 : decode cX12_live 113 = .ok (.getfield 537, 3) := by decide +kernel
theorem dX12_live_116 : decode cX12_live 116 = .ok (.ireturn, 1) := by decide +kernel
theorem dX12_lived_0 : decode cX12_lived 0 = .ok (.aload_n 0, 1) := by decide +kernel
theorem dX12_lived_1 : decode cX12_lived 1 = .ok (.iconst 0, 1) := by decide +kernel
theorem dX12_lived_2 : decode cX12_lived 2 = .ok (.putfield 63, 3) := by decide +kernel
theorem dX12_lived_5 : decode cX12_lived 5 = .ok (.aload_n 0, 1) := by decide +kernel
theorem dX12_lived_6 : decode cX12_lived 6 = .ok (.iconst 0, 1) := by decide +kernel
theorem dX12_lived_7 : decode cX12_lived 7 = .ok (.putfield 66, 3) := by decide +kernel
theorem dX12_lived_10 : decode cX12_lived 10 = .ok (.iload_n 1, 1) := by decide +kernel
theorem dX12_lived_11 : decode cX12_lived 11 = .ok (.i2l, 1) := by decide +kernel
theorem dX12_lived_12 : decode cX12_lived 12 = .ok (.lconst 0, 1) := by decide +kernel
theorem dX12_lived_13 : decode cX12_lived 13 = .ok (.ldc2_w 365, 3) := by decide +kernel
theorem dX12_lived_16 : decode cX12_lived 16 = .ok (.invokestatic 98, 3) := by decide +kernel
theorem dX12_lived_19 : decode cX12_lived 19 = .ok (.ifCond .ne 9, 3) := by decide +kernel
theorem dX12_lived_22 : decode cX12_lived 22 = .ok (.aload_n 0, 1) := by decide +kernel
theorem dX12_lived_23 : decode cX12_lived 23 = .ok (.iconst 5, 1) := by decide +kernel
theorem dX12_lived_24 : decode cX12_lived 24 = .ok (.invokevirtual 333, 3) := by decide +kernel
theorem dX12_lived_27 : decode cX12_lived 27 = .ok (.ireturn, 1) := by decide +kernel
theorem dX12_lived_28 : decode cX12_lived 28 = .ok (.aload_n 0, 1) := by decide +kernel
theorem dX12_lived_29 : decode cX12_lived 29 = .ok (.getfield 569, 3) := by decide +kernel
theorem dX12_lived_32 : decode cX12_lived 32 = .ok (.ifCond .eq 12, 3) := by decide +kernel
theorem dX12_lived_35 : decode cX12_lived 35 = .ok (.aload_n 0, 1) := by decide +kernel
theorem dX12_lived_36 : decode cX12_lived 36 = .ok (.getfield 56, 3) := by decide +kernel
theorem dX12_lived_39 : decode cX12_lived 39 = .ok (.iload_n 1, 1) := by decide +kernel
theorem dX12_lived_40 : decode cX12_lived 40 = .ok (.iaload, 1) := by decide +kernel
theorem dX12_lived_41 : decode cX12_lived 41 = .ok (.goto 9, 3) := by decide +kernel
theorem dX12_lived_44 : decode cX12_lived 44 = .ok (.aload_n 0, 1) := by decide +kernel
theorem dX12_lived_45 : decode cX12_lived 45 = .ok (.bipush 8, 2) := by decide +kernel
theorem dX12_lived_47 : decode cX12_lived 47 = .ok (.invokevirtual 333, 3) := by decide +kernel
theorem dX12_lived_50 : decode cX12_lived 50 = .ok (.ireturn, 1) := by decide +kernel
theorem dX12_mean_0 : decode cX12_mean 0 = .ok (.aload_n 0, 1) := by decide +kernel
theorem dX12_mean_1 : decode cX12_mean 1 = .ok (.iconst 0, 1) := by decide +kernel
theorem dX12_mean_2 : decode cX12_mean 2 = .ok (.putfield 63, 3) := by decide +kernel
theorem dX12_mean_5 : decode cX12_mean 5 = .ok (.aload_n 0, 1) := by decide +kernel
theorem dX12_mean_6 : decode cX12_mean 6 = .ok (.iconst 0, 1) := by decide +kernel
theorem dX12_mean_7 : decode cX12_mean 7 = .ok (.putfield 66, 3) := by decide +kernel
theorem dX12_mean_10 : decode cX12_mean 10 = .ok (.iload_n 2, 1) := by decide +kernel
theorem dX12_mean_11 : decode cX12_mean 11 = .ok (.i2l, 1) := by decide +kernel
theorem dX12_mean_12 : decode cX12_mean 12 = .ok (.lconst 1, 1) := by decide +kernel
theorem dX12_mean_13 : decode cX12_mean 13 = .ok (.ldc2_w 402, 3) := by decide +kernel
theorem dX12_mean_16 : decode cX12_mean 16 = .ok (.invokestatic 98, 3) := by decide +kernel
theorem dX12_mean_19 : decode cX12_mean 19 = .ok (.ifCond .eq 18, 3) := by decide +kernel
theorem dX12_mean_22 : decode cX12_mean 22 = .ok (.iload_n 1, 1) := by decide +kernel
theorem dX12_mean_23 : decode cX12_mean 23 = .ok (.i2l, 1) := by decide +kernel
theorem dX12_mean_24 : decode cX12_mean 24 = .ok (.lconst 0, 1) := by decide +kernel
theorem dX12_mean_25 : decode cX12_mean 25 = .ok (.sipush 10000, 3) := by decide +kernel
theorem dX12_mean_28 : decode cX12_mean 28 = .ok (.iload_n 2, 1) := by decide +kernel
theorem dX12_mean_29 : decode cX12_mean 29 = .ok (.isub, 1) := by decide +kernel
theorem dX12_mean_30 : decode cX12_mean 30 = .ok (.i2l, 1) := by decide +kernel
theorem dX12_mean_31 : decode cX12_mean 31 = .ok (.invokestatic 98, 3) := by decide +kernel
theorem dX12_mean_34 : decode cX12_mean 34 = .ok (.ifCond .ne 9, 3) := by decide +kernel
theorem dX12_mean_37 : decode cX12_mean 37 = .ok (.aload_n 0, 1) := by decide +kernel
theorem dX12_mean_38 : decode cX12_mean 38 = .ok (.iconst 5, 1) := by decide +kernel
theorem dX12_mean_39 : decode cX12_mean 39 = .ok (.invokevirtual 78, 3) := by decide +kernel
theorem dX12_mean_42 : decode cX12_mean 42 = .ok (.ireturn, 1) := by decide +kernel
theorem dX12_mean_43 : decode cX12_mean 43 = .ok (.aload_n 0, 1) := by decide +kernel
theorem dX12_mean_44 : decode cX12_mean 44 = .ok (.getfield 35, 3) := by decide +kernel
theorem dX12_mean_47 : decode cX12_mean 47 = .ok (.bipush 92, 2) := by decide +kernel
theorem dX12_mean_49 : decode cX12_mean 49 = .ok (.iaload, 1) := by decide +kernel
theorem dX12_mean_50 : decode cX12_mean 50 = .ok (.ifCond .ne 10, 3) := by decide +kernel
theorem dX12_mean_53 : decode cX12_mean 53 = .ok (.aload_n 0, 1) := by decide +kernel
theorem dX12_mean_54 : decode cX12_mean 54 = .ok (.bipush 8, 2) := by decide +kernel
theorem dX12_mean_56 : decode cX12_mean 56 = .ok (.invokevirtual 78, 3) := by decide +kernel
theorem dX12_mean_59 : decode cX12_mean 59 = .ok (.ireturn, 1) := by decide +kernel
theorem dX12_mean_60 : decode cX12_mean 60 = .ok (.iconst 0, 1) := by decide +kernel
theorem dX12_mean_61 : decode cX12_mean 61 = .ok (.istore_n 3, 1) := by decide +kernel
theorem dX12_mean_62 : decode cX12_mean 62 = .ok (.iload_n 3, 1) := by decide +kernel
theorem dX12_mean_63 : decode cX12_mean 63 = .ok (.bipush 92, 2) := by decide +kernel
theorem dX12_mean_65 : decode cX12_mean 65 = .ok (.if_icmp .ge 21, 3) := by decide +kernel
theorem dX12_mean_68 : decode cX12_mean 68 = .ok (.aload_n 0, 1) := by decide +kernel
theorem dX12_mean_69 : decode cX12_mean 69 = .ok (.getfield 38, 3) := by decide +kernel
theorem dX12_mean_72 : decode cX12_mean 72 = .ok (.iload_n 3, 1) := by decide +kernel
theorem dX12_mean_73 : decode cX12_mean 73 = .ok (.aload_n 0, 1) := by decide +kernel
theorem dX12_mean_74 : decode cX12_mean 74 = .ok (.getfield 35, 3) := by decide +kernel
theorem dX12_mean_77 : decode cX12_mean 77 = .ok (.iload_n 3, 1) := by decide +kernel
theorem dX12_mean_78 : decode cX12_mean 78 = .ok (.iaload, 1) := by decide +kernel
theorem dX12_mean_79 : decode cX12_mean 79 = .ok (.iastore, 1) := by decide +kernel
theorem dX12_mean_80 : decode cX12_mean 80 = .ok (.iinc 3 1, 3) := by decide +kernel
theorem dX12_mean_83 : decode cX12_mean 83 = .ok (.goto (-21), 3) := by decide +kernel
theorem dX12_mean_86 : decode cX12_mean 86 = .ok (.lconst 0, 1) := by decide +kernel
theorem dX12_mean_87 : decode cX12_mean 87 = .ok (.lstore_n 3, 1) := by decide +kernel
theorem dX12_mean_88 : decode cX12_mean 88 = .ok (.iconst 0, 1) := by decide +kernel
theorem dX12_mean_89 : decode cX12_mean 89 = .ok (.istore 5, 2) := by decide +kernel
theorem dX12_mean_91 : decode cX12_mean 91 = .ok (.iload 5, 2) := by decide +kernel
theorem dX12_mean_93 : decode cX12_mean 93 = .ok (.iload_n 2, 1) := by decide +kernel
theorem dX12_mean_94 : decode cX12_mean 94 = .ok (.if_icmp .ge 81, 3) := by decide +kernel
theorem dX12_mean_97 : decode cX12_mean 97 = .ok (.aload_n 0, 1) := by decide +kernel
theorem dX12_mean_98 : decode cX12_mean 98 = .ok (.iload_n 1, 1) := by decide +kernel
theorem dX12_mean_99 : decode cX12_mean 99 = .ok (.iload 5, 2) := by decide +kernel
theorem dX12_mean_101 : decode cX12_mean 101 = .ok (.iadd, 1) := by decide +kernel
theorem dX12_mean_102 : decode cX12_mean 102 = .ok (.invokevirtual 566, 3) := by decide +kernel
theorem dX12_mean_105 : decode cX12_mean 105 = .ok (.iconst 0, 1) := by decide +kernel
theorem dX12_mean_106 : decode cX12_mean 106 = .ok (.istore 6, 2) := by decide +kernel
theorem dX12_mean_108 : decode cX12_mean 108 = .ok (.iload 6, 2) := by decide +kernel
theorem dX12_mean_110 : decode cX12_mean 110 = .ok (.aload_n 0, 1) := by decide +kernel
theorem dX12_mean_111 : decode cX12_mean 111 = .ok (.getfield 35, 3) := by decide +kernel
theorem dX12_mean_114 : decode cX12_mean 114 = .ok (.iconst 2, 1) := by decide +kernel
theorem dX12_mean_115 : decode cX12_mean 115 = .ok (.iaload, 1) := by decide +kernel
theorem dX12_mean_116 : decode cX12_mean 116 = .ok (.if_icmp .ge 23, 3) := by decide +kernel
theorem dX12_mean_119 : decode cX12_mean 119 = .ok (.lload_n 3, 1) := by decide +kernel
theorem dX12_mean_120 : decode cX12_mean 120 = .ok (.aload_n 0, 1) := by decide +kernel
theorem dX12_mean_121 : decode cX12_mean 121 = .ok (.getfield 35, 3) := by decide +kernel
theorem dX12_mean_124 : decode cX12_mean 124 = .ok (.bipush 54, 2) := by decide +kernel
theorem dX12_mean_126 : decode cX12_mean 126 = .ok (.iload 6, 2) := by decide +kernel
theorem dX12_mean_128 : decode cX12_mean 128 = .ok (.iadd, 1) := by decide +kernel
theorem dX12_mean_129 : decode cX12_mean 129 = .ok (.iaload, 1) := by decide +kernel
theorem dX12_mean_130 : decode cX12_mean 130 = .ok (.i2l, 1) := by decide +kernel
theorem dX12_mean_131 : decode cX12_mean 131 = .ok (.ladd, 1) := by decide +kernel
theorem dX12_mean_132 : decode cX12_mean 132 = .ok (.lstore_n 3, 1) := by decide +kernel
theorem dX12_mean_133 : decode cX12_mean 133 = .ok (.iinc 6 1, 3) := by decide +kernel
theorem dX12_mean_136 : decode cX12_mean 136 = .ok (.goto (-28), 3) := by decide +kernel
theorem dX12_mean_139 : decode cX12_mean 139 = .ok (.iconst 0, 1) := by decide +kernel
theorem dX12_mean_140 : decode cX12_mean 140 = .ok (.istore 6, 2) := by decide +kernel
theorem dX12_mean_142 : decode cX12_mean 142 = .ok (.iload 6, 2) := by decide +kernel
theorem dX12_mean_144 : decode cX12_mean 144 = .ok (.bipush 92, 2) := by decide +kernel
theorem dX12_mean_146 : decode cX12_mean 146 = .ok (.if_icmp .ge 23, 3) := by decide +kernel
theorem dX12_mean_149 : decode cX12_mean 149 = .ok (.aload_n 0, 1) := by decide +kernel
theorem dX12_mean_150 : decode cX12_mean 150 = .ok (.getfield 35, 3) := by decide +kernel
theorem dX12_mean_153 : decode cX12_mean 153 = .ok (.iload 6, 2) := by decide +kernel
theorem dX12_mean_155 : decode cX12_mean 155 = .ok (.aload_n 0, 1) := by decide +kernel
theorem dX12_mean_156 : decode cX12_mean 156 = .ok (.getfield 38, 3) := by decide +kernel
theorem dX12_mean_159 : decode cX12_mean 159 = .ok (.iload 6, 2) := by decide +kernel
theorem dX12_mean_161 : decode cX12_mean 161 = .ok (.iaload, 1) := by decide +kernel
theorem dX12_mean_162 : decode cX12_mean 162 = .ok (.iastore, 1) := by decide +kernel
theorem dX12_mean_163 : decode cX12_mean 163 = .ok (.iinc 6 1, 3) := by decide +kernel
theorem dX12_mean_166 : decode cX12_mean 166 = .ok (.goto (-24), 3) := by decide +kernel
theorem dX12_mean_169 : decode cX12_mean 169 = .ok (.iinc 5 1, 3) := by decide +kernel
theorem dX12_mean_172 : decode cX12_mean 172 = .ok (.goto (-81), 3) := by decide +kernel
theorem dX12_mean_175 : decode cX12_mean 175 = .ok (.aload_n 0, 1) := by decide +kernel
theorem dX12_mean_176 : decode cX12_mean 176 = .ok (.lload_n 3, 1) := by decide +kernel
theorem dX12_mean_177 : decode cX12_mean 177 = .ok (.iload_n 2, 1) := by decide +kernel
theorem dX12_mean_178 : decode cX12_mean 178 = .ok (.i2l, 1) := by decide +kernel
theorem dX12_mean_179 : decode cX12_mean 179 = .ok (.invokevirtual 429, 3) := by decide +kernel
theorem dX12_mean_182 : decode cX12_mean 182 = .ok (.ireturn, 1) := by decide +kernel
theorem dX12_mark_0 : decode cX12_mark 0 = .ok (.aload_n 0, 1) := by decide +kernel
theorem dX12_mark_1 : decode cX12_mark 1 = .ok (.iconst 0, 1) := by decide +kernel
theorem dX12_mark_2 : decode cX12_mark 2 = .ok (.putfield 63, 3) := by decide +kernel
theorem dX12_mark_5 : decode cX12_mark 5 = .ok (.aload_n 0, 1) := by decide +kernel
theorem dX12_mark_6 : decode cX12_mark 6 = .ok (.iconst 0, 1) := by decide +kernel
theorem dX12_mark_7 : decode cX12_mark 7 = .ok (.putfield 66, 3) := by decide +kernel
theorem dX12_mark_10 : decode cX12_mark 10 = .ok (.aload_n 0, 1) := by decide +kernel
theorem dX12_mark_11 : decode cX12_mark 11 = .ok (.getfield 572, 3) := by decide +kernel
theorem dX12_mark_14 : decode cX12_mark 14 = .ok (.iconst 3, 1) := by decide +kernel
theorem dX12_mark_15 : decode cX12_mark 15 = .ok (.if_icmp .ne 10, 3) := by decide +kernel
theorem dX12_mark_18 : decode cX12_mark 18 = .ok (.aload_n 0, 1) := by decide +kernel
theorem dX12_mark_19 : decode cX12_mark 19 = .ok (.bipush 7, 2) := by decide +kernel
theorem dX12_mark_21 : decode cX12_mark 21 = .ok (.invokevirtual 333, 3) := by decide +kernel
theorem dX12_mark_24 : decode cX12_mark 24 = .ok (.ireturn, 1) := by decide +kernel
theorem dX12_mark_25 : decode cX12_mark 25 = .ok (.aload_n 0, 1) := by decide +kernel
theorem dX12_mark_26 : decode cX12_mark 26 = .ok (.dup, 1) := by decide +kernel
theorem dX12_mark_27 : decode cX12_mark 27 = .ok (.getfield 572, 3) := by decide +kernel
theorem dX12_mark_30 : decode cX12_mark 30 = .ok (.iconst 1, 1) := by decide +kernel
theorem dX12_mark_31 : decode cX12_mark 31 = .ok (.iadd, 1) := by decide +kernel
theorem dX12_mark_32 : decode cX12_mark 32 = .ok (.putfield 572, 3) := by decide +kernel
theorem dX12_mark_35 : decode cX12_mark 35 = .ok (.aload_n 0, 1) := by decide +kernel
theorem dX12_mark_36 : decode cX12_mark 36 = .ok (.iconst 0, 1) := by decide +kernel
theorem dX12_mark_37 : decode cX12_mark 37 = .ok (.aload_n 0, 1) := by decide +kernel
theorem dX12_mark_38 : decode cX12_mark 38 = .ok (.getfield 572, 3) := by decide +kernel
theorem dX12_mark_41 : decode cX12_mark 41 = .ok (.invokevirtual 313, 3) := by decide +kernel
theorem dX12_mark_44 : decode cX12_mark 44 = .ok (.aload_n 0, 1) := by decide +kernel
theorem dX12_mark_45 : decode cX12_mark 45 = .ok (.getfield 572, 3) := by decide +kernel
theorem dX12_mark_48 : decode cX12_mark 48 = .ok (.ireturn, 1) := by decide +kernel
theorem dX12_back_0 : decode cX12_back 0 = .ok (.aload_n 0, 1) := by decide +kernel
theorem dX12_back_1 : decode cX12_back 1 = .ok (.iconst 0, 1) := by decide +kernel
theorem dX12_back_2 : decode cX12_back 2 = .ok (.putfield 63, 3) := by decide +kernel
theorem dX12_back_5 : decode cX12_back 5 = .ok (.aload_n 0, 1) := by decide +kernel
theorem dX12_back_6 : decode cX12_back 6 = .ok (.iconst 0, 1) := by decide +kernel
theorem dX12_back_7 : decode cX12_back 7 = .ok (.putfield 66, 3) := by decide +kernel
theorem dX12_back_10 : decode cX12_back 10 = .ok (.aload_n 0, 1) := by decide +kernel
theorem dX12_back_11 : decode cX12_back 11 = .ok (.getfield 572, 3) := by decide +kernel
theorem dX12_back_14 : decode cX12_back 14 = .ok (.ifCond .ne 10, 3) := by decide +kernel
theorem dX12_back_17 : decode cX12_back 17 = .ok (.aload_n 0, 1) := by decide +kernel
theorem dX12_back_18 : decode cX12_back 18 = .ok (.bipush 8, 2) := by decide +kernel
theorem dX12_back_20 : decode cX12_back 20 = .ok (.invokevirtual 333, 3) := by decide +kernel
theorem dX12_back_23 : decode cX12_back 23 = .ok (.ireturn, 1) := by decide +kernel
theorem dX12_back_24 : decode cX12_back 24 = .ok (.aload_n 0, 1) := by decide +kernel
theorem dX12_back_25 : decode cX12_back 25 = .ok (.aload_n 0, 1) := by decide +kernel
theorem dX12_back_26 : decode cX12_back 26 = .ok (.getfield 572, 3) := by decide +kernel
theorem dX12_back_29 : decode cX12_back 29 = .ok (.iconst 0, 1) := by decide +kernel
theorem dX12_back_30 : decode cX12_back 30 = .ok (.invokevirtual 313, 3) := by decide +kernel
theorem dX12_back_33 : decode cX12_back 33 = .ok (.aload_n 0, 1) := by decide +kernel
theorem dX12_back_34 : decode cX12_back 34 = .ok (.dup, 1) := by decide +kernel
theorem dX12_back_35 : decode cX12_back 35 = .ok (.getfield 572, 3) := by decide +kernel
theorem dX12_back_38 : decode cX12_back 38 = .ok (.iconst 1, 1) := by decide +kernel
theorem dX12_back_39 : decode cX12_back 39 = .ok (.isub, 1) := by decide +kernel
theorem dX12_back_40 : decode cX12_back 40 = .ok (.putfield 572, 3) := by decide +kernel
theorem dX12_back_43 : decode cX12_back 43 = .ok (.aload_n 0, 1) := by decide +kernel
theorem dX12_back_44 : decode cX12_back 44 = .ok (.getfield 572, 3) := by decide +kernel
theorem dX12_back_47 : decode cX12_back 47 = .ok (.ireturn, 1) := by decide +kernel
