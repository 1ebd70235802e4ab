section ZM
variable {X : Nat × (Nat → Int32)} {l0 l1 l2 l3 l4 l5 l6 l7 l8 l9 l10 l11 l12 l13 l14 l15 l16 l17 l18 : Option Value} {i0 i1 i2 i3 i4 i5 i6 i7 i8 i9 v : Int32} {j0 j1 j2 j3 j4 j5 j6 u : Int64} {a0 a1 a2 a3 a4 a5 a6 a7 a8 r N c s : Nat} {h : zH} {Q : Option Value → Nat → zH → Prop}

-- 19 Arrays_fill ([II)V
theorem e19_0 : zE X 19 0 [l0, l1, l2, l3] [] (N, 0, 0) h Q = zE X 19 1 [l0, l1, l2, l3] [.int 0] (N, 0, 0) h Q := zE_iconst (n := 0) (by decide +kernel) (by decide)
theorem e19_1 : zE X 19 1 [l0, l1, l2, l3] [.int i0] (N, 0, 0) h Q = zE X 19 2 [l0, l1, some (.int i0), l3] [] (N, 0, 0) h Q := zE_istore_n (k := 2) (by decide +kernel) rfl rfl
theorem e19_2 : zE X 19 2 [some (.ref r), l1, l2, l3] [] (N, 0, 0) h Q = zE X 19 3 [some (.ref r), l1, l2, l3] [.ref r] (N, 0, 0) h Q := zE_aload_n (k := 0) (by decide +kernel) rfl
theorem e19_3 : zE X 19 3 [l0, l1, l2, l3] [.ref a0] (N, 0, 0) h Q = zan (h a0) (fun x => zE X 19 4 [l0, l1, l2, l3] [.int x] (N, 0, 0) h Q) := zE_alen (by decide +kernel)
theorem e19_4 : zE X 19 4 [l0, l1, l2, l3] [.int i0] (N, 0, 0) h Q = zE X 19 5 [l0, l1, l2, some (.int i0)] [] (N, 0, 0) h Q := zE_istore_n (k := 3) (by decide +kernel) rfl rfl
theorem e19_5 : zE X 19 5 [l0, l1, some (.int v), l3] [] (N, 0, 0) h Q = zE X 19 6 [l0, l1, some (.int v), l3] [.int v] (N, 0, 0) h Q := zE_iload_n (k := 2) (by decide +kernel) rfl
theorem e19_6 : zE X 19 6 [l0, l1, l2, some (.int v)] [.int i0] (N, 0, 0) h Q = zE X 19 7 [l0, l1, l2, some (.int v)] [.int v, .int i0] (N, 0, 0) h Q := zE_iload_n (k := 3) (by decide +kernel) rfl
theorem e19_7 : zE X 19 7 [l0, l1, l2, l3] [.int i0, .int i1] (N, 0, 0) h Q = if i0 ≤ i1 then zE X 19 20 [l0, l1, l2, l3] [] (N, 0, 0) h Q else zE X 19 10 [l0, l1, l2, l3] [] (N, 0, 0) h Q := zE_icmp_ge (off := 13) (by decide +kernel) (by decide)
theorem e19_10 : zE X 19 10 [some (.ref r), l1, l2, l3] [] (N, 0, 0) h Q = zE X 19 11 [some (.ref r), l1, l2, l3] [.ref r] (N, 0, 0) h Q := zE_aload_n (k := 0) (by decide +kernel) rfl
theorem e19_11 : zE X 19 11 [l0, l1, some (.int v), l3] [.ref a0] (N, 0, 0) h Q = zE X 19 12 [l0, l1, some (.int v), l3] [.int v, .ref a0] (N, 0, 0) h Q := zE_iload_n (k := 2) (by decide +kernel) rfl
theorem e19_12 : zE X 19 12 [l0, some (.int v), l2, l3] [.int i0, .ref a1] (N, 0, 0) h Q = zE X 19 13 [l0, some (.int v), l2, l3] [.int v, .int i0, .ref a1] (N, 0, 0) h Q := zE_iload_n (k := 1) (by decide +kernel) rfl
theorem e19_13 : zE X 19 13 [l0, l1, l2, l3] [.int i0, .int i1, .ref a2] (N, 0, 0) h Q = zas (h a2) 0 i1 i0 (fun c => zE X 19 14 [l0, l1, l2, l3] [] (N, 0, 0) (va_up h a2 c) Q) := zE_iastore (by decide +kernel)
theorem e19_14 : zE X 19 14 [l0, l1, some (.int v), l3] [] (N, 0, 0) h Q = zE X 19 17 [l0, l1, some (.int (v + 1)), l3] [] (N, 0, 0) h Q := zE_iinc (k := 2) (n := 1) (by decide +kernel) rfl rfl (by decide) rfl
theorem e19_17 : zE X 19 17 [l0, l1, l2, l3] [] (N, 0, 0) h Q = zE X 19 5 [l0, l1, l2, l3] [] (N, 0, 0) h Q := zE_goto (off := -12) (by decide +kernel) (by decide)
theorem e19_20 : zE X 19 20 [l0, l1, l2, l3] [] (N, 0, 0) h Q = Q none N h := zE_return (by decide +kernel) rfl
-- 55 Math_min (II)I
theorem e55_0 : zE X 55 0 [some (.int v), l1] [] (N, 0, 0) h Q = zE X 55 1 [some (.int v), l1] [.int v] (N, 0, 0) h Q := zE_iload_n (k := 0) (by decide +kernel) rfl
theorem e55_1 : zE X 55 1 [l0, some (.int v)] [.int i0] (N, 0, 0) h Q = zE X 55 2 [l0, some (.int v)] [.int v, .int i0] (N, 0, 0) h Q := zE_iload_n (k := 1) (by decide +kernel) rfl
theorem e55_2 : zE X 55 2 [l0, l1] [.int i0, .int i1] (N, 0, 0) h Q = if i0 < i1 then zE X 55 9 [l0, l1] [] (N, 0, 0) h Q else zE X 55 5 [l0, l1] [] (N, 0, 0) h Q := zE_icmp_gt (off := 7) (by decide +kernel) (by decide)
theorem e55_5 : zE X 55 5 [some (.int v), l1] [] (N, 0, 0) h Q = zE X 55 6 [some (.int v), l1] [.int v] (N, 0, 0) h Q := zE_iload_n (k := 0) (by decide +kernel) rfl
theorem e55_6 : zE X 55 6 [l0, l1] [.int i0] (N, 0, 0) h Q = zE X 55 10 [l0, l1] [.int i0] (N, 0, 0) h Q := zE_goto (off := 4) (by decide +kernel) (by decide)
theorem e55_9 : zE X 55 9 [l0, some (.int v)] [] (N, 0, 0) h Q = zE X 55 10 [l0, some (.int v)] [.int v] (N, 0, 0) h Q := zE_iload_n (k := 1) (by decide +kernel) rfl
theorem e55_10 : zE X 55 10 [l0, l1] [.int i0] (N, 0, 0) h Q = Q (some (.int i0)) N h := zE_ireturn (by decide +kernel) rfl
-- 58 Math_abs (I)I
theorem e58_0 : zE X 58 0 [some (.int v)] [] (N, 0, 0) h Q = zE X 58 1 [some (.int v)] [.int v] (N, 0, 0) h Q := zE_iload_n (k := 0) (by decide +kernel) rfl
theorem e58_1 : zE X 58 1 [l0] [.int i0] (N, 0, 0) h Q = if 0 ≤ i0 then zE X 58 9 [l0] [] (N, 0, 0) h Q else zE X 58 4 [l0] [] (N, 0, 0) h Q := zE_if_ge (off := 8) (by decide +kernel) (by decide)
theorem e58_4 : zE X 58 4 [some (.int v)] [] (N, 0, 0) h Q = zE X 58 5 [some (.int v)] [.int v] (N, 0, 0) h Q := zE_iload_n (k := 0) (by decide +kernel) rfl
theorem e58_5 : zE X 58 5 [l0] [.int i0] (N, 0, 0) h Q = zE X 58 6 [l0] [.int (-i0)] (N, 0, 0) h Q := zE_ineg (by decide +kernel)
theorem e58_6 : zE X 58 6 [l0] [.int i0] (N, 0, 0) h Q = zE X 58 10 [l0] [.int i0] (N, 0, 0) h Q := zE_goto (off := 4) (by decide +kernel) (by decide)
theorem e58_9 : zE X 58 9 [some (.int v)] [] (N, 0, 0) h Q = zE X 58 10 [some (.int v)] [.int v] (N, 0, 0) h Q := zE_iload_n (k := 0) (by decide +kernel) rfl
theorem e58_10 : zE X 58 10 [l0] [.int i0] (N, 0, 0) h Q = Q (some (.int i0)) N h := zE_ireturn (by decide +kernel) rfl
-- 67 Math_floorMod (II)I
theorem e67_0 : zE X 67 0 [some (.int v), l1, l2] [] (N, 0, 0) h Q = zE X 67 1 [some (.int v), l1, l2] [.int v] (N, 0, 0) h Q := zE_iload_n (k := 0) (by decide +kernel) rfl
theorem e67_1 : zE X 67 1 [l0, some (.int v), l2] [.int i0] (N, 0, 0) h Q = zE X 67 2 [l0, some (.int v), l2] [.int v, .int i0] (N, 0, 0) h Q := zE_iload_n (k := 1) (by decide +kernel) rfl
theorem e67_2 : zE X 67 2 [l0, l1, l2] [.int i0, .int i1] (N, 0, 0) h Q = if i0 = 0 then False else zE X 67 3 [l0, l1, l2] [.int (i1 - i1 / i0 * i0)] (N, 0, 0) h Q := zE_irem (by decide +kernel)
theorem e67_3 : zE X 67 3 [l0, l1, l2] [.int i0] (N, 0, 0) h Q = zE X 67 4 [l0, l1, some (.int i0)] [] (N, 0, 0) h Q := zE_istore_n (k := 2) (by decide +kernel) rfl rfl
theorem e67_4 : zE X 67 4 [some (.int v), l1, l2] [] (N, 0, 0) h Q = zE X 67 5 [some (.int v), l1, l2] [.int v] (N, 0, 0) h Q := zE_iload_n (k := 0) (by decide +kernel) rfl
theorem e67_5 : zE X 67 5 [l0, some (.int v), l2] [.int i0] (N, 0, 0) h Q = zE X 67 6 [l0, some (.int v), l2] [.int v, .int i0] (N, 0, 0) h Q := zE_iload_n (k := 1) (by decide +kernel) rfl
theorem e67_6 : zE X 67 6 [l0, l1, l2] [.int i0, .int i1] (N, 0, 0) h Q = zE X 67 7 [l0, l1, l2] [.int (i1 ^^^ i0)] (N, 0, 0) h Q := zE_ixor (by decide +kernel)
theorem e67_7 : zE X 67 7 [l0, l1, l2] [.int i0] (N, 0, 0) h Q = if 0 ≤ i0 then zE X 67 18 [l0, l1, l2] [] (N, 0, 0) h Q else zE X 67 10 [l0, l1, l2] [] (N, 0, 0) h Q := zE_if_ge (off := 11) (by decide +kernel) (by decide)
theorem e67_10 : zE X 67 10 [l0, l1, some (.int v)] [] (N, 0, 0) h Q = zE X 67 11 [l0, l1, some (.int v)] [.int v] (N, 0, 0) h Q := zE_iload_n (k := 2) (by decide +kernel) rfl
theorem e67_11 : zE X 67 11 [l0, l1, l2] [.int i0] (N, 0, 0) h Q = if i0 = 0 then zE X 67 18 [l0, l1, l2] [] (N, 0, 0) h Q else zE X 67 14 [l0, l1, l2] [] (N, 0, 0) h Q := zE_if_eq (off := 7) (by decide +kernel) (by decide)
theorem e67_14 : zE X 67 14 [l0, l1, some (.int v)] [] (N, 0, 0) h Q = zE X 67 15 [l0, l1, some (.int v)] [.int v] (N, 0, 0) h Q := zE_iload_n (k := 2) (by decide +kernel) rfl
theorem e67_15 : zE X 67 15 [l0, some (.int v), l2] [.int i0] (N, 0, 0) h Q = zE X 67 16 [l0, some (.int v), l2] [.int v, .int i0] (N, 0, 0) h Q := zE_iload_n (k := 1) (by decide +kernel) rfl
theorem e67_16 : zE X 67 16 [l0, l1, l2] [.int i0, .int i1] (N, 0, 0) h Q = zE X 67 17 [l0, l1, l2] [.int (i1 + i0)] (N, 0, 0) h Q := zE_iadd (by decide +kernel)
theorem e67_17 : zE X 67 17 [l0, l1, l2] [.int i0] (N, 0, 0) h Q = Q (some (.int i0)) N h := zE_ireturn (by decide +kernel) rfl
theorem e67_18 : zE X 67 18 [l0, l1, some (.int v)] [] (N, 0, 0) h Q = zE X 67 19 [l0, l1, some (.int v)] [.int v] (N, 0, 0) h Q := zE_iload_n (k := 2) (by decide +kernel) rfl
theorem e67_19 : zE X 67 19 [l0, l1, l2] [.int i0] (N, 0, 0) h Q = Q (some (.int i0)) N h := zE_ireturn (by decide +kernel) rfl
-- 74 Math_max (II)I
theorem e74_0 : zE X 74 0 [some (.int v), l1] [] (N, 0, 0) h Q = zE X 74 1 [some (.int v), l1] [.int v] (N, 0, 0) h Q := zE_iload_n (k := 0) (by decide +kernel) rfl
theorem e74_1 : zE X 74 1 [l0, some (.int v)] [.int i0] (N, 0, 0) h Q = zE X 74 2 [l0, some (.int v)] [.int v, .int i0] (N, 0, 0) h Q := zE_iload_n (k := 1) (by decide +kernel) rfl
theorem e74_2 : zE X 74 2 [l0, l1] [.int i0, .int i1] (N, 0, 0) h Q = if i1 < i0 then zE X 74 9 [l0, l1] [] (N, 0, 0) h Q else zE X 74 5 [l0, l1] [] (N, 0, 0) h Q := zE_icmp_lt (off := 7) (by decide +kernel) (by decide)
theorem e74_5 : zE X 74 5 [some (.int v), l1] [] (N, 0, 0) h Q = zE X 74 6 [some (.int v), l1] [.int v] (N, 0, 0) h Q := zE_iload_n (k := 0) (by decide +kernel) rfl
theorem e74_6 : zE X 74 6 [l0, l1] [.int i0] (N, 0, 0) h Q = zE X 74 10 [l0, l1] [.int i0] (N, 0, 0) h Q := zE_goto (off := 4) (by decide +kernel) (by decide)
theorem e74_9 : zE X 74 9 [l0, some (.int v)] [] (N, 0, 0) h Q = zE X 74 10 [l0, some (.int v)] [.int v] (N, 0, 0) h Q := zE_iload_n (k := 1) (by decide +kernel) rfl
theorem e74_10 : zE X 74 10 [l0, l1] [.int i0] (N, 0, 0) h Q = Q (some (.int i0)) N h := zE_ireturn (by decide +kernel) rfl
-- 77 Integer_bitCount (I)I
theorem e77_0 : zE X 77 0 [some (.int v)] [] (N, 0, 0) h Q = zE X 77 1 [some (.int v)] [.int v] (N, 0, 0) h Q := zE_iload_n (k := 0) (by decide +kernel) rfl
theorem e77_1 : zE X 77 1 [some (.int v)] [.int i0] (N, 0, 0) h Q = zE X 77 2 [some (.int v)] [.int v, .int i0] (N, 0, 0) h Q := zE_iload_n (k := 0) (by decide +kernel) rfl
theorem e77_2 : zE X 77 2 [l0] [.int i0, .int i1] (N, 0, 0) h Q = zE X 77 3 [l0] [.int 1, .int i0, .int i1] (N, 0, 0) h Q := zE_iconst (n := 1) (by decide +kernel) (by decide)
theorem e77_3 : zE X 77 3 [l0] [.int i0, .int i1, .int i2] (N, 0, 0) h Q = zE X 77 4 [l0] [.int (i1.toUInt32 >>> (i0.toUInt32 &&& Int32.toUInt32 31)).toInt32, .int i2] (N, 0, 0) h Q := zE_iushr (by decide +kernel)
theorem e77_4 : zE X 77 4 [l0] [.int i0, .int i1] (N, 0, 0) h Q = zE X 77 7 [l0] [.int 1431655765, .int i0, .int i1] (N, 0, 0) h Q := zE_ldcw (k := 265) (q := 679) (by decide +kernel) rfl
theorem e77_7 : zE X 77 7 [l0] [.int i0, .int i1, .int i2] (N, 0, 0) h Q = zE X 77 8 [l0] [.int (i1 &&& i0), .int i2] (N, 0, 0) h Q := zE_iand (by decide +kernel)
theorem e77_8 : zE X 77 8 [l0] [.int i0, .int i1] (N, 0, 0) h Q = zE X 77 9 [l0] [.int (i1 - i0)] (N, 0, 0) h Q := zE_isub (by decide +kernel)
theorem e77_9 : zE X 77 9 [l0] [.int i0] (N, 0, 0) h Q = zE X 77 10 [some (.int i0)] [] (N, 0, 0) h Q := zE_istore_n (k := 0) (by decide +kernel) rfl rfl
theorem e77_10 : zE X 77 10 [some (.int v)] [] (N, 0, 0) h Q = zE X 77 11 [some (.int v)] [.int v] (N, 0, 0) h Q := zE_iload_n (k := 0) (by decide +kernel) rfl
theorem e77_11 : zE X 77 11 [l0] [.int i0] (N, 0, 0) h Q = zE X 77 14 [l0] [.int 858993459, .int i0] (N, 0, 0) h Q := zE_ldcw (k := 266) (q := 680) (by decide +kernel) rfl
theorem e77_14 : zE X 77 14 [l0] [.int i0, .int i1] (N, 0, 0) h Q = zE X 77 15 [l0] [.int (i1 &&& i0)] (N, 0, 0) h Q := zE_iand (by decide +kernel)
theorem e77_15 : zE X 77 15 [some (.int v)] [.int i0] (N, 0, 0) h Q = zE X 77 16 [some (.int v)] [.int v, .int i0] (N, 0, 0) h Q := zE_iload_n (k := 0) (by decide +kernel) rfl
theorem e77_16 : zE X 77 16 [l0] [.int i0, .int i1] (N, 0, 0) h Q = zE X 77 17 [l0] [.int 2, .int i0, .int i1] (N, 0, 0) h Q := zE_iconst (n := 2) (by decide +kernel) (by decide)
theorem e77_17 : zE X 77 17 [l0] [.int i0, .int i1, .int i2] (N, 0, 0) h Q = zE X 77 18 [l0] [.int (i1.toUInt32 >>> (i0.toUInt32 &&& Int32.toUInt32 31)).toInt32, .int i2] (N, 0, 0) h Q := zE_iushr (by decide +kernel)
theorem e77_18 : zE X 77 18 [l0] [.int i0, .int i1] (N, 0, 0) h Q = zE X 77 21 [l0] [.int 858993459, .int i0, .int i1] (N, 0, 0) h Q := zE_ldcw (k := 266) (q := 680) (by decide +kernel) rfl
theorem e77_21 : zE X 77 21 [l0] [.int i0, .int i1, .int i2] (N, 0, 0) h Q = zE X 77 22 [l0] [.int (i1 &&& i0), .int i2] (N, 0, 0) h Q := zE_iand (by decide +kernel)
theorem e77_22 : zE X 77 22 [l0] [.int i0, .int i1] (N, 0, 0) h Q = zE X 77 23 [l0] [.int (i1 + i0)] (N, 0, 0) h Q := zE_iadd (by decide +kernel)
theorem e77_23 : zE X 77 23 [l0] [.int i0] (N, 0, 0) h Q = zE X 77 24 [some (.int i0)] [] (N, 0, 0) h Q := zE_istore_n (k := 0) (by decide +kernel) rfl rfl
theorem e77_24 : zE X 77 24 [some (.int v)] [] (N, 0, 0) h Q = zE X 77 25 [some (.int v)] [.int v] (N, 0, 0) h Q := zE_iload_n (k := 0) (by decide +kernel) rfl
theorem e77_25 : zE X 77 25 [some (.int v)] [.int i0] (N, 0, 0) h Q = zE X 77 26 [some (.int v)] [.int v, .int i0] (N, 0, 0) h Q := zE_iload_n (k := 0) (by decide +kernel) rfl
theorem e77_26 : zE X 77 26 [l0] [.int i0, .int i1] (N, 0, 0) h Q = zE X 77 27 [l0] [.int 4, .int i0, .int i1] (N, 0, 0) h Q := zE_iconst (n := 4) (by decide +kernel) (by decide)
theorem e77_27 : zE X 77 27 [l0] [.int i0, .int i1, .int i2] (N, 0, 0) h Q = zE X 77 28 [l0] [.int (i1.toUInt32 >>> (i0.toUInt32 &&& Int32.toUInt32 31)).toInt32, .int i2] (N, 0, 0) h Q := zE_iushr (by decide +kernel)
theorem e77_28 : zE X 77 28 [l0] [.int i0, .int i1] (N, 0, 0) h Q = zE X 77 29 [l0] [.int (i1 + i0)] (N, 0, 0) h Q := zE_iadd (by decide +kernel)
theorem e77_29 : zE X 77 29 [l0] [.int i0] (N, 0, 0) h Q = zE X 77 32 [l0] [.int 252645135, .int i0] (N, 0, 0) h Q := zE_ldcw (k := 267) (q := 681) (by decide +kernel) rfl
theorem e77_32 : zE X 77 32 [l0] [.int i0, .int i1] (N, 0, 0) h Q = zE X 77 33 [l0] [.int (i1 &&& i0)] (N, 0, 0) h Q := zE_iand (by decide +kernel)
theorem e77_33 : zE X 77 33 [l0] [.int i0] (N, 0, 0) h Q = zE X 77 34 [some (.int i0)] [] (N, 0, 0) h Q := zE_istore_n (k := 0) (by decide +kernel) rfl rfl
theorem e77_34 : zE X 77 34 [some (.int v)] [] (N, 0, 0) h Q = zE X 77 35 [some (.int v)] [.int v] (N, 0, 0) h Q := zE_iload_n (k := 0) (by decide +kernel) rfl
theorem e77_35 : zE X 77 35 [some (.int v)] [.int i0] (N, 0, 0) h Q = zE X 77 36 [some (.int v)] [.int v, .int i0] (N, 0, 0) h Q := zE_iload_n (k := 0) (by decide +kernel) rfl
theorem e77_36 : zE X 77 36 [l0] [.int i0, .int i1] (N, 0, 0) h Q = zE X 77 38 [l0] [.int 8, .int i0, .int i1] (N, 0, 0) h Q := zE_bipush (n := 8) (by decide +kernel) (by decide)
theorem e77_38 : zE X 77 38 [l0] [.int i0, .int i1, .int i2] (N, 0, 0) h Q = zE X 77 39 [l0] [.int (i1.toUInt32 >>> (i0.toUInt32 &&& Int32.toUInt32 31)).toInt32, .int i2] (N, 0, 0) h Q := zE_iushr (by decide +kernel)
theorem e77_39 : zE X 77 39 [l0] [.int i0, .int i1] (N, 0, 0) h Q = zE X 77 40 [l0] [.int (i1 + i0)] (N, 0, 0) h Q := zE_iadd (by decide +kernel)
theorem e77_40 : zE X 77 40 [l0] [.int i0] (N, 0, 0) h Q = zE X 77 41 [some (.int i0)] [] (N, 0, 0) h Q := zE_istore_n (k := 0) (by decide +kernel) rfl rfl
theorem e77_41 : zE X 77 41 [some (.int v)] [] (N, 0, 0) h Q = zE X 77 42 [some (.int v)] [.int v] (N, 0, 0) h Q := zE_iload_n (k := 0) (by decide +kernel) rfl
theorem e77_42 : zE X 77 42 [some (.int v)] [.int i0] (N, 0, 0) h Q = zE X 77 43 [some (.int v)] [.int v, .int i0] (N, 0, 0) h Q := zE_iload_n (k := 0) (by decide +kernel) rfl
theorem e77_43 : zE X 77 43 [l0] [.int i0, .int i1] (N, 0, 0) h Q = zE X 77 45 [l0] [.int 16, .int i0, .int i1] (N, 0, 0) h Q := zE_bipush (n := 16) (by decide +kernel) (by decide)
theorem e77_45 : zE X 77 45 [l0] [.int i0, .int i1, .int i2] (N, 0, 0) h Q = zE X 77 46 [l0] [.int (i1.toUInt32 >>> (i0.toUInt32 &&& Int32.toUInt32 31)).toInt32, .int i2] (N, 0, 0) h Q := zE_iushr (by decide +kernel)
theorem e77_46 : zE X 77 46 [l0] [.int i0, .int i1] (N, 0, 0) h Q = zE X 77 47 [l0] [.int (i1 + i0)] (N, 0, 0) h Q := zE_iadd (by decide +kernel)
theorem e77_47 : zE X 77 47 [l0] [.int i0] (N, 0, 0) h Q = zE X 77 48 [some (.int i0)] [] (N, 0, 0) h Q := zE_istore_n (k := 0) (by decide +kernel) rfl rfl
theorem e77_48 : zE X 77 48 [some (.int v)] [] (N, 0, 0) h Q = zE X 77 49 [some (.int v)] [.int v] (N, 0, 0) h Q := zE_iload_n (k := 0) (by decide +kernel) rfl
theorem e77_49 : zE X 77 49 [l0] [.int i0] (N, 0, 0) h Q = zE X 77 51 [l0] [.int 63, .int i0] (N, 0, 0) h Q := zE_bipush (n := 63) (by decide +kernel) (by decide)
theorem e77_51 : zE X 77 51 [l0] [.int i0, .int i1] (N, 0, 0) h Q = zE X 77 52 [l0] [.int (i1 &&& i0)] (N, 0, 0) h Q := zE_iand (by decide +kernel)
theorem e77_52 : zE X 77 52 [l0] [.int i0] (N, 0, 0) h Q = Q (some (.int i0)) N h := zE_ireturn (by decide +kernel) rfl
-- 14 Script_append (IJ)V
theorem e14_0 : zE X 14 0 [l0, some (.int v), l2, l3, l4] [] (N, 0, 0) h Q = zE X 14 1 [l0, some (.int v), l2, l3, l4] [.int v] (N, 0, 0) h Q := zE_iload_n (k := 1) (by decide +kernel) rfl
theorem e14_1 : zE X 14 1 [l0, l1, l2, l3, l4] [.int i0] (N, 0, 0) h Q = zE X 14 2 [l0, l1, l2, l3, l4] [.int 1, .int i0] (N, 0, 0) h Q := zE_iconst (n := 1) (by decide +kernel) (by decide)
theorem e14_2 : zE X 14 2 [l0, l1, l2, l3, l4] [.int i0, .int i1] (N, 0, 0) h Q = zE X 14 3 [l0, l1, l2, l3, l4] [.int (i1 - i0)] (N, 0, 0) h Q := zE_isub (by decide +kernel)
theorem e14_3 : zE X 14 3 [l0, l1, l2, l3, l4] [.int i0] (N, 0, 0) h Q = zE X 14 5 [l0, l1, l2, l3, some (.int i0)] [] (N, 0, 0) h Q := zE_istore (k := 4) (by decide +kernel) rfl rfl
theorem e14_5 : zE X 14 5 [l0, l1, l2, l3, some (.int v)] [] (N, 0, 0) h Q = zE X 14 7 [l0, l1, l2, l3, some (.int v)] [.int v] (N, 0, 0) h Q := zE_iload (k := 4) (by decide +kernel) rfl
theorem e14_7 : zE X 14 7 [l0, l1, l2, l3, l4] [.int i0] (N, 0, 0) h Q = if i0 < 0 then zE X 14 54 [l0, l1, l2, l3, l4] [] (N, 0, 0) h Q else zE X 14 10 [l0, l1, l2, l3, l4] [] (N, 0, 0) h Q := zE_if_lt (off := 47) (by decide +kernel) (by decide)
theorem e14_10 : zE X 14 10 [some (.ref r), l1, l2, l3, l4] [] (N, 0, 0) h Q = zE X 14 11 [some (.ref r), l1, l2, l3, l4] [.ref r] (N, 0, 0) h Q := zE_aload_n (k := 0) (by decide +kernel) rfl
theorem e14_11 : zE X 14 11 [l0, l1, l2, l3, l4] [.ref a0] (N, 0, 0) h Q = zgf (h a0) 4 1 (fun v => zE X 14 14 [l0, l1, l2, l3, l4] [v] (N, 0, 0) h Q) := zE_getfield (k := 15) (nest := false) (q := 112) (by decide +kernel) rfl
theorem e14_14 : zE X 14 14 [l0, l1, l2, l3, l4] [.int i0] (N, 0, 0) h Q = zE X 14 17 [l0, l1, l2, l3, l4] [.int 400, .int i0] (N, 0, 0) h Q := zE_sipush (n := 400) (by decide +kernel) (by decide)
theorem e14_17 : zE X 14 17 [l0, l1, l2, l3, l4] [.int i0, .int i1] (N, 0, 0) h Q = if i0 ≤ i1 then zE X 14 54 [l0, l1, l2, l3, l4] [] (N, 0, 0) h Q else zE X 14 20 [l0, l1, l2, l3, l4] [] (N, 0, 0) h Q := zE_icmp_ge (off := 37) (by decide +kernel) (by decide)
theorem e14_20 : zE X 14 20 [some (.ref r), l1, l2, l3, l4] [] (N, 0, 0) h Q = zE X 14 21 [some (.ref r), l1, l2, l3, l4] [.ref r] (N, 0, 0) h Q := zE_aload_n (k := 0) (by decide +kernel) rfl
theorem e14_21 : zE X 14 21 [l0, l1, l2, l3, l4] [.ref a0] (N, 0, 0) h Q = zgf (h a0) 4 0 (fun v => zE X 14 24 [l0, l1, l2, l3, l4] [v] (N, 0, 0) h Q) := zE_getfield (k := 9) (nest := false) (q := 111) (by decide +kernel) rfl
theorem e14_24 : zE X 14 24 [some (.ref r), l1, l2, l3, l4] [.ref a0] (N, 0, 0) h Q = zE X 14 25 [some (.ref r), l1, l2, l3, l4] [.ref r, .ref a0] (N, 0, 0) h Q := zE_aload_n (k := 0) (by decide +kernel) rfl
theorem e14_25 : zE X 14 25 [l0, l1, l2, l3, l4] [.ref a0, .ref a1] (N, 0, 0) h Q = zgf (h a0) 4 1 (fun v => zE X 14 28 [l0, l1, l2, l3, l4] [v, .ref a1] (N, 0, 0) h Q) := zE_getfield (k := 15) (nest := false) (q := 112) (by decide +kernel) rfl
theorem e14_28 : zE X 14 28 [l0, l1, some (.long u), l3, l4] [.int i0, .ref a1] (N, 0, 0) h Q = zE X 14 29 [l0, l1, some (.long u), l3, l4] [.long u, .int i0, .ref a1] (N, 0, 0) h Q := zE_lload_n (k := 2) (by decide +kernel) rfl
theorem e14_29 : zE X 14 29 [l0, l1, l2, l3, l4] [.long j0, .int i1, .ref a2] (N, 0, 0) h Q = zE X 14 31 [l0, l1, l2, l3, l4] [.int 8, .long j0, .int i1, .ref a2] (N, 0, 0) h Q := zE_bipush (n := 8) (by decide +kernel) (by decide)
theorem e14_31 : zE X 14 31 [l0, l1, l2, l3, some (.int v)] [.int i0, .long j1, .int i2, .ref a3] (N, 0, 0) h Q = zE X 14 33 [l0, l1, l2, l3, some (.int v)] [.int v, .int i0, .long j1, .int i2, .ref a3] (N, 0, 0) h Q := zE_iload (k := 4) (by decide +kernel) rfl
theorem e14_33 : zE X 14 33 [l0, l1, l2, l3, l4] [.int i0, .int i1, .long j2, .int i3, .ref a4] (N, 0, 0) h Q = zE X 14 34 [l0, l1, l2, l3, l4] [.int (i1 * i0), .long j2, .int i3, .ref a4] (N, 0, 0) h Q := zE_imul (by decide +kernel)
theorem e14_34 : zE X 14 34 [l0, l1, l2, l3, l4] [.int i0, .long j1, .int i2, .ref a3] (N, 0, 0) h Q = zE X 14 35 [l0, l1, l2, l3, l4] [.long (j1 >>> (i0.toInt64 &&& 63)), .int i2, .ref a3] (N, 0, 0) h Q := zE_lshr (by decide +kernel)
theorem e14_35 : zE X 14 35 [l0, l1, l2, l3, l4] [.long j0, .int i1, .ref a2] (N, 0, 0) h Q = zE X 14 36 [l0, l1, l2, l3, l4] [.int j0.toInt32, .int i1, .ref a2] (N, 0, 0) h Q := zE_l2i (by decide +kernel)
theorem e14_36 : zE X 14 36 [l0, l1, l2, l3, l4] [.int i0, .int i1, .ref a2] (N, 0, 0) h Q = zE X 14 37 [l0, l1, l2, l3, l4] [.int i0.toInt8.toInt32, .int i1, .ref a2] (N, 0, 0) h Q := zE_i2b (by decide +kernel)
theorem e14_37 : zE X 14 37 [l0, l1, l2, l3, l4] [.int i0, .int i1, .ref a2] (N, 0, 0) h Q = zas (h a2) 1 i1 i0 (fun c => zE X 14 38 [l0, l1, l2, l3, l4] [] (N, 0, 0) (va_up h a2 c) Q) := zE_bastore (by decide +kernel)
theorem e14_38 : zE X 14 38 [some (.ref r), l1, l2, l3, l4] [] (N, 0, 0) h Q = zE X 14 39 [some (.ref r), l1, l2, l3, l4] [.ref r] (N, 0, 0) h Q := zE_aload_n (k := 0) (by decide +kernel) rfl
theorem e14_39 : zE X 14 39 [l0, l1, l2, l3, l4] [.ref a0] (N, 0, 0) h Q = zE X 14 40 [l0, l1, l2, l3, l4] [.ref a0, .ref a0] (N, 0, 0) h Q := zE_dup (by decide +kernel) rfl
theorem e14_40 : zE X 14 40 [l0, l1, l2, l3, l4] [.ref a0, .ref a1] (N, 0, 0) h Q = zgf (h a0) 4 1 (fun v => zE X 14 43 [l0, l1, l2, l3, l4] [v, .ref a1] (N, 0, 0) h Q) := zE_getfield (k := 15) (nest := false) (q := 112) (by decide +kernel) rfl
theorem e14_43 : zE X 14 43 [l0, l1, l2, l3, l4] [.int i0, .ref a1] (N, 0, 0) h Q = zE X 14 44 [l0, l1, l2, l3, l4] [.int 1, .int i0, .ref a1] (N, 0, 0) h Q := zE_iconst (n := 1) (by decide +kernel) (by decide)
theorem e14_44 : zE X 14 44 [l0, l1, l2, l3, l4] [.int i0, .int i1, .ref a2] (N, 0, 0) h Q = zE X 14 45 [l0, l1, l2, l3, l4] [.int (i1 + i0), .ref a2] (N, 0, 0) h Q := zE_iadd (by decide +kernel)
theorem e14_45 : zE X 14 45 [l0, l1, l2, l3, l4] [.int i0, .ref a1] (N, 0, 0) h Q = zpf (h a1) 4 1 (.int i0) (fun c => zE X 14 48 [l0, l1, l2, l3, l4] [] (N, 0, 0) (va_up h a1 c) Q) := zE_putfield (k := 15) (nest := false) (q := 112) (by decide +kernel) rfl rfl rfl
theorem e14_48 : zE X 14 48 [l0, l1, l2, l3, some (.int v)] [] (N, 0, 0) h Q = zE X 14 51 [l0, l1, l2, l3, some (.int (v + (-1)))] [] (N, 0, 0) h Q := zE_iinc (k := 4) (n := -1) (by decide +kernel) rfl rfl (by decide) rfl
theorem e14_51 : zE X 14 51 [l0, l1, l2, l3, l4] [] (N, 0, 0) h Q = zE X 14 5 [l0, l1, l2, l3, l4] [] (N, 0, 0) h Q := zE_goto (off := -46) (by decide +kernel) (by decide)
theorem e14_54 : zE X 14 54 [l0, l1, l2, l3, l4] [] (N, 0, 0) h Q = Q none N h := zE_return (by decide +kernel) rfl
-- 17 ItemReader_readAll (LPursesByLot$Script;LPursesByLot$Sheet;)I
theorem e17_0 : zE X 17 0 [l0, l1, some (.ref r), l3, l4, l5] [] (N, 0, 0) h Q = zE X 17 1 [l0, l1, some (.ref r), l3, l4, l5] [.ref r] (N, 0, 0) h Q := zE_aload_n (k := 2) (by decide +kernel) rfl
theorem e17_1 : zE X 17 1 [l0, l1, l2, l3, l4, l5] [.ref a0] (N, 0, 0) h Q = zrc (h a0) 5 (zE X 18 0 [some (.ref a0)] [] (N, 0, 0) h (fun v N' h' => zE X 17 4 [l0, l1, l2, l3, l4, l5] (v.toList ++ []) (N', 0, 0) h' Q)) := zE_invv (k := 9) (z := 18) (nest := true) (q := 436) (as := []) (by decide +kernel) rfl rfl (by decide +kernel) rfl rfl rfl rfl ⟨rfl, rfl⟩ rfl ⟨Nat.zero_le _, Nat.zero_le _⟩
theorem e17_4 : zE X 17 4 [l0, l1, l2, l3, l4, l5] [] (N, 0, 0) h Q = zE X 17 5 [l0, l1, l2, l3, l4, l5] [.int 0] (N, 0, 0) h Q := zE_iconst (n := 0) (by decide +kernel) (by decide)
theorem e17_5 : zE X 17 5 [l0, l1, l2, l3, l4, l5] [.int i0] (N, 0, 0) h Q = zE X 17 6 [l0, l1, l2, some (.int i0), l4, l5] [] (N, 0, 0) h Q := zE_istore_n (k := 3) (by decide +kernel) rfl rfl
theorem e17_6 : zE X 17 6 [l0, l1, l2, l3, l4, l5] [] (N, 0, 0) h Q = zE X 17 7 [l0, l1, l2, l3, l4, l5] [.int 0] (N, 0, 0) h Q := zE_iconst (n := 0) (by decide +kernel) (by decide)
theorem e17_7 : zE X 17 7 [l0, l1, l2, l3, l4, l5] [.int i0] (N, 0, 0) h Q = zE X 17 9 [l0, l1, l2, l3, some (.int i0), l5] [] (N, 0, 0) h Q := zE_istore (k := 4) (by decide +kernel) rfl rfl
theorem e17_9 : zE X 17 9 [l0, l1, l2, l3, some (.int v), l5] [] (N, 0, 0) h Q = zE X 17 11 [l0, l1, l2, l3, some (.int v), l5] [.int v] (N, 0, 0) h Q := zE_iload (k := 4) (by decide +kernel) rfl
theorem e17_11 : zE X 17 11 [l0, l1, l2, l3, l4, l5] [.int i0] (N, 0, 0) h Q = zE X 17 14 [l0, l1, l2, l3, l4, l5] [.int 400, .int i0] (N, 0, 0) h Q := zE_sipush (n := 400) (by decide +kernel) (by decide)
theorem e17_14 : zE X 17 14 [l0, l1, l2, l3, l4, l5] [.int i0, .int i1] (N, 0, 0) h Q = if i0 ≤ i1 then zE X 17 59 [l0, l1, l2, l3, l4, l5] [] (N, 0, 0) h Q else zE X 17 17 [l0, l1, l2, l3, l4, l5] [] (N, 0, 0) h Q := zE_icmp_ge (off := 45) (by decide +kernel) (by decide)
theorem e17_17 : zE X 17 17 [l0, l1, l2, some (.int v), l4, l5] [] (N, 0, 0) h Q = zE X 17 18 [l0, l1, l2, some (.int v), l4, l5] [.int v] (N, 0, 0) h Q := zE_iload_n (k := 3) (by decide +kernel) rfl
theorem e17_18 : zE X 17 18 [l0, some (.ref r), l2, l3, l4, l5] [.int i0] (N, 0, 0) h Q = zE X 17 19 [l0, some (.ref r), l2, l3, l4, l5] [.ref r, .int i0] (N, 0, 0) h Q := zE_aload_n (k := 1) (by decide +kernel) rfl
theorem e17_19 : zE X 17 19 [l0, l1, l2, l3, l4, l5] [.ref a0, .int i1] (N, 0, 0) h Q = zgf (h a0) 4 1 (fun v => zE X 17 22 [l0, l1, l2, l3, l4, l5] [v, .int i1] (N, 0, 0) h Q) := zE_getfield (k := 14) (nest := true) (q := 114) (by decide +kernel) rfl
theorem e17_22 : zE X 17 22 [l0, l1, l2, l3, l4, l5] [.int i0, .int i1] (N, 0, 0) h Q = if i0 ≤ i1 then zE X 17 59 [l0, l1, l2, l3, l4, l5] [] (N, 0, 0) h Q else zE X 17 25 [l0, l1, l2, l3, l4, l5] [] (N, 0, 0) h Q := zE_icmp_ge (off := 37) (by decide +kernel) (by decide)
theorem e17_25 : zE X 17 25 [some (.ref r), l1, l2, l3, l4, l5] [] (N, 0, 0) h Q = zE X 17 26 [some (.ref r), l1, l2, l3, l4, l5] [.ref r] (N, 0, 0) h Q := zE_aload_n (k := 0) (by decide +kernel) rfl
theorem e17_26 : zE X 17 26 [l0, some (.ref r), l2, l3, l4, l5] [.ref a0] (N, 0, 0) h Q = zE X 17 27 [l0, some (.ref r), l2, l3, l4, l5] [.ref r, .ref a0] (N, 0, 0) h Q := zE_aload_n (k := 1) (by decide +kernel) rfl
theorem e17_27 : zE X 17 27 [l0, l1, l2, some (.int v), l4, l5] [.ref a0, .ref a1] (N, 0, 0) h Q = zE X 17 28 [l0, l1, l2, some (.int v), l4, l5] [.int v, .ref a0, .ref a1] (N, 0, 0) h Q := zE_iload_n (k := 3) (by decide +kernel) rfl
theorem e17_28 : zE X 17 28 [l0, l1, l2, l3, l4, l5] [.int i0, .ref a1, .ref a2] (N, 0, 0) h Q = zrc (h a2) 1 (zE X 20 0 [some (.ref a2), some (.ref a1), some (.int i0), none, none, none] [] (N, 0, 0) h (fun v N' h' => zE X 17 31 [l0, l1, l2, l3, l4, l5] (v.toList ++ []) (N', 0, 0) h' Q)) := zE_invv (k := 20) (z := 20) (nest := false) (q := 443) (as := [.ref a1, .int i0]) (by decide +kernel) rfl rfl (by decide +kernel) rfl rfl rfl rfl ⟨rfl, rfl⟩ rfl ⟨Nat.zero_le _, Nat.zero_le _⟩
theorem e17_31 : zE X 17 31 [l0, l1, l2, l3, l4, l5] [.int i0] (N, 0, 0) h Q = zE X 17 33 [l0, l1, l2, l3, l4, some (.int i0)] [] (N, 0, 0) h Q := zE_istore (k := 5) (by decide +kernel) rfl rfl
theorem e17_33 : zE X 17 33 [l0, l1, l2, l3, l4, some (.int v)] [] (N, 0, 0) h Q = zE X 17 35 [l0, l1, l2, l3, l4, some (.int v)] [.int v] (N, 0, 0) h Q := zE_iload (k := 5) (by decide +kernel) rfl
theorem e17_35 : zE X 17 35 [l0, l1, l2, l3, l4, l5] [.int i0] (N, 0, 0) h Q = zE X 17 37 [l0, l1, l2, l3, l4, l5] [.int (-4), .int i0] (N, 0, 0) h Q := zE_bipush (n := -4) (by decide +kernel) (by decide)
theorem e17_37 : zE X 17 37 [l0, l1, l2, l3, l4, l5] [.int i0, .int i1] (N, 0, 0) h Q = if i1 = i0 then zE X 17 48 [l0, l1, l2, l3, l4, l5] [] (N, 0, 0) h Q else zE X 17 40 [l0, l1, l2, l3, l4, l5] [] (N, 0, 0) h Q := zE_icmp_eq (off := 11) (by decide +kernel) (by decide)
theorem e17_40 : zE X 17 40 [l0, l1, some (.ref r), l3, l4, l5] [] (N, 0, 0) h Q = zE X 17 41 [l0, l1, some (.ref r), l3, l4, l5] [.ref r] (N, 0, 0) h Q := zE_aload_n (k := 2) (by decide +kernel) rfl
theorem e17_41 : zE X 17 41 [some (.ref r), l1, l2, l3, l4, l5] [.ref a0] (N, 0, 0) h Q = zE X 17 42 [some (.ref r), l1, l2, l3, l4, l5] [.ref r, .ref a0] (N, 0, 0) h Q := zE_aload_n (k := 0) (by decide +kernel) rfl
theorem e17_42 : zE X 17 42 [l0, l1, l2, l3, l4, l5] [.ref a0, .ref a1] (N, 0, 0) h Q = zrc (h a1) 5 (zE X 24 0 [some (.ref a1), some (.ref a0)] [] (N, 0, 0) h (fun v N' h' => zE X 17 45 [l0, l1, l2, l3, l4, l5] (v.toList ++ []) (N', 0, 0) h' Q)) := zE_invv (k := 26) (z := 24) (nest := true) (q := 460) (as := [.ref a0]) (by decide +kernel) rfl rfl (by decide +kernel) rfl rfl rfl rfl ⟨rfl, rfl⟩ rfl ⟨Nat.zero_le _, Nat.zero_le _⟩
theorem e17_45 : zE X 17 45 [l0, l1, l2, l3, l4, l5] [.int i0] (N, 0, 0) h Q = if i0 = 0 then zE X 17 48 [l0, l1, l2, l3, l4, l5] [] (N, 0, 0) h Q else zE X 17 50 [l0, l1, l2, l3, l4, l5] [] (N, 0, 0) h Q := zE_if_ne (off := 5) (by decide +kernel) (by decide)
theorem e17_48 : zE X 17 48 [l0, l1, l2, some (.int v), l4, l5] [] (N, 0, 0) h Q = zE X 17 49 [l0, l1, l2, some (.int v), l4, l5] [.int v] (N, 0, 0) h Q := zE_iload_n (k := 3) (by decide +kernel) rfl
theorem e17_49 : zE X 17 49 [l0, l1, l2, l3, l4, l5] [.int i0] (N, 0, 0) h Q = Q (some (.int i0)) N h := zE_ireturn (by decide +kernel) rfl
theorem e17_50 : zE X 17 50 [l0, l1, l2, l3, l4, some (.int v)] [] (N, 0, 0) h Q = zE X 17 52 [l0, l1, l2, l3, l4, some (.int v)] [.int v] (N, 0, 0) h Q := zE_iload (k := 5) (by decide +kernel) rfl
theorem e17_52 : zE X 17 52 [l0, l1, l2, l3, l4, l5] [.int i0] (N, 0, 0) h Q = zE X 17 53 [l0, l1, l2, some (.int i0), l4, l5] [] (N, 0, 0) h Q := zE_istore_n (k := 3) (by decide +kernel) rfl rfl
theorem e17_53 : zE X 17 53 [l0, l1, l2, l3, some (.int v), l5] [] (N, 0, 0) h Q = zE X 17 56 [l0, l1, l2, l3, some (.int (v + 1)), l5] [] (N, 0, 0) h Q := zE_iinc (k := 4) (n := 1) (by decide +kernel) rfl rfl (by decide) rfl
theorem e17_56 : zE X 17 56 [l0, l1, l2, l3, l4, l5] [] (N, 0, 0) h Q = zE X 17 9 [l0, l1, l2, l3, l4, l5] [] (N, 0, 0) h Q := zE_goto (off := -47) (by decide +kernel) (by decide)
theorem e17_59 : zE X 17 59 [l0, l1, l2, l3, l4, l5] [] (N, 0, 0) h Q = zE X 17 61 [l0, l1, l2, l3, l4, l5] [.int (-4)] (N, 0, 0) h Q := zE_bipush (n := -4) (by decide +kernel) (by decide)
theorem e17_61 : zE X 17 61 [l0, l1, l2, l3, l4, l5] [.int i0] (N, 0, 0) h Q = Q (some (.int i0)) N h := zE_ireturn (by decide +kernel) rfl
-- 18 Sheet_clear ()V
theorem e18_0 : zE X 18 0 [some (.ref r)] [] (N, 0, 0) h Q = zE X 18 1 [some (.ref r)] [.ref r] (N, 0, 0) h Q := zE_aload_n (k := 0) (by decide +kernel) rfl
theorem e18_1 : zE X 18 1 [l0] [.ref a0] (N, 0, 0) h Q = zE X 18 2 [l0] [.int 0, .ref a0] (N, 0, 0) h Q := zE_iconst (n := 0) (by decide +kernel) (by decide)
theorem e18_2 : zE X 18 2 [l0] [.int i0, .ref a1] (N, 0, 0) h Q = zpf (h a1) 5 0 (.int i0) (fun c => zE X 18 5 [l0] [] (N, 0, 0) (va_up h a1 c) Q) := zE_putfield (k := 37) (nest := false) (q := 154) (by decide +kernel) rfl rfl rfl
theorem e18_5 : zE X 18 5 [some (.ref r)] [] (N, 0, 0) h Q = zE X 18 6 [some (.ref r)] [.ref r] (N, 0, 0) h Q := zE_aload_n (k := 0) (by decide +kernel) rfl
theorem e18_6 : zE X 18 6 [l0] [.ref a0] (N, 0, 0) h Q = zE X 18 7 [l0] [.int 0, .ref a0] (N, 0, 0) h Q := zE_iconst (n := 0) (by decide +kernel) (by decide)
theorem e18_7 : zE X 18 7 [l0] [.int i0, .ref a1] (N, 0, 0) h Q = zpf (h a1) 5 4 (.int i0) (fun c => zE X 18 10 [l0] [] (N, 0, 0) (va_up h a1 c) Q) := zE_putfield (k := 40) (nest := false) (q := 166) (by decide +kernel) rfl rfl rfl
theorem e18_10 : zE X 18 10 [some (.ref r)] [] (N, 0, 0) h Q = zE X 18 11 [some (.ref r)] [.ref r] (N, 0, 0) h Q := zE_aload_n (k := 0) (by decide +kernel) rfl
theorem e18_11 : zE X 18 11 [l0] [.ref a0] (N, 0, 0) h Q = zE X 18 12 [l0] [.int 0, .ref a0] (N, 0, 0) h Q := zE_iconst (n := 0) (by decide +kernel) (by decide)
theorem e18_12 : zE X 18 12 [l0] [.int i0, .ref a1] (N, 0, 0) h Q = zpf (h a1) 5 8 (.int i0) (fun c => zE X 18 15 [l0] [] (N, 0, 0) (va_up h a1 c) Q) := zE_putfield (k := 43) (nest := false) (q := 173) (by decide +kernel) rfl rfl rfl
theorem e18_15 : zE X 18 15 [some (.ref r)] [] (N, 0, 0) h Q = zE X 18 16 [some (.ref r)] [.ref r] (N, 0, 0) h Q := zE_aload_n (k := 0) (by decide +kernel) rfl
theorem e18_16 : zE X 18 16 [l0] [.ref a0] (N, 0, 0) h Q = zE X 18 17 [l0] [.int 0, .ref a0] (N, 0, 0) h Q := zE_iconst (n := 0) (by decide +kernel) (by decide)
theorem e18_17 : zE X 18 17 [l0] [.int i0, .ref a1] (N, 0, 0) h Q = zpf (h a1) 5 9 (.int i0) (fun c => zE X 18 20 [l0] [] (N, 0, 0) (va_up h a1 c) Q) := zE_putfield (k := 46) (nest := false) (q := 175) (by decide +kernel) rfl rfl rfl
theorem e18_20 : zE X 18 20 [some (.ref r)] [] (N, 0, 0) h Q = zE X 18 21 [some (.ref r)] [.ref r] (N, 0, 0) h Q := zE_aload_n (k := 0) (by decide +kernel) rfl
theorem e18_21 : zE X 18 21 [l0] [.ref a0] (N, 0, 0) h Q = zE X 18 22 [l0] [.int 0, .ref a0] (N, 0, 0) h Q := zE_iconst (n := 0) (by decide +kernel) (by decide)
theorem e18_22 : zE X 18 22 [l0] [.int i0, .ref a1] (N, 0, 0) h Q = zpf (h a1) 5 10 (.int i0) (fun c => zE X 18 25 [l0] [] (N, 0, 0) (va_up h a1 c) Q) := zE_putfield (k := 49) (nest := false) (q := 176) (by decide +kernel) rfl rfl rfl
theorem e18_25 : zE X 18 25 [some (.ref r)] [] (N, 0, 0) h Q = zE X 18 26 [some (.ref r)] [.ref r] (N, 0, 0) h Q := zE_aload_n (k := 0) (by decide +kernel) rfl
theorem e18_26 : zE X 18 26 [l0] [.ref a0] (N, 0, 0) h Q = zE X 18 28 [l0] [.int 100, .ref a0] (N, 0, 0) h Q := zE_bipush (n := 100) (by decide +kernel) (by decide)
theorem e18_28 : zE X 18 28 [l0] [.int i0, .ref a1] (N, 0, 0) h Q = zpf (h a1) 5 11 (.int i0) (fun c => zE X 18 31 [l0] [] (N, 0, 0) (va_up h a1 c) Q) := zE_putfield (k := 30) (nest := false) (q := 178) (by decide +kernel) rfl rfl rfl
theorem e18_31 : zE X 18 31 [some (.ref r)] [] (N, 0, 0) h Q = zE X 18 32 [some (.ref r)] [.ref r] (N, 0, 0) h Q := zE_aload_n (k := 0) (by decide +kernel) rfl
theorem e18_32 : zE X 18 32 [l0] [.ref a0] (N, 0, 0) h Q = zE X 18 33 [l0] [.int 0, .ref a0] (N, 0, 0) h Q := zE_iconst (n := 0) (by decide +kernel) (by decide)
theorem e18_33 : zE X 18 33 [l0] [.int i0, .ref a1] (N, 0, 0) h Q = zpf (h a1) 5 12 (.int i0) (fun c => zE X 18 36 [l0] [] (N, 0, 0) (va_up h a1 c) Q) := zE_putfield (k := 52) (nest := false) (q := 180) (by decide +kernel) rfl rfl rfl
theorem e18_36 : zE X 18 36 [some (.ref r)] [] (N, 0, 0) h Q = zE X 18 37 [some (.ref r)] [.ref r] (N, 0, 0) h Q := zE_aload_n (k := 0) (by decide +kernel) rfl
theorem e18_37 : zE X 18 37 [l0] [.ref a0] (N, 0, 0) h Q = zE X 18 38 [l0] [.int 0, .ref a0] (N, 0, 0) h Q := zE_iconst (n := 0) (by decide +kernel) (by decide)
theorem e18_38 : zE X 18 38 [l0] [.int i0, .ref a1] (N, 0, 0) h Q = zpf (h a1) 5 13 (.int i0) (fun c => zE X 18 41 [l0] [] (N, 0, 0) (va_up h a1 c) Q) := zE_putfield (k := 55) (nest := false) (q := 181) (by decide +kernel) rfl rfl rfl
theorem e18_41 : zE X 18 41 [some (.ref r)] [] (N, 0, 0) h Q = zE X 18 42 [some (.ref r)] [.ref r] (N, 0, 0) h Q := zE_aload_n (k := 0) (by decide +kernel) rfl
theorem e18_42 : zE X 18 42 [l0] [.ref a0] (N, 0, 0) h Q = zgf (h a0) 5 14 (fun v => zE X 18 45 [l0] [v] (N, 0, 0) h Q) := zE_getfield (k := 34) (nest := false) (q := 182) (by decide +kernel) rfl
theorem e18_45 : zE X 18 45 [l0] [.ref a0] (N, 0, 0) h Q = zE X 18 46 [l0] [.int 0, .ref a0] (N, 0, 0) h Q := zE_iconst (n := 0) (by decide +kernel) (by decide)
theorem e18_46 : zE X 18 46 [l0] [.int i0, .ref a1] (N, 0, 0) h Q = zE X 19 0 [some (.ref a1), some (.int i0), none, none] [] (N, 0, 0) h (fun v N' h' => zE X 18 49 [l0] (v.toList ++ []) (N', 0, 0) h' Q) := zE_invs (k := 58) (z := 19) (nest := false) (q := 440) (as := [.ref a1, .int i0]) (by decide +kernel) rfl rfl (by simp [show mPn 19 = 2 from rfl]) rfl rfl rfl rfl ⟨rfl, rfl⟩ rfl ⟨Nat.zero_le _, Nat.zero_le _⟩
theorem e18_49 : zE X 18 49 [some (.ref r)] [] (N, 0, 0) h Q = zE X 18 50 [some (.ref r)] [.ref r] (N, 0, 0) h Q := zE_aload_n (k := 0) (by decide +kernel) rfl
theorem e18_50 : zE X 18 50 [l0] [.ref a0] (N, 0, 0) h Q = zE X 18 51 [l0] [.int 0, .ref a0] (N, 0, 0) h Q := zE_iconst (n := 0) (by decide +kernel) (by decide)
theorem e18_51 : zE X 18 51 [l0] [.int i0, .ref a1] (N, 0, 0) h Q = zpf (h a1) 5 15 (.int i0) (fun c => zE X 18 54 [l0] [] (N, 0, 0) (va_up h a1 c) Q) := zE_putfield (k := 64) (nest := false) (q := 184) (by decide +kernel) rfl rfl rfl
theorem e18_54 : zE X 18 54 [l0] [] (N, 0, 0) h Q = Q none N h := zE_return (by decide +kernel) rfl
-- 20 ItemReader_readItem (LPursesByLot$Script;I)I
theorem e20_0 : zE X 20 0 [some (.ref r), l1, l2, l3, l4, l5] [] (N, 0, 0) h Q = zE X 20 1 [some (.ref r), l1, l2, l3, l4, l5] [.ref r] (N, 0, 0) h Q := zE_aload_n (k := 0) (by decide +kernel) rfl
theorem e20_1 : zE X 20 1 [l0, some (.ref r), l2, l3, l4, l5] [.ref a0] (N, 0, 0) h Q = zE X 20 2 [l0, some (.ref r), l2, l3, l4, l5] [.ref r, .ref a0] (N, 0, 0) h Q := zE_aload_n (k := 1) (by decide +kernel) rfl
theorem e20_2 : zE X 20 2 [l0, l1, some (.int v), l3, l4, l5] [.ref a0, .ref a1] (N, 0, 0) h Q = zE X 20 3 [l0, l1, some (.int v), l3, l4, l5] [.int v, .ref a0, .ref a1] (N, 0, 0) h Q := zE_iload_n (k := 2) (by decide +kernel) rfl
theorem e20_3 : zE X 20 3 [l0, l1, l2, l3, l4, l5] [.int i0, .ref a1, .ref a2] (N, 0, 0) h Q = zrc (h a1) 4 (zE X 21 0 [some (.ref a1), some (.int i0)] [] (N, 0, 0) h (fun v N' h' => zE X 20 6 [l0, l1, l2, l3, l4, l5] (v.toList ++ [.ref a2]) (N', 0, 0) h' Q)) := zE_invv (k := 30) (z := 21) (nest := true) (q := 447) (as := [.int i0]) (by decide +kernel) rfl rfl (by decide +kernel) rfl rfl rfl rfl ⟨rfl, rfl⟩ rfl ⟨Nat.zero_le _, Nat.zero_le _⟩
theorem e20_6 : zE X 20 6 [l0, l1, l2, l3, l4, l5] [.int i0, .ref a1] (N, 0, 0) h Q = zpf (h a1) 1 0 (.int i0) (fun c => zE X 20 9 [l0, l1, l2, l3, l4, l5] [] (N, 0, 0) (va_up h a1 c) Q) := zE_putfield (k := 34) (nest := false) (q := 128) (by decide +kernel) rfl rfl rfl
theorem e20_9 : zE X 20 9 [some (.ref r), l1, l2, l3, l4, l5] [] (N, 0, 0) h Q = zE X 20 10 [some (.ref r), l1, l2, l3, l4, l5] [.ref r] (N, 0, 0) h Q := zE_aload_n (k := 0) (by decide +kernel) rfl
theorem e20_10 : zE X 20 10 [l0, l1, l2, l3, l4, l5] [.ref a0] (N, 0, 0) h Q = zE X 20 11 [l0, l1, l2, l3, l4, l5] [.int 0, .ref a0] (N, 0, 0) h Q := zE_iconst (n := 0) (by decide +kernel) (by decide)
theorem e20_11 : zE X 20 11 [l0, l1, l2, l3, l4, l5] [.int i0, .ref a1] (N, 0, 0) h Q = zpf (h a1) 1 1 (.int i0) (fun c => zE X 20 14 [l0, l1, l2, l3, l4, l5] [] (N, 0, 0) (va_up h a1 c) Q) := zE_putfield (k := 37) (nest := false) (q := 129) (by decide +kernel) rfl rfl rfl
theorem e20_14 : zE X 20 14 [l0, l1, some (.int v), l3, l4, l5] [] (N, 0, 0) h Q = zE X 20 15 [l0, l1, some (.int v), l3, l4, l5] [.int v] (N, 0, 0) h Q := zE_iload_n (k := 2) (by decide +kernel) rfl
theorem e20_15 : zE X 20 15 [l0, l1, l2, l3, l4, l5] [.int i0] (N, 0, 0) h Q = zE X 20 16 [l0, l1, l2, l3, l4, l5] [.int 1, .int i0] (N, 0, 0) h Q := zE_iconst (n := 1) (by decide +kernel) (by decide)
theorem e20_16 : zE X 20 16 [l0, l1, l2, l3, l4, l5] [.int i0, .int i1] (N, 0, 0) h Q = zE X 20 17 [l0, l1, l2, l3, l4, l5] [.int (i1 + i0)] (N, 0, 0) h Q := zE_iadd (by decide +kernel)
theorem e20_17 : zE X 20 17 [l0, l1, l2, l3, l4, l5] [.int i0] (N, 0, 0) h Q = zE X 20 18 [l0, l1, l2, some (.int i0), l4, l5] [] (N, 0, 0) h Q := zE_istore_n (k := 3) (by decide +kernel) rfl rfl
theorem e20_18 : zE X 20 18 [l0, l1, l2, l3, l4, l5] [] (N, 0, 0) h Q = zE X 20 19 [l0, l1, l2, l3, l4, l5] [.int 0] (N, 0, 0) h Q := zE_iconst (n := 0) (by decide +kernel) (by decide)
theorem e20_19 : zE X 20 19 [l0, l1, l2, l3, l4, l5] [.int i0] (N, 0, 0) h Q = zE X 20 21 [l0, l1, l2, l3, some (.int i0), l5] [] (N, 0, 0) h Q := zE_istore (k := 4) (by decide +kernel) rfl rfl
theorem e20_21 : zE X 20 21 [l0, l1, l2, l3, some (.int v), l5] [] (N, 0, 0) h Q = zE X 20 23 [l0, l1, l2, l3, some (.int v), l5] [.int v] (N, 0, 0) h Q := zE_iload (k := 4) (by decide +kernel) rfl
theorem e20_23 : zE X 20 23 [l0, l1, l2, l3, l4, l5] [.int i0] (N, 0, 0) h Q = zE X 20 24 [l0, l1, l2, l3, l4, l5] [.int 3, .int i0] (N, 0, 0) h Q := zE_iconst (n := 3) (by decide +kernel) (by decide)
theorem e20_24 : zE X 20 24 [l0, l1, l2, l3, l4, l5] [.int i0, .int i1] (N, 0, 0) h Q = if i0 ≤ i1 then zE X 20 78 [l0, l1, l2, l3, l4, l5] [] (N, 0, 0) h Q else zE X 20 27 [l0, l1, l2, l3, l4, l5] [] (N, 0, 0) h Q := zE_icmp_ge (off := 54) (by decide +kernel) (by decide)
theorem e20_27 : zE X 20 27 [some (.ref r), l1, l2, l3, l4, l5] [] (N, 0, 0) h Q = zE X 20 28 [some (.ref r), l1, l2, l3, l4, l5] [.ref r] (N, 0, 0) h Q := zE_aload_n (k := 0) (by decide +kernel) rfl
theorem e20_28 : zE X 20 28 [l0, some (.ref r), l2, l3, l4, l5] [.ref a0] (N, 0, 0) h Q = zE X 20 29 [l0, some (.ref r), l2, l3, l4, l5] [.ref r, .ref a0] (N, 0, 0) h Q := zE_aload_n (k := 1) (by decide +kernel) rfl
theorem e20_29 : zE X 20 29 [l0, l1, l2, some (.int v), l4, l5] [.ref a0, .ref a1] (N, 0, 0) h Q = zE X 20 30 [l0, l1, l2, some (.int v), l4, l5] [.int v, .ref a0, .ref a1] (N, 0, 0) h Q := zE_iload_n (k := 3) (by decide +kernel) rfl
theorem e20_30 : zE X 20 30 [l0, l1, l2, l3, l4, l5] [.int i0, .ref a1, .ref a2] (N, 0, 0) h Q = zrc (h a2) 1 (zE X 22 0 [some (.ref a2), some (.ref a1), some (.int i0), none, none, none, none] [] (N, 0, 0) h (fun v N' h' => zE X 20 33 [l0, l1, l2, l3, l4, l5] (v.toList ++ []) (N', 0, 0) h' Q)) := zE_invv (k := 40) (z := 22) (nest := false) (q := 451) (as := [.ref a1, .int i0]) (by decide +kernel) rfl rfl (by decide +kernel) rfl rfl rfl rfl ⟨rfl, rfl⟩ rfl ⟨Nat.zero_le _, Nat.zero_le _⟩
theorem e20_33 : zE X 20 33 [l0, l1, l2, l3, l4, l5] [.int i0] (N, 0, 0) h Q = zE X 20 34 [l0, l1, l2, some (.int i0), l4, l5] [] (N, 0, 0) h Q := zE_istore_n (k := 3) (by decide +kernel) rfl rfl
theorem e20_34 : zE X 20 34 [l0, l1, l2, some (.int v), l4, l5] [] (N, 0, 0) h Q = zE X 20 35 [l0, l1, l2, some (.int v), l4, l5] [.int v] (N, 0, 0) h Q := zE_iload_n (k := 3) (by decide +kernel) rfl
theorem e20_35 : zE X 20 35 [l0, l1, l2, l3, l4, l5] [.int i0] (N, 0, 0) h Q = zE X 20 37 [l0, l1, l2, l3, l4, l5] [.int (-4), .int i0] (N, 0, 0) h Q := zE_bipush (n := -4) (by decide +kernel) (by decide)
theorem e20_37 : zE X 20 37 [l0, l1, l2, l3, l4, l5] [.int i0, .int i1] (N, 0, 0) h Q = if i1 = i0 then zE X 20 40 [l0, l1, l2, l3, l4, l5] [] (N, 0, 0) h Q else zE X 20 43 [l0, l1, l2, l3, l4, l5] [] (N, 0, 0) h Q := zE_icmp_ne (off := 6) (by decide +kernel) (by decide)
theorem e20_40 : zE X 20 40 [l0, l1, l2, l3, l4, l5] [] (N, 0, 0) h Q = zE X 20 42 [l0, l1, l2, l3, l4, l5] [.int (-4)] (N, 0, 0) h Q := zE_bipush (n := -4) (by decide +kernel) (by decide)
theorem e20_42 : zE X 20 42 [l0, l1, l2, l3, l4, l5] [.int i0] (N, 0, 0) h Q = Q (some (.int i0)) N h := zE_ireturn (by decide +kernel) rfl
theorem e20_43 : zE X 20 43 [l0, some (.ref r), l2, l3, l4, l5] [] (N, 0, 0) h Q = zE X 20 44 [l0, some (.ref r), l2, l3, l4, l5] [.ref r] (N, 0, 0) h Q := zE_aload_n (k := 1) (by decide +kernel) rfl
theorem e20_44 : zE X 20 44 [l0, l1, l2, some (.int v), l4, l5] [.ref a0] (N, 0, 0) h Q = zE X 20 45 [l0, l1, l2, some (.int v), l4, l5] [.int v, .ref a0] (N, 0, 0) h Q := zE_iload_n (k := 3) (by decide +kernel) rfl
theorem e20_45 : zE X 20 45 [l0, l1, l2, l3, l4, l5] [.int i0, .ref a1] (N, 0, 0) h Q = zrc (h a1) 4 (zE X 21 0 [some (.ref a1), some (.int i0)] [] (N, 0, 0) h (fun v N' h' => zE X 20 48 [l0, l1, l2, l3, l4, l5] (v.toList ++ []) (N', 0, 0) h' Q)) := zE_invv (k := 30) (z := 21) (nest := true) (q := 447) (as := [.int i0]) (by decide +kernel) rfl rfl (by decide +kernel) rfl rfl rfl rfl ⟨rfl, rfl⟩ rfl ⟨Nat.zero_le _, Nat.zero_le _⟩
theorem e20_48 : zE X 20 48 [l0, l1, l2, l3, l4, l5] [.int i0] (N, 0, 0) h Q = zE X 20 50 [l0, l1, l2, l3, l4, some (.int i0)] [] (N, 0, 0) h Q := zE_istore (k := 5) (by decide +kernel) rfl rfl
theorem e20_50 : zE X 20 50 [l0, l1, l2, some (.int v), l4, l5] [] (N, 0, 0) h Q = zE X 20 53 [l0, l1, l2, some (.int (v + 1)), l4, l5] [] (N, 0, 0) h Q := zE_iinc (k := 3) (n := 1) (by decide +kernel) rfl rfl (by decide) rfl
theorem e20_53 : zE X 20 53 [l0, l1, l2, l3, l4, some (.int v)] [] (N, 0, 0) h Q = zE X 20 55 [l0, l1, l2, l3, l4, some (.int v)] [.int v] (N, 0, 0) h Q := zE_iload (k := 5) (by decide +kernel) rfl
theorem e20_55 : zE X 20 55 [l0, l1, l2, l3, l4, l5] [.int i0] (N, 0, 0) h Q = zE X 20 57 [l0, l1, l2, l3, l4, l5] [.int 59, .int i0] (N, 0, 0) h Q := zE_bipush (n := 59) (by decide +kernel) (by decide)
theorem e20_57 : zE X 20 57 [l0, l1, l2, l3, l4, l5] [.int i0, .int i1] (N, 0, 0) h Q = if i1 = i0 then zE X 20 60 [l0, l1, l2, l3, l4, l5] [] (N, 0, 0) h Q else zE X 20 62 [l0, l1, l2, l3, l4, l5] [] (N, 0, 0) h Q := zE_icmp_ne (off := 5) (by decide +kernel) (by decide)
theorem e20_60 : zE X 20 60 [l0, l1, l2, some (.int v), l4, l5] [] (N, 0, 0) h Q = zE X 20 61 [l0, l1, l2, some (.int v), l4, l5] [.int v] (N, 0, 0) h Q := zE_iload_n (k := 3) (by decide +kernel) rfl
theorem e20_61 : zE X 20 61 [l0, l1, l2, l3, l4, l5] [.int i0] (N, 0, 0) h Q = Q (some (.int i0)) N h := zE_ireturn (by decide +kernel) rfl
theorem e20_62 : zE X 20 62 [l0, l1, l2, l3, l4, some (.int v)] [] (N, 0, 0) h Q = zE X 20 64 [l0, l1, l2, l3, l4, some (.int v)] [.int v] (N, 0, 0) h Q := zE_iload (k := 5) (by decide +kernel) rfl
theorem e20_64 : zE X 20 64 [l0, l1, l2, l3, l4, l5] [.int i0] (N, 0, 0) h Q = zE X 20 66 [l0, l1, l2, l3, l4, l5] [.int 44, .int i0] (N, 0, 0) h Q := zE_bipush (n := 44) (by decide +kernel) (by decide)
theorem e20_66 : zE X 20 66 [l0, l1, l2, l3, l4, l5] [.int i0, .int i1] (N, 0, 0) h Q = if i1 = i0 then zE X 20 72 [l0, l1, l2, l3, l4, l5] [] (N, 0, 0) h Q else zE X 20 69 [l0, l1, l2, l3, l4, l5] [] (N, 0, 0) h Q := zE_icmp_eq (off := 6) (by decide +kernel) (by decide)
theorem e20_69 : zE X 20 69 [l0, l1, l2, l3, l4, l5] [] (N, 0, 0) h Q = zE X 20 71 [l0, l1, l2, l3, l4, l5] [.int (-4)] (N, 0, 0) h Q := zE_bipush (n := -4) (by decide +kernel) (by decide)
theorem e20_71 : zE X 20 71 [l0, l1, l2, l3, l4, l5] [.int i0] (N, 0, 0) h Q = Q (some (.int i0)) N h := zE_ireturn (by decide +kernel) rfl
theorem e20_72 : zE X 20 72 [l0, l1, l2, l3, some (.int v), l5] [] (N, 0, 0) h Q = zE X 20 75 [l0, l1, l2, l3, some (.int (v + 1)), l5] [] (N, 0, 0) h Q := zE_iinc (k := 4) (n := 1) (by decide +kernel) rfl rfl (by decide) rfl
theorem e20_75 : zE X 20 75 [l0, l1, l2, l3, l4, l5] [] (N, 0, 0) h Q = zE X 20 21 [l0, l1, l2, l3, l4, l5] [] (N, 0, 0) h Q := zE_goto (off := -54) (by decide +kernel) (by decide)
theorem e20_78 : zE X 20 78 [l0, l1, l2, l3, l4, l5] [] (N, 0, 0) h Q = zE X 20 80 [l0, l1, l2, l3, l4, l5] [.int (-4)] (N, 0, 0) h Q := zE_bipush (n := -4) (by decide +kernel) (by decide)
theorem e20_80 : zE X 20 80 [l0, l1, l2, l3, l4, l5] [.int i0] (N, 0, 0) h Q = Q (some (.int i0)) N h := zE_ireturn (by decide +kernel) rfl
-- 21 Script_byteAt (I)I
theorem e21_0 : zE X 21 0 [l0, some (.int v)] [] (N, 0, 0) h Q = zE X 21 1 [l0, some (.int v)] [.int v] (N, 0, 0) h Q := zE_iload_n (k := 1) (by decide +kernel) rfl
theorem e21_1 : zE X 21 1 [l0, l1] [.int i0] (N, 0, 0) h Q = if i0 < 0 then zE X 21 25 [l0, l1] [] (N, 0, 0) h Q else zE X 21 4 [l0, l1] [] (N, 0, 0) h Q := zE_if_lt (off := 24) (by decide +kernel) (by decide)
theorem e21_4 : zE X 21 4 [l0, some (.int v)] [] (N, 0, 0) h Q = zE X 21 5 [l0, some (.int v)] [.int v] (N, 0, 0) h Q := zE_iload_n (k := 1) (by decide +kernel) rfl
theorem e21_5 : zE X 21 5 [some (.ref r), l1] [.int i0] (N, 0, 0) h Q = zE X 21 6 [some (.ref r), l1] [.ref r, .int i0] (N, 0, 0) h Q := zE_aload_n (k := 0) (by decide +kernel) rfl
theorem e21_6 : zE X 21 6 [l0, l1] [.ref a0, .int i1] (N, 0, 0) h Q = zgf (h a0) 4 1 (fun v => zE X 21 9 [l0, l1] [v, .int i1] (N, 0, 0) h Q) := zE_getfield (k := 15) (nest := false) (q := 112) (by decide +kernel) rfl
theorem e21_9 : zE X 21 9 [l0, l1] [.int i0, .int i1] (N, 0, 0) h Q = if i0 ≤ i1 then zE X 21 25 [l0, l1] [] (N, 0, 0) h Q else zE X 21 12 [l0, l1] [] (N, 0, 0) h Q := zE_icmp_ge (off := 16) (by decide +kernel) (by decide)
theorem e21_12 : zE X 21 12 [some (.ref r), l1] [] (N, 0, 0) h Q = zE X 21 13 [some (.ref r), l1] [.ref r] (N, 0, 0) h Q := zE_aload_n (k := 0) (by decide +kernel) rfl
theorem e21_13 : zE X 21 13 [l0, l1] [.ref a0] (N, 0, 0) h Q = zgf (h a0) 4 0 (fun v => zE X 21 16 [l0, l1] [v] (N, 0, 0) h Q) := zE_getfield (k := 9) (nest := false) (q := 111) (by decide +kernel) rfl
theorem e21_16 : zE X 21 16 [l0, some (.int v)] [.ref a0] (N, 0, 0) h Q = zE X 21 17 [l0, some (.int v)] [.int v, .ref a0] (N, 0, 0) h Q := zE_iload_n (k := 1) (by decide +kernel) rfl
theorem e21_17 : zE X 21 17 [l0, l1] [.int i0, .ref a1] (N, 0, 0) h Q = zal (h a1) 1 i0 (fun x => zE X 21 18 [l0, l1] [.int x] (N, 0, 0) h Q) := zE_baload (by decide +kernel)
theorem e21_18 : zE X 21 18 [l0, l1] [.int i0] (N, 0, 0) h Q = zE X 21 21 [l0, l1] [.int 255, .int i0] (N, 0, 0) h Q := zE_sipush (n := 255) (by decide +kernel) (by decide)
theorem e21_21 : zE X 21 21 [l0, l1] [.int i0, .int i1] (N, 0, 0) h Q = zE X 21 22 [l0, l1] [.int (i1 &&& i0)] (N, 0, 0) h Q := zE_iand (by decide +kernel)
theorem e21_22 : zE X 21 22 [l0, l1] [.int i0] (N, 0, 0) h Q = zE X 21 27 [l0, l1] [.int i0] (N, 0, 0) h Q := zE_goto (off := 5) (by decide +kernel) (by decide)
theorem e21_25 : zE X 21 25 [l0, l1] [] (N, 0, 0) h Q = zE X 21 27 [l0, l1] [.int (-4)] (N, 0, 0) h Q := zE_bipush (n := -4) (by decide +kernel) (by decide)
theorem e21_27 : zE X 21 27 [l0, l1] [.int i0] (N, 0, 0) h Q = Q (some (.int i0)) N h := zE_ireturn (by decide +kernel) rfl
-- 22 ItemReader_readNumber (LPursesByLot$Script;I)I
theorem e22_0 : zE X 22 0 [l0, l1, l2, l3, l4, l5, l6] [] (N, 0, 0) h Q = zE X 22 1 [l0, l1, l2, l3, l4, l5, l6] [.int 0] (N, 0, 0) h Q := zE_iconst (n := 0) (by decide +kernel) (by decide)
theorem e22_1 : zE X 22 1 [l0, l1, l2, l3, l4, l5, l6] [.int i0] (N, 0, 0) h Q = zE X 22 2 [l0, l1, l2, some (.int i0), l4, l5, l6] [] (N, 0, 0) h Q := zE_istore_n (k := 3) (by decide +kernel) rfl rfl
theorem e22_2 : zE X 22 2 [l0, l1, some (.int v), l3, l4, l5, l6] [] (N, 0, 0) h Q = zE X 22 3 [l0, l1, some (.int v), l3, l4, l5, l6] [.int v] (N, 0, 0) h Q := zE_iload_n (k := 2) (by decide +kernel) rfl
theorem e22_3 : zE X 22 3 [l0, l1, l2, l3, l4, l5, l6] [.int i0] (N, 0, 0) h Q = zE X 22 5 [l0, l1, l2, l3, some (.int i0), l5, l6] [] (N, 0, 0) h Q := zE_istore (k := 4) (by decide +kernel) rfl rfl
theorem e22_5 : zE X 22 5 [l0, l1, l2, l3, l4, l5, l6] [] (N, 0, 0) h Q = zE X 22 6 [l0, l1, l2, l3, l4, l5, l6] [.int 0] (N, 0, 0) h Q := zE_iconst (n := 0) (by decide +kernel) (by decide)
theorem e22_6 : zE X 22 6 [l0, l1, l2, l3, l4, l5, l6] [.int i0] (N, 0, 0) h Q = zE X 22 8 [l0, l1, l2, l3, l4, some (.int i0), l6] [] (N, 0, 0) h Q := zE_istore (k := 5) (by decide +kernel) rfl rfl
theorem e22_8 : zE X 22 8 [l0, l1, l2, l3, l4, some (.int v), l6] [] (N, 0, 0) h Q = zE X 22 10 [l0, l1, l2, l3, l4, some (.int v), l6] [.int v] (N, 0, 0) h Q := zE_iload (k := 5) (by decide +kernel) rfl
theorem e22_10 : zE X 22 10 [l0, l1, l2, l3, l4, l5, l6] [.int i0] (N, 0, 0) h Q = zE X 22 11 [l0, l1, l2, l3, l4, l5, l6] [.int 3, .int i0] (N, 0, 0) h Q := zE_iconst (n := 3) (by decide +kernel) (by decide)
theorem e22_11 : zE X 22 11 [l0, l1, l2, l3, l4, l5, l6] [.int i0, .int i1] (N, 0, 0) h Q = if i0 ≤ i1 then zE X 22 57 [l0, l1, l2, l3, l4, l5, l6] [] (N, 0, 0) h Q else zE X 22 14 [l0, l1, l2, l3, l4, l5, l6] [] (N, 0, 0) h Q := zE_icmp_ge (off := 46) (by decide +kernel) (by decide)
theorem e22_14 : zE X 22 14 [l0, some (.ref r), l2, l3, l4, l5, l6] [] (N, 0, 0) h Q = zE X 22 15 [l0, some (.ref r), l2, l3, l4, l5, l6] [.ref r] (N, 0, 0) h Q := zE_aload_n (k := 1) (by decide +kernel) rfl
theorem e22_15 : zE X 22 15 [l0, l1, l2, l3, some (.int v), l5, l6] [.ref a0] (N, 0, 0) h Q = zE X 22 17 [l0, l1, l2, l3, some (.int v), l5, l6] [.int v, .ref a0] (N, 0, 0) h Q := zE_iload (k := 4) (by decide +kernel) rfl
theorem e22_17 : zE X 22 17 [l0, l1, l2, l3, l4, l5, l6] [.int i0, .ref a1] (N, 0, 0) h Q = zrc (h a1) 4 (zE X 21 0 [some (.ref a1), some (.int i0)] [] (N, 0, 0) h (fun v N' h' => zE X 22 20 [l0, l1, l2, l3, l4, l5, l6] (v.toList ++ []) (N', 0, 0) h' Q)) := zE_invv (k := 30) (z := 21) (nest := true) (q := 447) (as := [.int i0]) (by decide +kernel) rfl rfl (by decide +kernel) rfl rfl rfl rfl ⟨rfl, rfl⟩ rfl ⟨Nat.zero_le _, Nat.zero_le _⟩
theorem e22_20 : zE X 22 20 [l0, l1, l2, l3, l4, l5, l6] [.int i0] (N, 0, 0) h Q = zE X 22 22 [l0, l1, l2, l3, l4, l5, some (.int i0)] [] (N, 0, 0) h Q := zE_istore (k := 6) (by decide +kernel) rfl rfl
theorem e22_22 : zE X 22 22 [l0, l1, l2, l3, l4, l5, some (.int v)] [] (N, 0, 0) h Q = zE X 22 24 [l0, l1, l2, l3, l4, l5, some (.int v)] [.int v] (N, 0, 0) h Q := zE_iload (k := 6) (by decide +kernel) rfl
theorem e22_24 : zE X 22 24 [l0, l1, l2, l3, l4, l5, l6] [.int i0] (N, 0, 0) h Q = zE X 22 26 [l0, l1, l2, l3, l4, l5, l6] [.int 48, .int i0] (N, 0, 0) h Q := zE_bipush (n := 48) (by decide +kernel) (by decide)
theorem e22_26 : zE X 22 26 [l0, l1, l2, l3, l4, l5, l6] [.int i0, .int i1] (N, 0, 0) h Q = zE X 22 28 [l0, l1, l2, l3, l4, l5, l6] [.int 57, .int i0, .int i1] (N, 0, 0) h Q := zE_bipush (n := 57) (by decide +kernel) (by decide)
theorem e22_28 : zE X 22 28 [l0, l1, l2, l3, l4, l5, l6] [.int i0, .int i1, .int i2] (N, 0, 0) h Q = zE X 13 0 [some (.int i2), some (.int i1), some (.int i0)] [] (N, 0, 0) h (fun v N' h' => zE X 22 31 [l0, l1, l2, l3, l4, l5, l6] (v.toList ++ []) (N', 0, 0) h' Q) := zE_invs (k := 43) (z := 13) (nest := true) (q := 455) (as := [.int i2, .int i1, .int i0]) (by decide +kernel) rfl rfl (by simp [show mPn 13 = 3 from rfl]) rfl rfl rfl rfl ⟨rfl, rfl⟩ rfl ⟨Nat.zero_le _, Nat.zero_le _⟩
theorem e22_31 : zE X 22 31 [l0, l1, l2, l3, l4, l5, l6] [.int i0] (N, 0, 0) h Q = if i0 = 0 then zE X 22 34 [l0, l1, l2, l3, l4, l5, l6] [] (N, 0, 0) h Q else zE X 22 37 [l0, l1, l2, l3, l4, l5, l6] [] (N, 0, 0) h Q := zE_if_ne (off := 6) (by decide +kernel) (by decide)
theorem e22_34 : zE X 22 34 [l0, l1, l2, l3, l4, l5, l6] [] (N, 0, 0) h Q = zE X 22 57 [l0, l1, l2, l3, l4, l5, l6] [] (N, 0, 0) h Q := zE_goto (off := 23) (by decide +kernel) (by decide)
theorem e22_37 : zE X 22 37 [l0, l1, l2, l3, l4, l5, l6] [] (N, 0, 0) h Q = zE X 22 39 [l0, l1, l2, l3, l4, l5, l6] [.int 10] (N, 0, 0) h Q := zE_bipush (n := 10) (by decide +kernel) (by decide)
theorem e22_39 : zE X 22 39 [l0, l1, l2, some (.int v), l4, l5, l6] [.int i0] (N, 0, 0) h Q = zE X 22 40 [l0, l1, l2, some (.int v), l4, l5, l6] [.int v, .int i0] (N, 0, 0) h Q := zE_iload_n (k := 3) (by decide +kernel) rfl
theorem e22_40 : zE X 22 40 [l0, l1, l2, l3, l4, l5, l6] [.int i0, .int i1] (N, 0, 0) h Q = zE X 22 41 [l0, l1, l2, l3, l4, l5, l6] [.int (i1 * i0)] (N, 0, 0) h Q := zE_imul (by decide +kernel)
theorem e22_41 : zE X 22 41 [l0, l1, l2, l3, l4, l5, some (.int v)] [.int i0] (N, 0, 0) h Q = zE X 22 43 [l0, l1, l2, l3, l4, l5, some (.int v)] [.int v, .int i0] (N, 0, 0) h Q := zE_iload (k := 6) (by decide +kernel) rfl
theorem e22_43 : zE X 22 43 [l0, l1, l2, l3, l4, l5, l6] [.int i0, .int i1] (N, 0, 0) h Q = zE X 22 44 [l0, l1, l2, l3, l4, l5, l6] [.int (i1 + i0)] (N, 0, 0) h Q := zE_iadd (by decide +kernel)
theorem e22_44 : zE X 22 44 [l0, l1, l2, l3, l4, l5, l6] [.int i0] (N, 0, 0) h Q = zE X 22 46 [l0, l1, l2, l3, l4, l5, l6] [.int 48, .int i0] (N, 0, 0) h Q := zE_bipush (n := 48) (by decide +kernel) (by decide)
theorem e22_46 : zE X 22 46 [l0, l1, l2, l3, l4, l5, l6] [.int i0, .int i1] (N, 0, 0) h Q = zE X 22 47 [l0, l1, l2, l3, l4, l5, l6] [.int (i1 - i0)] (N, 0, 0) h Q := zE_isub (by decide +kernel)
theorem e22_47 : zE X 22 47 [l0, l1, l2, l3, l4, l5, l6] [.int i0] (N, 0, 0) h Q = zE X 22 48 [l0, l1, l2, some (.int i0), l4, l5, l6] [] (N, 0, 0) h Q := zE_istore_n (k := 3) (by decide +kernel) rfl rfl
theorem e22_48 : zE X 22 48 [l0, l1, l2, l3, some (.int v), l5, l6] [] (N, 0, 0) h Q = zE X 22 51 [l0, l1, l2, l3, some (.int (v + 1)), l5, l6] [] (N, 0, 0) h Q := zE_iinc (k := 4) (n := 1) (by decide +kernel) rfl rfl (by decide) rfl
theorem e22_51 : zE X 22 51 [l0, l1, l2, l3, l4, some (.int v), l6] [] (N, 0, 0) h Q = zE X 22 54 [l0, l1, l2, l3, l4, some (.int (v + 1)), l6] [] (N, 0, 0) h Q := zE_iinc (k := 5) (n := 1) (by decide +kernel) rfl rfl (by decide) rfl
theorem e22_54 : zE X 22 54 [l0, l1, l2, l3, l4, l5, l6] [] (N, 0, 0) h Q = zE X 22 8 [l0, l1, l2, l3, l4, l5, l6] [] (N, 0, 0) h Q := zE_goto (off := -46) (by decide +kernel) (by decide)
theorem e22_57 : zE X 22 57 [l0, l1, l2, l3, some (.int v), l5, l6] [] (N, 0, 0) h Q = zE X 22 59 [l0, l1, l2, l3, some (.int v), l5, l6] [.int v] (N, 0, 0) h Q := zE_iload (k := 4) (by decide +kernel) rfl
theorem e22_59 : zE X 22 59 [l0, l1, some (.int v), l3, l4, l5, l6] [.int i0] (N, 0, 0) h Q = zE X 22 60 [l0, l1, some (.int v), l3, l4, l5, l6] [.int v, .int i0] (N, 0, 0) h Q := zE_iload_n (k := 2) (by decide +kernel) rfl
theorem e22_60 : zE X 22 60 [l0, l1, l2, l3, l4, l5, l6] [.int i0, .int i1] (N, 0, 0) h Q = if i1 = i0 then zE X 22 63 [l0, l1, l2, l3, l4, l5, l6] [] (N, 0, 0) h Q else zE X 22 66 [l0, l1, l2, l3, l4, l5, l6] [] (N, 0, 0) h Q := zE_icmp_ne (off := 6) (by decide +kernel) (by decide)
theorem e22_63 : zE X 22 63 [l0, l1, l2, l3, l4, l5, l6] [] (N, 0, 0) h Q = zE X 22 65 [l0, l1, l2, l3, l4, l5, l6] [.int (-4)] (N, 0, 0) h Q := zE_bipush (n := -4) (by decide +kernel) (by decide)
theorem e22_65 : zE X 22 65 [l0, l1, l2, l3, l4, l5, l6] [.int i0] (N, 0, 0) h Q = Q (some (.int i0)) N h := zE_ireturn (by decide +kernel) rfl
theorem e22_66 : zE X 22 66 [some (.ref r), l1, l2, l3, l4, l5, l6] [] (N, 0, 0) h Q = zE X 22 67 [some (.ref r), l1, l2, l3, l4, l5, l6] [.ref r] (N, 0, 0) h Q := zE_aload_n (k := 0) (by decide +kernel) rfl
theorem e22_67 : zE X 22 67 [l0, l1, l2, some (.int v), l4, l5, l6] [.ref a0] (N, 0, 0) h Q = zE X 22 68 [l0, l1, l2, some (.int v), l4, l5, l6] [.int v, .ref a0] (N, 0, 0) h Q := zE_iload_n (k := 3) (by decide +kernel) rfl
theorem e22_68 : zE X 22 68 [l0, l1, l2, l3, l4, l5, l6] [.int i0, .ref a1] (N, 0, 0) h Q = zrc (h a1) 1 (zE X 23 0 [some (.ref a1), some (.int i0)] [] (N, 0, 0) h (fun v N' h' => zE X 22 71 [l0, l1, l2, l3, l4, l5, l6] (v.toList ++ []) (N', 0, 0) h' Q)) := zE_invv (k := 47) (z := 23) (nest := false) (q := 456) (as := [.int i0]) (by decide +kernel) rfl rfl (by decide +kernel) rfl rfl rfl rfl ⟨rfl, rfl⟩ rfl ⟨Nat.zero_le _, Nat.zero_le _⟩
theorem e22_71 : zE X 22 71 [l0, l1, l2, l3, some (.int v), l5, l6] [] (N, 0, 0) h Q = zE X 22 73 [l0, l1, l2, l3, some (.int v), l5, l6] [.int v] (N, 0, 0) h Q := zE_iload (k := 4) (by decide +kernel) rfl
theorem e22_73 : zE X 22 73 [l0, l1, l2, l3, l4, l5, l6] [.int i0] (N, 0, 0) h Q = Q (some (.int i0)) N h := zE_ireturn (by decide +kernel) rfl
-- 23 ItemReader_addNumber (I)V
theorem e23_0 : zE X 23 0 [some (.ref r), l1] [] (N, 0, 0) h Q = zE X 23 1 [some (.ref r), l1] [.ref r] (N, 0, 0) h Q := zE_aload_n (k := 0) (by decide +kernel) rfl
theorem e23_1 : zE X 23 1 [l0, l1] [.ref a0] (N, 0, 0) h Q = zgf (h a0) 1 1 (fun v => zE X 23 4 [l0, l1] [v] (N, 0, 0) h Q) := zE_getfield (k := 37) (nest := false) (q := 129) (by decide +kernel) rfl
theorem e23_4 : zE X 23 4 [l0, l1] [.int i0] (N, 0, 0) h Q = if i0 = 0 then zE X 23 7 [l0, l1] [] (N, 0, 0) h Q else zE X 23 15 [l0, l1] [] (N, 0, 0) h Q := zE_if_ne (off := 11) (by decide +kernel) (by decide)
theorem e23_7 : zE X 23 7 [some (.ref r), l1] [] (N, 0, 0) h Q = zE X 23 8 [some (.ref r), l1] [.ref r] (N, 0, 0) h Q := zE_aload_n (k := 0) (by decide +kernel) rfl
theorem e23_8 : zE X 23 8 [l0, some (.int v)] [.ref a0] (N, 0, 0) h Q = zE X 23 9 [l0, some (.int v)] [.int v, .ref a0] (N, 0, 0) h Q := zE_iload_n (k := 1) (by decide +kernel) rfl
theorem e23_9 : zE X 23 9 [l0, l1] [.int i0, .ref a1] (N, 0, 0) h Q = zpf (h a1) 1 2 (.int i0) (fun c => zE X 23 12 [l0, l1] [] (N, 0, 0) (va_up h a1 c) Q) := zE_putfield (k := 51) (nest := false) (q := 132) (by decide +kernel) rfl rfl rfl
theorem e23_12 : zE X 23 12 [l0, l1] [] (N, 0, 0) h Q = zE X 23 36 [l0, l1] [] (N, 0, 0) h Q := zE_goto (off := 24) (by decide +kernel) (by decide)
theorem e23_15 : zE X 23 15 [some (.ref r), l1] [] (N, 0, 0) h Q = zE X 23 16 [some (.ref r), l1] [.ref r] (N, 0, 0) h Q := zE_aload_n (k := 0) (by decide +kernel) rfl
theorem e23_16 : zE X 23 16 [l0, l1] [.ref a0] (N, 0, 0) h Q = zgf (h a0) 1 1 (fun v => zE X 23 19 [l0, l1] [v] (N, 0, 0) h Q) := zE_getfield (k := 37) (nest := false) (q := 129) (by decide +kernel) rfl
theorem e23_19 : zE X 23 19 [l0, l1] [.int i0] (N, 0, 0) h Q = zE X 23 20 [l0, l1] [.int 1, .int i0] (N, 0, 0) h Q := zE_iconst (n := 1) (by decide +kernel) (by decide)
theorem e23_20 : zE X 23 20 [l0, l1] [.int i0, .int i1] (N, 0, 0) h Q = if i1 = i0 then zE X 23 23 [l0, l1] [] (N, 0, 0) h Q else zE X 23 31 [l0, l1] [] (N, 0, 0) h Q := zE_icmp_ne (off := 11) (by decide +kernel) (by decide)
theorem e23_23 : zE X 23 23 [some (.ref r), l1] [] (N, 0, 0) h Q = zE X 23 24 [some (.ref r), l1] [.ref r] (N, 0, 0) h Q := zE_aload_n (k := 0) (by decide +kernel) rfl
theorem e23_24 : zE X 23 24 [l0, some (.int v)] [.ref a0] (N, 0, 0) h Q = zE X 23 25 [l0, some (.int v)] [.int v, .ref a0] (N, 0, 0) h Q := zE_iload_n (k := 1) (by decide +kernel) rfl
theorem e23_25 : zE X 23 25 [l0, l1] [.int i0, .ref a1] (N, 0, 0) h Q = zpf (h a1) 1 3 (.int i0) (fun c => zE X 23 28 [l0, l1] [] (N, 0, 0) (va_up h a1 c) Q) := zE_putfield (k := 54) (nest := false) (q := 134) (by decide +kernel) rfl rfl rfl
theorem e23_28 : zE X 23 28 [l0, l1] [] (N, 0, 0) h Q = zE X 23 36 [l0, l1] [] (N, 0, 0) h Q := zE_goto (off := 8) (by decide +kernel) (by decide)
theorem e23_31 : zE X 23 31 [some (.ref r), l1] [] (N, 0, 0) h Q = zE X 23 32 [some (.ref r), l1] [.ref r] (N, 0, 0) h Q := zE_aload_n (k := 0) (by decide +kernel) rfl
theorem e23_32 : zE X 23 32 [l0, some (.int v)] [.ref a0] (N, 0, 0) h Q = zE X 23 33 [l0, some (.int v)] [.int v, .ref a0] (N, 0, 0) h Q := zE_iload_n (k := 1) (by decide +kernel) rfl
theorem e23_33 : zE X 23 33 [l0, l1] [.int i0, .ref a1] (N, 0, 0) h Q = zpf (h a1) 1 4 (.int i0) (fun c => zE X 23 36 [l0, l1] [] (N, 0, 0) (va_up h a1 c) Q) := zE_putfield (k := 57) (nest := false) (q := 136) (by decide +kernel) rfl rfl rfl
theorem e23_36 : zE X 23 36 [some (.ref r), l1] [] (N, 0, 0) h Q = zE X 23 37 [some (.ref r), l1] [.ref r] (N, 0, 0) h Q := zE_aload_n (k := 0) (by decide +kernel) rfl
theorem e23_37 : zE X 23 37 [l0, l1] [.ref a0] (N, 0, 0) h Q = zE X 23 38 [l0, l1] [.ref a0, .ref a0] (N, 0, 0) h Q := zE_dup (by decide +kernel) rfl
theorem e23_38 : zE X 23 38 [l0, l1] [.ref a0, .ref a1] (N, 0, 0) h Q = zgf (h a0) 1 1 (fun v => zE X 23 41 [l0, l1] [v, .ref a1] (N, 0, 0) h Q) := zE_getfield (k := 37) (nest := false) (q := 129) (by decide +kernel) rfl
theorem e23_41 : zE X 23 41 [l0, l1] [.int i0, .ref a1] (N, 0, 0) h Q = zE X 23 42 [l0, l1] [.int 1, .int i0, .ref a1] (N, 0, 0) h Q := zE_iconst (n := 1) (by decide +kernel) (by decide)
theorem e23_42 : zE X 23 42 [l0, l1] [.int i0, .int i1, .ref a2] (N, 0, 0) h Q = zE X 23 43 [l0, l1] [.int (i1 + i0), .ref a2] (N, 0, 0) h Q := zE_iadd (by decide +kernel)
theorem e23_43 : zE X 23 43 [l0, l1] [.int i0, .ref a1] (N, 0, 0) h Q = zpf (h a1) 1 1 (.int i0) (fun c => zE X 23 46 [l0, l1] [] (N, 0, 0) (va_up h a1 c) Q) := zE_putfield (k := 37) (nest := false) (q := 129) (by decide +kernel) rfl rfl rfl
theorem e23_46 : zE X 23 46 [l0, l1] [] (N, 0, 0) h Q = Q none N h := zE_return (by decide +kernel) rfl
-- 24 Sheet_take (LPursesByLot$ItemReader;)Z
theorem e24_0 : zE X 24 0 [l0, some (.ref r)] [] (N, 0, 0) h Q = zE X 24 1 [l0, some (.ref r)] [.ref r] (N, 0, 0) h Q := zE_aload_n (k := 1) (by decide +kernel) rfl
theorem e24_1 : zE X 24 1 [l0, l1] [.ref a0] (N, 0, 0) h Q = zgf (h a0) 1 0 (fun v => zE X 24 4 [l0, l1] [v] (N, 0, 0) h Q) := zE_getfield (k := 67) (nest := true) (q := 127) (by decide +kernel) rfl
theorem e24_104 : zE X 24 104 [l0, some (.ref r)] [] (N, 0, 0) h Q = zE X 24 105 [l0, some (.ref r)] [.ref r] (N, 0, 0) h Q := zE_aload_n (k := 1) (by decide +kernel) rfl
theorem e24_105 : zE X 24 105 [l0, l1] [.ref a0] (N, 0, 0) h Q = zgf (h a0) 1 1 (fun v => zE X 24 108 [l0, l1] [v] (N, 0, 0) h Q) := zE_getfield (k := 72) (nest := true) (q := 130) (by decide +kernel) rfl
theorem e24_108 : zE X 24 108 [l0, l1] [.int i0] (N, 0, 0) h Q = zE X 24 109 [l0, l1] [.int 3, .int i0] (N, 0, 0) h Q := zE_iconst (n := 3) (by decide +kernel) (by decide)
theorem e24_109 : zE X 24 109 [l0, l1] [.int i0, .int i1] (N, 0, 0) h Q = if i1 = i0 then zE X 24 112 [l0, l1] [] (N, 0, 0) h Q else zE X 24 135 [l0, l1] [] (N, 0, 0) h Q := zE_icmp_ne (off := 26) (by decide +kernel) (by decide)
theorem e24_112 : zE X 24 112 [some (.ref r), l1] [] (N, 0, 0) h Q = zE X 24 113 [some (.ref r), l1] [.ref r] (N, 0, 0) h Q := zE_aload_n (k := 0) (by decide +kernel) rfl
theorem e24_113 : zE X 24 113 [l0, some (.ref r)] [.ref a0] (N, 0, 0) h Q = zE X 24 114 [l0, some (.ref r)] [.ref r, .ref a0] (N, 0, 0) h Q := zE_aload_n (k := 1) (by decide +kernel) rfl
theorem e24_114 : zE X 24 114 [l0, l1] [.ref a0, .ref a1] (N, 0, 0) h Q = zgf (h a0) 1 2 (fun v => zE X 24 117 [l0, l1] [v, .ref a1] (N, 0, 0) h Q) := zE_getfield (k := 75) (nest := true) (q := 131) (by decide +kernel) rfl
theorem e24_117 : zE X 24 117 [l0, some (.ref r)] [.int i0, .ref a1] (N, 0, 0) h Q = zE X 24 118 [l0, some (.ref r)] [.ref r, .int i0, .ref a1] (N, 0, 0) h Q := zE_aload_n (k := 1) (by decide +kernel) rfl
theorem e24_118 : zE X 24 118 [l0, l1] [.ref a0, .int i1, .ref a2] (N, 0, 0) h Q = zgf (h a0) 1 3 (fun v => zE X 24 121 [l0, l1] [v, .int i1, .ref a2] (N, 0, 0) h Q) := zE_getfield (k := 78) (nest := true) (q := 133) (by decide +kernel) rfl
theorem e24_121 : zE X 24 121 [l0, some (.ref r)] [.int i0, .int i1, .ref a2] (N, 0, 0) h Q = zE X 24 122 [l0, some (.ref r)] [.ref r, .int i0, .int i1, .ref a2] (N, 0, 0) h Q := zE_aload_n (k := 1) (by decide +kernel) rfl
theorem e24_122 : zE X 24 122 [l0, l1] [.ref a0, .int i1, .int i2, .ref a3] (N, 0, 0) h Q = zgf (h a0) 1 4 (fun v => zE X 24 125 [l0, l1] [v, .int i1, .int i2, .ref a3] (N, 0, 0) h Q) := zE_getfield (k := 81) (nest := true) (q := 135) (by decide +kernel) rfl
theorem e24_125 : zE X 24 125 [l0, l1] [.int i0, .int i1, .int i2, .ref a3] (N, 0, 0) h Q = zrc (h a3) 5 (zE X 25 0 [some (.ref a3), some (.int i2), some (.int i1), some (.int i0)] [] (N, 0, 0) h (fun v N' h' => zE X 24 128 [l0, l1] (v.toList ++ []) (N', 0, 0) h' Q)) := zE_invv (k := 84) (z := 25) (nest := false) (q := 464) (as := [.int i2, .int i1, .int i0]) (by decide +kernel) rfl rfl (by decide +kernel) rfl rfl rfl rfl ⟨rfl, rfl⟩ rfl ⟨Nat.zero_le _, Nat.zero_le _⟩
theorem e24_128 : zE X 24 128 [l0, l1] [.int i0] (N, 0, 0) h Q = if i0 = 0 then zE X 24 135 [l0, l1] [] (N, 0, 0) h Q else zE X 24 131 [l0, l1] [] (N, 0, 0) h Q := zE_if_eq (off := 7) (by decide +kernel) (by decide)
theorem e24_131 : zE X 24 131 [l0, l1] [] (N, 0, 0) h Q = zE X 24 132 [l0, l1] [.int 1] (N, 0, 0) h Q := zE_iconst (n := 1) (by decide +kernel) (by decide)
theorem e24_132 : zE X 24 132 [l0, l1] [.int i0] (N, 0, 0) h Q = zE X 24 136 [l0, l1] [.int i0] (N, 0, 0) h Q := zE_goto (off := 4) (by decide +kernel) (by decide)
theorem e24_135 : zE X 24 135 [l0, l1] [] (N, 0, 0) h Q = zE X 24 136 [l0, l1] [.int 0] (N, 0, 0) h Q := zE_iconst (n := 0) (by decide +kernel) (by decide)
theorem e24_136 : zE X 24 136 [l0, l1] [.int i0] (N, 0, 0) h Q = if i0 = 0 ∨ i0 = 1 then Q (some (.int i0)) N h else False := zE_zreturn (by decide +kernel) rfl
theorem e24_137 : zE X 24 137 [l0, some (.ref r)] [] (N, 0, 0) h Q = zE X 24 138 [l0, some (.ref r)] [.ref r] (N, 0, 0) h Q := zE_aload_n (k := 1) (by decide +kernel) rfl
theorem e24_138 : zE X 24 138 [l0, l1] [.ref a0] (N, 0, 0) h Q = zgf (h a0) 1 1 (fun v => zE X 24 141 [l0, l1] [v] (N, 0, 0) h Q) := zE_getfield (k := 72) (nest := true) (q := 130) (by decide +kernel) rfl
theorem e24_141 : zE X 24 141 [l0, l1] [.int i0] (N, 0, 0) h Q = zE X 24 142 [l0, l1] [.int 3, .int i0] (N, 0, 0) h Q := zE_iconst (n := 3) (by decide +kernel) (by decide)
theorem e24_142 : zE X 24 142 [l0, l1] [.int i0, .int i1] (N, 0, 0) h Q = if i1 = i0 then zE X 24 145 [l0, l1] [] (N, 0, 0) h Q else zE X 24 168 [l0, l1] [] (N, 0, 0) h Q := zE_icmp_ne (off := 26) (by decide +kernel) (by decide)
theorem e24_145 : zE X 24 145 [some (.ref r), l1] [] (N, 0, 0) h Q = zE X 24 146 [some (.ref r), l1] [.ref r] (N, 0, 0) h Q := zE_aload_n (k := 0) (by decide +kernel) rfl
theorem e24_146 : zE X 24 146 [l0, some (.ref r)] [.ref a0] (N, 0, 0) h Q = zE X 24 147 [l0, some (.ref r)] [.ref r, .ref a0] (N, 0, 0) h Q := zE_aload_n (k := 1) (by decide +kernel) rfl
theorem e24_147 : zE X 24 147 [l0, l1] [.ref a0, .ref a1] (N, 0, 0) h Q = zgf (h a0) 1 2 (fun v => zE X 24 150 [l0, l1] [v, .ref a1] (N, 0, 0) h Q) := zE_getfield (k := 75) (nest := true) (q := 131) (by decide +kernel) rfl
theorem e24_150 : zE X 24 150 [l0, some (.ref r)] [.int i0, .ref a1] (N, 0, 0) h Q = zE X 24 151 [l0, some (.ref r)] [.ref r, .int i0, .ref a1] (N, 0, 0) h Q := zE_aload_n (k := 1) (by decide +kernel) rfl
theorem e24_151 : zE X 24 151 [l0, l1] [.ref a0, .int i1, .ref a2] (N, 0, 0) h Q = zgf (h a0) 1 3 (fun v => zE X 24 154 [l0, l1] [v, .int i1, .ref a2] (N, 0, 0) h Q) := zE_getfield (k := 78) (nest := true) (q := 133) (by decide +kernel) rfl
theorem e24_154 : zE X 24 154 [l0, some (.ref r)] [.int i0, .int i1, .ref a2] (N, 0, 0) h Q = zE X 24 155 [l0, some (.ref r)] [.ref r, .int i0, .int i1, .ref a2] (N, 0, 0) h Q := zE_aload_n (k := 1) (by decide +kernel) rfl
theorem e24_155 : zE X 24 155 [l0, l1] [.ref a0, .int i1, .int i2, .ref a3] (N, 0, 0) h Q = zgf (h a0) 1 4 (fun v => zE X 24 158 [l0, l1] [v, .int i1, .int i2, .ref a3] (N, 0, 0) h Q) := zE_getfield (k := 81) (nest := true) (q := 135) (by decide +kernel) rfl
theorem e24_158 : zE X 24 158 [l0, l1] [.int i0, .int i1, .int i2, .ref a3] (N, 0, 0) h Q = zrc (h a3) 5 (zE X 26 0 [some (.ref a3), some (.int i2), some (.int i1), some (.int i0)] [] (N, 0, 0) h (fun v N' h' => zE X 24 161 [l0, l1] (v.toList ++ []) (N', 0, 0) h' Q)) := zE_invv (k := 88) (z := 26) (nest := false) (q := 468) (as := [.int i2, .int i1, .int i0]) (by decide +kernel) rfl rfl (by decide +kernel) rfl rfl rfl rfl ⟨rfl, rfl⟩ rfl ⟨Nat.zero_le _, Nat.zero_le _⟩
theorem e24_161 : zE X 24 161 [l0, l1] [.int i0] (N, 0, 0) h Q = if i0 = 0 then zE X 24 168 [l0, l1] [] (N, 0, 0) h Q else zE X 24 164 [l0, l1] [] (N, 0, 0) h Q := zE_if_eq (off := 7) (by decide +kernel) (by decide)
theorem e24_164 : zE X 24 164 [l0, l1] [] (N, 0, 0) h Q = zE X 24 165 [l0, l1] [.int 1] (N, 0, 0) h Q := zE_iconst (n := 1) (by decide +kernel) (by decide)
theorem e24_165 : zE X 24 165 [l0, l1] [.int i0] (N, 0, 0) h Q = zE X 24 169 [l0, l1] [.int i0] (N, 0, 0) h Q := zE_goto (off := 4) (by decide +kernel) (by decide)
theorem e24_168 : zE X 24 168 [l0, l1] [] (N, 0, 0) h Q = zE X 24 169 [l0, l1] [.int 0] (N, 0, 0) h Q := zE_iconst (n := 0) (by decide +kernel) (by decide)
theorem e24_169 : zE X 24 169 [l0, l1] [.int i0] (N, 0, 0) h Q = if i0 = 0 ∨ i0 = 1 then Q (some (.int i0)) N h else False := zE_zreturn (by decide +kernel) rfl
theorem e24_170 : zE X 24 170 [l0, some (.ref r)] [] (N, 0, 0) h Q = zE X 24 171 [l0, some (.ref r)] [.ref r] (N, 0, 0) h Q := zE_aload_n (k := 1) (by decide +kernel) rfl
theorem e24_171 : zE X 24 171 [l0, l1] [.ref a0] (N, 0, 0) h Q = zgf (h a0) 1 1 (fun v => zE X 24 174 [l0, l1] [v] (N, 0, 0) h Q) := zE_getfield (k := 72) (nest := true) (q := 130) (by decide +kernel) rfl
theorem e24_174 : zE X 24 174 [l0, l1] [.int i0] (N, 0, 0) h Q = zE X 24 175 [l0, l1] [.int 3, .int i0] (N, 0, 0) h Q := zE_iconst (n := 3) (by decide +kernel) (by decide)
theorem e24_175 : zE X 24 175 [l0, l1] [.int i0, .int i1] (N, 0, 0) h Q = if i1 = i0 then zE X 24 178 [l0, l1] [] (N, 0, 0) h Q else zE X 24 201 [l0, l1] [] (N, 0, 0) h Q := zE_icmp_ne (off := 26) (by decide +kernel) (by decide)
theorem e24_178 : zE X 24 178 [some (.ref r), l1] [] (N, 0, 0) h Q = zE X 24 179 [some (.ref r), l1] [.ref r] (N, 0, 0) h Q := zE_aload_n (k := 0) (by decide +kernel) rfl
theorem e24_179 : zE X 24 179 [l0, some (.ref r)] [.ref a0] (N, 0, 0) h Q = zE X 24 180 [l0, some (.ref r)] [.ref r, .ref a0] (N, 0, 0) h Q := zE_aload_n (k := 1) (by decide +kernel) rfl
theorem e24_180 : zE X 24 180 [l0, l1] [.ref a0, .ref a1] (N, 0, 0) h Q = zgf (h a0) 1 2 (fun v => zE X 24 183 [l0, l1] [v, .ref a1] (N, 0, 0) h Q) := zE_getfield (k := 75) (nest := true) (q := 131) (by decide +kernel) rfl
theorem e24_183 : zE X 24 183 [l0, some (.ref r)] [.int i0, .ref a1] (N, 0, 0) h Q = zE X 24 184 [l0, some (.ref r)] [.ref r, .int i0, .ref a1] (N, 0, 0) h Q := zE_aload_n (k := 1) (by decide +kernel) rfl
theorem e24_184 : zE X 24 184 [l0, l1] [.ref a0, .int i1, .ref a2] (N, 0, 0) h Q = zgf (h a0) 1 3 (fun v => zE X 24 187 [l0, l1] [v, .int i1, .ref a2] (N, 0, 0) h Q) := zE_getfield (k := 78) (nest := true) (q := 133) (by decide +kernel) rfl
theorem e24_187 : zE X 24 187 [l0, some (.ref r)] [.int i0, .int i1, .ref a2] (N, 0, 0) h Q = zE X 24 188 [l0, some (.ref r)] [.ref r, .int i0, .int i1, .ref a2] (N, 0, 0) h Q := zE_aload_n (k := 1) (by decide +kernel) rfl
theorem e24_188 : zE X 24 188 [l0, l1] [.ref a0, .int i1, .int i2, .ref a3] (N, 0, 0) h Q = zgf (h a0) 1 4 (fun v => zE X 24 191 [l0, l1] [v, .int i1, .int i2, .ref a3] (N, 0, 0) h Q) := zE_getfield (k := 81) (nest := true) (q := 135) (by decide +kernel) rfl
theorem e24_191 : zE X 24 191 [l0, l1] [.int i0, .int i1, .int i2, .ref a3] (N, 0, 0) h Q = zrc (h a3) 5 (zE X 27 0 [some (.ref a3), some (.int i2), some (.int i1), some (.int i0)] [] (N, 0, 0) h (fun v N' h' => zE X 24 194 [l0, l1] (v.toList ++ []) (N', 0, 0) h' Q)) := zE_invv (k := 91) (z := 27) (nest := false) (q := 472) (as := [.int i2, .int i1, .int i0]) (by decide +kernel) rfl rfl (by decide +kernel) rfl rfl rfl rfl ⟨rfl, rfl⟩ rfl ⟨Nat.zero_le _, Nat.zero_le _⟩
theorem e24_194 : zE X 24 194 [l0, l1] [.int i0] (N, 0, 0) h Q = if i0 = 0 then zE X 24 201 [l0, l1] [] (N, 0, 0) h Q else zE X 24 197 [l0, l1] [] (N, 0, 0) h Q := zE_if_eq (off := 7) (by decide +kernel) (by decide)
theorem e24_197 : zE X 24 197 [l0, l1] [] (N, 0, 0) h Q = zE X 24 198 [l0, l1] [.int 1] (N, 0, 0) h Q := zE_iconst (n := 1) (by decide +kernel) (by decide)
theorem e24_198 : zE X 24 198 [l0, l1] [.int i0] (N, 0, 0) h Q = zE X 24 202 [l0, l1] [.int i0] (N, 0, 0) h Q := zE_goto (off := 4) (by decide +kernel) (by decide)
theorem e24_201 : zE X 24 201 [l0, l1] [] (N, 0, 0) h Q = zE X 24 202 [l0, l1] [.int 0] (N, 0, 0) h Q := zE_iconst (n := 0) (by decide +kernel) (by decide)
theorem e24_202 : zE X 24 202 [l0, l1] [.int i0] (N, 0, 0) h Q = if i0 = 0 ∨ i0 = 1 then Q (some (.int i0)) N h else False := zE_zreturn (by decide +kernel) rfl
theorem e24_203 : zE X 24 203 [l0, some (.ref r)] [] (N, 0, 0) h Q = zE X 24 204 [l0, some (.ref r)] [.ref r] (N, 0, 0) h Q := zE_aload_n (k := 1) (by decide +kernel) rfl
theorem e24_204 : zE X 24 204 [l0, l1] [.ref a0] (N, 0, 0) h Q = zgf (h a0) 1 1 (fun v => zE X 24 207 [l0, l1] [v] (N, 0, 0) h Q) := zE_getfield (k := 72) (nest := true) (q := 130) (by decide +kernel) rfl
theorem e24_207 : zE X 24 207 [l0, l1] [.int i0] (N, 0, 0) h Q = zE X 24 208 [l0, l1] [.int 1, .int i0] (N, 0, 0) h Q := zE_iconst (n := 1) (by decide +kernel) (by decide)
theorem e24_208 : zE X 24 208 [l0, l1] [.int i0, .int i1] (N, 0, 0) h Q = if i1 = i0 then zE X 24 211 [l0, l1] [] (N, 0, 0) h Q else zE X 24 226 [l0, l1] [] (N, 0, 0) h Q := zE_icmp_ne (off := 18) (by decide +kernel) (by decide)
theorem e24_211 : zE X 24 211 [some (.ref r), l1] [] (N, 0, 0) h Q = zE X 24 212 [some (.ref r), l1] [.ref r] (N, 0, 0) h Q := zE_aload_n (k := 0) (by decide +kernel) rfl
theorem e24_212 : zE X 24 212 [l0, some (.ref r)] [.ref a0] (N, 0, 0) h Q = zE X 24 213 [l0, some (.ref r)] [.ref r, .ref a0] (N, 0, 0) h Q := zE_aload_n (k := 1) (by decide +kernel) rfl
theorem e24_213 : zE X 24 213 [l0, l1] [.ref a0, .ref a1] (N, 0, 0) h Q = zgf (h a0) 1 2 (fun v => zE X 24 216 [l0, l1] [v, .ref a1] (N, 0, 0) h Q) := zE_getfield (k := 75) (nest := true) (q := 131) (by decide +kernel) rfl
theorem e24_216 : zE X 24 216 [l0, l1] [.int i0, .ref a1] (N, 0, 0) h Q = zrc (h a1) 5 (zE X 28 0 [some (.ref a1), some (.int i0)] [] (N, 0, 0) h (fun v N' h' => zE X 24 219 [l0, l1] (v.toList ++ []) (N', 0, 0) h' Q)) := zE_invv (k := 94) (z := 28) (nest := false) (q := 476) (as := [.int i0]) (by decide +kernel) rfl rfl (by decide +kernel) rfl rfl rfl rfl ⟨rfl, rfl⟩ rfl ⟨Nat.zero_le _, Nat.zero_le _⟩
theorem e24_219 : zE X 24 219 [l0, l1] [.int i0] (N, 0, 0) h Q = if i0 = 0 then zE X 24 226 [l0, l1] [] (N, 0, 0) h Q else zE X 24 222 [l0, l1] [] (N, 0, 0) h Q := zE_if_eq (off := 7) (by decide +kernel) (by decide)
theorem e24_222 : zE X 24 222 [l0, l1] [] (N, 0, 0) h Q = zE X 24 223 [l0, l1] [.int 1] (N, 0, 0) h Q := zE_iconst (n := 1) (by decide +kernel) (by decide)
theorem e24_223 : zE X 24 223 [l0, l1] [.int i0] (N, 0, 0) h Q = zE X 24 227 [l0, l1] [.int i0] (N, 0, 0) h Q := zE_goto (off := 4) (by decide +kernel) (by decide)
theorem e24_226 : zE X 24 226 [l0, l1] [] (N, 0, 0) h Q = zE X 24 227 [l0, l1] [.int 0] (N, 0, 0) h Q := zE_iconst (n := 0) (by decide +kernel) (by decide)
theorem e24_227 : zE X 24 227 [l0, l1] [.int i0] (N, 0, 0) h Q = if i0 = 0 ∨ i0 = 1 then Q (some (.int i0)) N h else False := zE_zreturn (by decide +kernel) rfl
theorem e24_228 : zE X 24 228 [l0, some (.ref r)] [] (N, 0, 0) h Q = zE X 24 229 [l0, some (.ref r)] [.ref r] (N, 0, 0) h Q := zE_aload_n (k := 1) (by decide +kernel) rfl
theorem e24_229 : zE X 24 229 [l0, l1] [.ref a0] (N, 0, 0) h Q = zgf (h a0) 1 1 (fun v => zE X 24 232 [l0, l1] [v] (N, 0, 0) h Q) := zE_getfield (k := 72) (nest := true) (q := 130) (by decide +kernel) rfl
theorem e24_232 : zE X 24 232 [l0, l1] [.int i0] (N, 0, 0) h Q = zE X 24 233 [l0, l1] [.int 2, .int i0] (N, 0, 0) h Q := zE_iconst (n := 2) (by decide +kernel) (by decide)
theorem e24_233 : zE X 24 233 [l0, l1] [.int i0, .int i1] (N, 0, 0) h Q = if i1 = i0 then zE X 24 236 [l0, l1] [] (N, 0, 0) h Q else zE X 24 255 [l0, l1] [] (N, 0, 0) h Q := zE_icmp_ne (off := 22) (by decide +kernel) (by decide)
theorem e24_236 : zE X 24 236 [some (.ref r), l1] [] (N, 0, 0) h Q = zE X 24 237 [some (.ref r), l1] [.ref r] (N, 0, 0) h Q := zE_aload_n (k := 0) (by decide +kernel) rfl
theorem e24_237 : zE X 24 237 [l0, some (.ref r)] [.ref a0] (N, 0, 0) h Q = zE X 24 238 [l0, some (.ref r)] [.ref r, .ref a0] (N, 0, 0) h Q := zE_aload_n (k := 1) (by decide +kernel) rfl
theorem e24_238 : zE X 24 238 [l0, l1] [.ref a0, .ref a1] (N, 0, 0) h Q = zgf (h a0) 1 2 (fun v => zE X 24 241 [l0, l1] [v, .ref a1] (N, 0, 0) h Q) := zE_getfield (k := 75) (nest := true) (q := 131) (by decide +kernel) rfl
theorem e24_241 : zE X 24 241 [l0, some (.ref r)] [.int i0, .ref a1] (N, 0, 0) h Q = zE X 24 242 [l0, some (.ref r)] [.ref r, .int i0, .ref a1] (N, 0, 0) h Q := zE_aload_n (k := 1) (by decide +kernel) rfl
theorem e24_242 : zE X 24 242 [l0, l1] [.ref a0, .int i1, .ref a2] (N, 0, 0) h Q = zgf (h a0) 1 3 (fun v => zE X 24 245 [l0, l1] [v, .int i1, .ref a2] (N, 0, 0) h Q) := zE_getfield (k := 78) (nest := true) (q := 133) (by decide +kernel) rfl
theorem e24_245 : zE X 24 245 [l0, l1] [.int i0, .int i1, .ref a2] (N, 0, 0) h Q = zrc (h a2) 5 (zE X 29 0 [some (.ref a2), some (.int i1), some (.int i0)] [] (N, 0, 0) h (fun v N' h' => zE X 24 248 [l0, l1] (v.toList ++ []) (N', 0, 0) h' Q)) := zE_invv (k := 98) (z := 29) (nest := false) (q := 480) (as := [.int i1, .int i0]) (by decide +kernel) rfl rfl (by decide +kernel) rfl rfl rfl rfl ⟨rfl, rfl⟩ rfl ⟨Nat.zero_le _, Nat.zero_le _⟩
theorem e24_248 : zE X 24 248 [l0, l1] [.int i0] (N, 0, 0) h Q = if i0 = 0 then zE X 24 255 [l0, l1] [] (N, 0, 0) h Q else zE X 24 251 [l0, l1] [] (N, 0, 0) h Q := zE_if_eq (off := 7) (by decide +kernel) (by decide)
theorem e24_251 : zE X 24 251 [l0, l1] [] (N, 0, 0) h Q = zE X 24 252 [l0, l1] [.int 1] (N, 0, 0) h Q := zE_iconst (n := 1) (by decide +kernel) (by decide)
theorem e24_252 : zE X 24 252 [l0, l1] [.int i0] (N, 0, 0) h Q = zE X 24 256 [l0, l1] [.int i0] (N, 0, 0) h Q := zE_goto (off := 4) (by decide +kernel) (by decide)
theorem e24_255 : zE X 24 255 [l0, l1] [] (N, 0, 0) h Q = zE X 24 256 [l0, l1] [.int 0] (N, 0, 0) h Q := zE_iconst (n := 0) (by decide +kernel) (by decide)
theorem e24_256 : zE X 24 256 [l0, l1] [.int i0] (N, 0, 0) h Q = if i0 = 0 ∨ i0 = 1 then Q (some (.int i0)) N h else False := zE_zreturn (by decide +kernel) rfl
theorem e24_257 : zE X 24 257 [l0, some (.ref r)] [] (N, 0, 0) h Q = zE X 24 258 [l0, some (.ref r)] [.ref r] (N, 0, 0) h Q := zE_aload_n (k := 1) (by decide +kernel) rfl
theorem e24_258 : zE X 24 258 [l0, l1] [.ref a0] (N, 0, 0) h Q = zgf (h a0) 1 1 (fun v => zE X 24 261 [l0, l1] [v] (N, 0, 0) h Q) := zE_getfield (k := 72) (nest := true) (q := 130) (by decide +kernel) rfl
theorem e24_261 : zE X 24 261 [l0, l1] [.int i0] (N, 0, 0) h Q = zE X 24 262 [l0, l1] [.int 2, .int i0] (N, 0, 0) h Q := zE_iconst (n := 2) (by decide +kernel) (by decide)
theorem e24_262 : zE X 24 262 [l0, l1] [.int i0, .int i1] (N, 0, 0) h Q = if i1 = i0 then zE X 24 265 [l0, l1] [] (N, 0, 0) h Q else zE X 24 284 [l0, l1] [] (N, 0, 0) h Q := zE_icmp_ne (off := 22) (by decide +kernel) (by decide)
theorem e24_265 : zE X 24 265 [some (.ref r), l1] [] (N, 0, 0) h Q = zE X 24 266 [some (.ref r), l1] [.ref r] (N, 0, 0) h Q := zE_aload_n (k := 0) (by decide +kernel) rfl
theorem e24_266 : zE X 24 266 [l0, some (.ref r)] [.ref a0] (N, 0, 0) h Q = zE X 24 267 [l0, some (.ref r)] [.ref r, .ref a0] (N, 0, 0) h Q := zE_aload_n (k := 1) (by decide +kernel) rfl
theorem e24_267 : zE X 24 267 [l0, l1] [.ref a0, .ref a1] (N, 0, 0) h Q = zgf (h a0) 1 2 (fun v => zE X 24 270 [l0, l1] [v, .ref a1] (N, 0, 0) h Q) := zE_getfield (k := 75) (nest := true) (q := 131) (by decide +kernel) rfl
theorem e24_270 : zE X 24 270 [l0, some (.ref r)] [.int i0, .ref a1] (N, 0, 0) h Q = zE X 24 271 [l0, some (.ref r)] [.ref r, .int i0, .ref a1] (N, 0, 0) h Q := zE_aload_n (k := 1) (by decide +kernel) rfl
theorem e24_271 : zE X 24 271 [l0, l1] [.ref a0, .int i1, .ref a2] (N, 0, 0) h Q = zgf (h a0) 1 3 (fun v => zE X 24 274 [l0, l1] [v, .int i1, .ref a2] (N, 0, 0) h Q) := zE_getfield (k := 78) (nest := true) (q := 133) (by decide +kernel) rfl
theorem e24_274 : zE X 24 274 [l0, l1] [.int i0, .int i1, .ref a2] (N, 0, 0) h Q = zrc (h a2) 5 (zE X 30 0 [some (.ref a2), some (.int i1), some (.int i0)] [] (N, 0, 0) h (fun v N' h' => zE X 24 277 [l0, l1] (v.toList ++ []) (N', 0, 0) h' Q)) := zE_invv (k := 102) (z := 30) (nest := false) (q := 484) (as := [.int i1, .int i0]) (by decide +kernel) rfl rfl (by decide +kernel) rfl rfl rfl rfl ⟨rfl, rfl⟩ rfl ⟨Nat.zero_le _, Nat.zero_le _⟩
theorem e24_277 : zE X 24 277 [l0, l1] [.int i0] (N, 0, 0) h Q = if i0 = 0 then zE X 24 284 [l0, l1] [] (N, 0, 0) h Q else zE X 24 280 [l0, l1] [] (N, 0, 0) h Q := zE_if_eq (off := 7) (by decide +kernel) (by decide)
theorem e24_280 : zE X 24 280 [l0, l1] [] (N, 0, 0) h Q = zE X 24 281 [l0, l1] [.int 1] (N, 0, 0) h Q := zE_iconst (n := 1) (by decide +kernel) (by decide)
theorem e24_281 : zE X 24 281 [l0, l1] [.int i0] (N, 0, 0) h Q = zE X 24 285 [l0, l1] [.int i0] (N, 0, 0) h Q := zE_goto (off := 4) (by decide +kernel) (by decide)
theorem e24_284 : zE X 24 284 [l0, l1] [] (N, 0, 0) h Q = zE X 24 285 [l0, l1] [.int 0] (N, 0, 0) h Q := zE_iconst (n := 0) (by decide +kernel) (by decide)
theorem e24_285 : zE X 24 285 [l0, l1] [.int i0] (N, 0, 0) h Q = if i0 = 0 ∨ i0 = 1 then Q (some (.int i0)) N h else False := zE_zreturn (by decide +kernel) rfl
theorem e24_286 : zE X 24 286 [l0, some (.ref r)] [] (N, 0, 0) h Q = zE X 24 287 [l0, some (.ref r)] [.ref r] (N, 0, 0) h Q := zE_aload_n (k := 1) (by decide +kernel) rfl
theorem e24_287 : zE X 24 287 [l0, l1] [.ref a0] (N, 0, 0) h Q = zgf (h a0) 1 1 (fun v => zE X 24 290 [l0, l1] [v] (N, 0, 0) h Q) := zE_getfield (k := 72) (nest := true) (q := 130) (by decide +kernel) rfl
theorem e24_290 : zE X 24 290 [l0, l1] [.int i0] (N, 0, 0) h Q = zE X 24 291 [l0, l1] [.int 1, .int i0] (N, 0, 0) h Q := zE_iconst (n := 1) (by decide +kernel) (by decide)
theorem e24_291 : zE X 24 291 [l0, l1] [.int i0, .int i1] (N, 0, 0) h Q = if i1 = i0 then zE X 24 294 [l0, l1] [] (N, 0, 0) h Q else zE X 24 309 [l0, l1] [] (N, 0, 0) h Q := zE_icmp_ne (off := 18) (by decide +kernel) (by decide)
theorem e24_294 : zE X 24 294 [some (.ref r), l1] [] (N, 0, 0) h Q = zE X 24 295 [some (.ref r), l1] [.ref r] (N, 0, 0) h Q := zE_aload_n (k := 0) (by decide +kernel) rfl
theorem e24_295 : zE X 24 295 [l0, some (.ref r)] [.ref a0] (N, 0, 0) h Q = zE X 24 296 [l0, some (.ref r)] [.ref r, .ref a0] (N, 0, 0) h Q := zE_aload_n (k := 1) (by decide +kernel) rfl
theorem e24_296 : zE X 24 296 [l0, l1] [.ref a0, .ref a1] (N, 0, 0) h Q = zgf (h a0) 1 2 (fun v => zE X 24 299 [l0, l1] [v, .ref a1] (N, 0, 0) h Q) := zE_getfield (k := 75) (nest := true) (q := 131) (by decide +kernel) rfl
theorem e24_299 : zE X 24 299 [l0, l1] [.int i0, .ref a1] (N, 0, 0) h Q = zrc (h a1) 5 (zE X 31 0 [some (.ref a1), some (.int i0)] [] (N, 0, 0) h (fun v N' h' => zE X 24 302 [l0, l1] (v.toList ++ []) (N', 0, 0) h' Q)) := zE_invv (k := 105) (z := 31) (nest := false) (q := 488) (as := [.int i0]) (by decide +kernel) rfl rfl (by decide +kernel) rfl rfl rfl rfl ⟨rfl, rfl⟩ rfl ⟨Nat.zero_le _, Nat.zero_le _⟩
theorem e24_302 : zE X 24 302 [l0, l1] [.int i0] (N, 0, 0) h Q = if i0 = 0 then zE X 24 309 [l0, l1] [] (N, 0, 0) h Q else zE X 24 305 [l0, l1] [] (N, 0, 0) h Q := zE_if_eq (off := 7) (by decide +kernel) (by decide)
theorem e24_305 : zE X 24 305 [l0, l1] [] (N, 0, 0) h Q = zE X 24 306 [l0, l1] [.int 1] (N, 0, 0) h Q := zE_iconst (n := 1) (by decide +kernel) (by decide)
theorem e24_306 : zE X 24 306 [l0, l1] [.int i0] (N, 0, 0) h Q = zE X 24 310 [l0, l1] [.int i0] (N, 0, 0) h Q := zE_goto (off := 4) (by decide +kernel) (by decide)
theorem e24_309 : zE X 24 309 [l0, l1] [] (N, 0, 0) h Q = zE X 24 310 [l0, l1] [.int 0] (N, 0, 0) h Q := zE_iconst (n := 0) (by decide +kernel) (by decide)
theorem e24_310 : zE X 24 310 [l0, l1] [.int i0] (N, 0, 0) h Q = if i0 = 0 ∨ i0 = 1 then Q (some (.int i0)) N h else False := zE_zreturn (by decide +kernel) rfl
theorem e24_311 : zE X 24 311 [l0, l1] [] (N, 0, 0) h Q = zE X 24 312 [l0, l1] [.int 0] (N, 0, 0) h Q := zE_iconst (n := 0) (by decide +kernel) (by decide)
theorem e24_312 : zE X 24 312 [l0, l1] [.int i0] (N, 0, 0) h Q = if i0 = 0 ∨ i0 = 1 then Q (some (.int i0)) N h else False := zE_zreturn (by decide +kernel) rfl
-- 25 Sheet_takePlan (III)Z
theorem e25_0 : zE X 25 0 [some (.ref r), l1, l2, l3] [] (N, 0, 0) h Q = zE X 25 1 [some (.ref r), l1, l2, l3] [.ref r] (N, 0, 0) h Q := zE_aload_n (k := 0) (by decide +kernel) rfl
theorem e25_1 : zE X 25 1 [l0, l1, l2, l3] [.ref a0] (N, 0, 0) h Q = zgf (h a0) 5 0 (fun v => zE X 25 4 [l0, l1, l2, l3] [v] (N, 0, 0) h Q) := zE_getfield (k := 37) (nest := false) (q := 154) (by decide +kernel) rfl
theorem e25_4 : zE X 25 4 [l0, l1, l2, l3] [.int i0] (N, 0, 0) h Q = zE X 25 6 [l0, l1, l2, l3] [.int 24, .int i0] (N, 0, 0) h Q := zE_bipush (n := 24) (by decide +kernel) (by decide)
theorem e25_6 : zE X 25 6 [l0, l1, l2, l3] [.int i0, .int i1] (N, 0, 0) h Q = if i0 ≤ i1 then zE X 25 28 [l0, l1, l2, l3] [] (N, 0, 0) h Q else zE X 25 9 [l0, l1, l2, l3] [] (N, 0, 0) h Q := zE_icmp_ge (off := 22) (by decide +kernel) (by decide)
theorem e25_9 : zE X 25 9 [l0, some (.int v), l2, l3] [] (N, 0, 0) h Q = zE X 25 10 [l0, some (.int v), l2, l3] [.int v] (N, 0, 0) h Q := zE_iload_n (k := 1) (by decide +kernel) rfl
theorem e25_10 : zE X 25 10 [l0, l1, l2, l3] [.int i0] (N, 0, 0) h Q = zE X 25 13 [l0, l1, l2, l3] [.int 999, .int i0] (N, 0, 0) h Q := zE_sipush (n := 999) (by decide +kernel) (by decide)
theorem e25_13 : zE X 25 13 [l0, l1, l2, l3] [.int i0, .int i1] (N, 0, 0) h Q = if i0 < i1 then zE X 25 28 [l0, l1, l2, l3] [] (N, 0, 0) h Q else zE X 25 16 [l0, l1, l2, l3] [] (N, 0, 0) h Q := zE_icmp_gt (off := 15) (by decide +kernel) (by decide)
theorem e25_16 : zE X 25 16 [l0, l1, some (.int v), l3] [] (N, 0, 0) h Q = zE X 25 17 [l0, l1, some (.int v), l3] [.int v] (N, 0, 0) h Q := zE_iload_n (k := 2) (by decide +kernel) rfl
theorem e25_17 : zE X 25 17 [l0, l1, l2, l3] [.int i0] (N, 0, 0) h Q = zE X 25 19 [l0, l1, l2, l3] [.int 99, .int i0] (N, 0, 0) h Q := zE_bipush (n := 99) (by decide +kernel) (by decide)
theorem e25_19 : zE X 25 19 [l0, l1, l2, l3] [.int i0, .int i1] (N, 0, 0) h Q = if i0 < i1 then zE X 25 28 [l0, l1, l2, l3] [] (N, 0, 0) h Q else zE X 25 22 [l0, l1, l2, l3] [] (N, 0, 0) h Q := zE_icmp_gt (off := 9) (by decide +kernel) (by decide)
theorem e25_22 : zE X 25 22 [l0, l1, l2, some (.int v)] [] (N, 0, 0) h Q = zE X 25 23 [l0, l1, l2, some (.int v)] [.int v] (N, 0, 0) h Q := zE_iload_n (k := 3) (by decide +kernel) rfl
theorem e25_23 : zE X 25 23 [l0, l1, l2, l3] [.int i0] (N, 0, 0) h Q = zE X 25 25 [l0, l1, l2, l3] [.int 8, .int i0] (N, 0, 0) h Q := zE_bipush (n := 8) (by decide +kernel) (by decide)
theorem e25_25 : zE X 25 25 [l0, l1, l2, l3] [.int i0, .int i1] (N, 0, 0) h Q = if i1 < i0 then zE X 25 30 [l0, l1, l2, l3] [] (N, 0, 0) h Q else zE X 25 28 [l0, l1, l2, l3] [] (N, 0, 0) h Q := zE_icmp_lt (off := 5) (by decide +kernel) (by decide)
theorem e25_28 : zE X 25 28 [l0, l1, l2, l3] [] (N, 0, 0) h Q = zE X 25 29 [l0, l1, l2, l3] [.int 0] (N, 0, 0) h Q := zE_iconst (n := 0) (by decide +kernel) (by decide)
theorem e25_29 : zE X 25 29 [l0, l1, l2, l3] [.int i0] (N, 0, 0) h Q = if i0 = 0 ∨ i0 = 1 then Q (some (.int i0)) N h else False := zE_zreturn (by decide +kernel) rfl
theorem e25_30 : zE X 25 30 [some (.ref r), l1, l2, l3] [] (N, 0, 0) h Q = zE X 25 31 [some (.ref r), l1, l2, l3] [.ref r] (N, 0, 0) h Q := zE_aload_n (k := 0) (by decide +kernel) rfl
theorem e25_31 : zE X 25 31 [l0, l1, l2, l3] [.ref a0] (N, 0, 0) h Q = zgf (h a0) 5 1 (fun v => zE X 25 34 [l0, l1, l2, l3] [v] (N, 0, 0) h Q) := zE_getfield (k := 9) (nest := false) (q := 158) (by decide +kernel) rfl
theorem e25_34 : zE X 25 34 [some (.ref r), l1, l2, l3] [.ref a0] (N, 0, 0) h Q = zE X 25 35 [some (.ref r), l1, l2, l3] [.ref r, .ref a0] (N, 0, 0) h Q := zE_aload_n (k := 0) (by decide +kernel) rfl
theorem e25_35 : zE X 25 35 [l0, l1, l2, l3] [.ref a0, .ref a1] (N, 0, 0) h Q = zgf (h a0) 5 0 (fun v => zE X 25 38 [l0, l1, l2, l3] [v, .ref a1] (N, 0, 0) h Q) := zE_getfield (k := 37) (nest := false) (q := 154) (by decide +kernel) rfl
theorem e25_38 : zE X 25 38 [l0, some (.int v), l2, l3] [.int i0, .ref a1] (N, 0, 0) h Q = zE X 25 39 [l0, some (.int v), l2, l3] [.int v, .int i0, .ref a1] (N, 0, 0) h Q := zE_iload_n (k := 1) (by decide +kernel) rfl
theorem e25_39 : zE X 25 39 [l0, l1, l2, l3] [.int i0, .int i1, .ref a2] (N, 0, 0) h Q = zas (h a2) 0 i1 i0 (fun c => zE X 25 40 [l0, l1, l2, l3] [] (N, 0, 0) (va_up h a2 c) Q) := zE_iastore (by decide +kernel)
theorem e25_40 : zE X 25 40 [some (.ref r), l1, l2, l3] [] (N, 0, 0) h Q = zE X 25 41 [some (.ref r), l1, l2, l3] [.ref r] (N, 0, 0) h Q := zE_aload_n (k := 0) (by decide +kernel) rfl
theorem e25_41 : zE X 25 41 [l0, l1, l2, l3] [.ref a0] (N, 0, 0) h Q = zgf (h a0) 5 2 (fun v => zE X 25 44 [l0, l1, l2, l3] [v] (N, 0, 0) h Q) := zE_getfield (k := 15) (nest := false) (q := 161) (by decide +kernel) rfl
theorem e25_44 : zE X 25 44 [some (.ref r), l1, l2, l3] [.ref a0] (N, 0, 0) h Q = zE X 25 45 [some (.ref r), l1, l2, l3] [.ref r, .ref a0] (N, 0, 0) h Q := zE_aload_n (k := 0) (by decide +kernel) rfl
theorem e25_45 : zE X 25 45 [l0, l1, l2, l3] [.ref a0, .ref a1] (N, 0, 0) h Q = zgf (h a0) 5 0 (fun v => zE X 25 48 [l0, l1, l2, l3] [v, .ref a1] (N, 0, 0) h Q) := zE_getfield (k := 37) (nest := false) (q := 154) (by decide +kernel) rfl
theorem e25_48 : zE X 25 48 [l0, l1, some (.int v), l3] [.int i0, .ref a1] (N, 0, 0) h Q = zE X 25 49 [l0, l1, some (.int v), l3] [.int v, .int i0, .ref a1] (N, 0, 0) h Q := zE_iload_n (k := 2) (by decide +kernel) rfl
theorem e25_49 : zE X 25 49 [l0, l1, l2, l3] [.int i0, .int i1, .ref a2] (N, 0, 0) h Q = zas (h a2) 0 i1 i0 (fun c => zE X 25 50 [l0, l1, l2, l3] [] (N, 0, 0) (va_up h a2 c) Q) := zE_iastore (by decide +kernel)
theorem e25_50 : zE X 25 50 [some (.ref r), l1, l2, l3] [] (N, 0, 0) h Q = zE X 25 51 [some (.ref r), l1, l2, l3] [.ref r] (N, 0, 0) h Q := zE_aload_n (k := 0) (by decide +kernel) rfl
theorem e25_51 : zE X 25 51 [l0, l1, l2, l3] [.ref a0] (N, 0, 0) h Q = zgf (h a0) 5 3 (fun v => zE X 25 54 [l0, l1, l2, l3] [v] (N, 0, 0) h Q) := zE_getfield (k := 18) (nest := false) (q := 162) (by decide +kernel) rfl
theorem e25_54 : zE X 25 54 [some (.ref r), l1, l2, l3] [.ref a0] (N, 0, 0) h Q = zE X 25 55 [some (.ref r), l1, l2, l3] [.ref r, .ref a0] (N, 0, 0) h Q := zE_aload_n (k := 0) (by decide +kernel) rfl
theorem e25_55 : zE X 25 55 [l0, l1, l2, l3] [.ref a0, .ref a1] (N, 0, 0) h Q = zgf (h a0) 5 0 (fun v => zE X 25 58 [l0, l1, l2, l3] [v, .ref a1] (N, 0, 0) h Q) := zE_getfield (k := 37) (nest := false) (q := 154) (by decide +kernel) rfl
theorem e25_58 : zE X 25 58 [l0, l1, l2, some (.int v)] [.int i0, .ref a1] (N, 0, 0) h Q = zE X 25 59 [l0, l1, l2, some (.int v)] [.int v, .int i0, .ref a1] (N, 0, 0) h Q := zE_iload_n (k := 3) (by decide +kernel) rfl
theorem e25_59 : zE X 25 59 [l0, l1, l2, l3] [.int i0, .int i1, .ref a2] (N, 0, 0) h Q = zas (h a2) 0 i1 i0 (fun c => zE X 25 60 [l0, l1, l2, l3] [] (N, 0, 0) (va_up h a2 c) Q) := zE_iastore (by decide +kernel)
theorem e25_60 : zE X 25 60 [some (.ref r), l1, l2, l3] [] (N, 0, 0) h Q = zE X 25 61 [some (.ref r), l1, l2, l3] [.ref r] (N, 0, 0) h Q := zE_aload_n (k := 0) (by decide +kernel) rfl
theorem e25_61 : zE X 25 61 [l0, l1, l2, l3] [.ref a0] (N, 0, 0) h Q = zE X 25 62 [l0, l1, l2, l3] [.ref a0, .ref a0] (N, 0, 0) h Q := zE_dup (by decide +kernel) rfl
theorem e25_62 : zE X 25 62 [l0, l1, l2, l3] [.ref a0, .ref a1] (N, 0, 0) h Q = zgf (h a0) 5 0 (fun v => zE X 25 65 [l0, l1, l2, l3] [v, .ref a1] (N, 0, 0) h Q) := zE_getfield (k := 37) (nest := false) (q := 154) (by decide +kernel) rfl
theorem e25_65 : zE X 25 65 [l0, l1, l2, l3] [.int i0, .ref a1] (N, 0, 0) h Q = zE X 25 66 [l0, l1, l2, l3] [.int 1, .int i0, .ref a1] (N, 0, 0) h Q := zE_iconst (n := 1) (by decide +kernel) (by decide)
theorem e25_66 : zE X 25 66 [l0, l1, l2, l3] [.int i0, .int i1, .ref a2] (N, 0, 0) h Q = zE X 25 67 [l0, l1, l2, l3] [.int (i1 + i0), .ref a2] (N, 0, 0) h Q := zE_iadd (by decide +kernel)
theorem e25_67 : zE X 25 67 [l0, l1, l2, l3] [.int i0, .ref a1] (N, 0, 0) h Q = zpf (h a1) 5 0 (.int i0) (fun c => zE X 25 70 [l0, l1, l2, l3] [] (N, 0, 0) (va_up h a1 c) Q) := zE_putfield (k := 37) (nest := false) (q := 154) (by decide +kernel) rfl rfl rfl
theorem e25_70 : zE X 25 70 [l0, l1, l2, l3] [] (N, 0, 0) h Q = zE X 25 71 [l0, l1, l2, l3] [.int 1] (N, 0, 0) h Q := zE_iconst (n := 1) (by decide +kernel) (by decide)
theorem e25_71 : zE X 25 71 [l0, l1, l2, l3] [.int i0] (N, 0, 0) h Q = if i0 = 0 ∨ i0 = 1 then Q (some (.int i0)) N h else False := zE_zreturn (by decide +kernel) rfl
-- 26 Sheet_takeJudge (III)Z
theorem e26_0 : zE X 26 0 [some (.ref r), l1, l2, l3] [] (N, 0, 0) h Q = zE X 26 1 [some (.ref r), l1, l2, l3] [.ref r] (N, 0, 0) h Q := zE_aload_n (k := 0) (by decide +kernel) rfl
theorem e26_1 : zE X 26 1 [l0, l1, l2, l3] [.ref a0] (N, 0, 0) h Q = zgf (h a0) 5 4 (fun v => zE X 26 4 [l0, l1, l2, l3] [v] (N, 0, 0) h Q) := zE_getfield (k := 40) (nest := false) (q := 166) (by decide +kernel) rfl
theorem e26_4 : zE X 26 4 [l0, l1, l2, l3] [.int i0] (N, 0, 0) h Q = zE X 26 6 [l0, l1, l2, l3] [.int 6, .int i0] (N, 0, 0) h Q := zE_bipush (n := 6) (by decide +kernel) (by decide)
theorem e26_6 : zE X 26 6 [l0, l1, l2, l3] [.int i0, .int i1] (N, 0, 0) h Q = if i0 ≤ i1 then zE X 26 27 [l0, l1, l2, l3] [] (N, 0, 0) h Q else zE X 26 9 [l0, l1, l2, l3] [] (N, 0, 0) h Q := zE_icmp_ge (off := 21) (by decide +kernel) (by decide)
theorem e26_9 : zE X 26 9 [l0, some (.int v), l2, l3] [] (N, 0, 0) h Q = zE X 26 10 [l0, some (.int v), l2, l3] [.int v] (N, 0, 0) h Q := zE_iload_n (k := 1) (by decide +kernel) rfl
theorem e26_10 : zE X 26 10 [l0, l1, l2, l3] [.int i0] (N, 0, 0) h Q = zE X 26 12 [l0, l1, l2, l3] [.int 9, .int i0] (N, 0, 0) h Q := zE_bipush (n := 9) (by decide +kernel) (by decide)
theorem e26_12 : zE X 26 12 [l0, l1, l2, l3] [.int i0, .int i1] (N, 0, 0) h Q = if i0 < i1 then zE X 26 27 [l0, l1, l2, l3] [] (N, 0, 0) h Q else zE X 26 15 [l0, l1, l2, l3] [] (N, 0, 0) h Q := zE_icmp_gt (off := 15) (by decide +kernel) (by decide)
theorem e26_15 : zE X 26 15 [l0, l1, some (.int v), l3] [] (N, 0, 0) h Q = zE X 26 16 [l0, l1, some (.int v), l3] [.int v] (N, 0, 0) h Q := zE_iload_n (k := 2) (by decide +kernel) rfl
theorem e26_16 : zE X 26 16 [l0, l1, l2, l3] [.int i0] (N, 0, 0) h Q = zE X 26 18 [l0, l1, l2, l3] [.int 9, .int i0] (N, 0, 0) h Q := zE_bipush (n := 9) (by decide +kernel) (by decide)
theorem e26_18 : zE X 26 18 [l0, l1, l2, l3] [.int i0, .int i1] (N, 0, 0) h Q = if i0 < i1 then zE X 26 27 [l0, l1, l2, l3] [] (N, 0, 0) h Q else zE X 26 21 [l0, l1, l2, l3] [] (N, 0, 0) h Q := zE_icmp_gt (off := 9) (by decide +kernel) (by decide)
theorem e26_21 : zE X 26 21 [l0, l1, l2, some (.int v)] [] (N, 0, 0) h Q = zE X 26 22 [l0, l1, l2, some (.int v)] [.int v] (N, 0, 0) h Q := zE_iload_n (k := 3) (by decide +kernel) rfl
theorem e26_22 : zE X 26 22 [l0, l1, l2, l3] [.int i0] (N, 0, 0) h Q = zE X 26 24 [l0, l1, l2, l3] [.int 99, .int i0] (N, 0, 0) h Q := zE_bipush (n := 99) (by decide +kernel) (by decide)
theorem e26_24 : zE X 26 24 [l0, l1, l2, l3] [.int i0, .int i1] (N, 0, 0) h Q = if i1 ≤ i0 then zE X 26 29 [l0, l1, l2, l3] [] (N, 0, 0) h Q else zE X 26 27 [l0, l1, l2, l3] [] (N, 0, 0) h Q := zE_icmp_le (off := 5) (by decide +kernel) (by decide)
theorem e26_27 : zE X 26 27 [l0, l1, l2, l3] [] (N, 0, 0) h Q = zE X 26 28 [l0, l1, l2, l3] [.int 0] (N, 0, 0) h Q := zE_iconst (n := 0) (by decide +kernel) (by decide)
theorem e26_28 : zE X 26 28 [l0, l1, l2, l3] [.int i0] (N, 0, 0) h Q = if i0 = 0 ∨ i0 = 1 then Q (some (.int i0)) N h else False := zE_zreturn (by decide +kernel) rfl
theorem e26_29 : zE X 26 29 [some (.ref r), l1, l2, l3] [] (N, 0, 0) h Q = zE X 26 30 [some (.ref r), l1, l2, l3] [.ref r] (N, 0, 0) h Q := zE_aload_n (k := 0) (by decide +kernel) rfl
theorem e26_30 : zE X 26 30 [l0, l1, l2, l3] [.ref a0] (N, 0, 0) h Q = zgf (h a0) 5 5 (fun v => zE X 26 33 [l0, l1, l2, l3] [v] (N, 0, 0) h Q) := zE_getfield (k := 21) (nest := false) (q := 169) (by decide +kernel) rfl
theorem e26_33 : zE X 26 33 [some (.ref r), l1, l2, l3] [.ref a0] (N, 0, 0) h Q = zE X 26 34 [some (.ref r), l1, l2, l3] [.ref r, .ref a0] (N, 0, 0) h Q := zE_aload_n (k := 0) (by decide +kernel) rfl
theorem e26_34 : zE X 26 34 [l0, l1, l2, l3] [.ref a0, .ref a1] (N, 0, 0) h Q = zgf (h a0) 5 4 (fun v => zE X 26 37 [l0, l1, l2, l3] [v, .ref a1] (N, 0, 0) h Q) := zE_getfield (k := 40) (nest := false) (q := 166) (by decide +kernel) rfl
theorem e26_37 : zE X 26 37 [l0, some (.int v), l2, l3] [.int i0, .ref a1] (N, 0, 0) h Q = zE X 26 38 [l0, some (.int v), l2, l3] [.int v, .int i0, .ref a1] (N, 0, 0) h Q := zE_iload_n (k := 1) (by decide +kernel) rfl
theorem e26_38 : zE X 26 38 [l0, l1, l2, l3] [.int i0, .int i1, .ref a2] (N, 0, 0) h Q = zas (h a2) 0 i1 i0 (fun c => zE X 26 39 [l0, l1, l2, l3] [] (N, 0, 0) (va_up h a2 c) Q) := zE_iastore (by decide +kernel)
theorem e26_39 : zE X 26 39 [some (.ref r), l1, l2, l3] [] (N, 0, 0) h Q = zE X 26 40 [some (.ref r), l1, l2, l3] [.ref r] (N, 0, 0) h Q := zE_aload_n (k := 0) (by decide +kernel) rfl
theorem e26_40 : zE X 26 40 [l0, l1, l2, l3] [.ref a0] (N, 0, 0) h Q = zgf (h a0) 5 6 (fun v => zE X 26 43 [l0, l1, l2, l3] [v] (N, 0, 0) h Q) := zE_getfield (k := 24) (nest := false) (q := 170) (by decide +kernel) rfl
theorem e26_43 : zE X 26 43 [some (.ref r), l1, l2, l3] [.ref a0] (N, 0, 0) h Q = zE X 26 44 [some (.ref r), l1, l2, l3] [.ref r, .ref a0] (N, 0, 0) h Q := zE_aload_n (k := 0) (by decide +kernel) rfl
theorem e26_44 : zE X 26 44 [l0, l1, l2, l3] [.ref a0, .ref a1] (N, 0, 0) h Q = zgf (h a0) 5 4 (fun v => zE X 26 47 [l0, l1, l2, l3] [v, .ref a1] (N, 0, 0) h Q) := zE_getfield (k := 40) (nest := false) (q := 166) (by decide +kernel) rfl
theorem e26_47 : zE X 26 47 [l0, l1, some (.int v), l3] [.int i0, .ref a1] (N, 0, 0) h Q = zE X 26 48 [l0, l1, some (.int v), l3] [.int v, .int i0, .ref a1] (N, 0, 0) h Q := zE_iload_n (k := 2) (by decide +kernel) rfl
theorem e26_48 : zE X 26 48 [l0, l1, l2, l3] [.int i0, .int i1, .ref a2] (N, 0, 0) h Q = zas (h a2) 0 i1 i0 (fun c => zE X 26 49 [l0, l1, l2, l3] [] (N, 0, 0) (va_up h a2 c) Q) := zE_iastore (by decide +kernel)
theorem e26_49 : zE X 26 49 [some (.ref r), l1, l2, l3] [] (N, 0, 0) h Q = zE X 26 50 [some (.ref r), l1, l2, l3] [.ref r] (N, 0, 0) h Q := zE_aload_n (k := 0) (by decide +kernel) rfl
theorem e26_50 : zE X 26 50 [l0, l1, l2, l3] [.ref a0] (N, 0, 0) h Q = zgf (h a0) 5 7 (fun v => zE X 26 53 [l0, l1, l2, l3] [v] (N, 0, 0) h Q) := zE_getfield (k := 27) (nest := false) (q := 171) (by decide +kernel) rfl
theorem e26_53 : zE X 26 53 [some (.ref r), l1, l2, l3] [.ref a0] (N, 0, 0) h Q = zE X 26 54 [some (.ref r), l1, l2, l3] [.ref r, .ref a0] (N, 0, 0) h Q := zE_aload_n (k := 0) (by decide +kernel) rfl
theorem e26_54 : zE X 26 54 [l0, l1, l2, l3] [.ref a0, .ref a1] (N, 0, 0) h Q = zgf (h a0) 5 4 (fun v => zE X 26 57 [l0, l1, l2, l3] [v, .ref a1] (N, 0, 0) h Q) := zE_getfield (k := 40) (nest := false) (q := 166) (by decide +kernel) rfl
theorem e26_57 : zE X 26 57 [l0, l1, l2, some (.int v)] [.int i0, .ref a1] (N, 0, 0) h Q = zE X 26 58 [l0, l1, l2, some (.int v)] [.int v, .int i0, .ref a1] (N, 0, 0) h Q := zE_iload_n (k := 3) (by decide +kernel) rfl
theorem e26_58 : zE X 26 58 [l0, l1, l2, l3] [.int i0, .int i1, .ref a2] (N, 0, 0) h Q = zas (h a2) 0 i1 i0 (fun c => zE X 26 59 [l0, l1, l2, l3] [] (N, 0, 0) (va_up h a2 c) Q) := zE_iastore (by decide +kernel)
theorem e26_59 : zE X 26 59 [some (.ref r), l1, l2, l3] [] (N, 0, 0) h Q = zE X 26 60 [some (.ref r), l1, l2, l3] [.ref r] (N, 0, 0) h Q := zE_aload_n (k := 0) (by decide +kernel) rfl
theorem e26_60 : zE X 26 60 [l0, l1, l2, l3] [.ref a0] (N, 0, 0) h Q = zE X 26 61 [l0, l1, l2, l3] [.ref a0, .ref a0] (N, 0, 0) h Q := zE_dup (by decide +kernel) rfl
theorem e26_61 : zE X 26 61 [l0, l1, l2, l3] [.ref a0, .ref a1] (N, 0, 0) h Q = zgf (h a0) 5 4 (fun v => zE X 26 64 [l0, l1, l2, l3] [v, .ref a1] (N, 0, 0) h Q) := zE_getfield (k := 40) (nest := false) (q := 166) (by decide +kernel) rfl
theorem e26_64 : zE X 26 64 [l0, l1, l2, l3] [.int i0, .ref a1] (N, 0, 0) h Q = zE X 26 65 [l0, l1, l2, l3] [.int 1, .int i0, .ref a1] (N, 0, 0) h Q := zE_iconst (n := 1) (by decide +kernel) (by decide)
theorem e26_65 : zE X 26 65 [l0, l1, l2, l3] [.int i0, .int i1, .ref a2] (N, 0, 0) h Q = zE X 26 66 [l0, l1, l2, l3] [.int (i1 + i0), .ref a2] (N, 0, 0) h Q := zE_iadd (by decide +kernel)
theorem e26_66 : zE X 26 66 [l0, l1, l2, l3] [.int i0, .ref a1] (N, 0, 0) h Q = zpf (h a1) 5 4 (.int i0) (fun c => zE X 26 69 [l0, l1, l2, l3] [] (N, 0, 0) (va_up h a1 c) Q) := zE_putfield (k := 40) (nest := false) (q := 166) (by decide +kernel) rfl rfl rfl
theorem e26_69 : zE X 26 69 [l0, l1, l2, l3] [] (N, 0, 0) h Q = zE X 26 70 [l0, l1, l2, l3] [.int 1] (N, 0, 0) h Q := zE_iconst (n := 1) (by decide +kernel) (by decide)
theorem e26_70 : zE X 26 70 [l0, l1, l2, l3] [.int i0] (N, 0, 0) h Q = if i0 = 0 ∨ i0 = 1 then Q (some (.int i0)) N h else False := zE_zreturn (by decide +kernel) rfl
-- 27 Sheet_takePurse (III)Z
theorem e27_0 : zE X 27 0 [l0, some (.int v), l2, l3] [] (N, 0, 0) h Q = zE X 27 1 [l0, some (.int v), l2, l3] [.int v] (N, 0, 0) h Q := zE_iload_n (k := 1) (by decide +kernel) rfl
theorem e27_1 : zE X 27 1 [l0, l1, l2, l3] [.int i0] (N, 0, 0) h Q = zE X 27 3 [l0, l1, l2, l3] [.int 24, .int i0] (N, 0, 0) h Q := zE_bipush (n := 24) (by decide +kernel) (by decide)
theorem e27_3 : zE X 27 3 [l0, l1, l2, l3] [.int i0, .int i1] (N, 0, 0) h Q = if i0 < i1 then zE X 27 17 [l0, l1, l2, l3] [] (N, 0, 0) h Q else zE X 27 6 [l0, l1, l2, l3] [] (N, 0, 0) h Q := zE_icmp_gt (off := 14) (by decide +kernel) (by decide)
theorem e27_6 : zE X 27 6 [l0, l1, some (.int v), l3] [] (N, 0, 0) h Q = zE X 27 7 [l0, l1, some (.int v), l3] [.int v] (N, 0, 0) h Q := zE_iload_n (k := 2) (by decide +kernel) rfl
theorem e27_7 : zE X 27 7 [l0, l1, l2, l3] [.int i0] (N, 0, 0) h Q = zE X 27 9 [l0, l1, l2, l3] [.int 24, .int i0] (N, 0, 0) h Q := zE_bipush (n := 24) (by decide +kernel) (by decide)
theorem e27_9 : zE X 27 9 [l0, l1, l2, l3] [.int i0, .int i1] (N, 0, 0) h Q = if i0 < i1 then zE X 27 17 [l0, l1, l2, l3] [] (N, 0, 0) h Q else zE X 27 12 [l0, l1, l2, l3] [] (N, 0, 0) h Q := zE_icmp_gt (off := 8) (by decide +kernel) (by decide)
theorem e27_12 : zE X 27 12 [l0, l1, l2, some (.int v)] [] (N, 0, 0) h Q = zE X 27 13 [l0, l1, l2, some (.int v)] [.int v] (N, 0, 0) h Q := zE_iload_n (k := 3) (by decide +kernel) rfl
theorem e27_13 : zE X 27 13 [l0, l1, some (.int v), l3] [.int i0] (N, 0, 0) h Q = zE X 27 14 [l0, l1, some (.int v), l3] [.int v, .int i0] (N, 0, 0) h Q := zE_iload_n (k := 2) (by decide +kernel) rfl
theorem e27_14 : zE X 27 14 [l0, l1, l2, l3] [.int i0, .int i1] (N, 0, 0) h Q = if i1 ≤ i0 then zE X 27 19 [l0, l1, l2, l3] [] (N, 0, 0) h Q else zE X 27 17 [l0, l1, l2, l3] [] (N, 0, 0) h Q := zE_icmp_le (off := 5) (by decide +kernel) (by decide)
theorem e27_17 : zE X 27 17 [l0, l1, l2, l3] [] (N, 0, 0) h Q = zE X 27 18 [l0, l1, l2, l3] [.int 0] (N, 0, 0) h Q := zE_iconst (n := 0) (by decide +kernel) (by decide)
theorem e27_18 : zE X 27 18 [l0, l1, l2, l3] [.int i0] (N, 0, 0) h Q = if i0 = 0 ∨ i0 = 1 then Q (some (.int i0)) N h else False := zE_zreturn (by decide +kernel) rfl
theorem e27_19 : zE X 27 19 [some (.ref r), l1, l2, l3] [] (N, 0, 0) h Q = zE X 27 20 [some (.ref r), l1, l2, l3] [.ref r] (N, 0, 0) h Q := zE_aload_n (k := 0) (by decide +kernel) rfl
theorem e27_20 : zE X 27 20 [l0, some (.int v), l2, l3] [.ref a0] (N, 0, 0) h Q = zE X 27 21 [l0, some (.int v), l2, l3] [.int v, .ref a0] (N, 0, 0) h Q := zE_iload_n (k := 1) (by decide +kernel) rfl
theorem e27_21 : zE X 27 21 [l0, l1, l2, l3] [.int i0, .ref a1] (N, 0, 0) h Q = zpf (h a1) 5 8 (.int i0) (fun c => zE X 27 24 [l0, l1, l2, l3] [] (N, 0, 0) (va_up h a1 c) Q) := zE_putfield (k := 43) (nest := false) (q := 173) (by decide +kernel) rfl rfl rfl
theorem e27_24 : zE X 27 24 [some (.ref r), l1, l2, l3] [] (N, 0, 0) h Q = zE X 27 25 [some (.ref r), l1, l2, l3] [.ref r] (N, 0, 0) h Q := zE_aload_n (k := 0) (by decide +kernel) rfl
theorem e27_25 : zE X 27 25 [l0, l1, some (.int v), l3] [.ref a0] (N, 0, 0) h Q = zE X 27 26 [l0, l1, some (.int v), l3] [.int v, .ref a0] (N, 0, 0) h Q := zE_iload_n (k := 2) (by decide +kernel) rfl
theorem e27_26 : zE X 27 26 [l0, l1, l2, l3] [.int i0, .ref a1] (N, 0, 0) h Q = zpf (h a1) 5 9 (.int i0) (fun c => zE X 27 29 [l0, l1, l2, l3] [] (N, 0, 0) (va_up h a1 c) Q) := zE_putfield (k := 46) (nest := false) (q := 175) (by decide +kernel) rfl rfl rfl
theorem e27_29 : zE X 27 29 [some (.ref r), l1, l2, l3] [] (N, 0, 0) h Q = zE X 27 30 [some (.ref r), l1, l2, l3] [.ref r] (N, 0, 0) h Q := zE_aload_n (k := 0) (by decide +kernel) rfl
theorem e27_30 : zE X 27 30 [l0, l1, l2, some (.int v)] [.ref a0] (N, 0, 0) h Q = zE X 27 31 [l0, l1, l2, some (.int v)] [.int v, .ref a0] (N, 0, 0) h Q := zE_iload_n (k := 3) (by decide +kernel) rfl
theorem e27_31 : zE X 27 31 [l0, l1, l2, l3] [.int i0, .ref a1] (N, 0, 0) h Q = zpf (h a1) 5 10 (.int i0) (fun c => zE X 27 34 [l0, l1, l2, l3] [] (N, 0, 0) (va_up h a1 c) Q) := zE_putfield (k := 49) (nest := false) (q := 176) (by decide +kernel) rfl rfl rfl
theorem e27_34 : zE X 27 34 [l0, l1, l2, l3] [] (N, 0, 0) h Q = zE X 27 35 [l0, l1, l2, l3] [.int 1] (N, 0, 0) h Q := zE_iconst (n := 1) (by decide +kernel) (by decide)
theorem e27_35 : zE X 27 35 [l0, l1, l2, l3] [.int i0] (N, 0, 0) h Q = if i0 = 0 ∨ i0 = 1 then Q (some (.int i0)) N h else False := zE_zreturn (by decide +kernel) rfl
-- 28 Sheet_takeCoin (I)Z
theorem e28_0 : zE X 28 0 [l0, some (.int v)] [] (N, 0, 0) h Q = zE X 28 1 [l0, some (.int v)] [.int v] (N, 0, 0) h Q := zE_iload_n (k := 1) (by decide +kernel) rfl
theorem e28_1 : zE X 28 1 [l0, l1] [.int i0] (N, 0, 0) h Q = zE X 28 2 [l0, l1] [.int 1, .int i0] (N, 0, 0) h Q := zE_iconst (n := 1) (by decide +kernel) (by decide)
theorem e28_2 : zE X 28 2 [l0, l1] [.int i0, .int i1] (N, 0, 0) h Q = if i1 < i0 then zE X 28 12 [l0, l1] [] (N, 0, 0) h Q else zE X 28 5 [l0, l1] [] (N, 0, 0) h Q := zE_icmp_lt (off := 10) (by decide +kernel) (by decide)
theorem e28_5 : zE X 28 5 [l0, some (.int v)] [] (N, 0, 0) h Q = zE X 28 6 [l0, some (.int v)] [.int v] (N, 0, 0) h Q := zE_iload_n (k := 1) (by decide +kernel) rfl
theorem e28_6 : zE X 28 6 [l0, l1] [.int i0] (N, 0, 0) h Q = zE X 28 9 [l0, l1] [.int 999, .int i0] (N, 0, 0) h Q := zE_sipush (n := 999) (by decide +kernel) (by decide)
theorem e28_9 : zE X 28 9 [l0, l1] [.int i0, .int i1] (N, 0, 0) h Q = if i1 ≤ i0 then zE X 28 14 [l0, l1] [] (N, 0, 0) h Q else zE X 28 12 [l0, l1] [] (N, 0, 0) h Q := zE_icmp_le (off := 5) (by decide +kernel) (by decide)
theorem e28_12 : zE X 28 12 [l0, l1] [] (N, 0, 0) h Q = zE X 28 13 [l0, l1] [.int 0] (N, 0, 0) h Q := zE_iconst (n := 0) (by decide +kernel) (by decide)
theorem e28_13 : zE X 28 13 [l0, l1] [.int i0] (N, 0, 0) h Q = if i0 = 0 ∨ i0 = 1 then Q (some (.int i0)) N h else False := zE_zreturn (by decide +kernel) rfl
theorem e28_14 : zE X 28 14 [some (.ref r), l1] [] (N, 0, 0) h Q = zE X 28 15 [some (.ref r), l1] [.ref r] (N, 0, 0) h Q := zE_aload_n (k := 0) (by decide +kernel) rfl
theorem e28_15 : zE X 28 15 [l0, some (.int v)] [.ref a0] (N, 0, 0) h Q = zE X 28 16 [l0, some (.int v)] [.int v, .ref a0] (N, 0, 0) h Q := zE_iload_n (k := 1) (by decide +kernel) rfl
theorem e28_16 : zE X 28 16 [l0, l1] [.int i0, .ref a1] (N, 0, 0) h Q = zpf (h a1) 5 11 (.int i0) (fun c => zE X 28 19 [l0, l1] [] (N, 0, 0) (va_up h a1 c) Q) := zE_putfield (k := 30) (nest := false) (q := 178) (by decide +kernel) rfl rfl rfl
theorem e28_19 : zE X 28 19 [l0, l1] [] (N, 0, 0) h Q = zE X 28 20 [l0, l1] [.int 1] (N, 0, 0) h Q := zE_iconst (n := 1) (by decide +kernel) (by decide)
theorem e28_20 : zE X 28 20 [l0, l1] [.int i0] (N, 0, 0) h Q = if i0 = 0 ∨ i0 = 1 then Q (some (.int i0)) N h else False := zE_zreturn (by decide +kernel) rfl
-- 29 Sheet_takeHours (II)Z
theorem e29_0 : zE X 29 0 [l0, some (.int v), l2] [] (N, 0, 0) h Q = zE X 29 1 [l0, some (.int v), l2] [.int v] (N, 0, 0) h Q := zE_iload_n (k := 1) (by decide +kernel) rfl
theorem e29_1 : zE X 29 1 [l0, l1, l2] [.int i0] (N, 0, 0) h Q = zE X 29 3 [l0, l1, l2] [.int 99, .int i0] (N, 0, 0) h Q := zE_bipush (n := 99) (by decide +kernel) (by decide)
theorem e29_3 : zE X 29 3 [l0, l1, l2] [.int i0, .int i1] (N, 0, 0) h Q = if i0 < i1 then zE X 29 12 [l0, l1, l2] [] (N, 0, 0) h Q else zE X 29 6 [l0, l1, l2] [] (N, 0, 0) h Q := zE_icmp_gt (off := 9) (by decide +kernel) (by decide)
theorem e29_6 : zE X 29 6 [l0, l1, some (.int v)] [] (N, 0, 0) h Q = zE X 29 7 [l0, l1, some (.int v)] [.int v] (N, 0, 0) h Q := zE_iload_n (k := 2) (by decide +kernel) rfl
theorem e29_7 : zE X 29 7 [l0, l1, l2] [.int i0] (N, 0, 0) h Q = zE X 29 9 [l0, l1, l2] [.int 99, .int i0] (N, 0, 0) h Q := zE_bipush (n := 99) (by decide +kernel) (by decide)
theorem e29_9 : zE X 29 9 [l0, l1, l2] [.int i0, .int i1] (N, 0, 0) h Q = if i1 ≤ i0 then zE X 29 14 [l0, l1, l2] [] (N, 0, 0) h Q else zE X 29 12 [l0, l1, l2] [] (N, 0, 0) h Q := zE_icmp_le (off := 5) (by decide +kernel) (by decide)
theorem e29_12 : zE X 29 12 [l0, l1, l2] [] (N, 0, 0) h Q = zE X 29 13 [l0, l1, l2] [.int 0] (N, 0, 0) h Q := zE_iconst (n := 0) (by decide +kernel) (by decide)
theorem e29_13 : zE X 29 13 [l0, l1, l2] [.int i0] (N, 0, 0) h Q = if i0 = 0 ∨ i0 = 1 then Q (some (.int i0)) N h else False := zE_zreturn (by decide +kernel) rfl
theorem e29_14 : zE X 29 14 [some (.ref r), l1, l2] [] (N, 0, 0) h Q = zE X 29 15 [some (.ref r), l1, l2] [.ref r] (N, 0, 0) h Q := zE_aload_n (k := 0) (by decide +kernel) rfl
theorem e29_15 : zE X 29 15 [l0, some (.int v), l2] [.ref a0] (N, 0, 0) h Q = zE X 29 16 [l0, some (.int v), l2] [.int v, .ref a0] (N, 0, 0) h Q := zE_iload_n (k := 1) (by decide +kernel) rfl
theorem e29_16 : zE X 29 16 [l0, l1, l2] [.int i0, .ref a1] (N, 0, 0) h Q = zpf (h a1) 5 12 (.int i0) (fun c => zE X 29 19 [l0, l1, l2] [] (N, 0, 0) (va_up h a1 c) Q) := zE_putfield (k := 52) (nest := false) (q := 180) (by decide +kernel) rfl rfl rfl
theorem e29_19 : zE X 29 19 [some (.ref r), l1, l2] [] (N, 0, 0) h Q = zE X 29 20 [some (.ref r), l1, l2] [.ref r] (N, 0, 0) h Q := zE_aload_n (k := 0) (by decide +kernel) rfl
theorem e29_20 : zE X 29 20 [l0, l1, some (.int v)] [.ref a0] (N, 0, 0) h Q = zE X 29 21 [l0, l1, some (.int v)] [.int v, .ref a0] (N, 0, 0) h Q := zE_iload_n (k := 2) (by decide +kernel) rfl
theorem e29_21 : zE X 29 21 [l0, l1, l2] [.int i0, .ref a1] (N, 0, 0) h Q = zpf (h a1) 5 13 (.int i0) (fun c => zE X 29 24 [l0, l1, l2] [] (N, 0, 0) (va_up h a1 c) Q) := zE_putfield (k := 55) (nest := false) (q := 181) (by decide +kernel) rfl rfl rfl
theorem e29_24 : zE X 29 24 [l0, l1, l2] [] (N, 0, 0) h Q = zE X 29 25 [l0, l1, l2] [.int 1] (N, 0, 0) h Q := zE_iconst (n := 1) (by decide +kernel) (by decide)
theorem e29_25 : zE X 29 25 [l0, l1, l2] [.int i0] (N, 0, 0) h Q = if i0 = 0 ∨ i0 = 1 then Q (some (.int i0)) N h else False := zE_zreturn (by decide +kernel) rfl
-- 30 Sheet_takeHad (II)Z
theorem e30_0 : zE X 30 0 [l0, some (.int v), l2] [] (N, 0, 0) h Q = zE X 30 1 [l0, some (.int v), l2] [.int v] (N, 0, 0) h Q := zE_iload_n (k := 1) (by decide +kernel) rfl
theorem e30_1 : zE X 30 1 [l0, l1, l2] [.int i0] (N, 0, 0) h Q = if i0 < 0 then zE X 30 16 [l0, l1, l2] [] (N, 0, 0) h Q else zE X 30 4 [l0, l1, l2] [] (N, 0, 0) h Q := zE_if_lt (off := 15) (by decide +kernel) (by decide)
theorem e30_4 : zE X 30 4 [l0, some (.int v), l2] [] (N, 0, 0) h Q = zE X 30 5 [l0, some (.int v), l2] [.int v] (N, 0, 0) h Q := zE_iload_n (k := 1) (by decide +kernel) rfl
theorem e30_5 : zE X 30 5 [l0, l1, l2] [.int i0] (N, 0, 0) h Q = zE X 30 7 [l0, l1, l2] [.int 8, .int i0] (N, 0, 0) h Q := zE_bipush (n := 8) (by decide +kernel) (by decide)
theorem e30_7 : zE X 30 7 [l0, l1, l2] [.int i0, .int i1] (N, 0, 0) h Q = if i0 ≤ i1 then zE X 30 16 [l0, l1, l2] [] (N, 0, 0) h Q else zE X 30 10 [l0, l1, l2] [] (N, 0, 0) h Q := zE_icmp_ge (off := 9) (by decide +kernel) (by decide)
theorem e30_10 : zE X 30 10 [l0, l1, some (.int v)] [] (N, 0, 0) h Q = zE X 30 11 [l0, l1, some (.int v)] [.int v] (N, 0, 0) h Q := zE_iload_n (k := 2) (by decide +kernel) rfl
theorem e30_11 : zE X 30 11 [l0, l1, l2] [.int i0] (N, 0, 0) h Q = zE X 30 13 [l0, l1, l2] [.int 9, .int i0] (N, 0, 0) h Q := zE_bipush (n := 9) (by decide +kernel) (by decide)
theorem e30_13 : zE X 30 13 [l0, l1, l2] [.int i0, .int i1] (N, 0, 0) h Q = if i1 ≤ i0 then zE X 30 18 [l0, l1, l2] [] (N, 0, 0) h Q else zE X 30 16 [l0, l1, l2] [] (N, 0, 0) h Q := zE_icmp_le (off := 5) (by decide +kernel) (by decide)
theorem e30_16 : zE X 30 16 [l0, l1, l2] [] (N, 0, 0) h Q = zE X 30 17 [l0, l1, l2] [.int 0] (N, 0, 0) h Q := zE_iconst (n := 0) (by decide +kernel) (by decide)
theorem e30_17 : zE X 30 17 [l0, l1, l2] [.int i0] (N, 0, 0) h Q = if i0 = 0 ∨ i0 = 1 then Q (some (.int i0)) N h else False := zE_zreturn (by decide +kernel) rfl
theorem e30_18 : zE X 30 18 [some (.ref r), l1, l2] [] (N, 0, 0) h Q = zE X 30 19 [some (.ref r), l1, l2] [.ref r] (N, 0, 0) h Q := zE_aload_n (k := 0) (by decide +kernel) rfl
theorem e30_19 : zE X 30 19 [l0, l1, l2] [.ref a0] (N, 0, 0) h Q = zgf (h a0) 5 14 (fun v => zE X 30 22 [l0, l1, l2] [v] (N, 0, 0) h Q) := zE_getfield (k := 34) (nest := false) (q := 182) (by decide +kernel) rfl
theorem e30_22 : zE X 30 22 [l0, some (.int v), l2] [.ref a0] (N, 0, 0) h Q = zE X 30 23 [l0, some (.int v), l2] [.int v, .ref a0] (N, 0, 0) h Q := zE_iload_n (k := 1) (by decide +kernel) rfl
theorem e30_23 : zE X 30 23 [l0, l1, some (.int v)] [.int i0, .ref a1] (N, 0, 0) h Q = zE X 30 24 [l0, l1, some (.int v)] [.int v, .int i0, .ref a1] (N, 0, 0) h Q := zE_iload_n (k := 2) (by decide +kernel) rfl
theorem e30_24 : zE X 30 24 [l0, l1, l2] [.int i0, .int i1, .ref a2] (N, 0, 0) h Q = zas (h a2) 0 i1 i0 (fun c => zE X 30 25 [l0, l1, l2] [] (N, 0, 0) (va_up h a2 c) Q) := zE_iastore (by decide +kernel)
theorem e30_25 : zE X 30 25 [l0, l1, l2] [] (N, 0, 0) h Q = zE X 30 26 [l0, l1, l2] [.int 1] (N, 0, 0) h Q := zE_iconst (n := 1) (by decide +kernel) (by decide)
theorem e30_26 : zE X 30 26 [l0, l1, l2] [.int i0] (N, 0, 0) h Q = if i0 = 0 ∨ i0 = 1 then Q (some (.int i0)) N h else False := zE_zreturn (by decide +kernel) rfl
-- 31 Sheet_takePatience (I)Z
theorem e31_0 : zE X 31 0 [l0, some (.int v)] [] (N, 0, 0) h Q = zE X 31 1 [l0, some (.int v)] [.int v] (N, 0, 0) h Q := zE_iload_n (k := 1) (by decide +kernel) rfl
theorem e31_1 : zE X 31 1 [l0, l1] [.int i0] (N, 0, 0) h Q = zE X 31 3 [l0, l1] [.int 9, .int i0] (N, 0, 0) h Q := zE_bipush (n := 9) (by decide +kernel) (by decide)
theorem e31_3 : zE X 31 3 [l0, l1] [.int i0, .int i1] (N, 0, 0) h Q = if i1 ≤ i0 then zE X 31 8 [l0, l1] [] (N, 0, 0) h Q else zE X 31 6 [l0, l1] [] (N, 0, 0) h Q := zE_icmp_le (off := 5) (by decide +kernel) (by decide)
theorem e31_6 : zE X 31 6 [l0, l1] [] (N, 0, 0) h Q = zE X 31 7 [l0, l1] [.int 0] (N, 0, 0) h Q := zE_iconst (n := 0) (by decide +kernel) (by decide)
theorem e31_7 : zE X 31 7 [l0, l1] [.int i0] (N, 0, 0) h Q = if i0 = 0 ∨ i0 = 1 then Q (some (.int i0)) N h else False := zE_zreturn (by decide +kernel) rfl
theorem e31_8 : zE X 31 8 [some (.ref r), l1] [] (N, 0, 0) h Q = zE X 31 9 [some (.ref r), l1] [.ref r] (N, 0, 0) h Q := zE_aload_n (k := 0) (by decide +kernel) rfl
theorem e31_9 : zE X 31 9 [l0, some (.int v)] [.ref a0] (N, 0, 0) h Q = zE X 31 10 [l0, some (.int v)] [.int v, .ref a0] (N, 0, 0) h Q := zE_iload_n (k := 1) (by decide +kernel) rfl
theorem e31_10 : zE X 31 10 [l0, l1] [.int i0, .ref a1] (N, 0, 0) h Q = zpf (h a1) 5 15 (.int i0) (fun c => zE X 31 13 [l0, l1] [] (N, 0, 0) (va_up h a1 c) Q) := zE_putfield (k := 64) (nest := false) (q := 184) (by decide +kernel) rfl rfl rfl
theorem e31_13 : zE X 31 13 [l0, l1] [] (N, 0, 0) h Q = zE X 31 14 [l0, l1] [.int 1] (N, 0, 0) h Q := zE_iconst (n := 1) (by decide +kernel) (by decide)
theorem e31_14 : zE X 31 14 [l0, l1] [.int i0] (N, 0, 0) h Q = if i0 = 0 ∨ i0 = 1 then Q (some (.int i0)) N h else False := zE_zreturn (by decide +kernel) rfl
-- 39 Sheet_markOf (IIII)I
theorem e39_0 : zE X 39 0 [l0, some (.int v), l2, l3, l4, l5, l6, l7] [] (N, 0, 0) h Q = zE X 39 1 [l0, some (.int v), l2, l3, l4, l5, l6, l7] [.int v] (N, 0, 0) h Q := zE_iload_n (k := 1) (by decide +kernel) rfl
theorem e39_1 : zE X 39 1 [l0, l1, l2, l3, l4, l5, l6, l7] [.int i0] (N, 0, 0) h Q = if i0 < 0 then zE X 39 24 [l0, l1, l2, l3, l4, l5, l6, l7] [] (N, 0, 0) h Q else zE X 39 4 [l0, l1, l2, l3, l4, l5, l6, l7] [] (N, 0, 0) h Q := zE_if_lt (off := 23) (by decide +kernel) (by decide)
theorem e39_4 : zE X 39 4 [l0, some (.int v), l2, l3, l4, l5, l6, l7] [] (N, 0, 0) h Q = zE X 39 5 [l0, some (.int v), l2, l3, l4, l5, l6, l7] [.int v] (N, 0, 0) h Q := zE_iload_n (k := 1) (by decide +kernel) rfl
theorem e39_5 : zE X 39 5 [some (.ref r), l1, l2, l3, l4, l5, l6, l7] [.int i0] (N, 0, 0) h Q = zE X 39 6 [some (.ref r), l1, l2, l3, l4, l5, l6, l7] [.ref r, .int i0] (N, 0, 0) h Q := zE_aload_n (k := 0) (by decide +kernel) rfl
theorem e39_6 : zE X 39 6 [l0, l1, l2, l3, l4, l5, l6, l7] [.ref a0, .int i1] (N, 0, 0) h Q = zgf (h a0) 5 0 (fun v => zE X 39 9 [l0, l1, l2, l3, l4, l5, l6, l7] [v, .int i1] (N, 0, 0) h Q) := zE_getfield (k := 37) (nest := false) (q := 154) (by decide +kernel) rfl
theorem e39_9 : zE X 39 9 [l0, l1, l2, l3, l4, l5, l6, l7] [.int i0, .int i1] (N, 0, 0) h Q = if i0 ≤ i1 then zE X 39 24 [l0, l1, l2, l3, l4, l5, l6, l7] [] (N, 0, 0) h Q else zE X 39 12 [l0, l1, l2, l3, l4, l5, l6, l7] [] (N, 0, 0) h Q := zE_icmp_ge (off := 15) (by decide +kernel) (by decide)
theorem e39_12 : zE X 39 12 [l0, l1, some (.int v), l3, l4, l5, l6, l7] [] (N, 0, 0) h Q = zE X 39 13 [l0, l1, some (.int v), l3, l4, l5, l6, l7] [.int v] (N, 0, 0) h Q := zE_iload_n (k := 2) (by decide +kernel) rfl
theorem e39_13 : zE X 39 13 [l0, l1, l2, l3, l4, l5, l6, l7] [.int i0] (N, 0, 0) h Q = if i0 < 0 then zE X 39 24 [l0, l1, l2, l3, l4, l5, l6, l7] [] (N, 0, 0) h Q else zE X 39 16 [l0, l1, l2, l3, l4, l5, l6, l7] [] (N, 0, 0) h Q := zE_if_lt (off := 11) (by decide +kernel) (by decide)
theorem e39_16 : zE X 39 16 [l0, l1, some (.int v), l3, l4, l5, l6, l7] [] (N, 0, 0) h Q = zE X 39 17 [l0, l1, some (.int v), l3, l4, l5, l6, l7] [.int v] (N, 0, 0) h Q := zE_iload_n (k := 2) (by decide +kernel) rfl
theorem e39_17 : zE X 39 17 [some (.ref r), l1, l2, l3, l4, l5, l6, l7] [.int i0] (N, 0, 0) h Q = zE X 39 18 [some (.ref r), l1, l2, l3, l4, l5, l6, l7] [.ref r, .int i0] (N, 0, 0) h Q := zE_aload_n (k := 0) (by decide +kernel) rfl
theorem e39_18 : zE X 39 18 [l0, l1, l2, l3, l4, l5, l6, l7] [.ref a0, .int i1] (N, 0, 0) h Q = zgf (h a0) 5 4 (fun v => zE X 39 21 [l0, l1, l2, l3, l4, l5, l6, l7] [v, .int i1] (N, 0, 0) h Q) := zE_getfield (k := 40) (nest := false) (q := 166) (by decide +kernel) rfl
theorem e39_21 : zE X 39 21 [l0, l1, l2, l3, l4, l5, l6, l7] [.int i0, .int i1] (N, 0, 0) h Q = if i1 < i0 then zE X 39 26 [l0, l1, l2, l3, l4, l5, l6, l7] [] (N, 0, 0) h Q else zE X 39 24 [l0, l1, l2, l3, l4, l5, l6, l7] [] (N, 0, 0) h Q := zE_icmp_lt (off := 5) (by decide +kernel) (by decide)
theorem e39_24 : zE X 39 24 [l0, l1, l2, l3, l4, l5, l6, l7] [] (N, 0, 0) h Q = zE X 39 25 [l0, l1, l2, l3, l4, l5, l6, l7] [.int 0] (N, 0, 0) h Q := zE_iconst (n := 0) (by decide +kernel) (by decide)
theorem e39_25 : zE X 39 25 [l0, l1, l2, l3, l4, l5, l6, l7] [.int i0] (N, 0, 0) h Q = Q (some (.int i0)) N h := zE_ireturn (by decide +kernel) rfl
theorem e39_26 : zE X 39 26 [l0, l1, l2, l3, l4, l5, l6, l7] [] (N, 0, 0) h Q = zE X 39 27 [l0, l1, l2, l3, l4, l5, l6, l7] [.int 2] (N, 0, 0) h Q := zE_iconst (n := 2) (by decide +kernel) (by decide)
theorem e39_27 : zE X 39 27 [some (.ref r), l1, l2, l3, l4, l5, l6, l7] [.int i0] (N, 0, 0) h Q = zE X 39 28 [some (.ref r), l1, l2, l3, l4, l5, l6, l7] [.ref r, .int i0] (N, 0, 0) h Q := zE_aload_n (k := 0) (by decide +kernel) rfl
theorem e39_28 : zE X 39 28 [l0, l1, l2, l3, l4, l5, l6, l7] [.ref a0, .int i1] (N, 0, 0) h Q = zgf (h a0) 5 7 (fun v => zE X 39 31 [l0, l1, l2, l3, l4, l5, l6, l7] [v, .int i1] (N, 0, 0) h Q) := zE_getfield (k := 27) (nest := false) (q := 171) (by decide +kernel) rfl
theorem e39_31 : zE X 39 31 [l0, l1, some (.int v), l3, l4, l5, l6, l7] [.ref a0, .int i1] (N, 0, 0) h Q = zE X 39 32 [l0, l1, some (.int v), l3, l4, l5, l6, l7] [.int v, .ref a0, .int i1] (N, 0, 0) h Q := zE_iload_n (k := 2) (by decide +kernel) rfl
theorem e39_32 : zE X 39 32 [l0, l1, l2, l3, l4, l5, l6, l7] [.int i0, .ref a1, .int i2] (N, 0, 0) h Q = zal (h a1) 0 i0 (fun x => zE X 39 33 [l0, l1, l2, l3, l4, l5, l6, l7] [.int x, .int i2] (N, 0, 0) h Q) := zE_iaload (by decide +kernel)
theorem e39_33 : zE X 39 33 [l0, l1, l2, l3, l4, l5, l6, l7] [.int i0, .int i1] (N, 0, 0) h Q = zE X 39 34 [l0, l1, l2, l3, l4, l5, l6, l7] [.int (i1 * i0)] (N, 0, 0) h Q := zE_imul (by decide +kernel)
theorem e39_34 : zE X 39 34 [l0, l1, l2, l3, l4, l5, l6, l7] [.int i0] (N, 0, 0) h Q = zE X 39 35 [l0, l1, l2, l3, l4, l5, l6, l7] [.int 1, .int i0] (N, 0, 0) h Q := zE_iconst (n := 1) (by decide +kernel) (by decide)
theorem e39_35 : zE X 39 35 [l0, l1, l2, l3, l4, l5, l6, l7] [.int i0, .int i1] (N, 0, 0) h Q = zE X 39 36 [l0, l1, l2, l3, l4, l5, l6, l7] [.int (i1 + i0)] (N, 0, 0) h Q := zE_iadd (by decide +kernel)
theorem e39_36 : zE X 39 36 [l0, l1, l2, l3, l4, l5, l6, l7] [.int i0] (N, 0, 0) h Q = zE X 39 38 [l0, l1, l2, l3, l4, some (.int i0), l6, l7] [] (N, 0, 0) h Q := zE_istore (k := 5) (by decide +kernel) rfl rfl
theorem e39_38 : zE X 39 38 [l0, l1, l2, l3, l4, l5, l6, l7] [] (N, 0, 0) h Q = zE X 39 41 [l0, l1, l2, l3, l4, l5, l6, l7] [.int 2711] (N, 0, 0) h Q := zE_sipush (n := 2711) (by decide +kernel) (by decide)
theorem e39_41 : zE X 39 41 [l0, l1, l2, l3, l4, l5, l6, l7] [.int i0] (N, 0, 0) h Q = zE X 39 43 [l0, l1, l2, l3, l4, l5, l6, l7] [.int 24, .int i0] (N, 0, 0) h Q := zE_bipush (n := 24) (by decide +kernel) (by decide)
theorem e39_43 : zE X 39 43 [l0, l1, l2, l3, l4, l5, l6, l7] [.int i0, .int i1] (N, 0, 0) h Q = zE X 39 45 [l0, l1, l2, l3, l4, l5, l6, l7] [.int 6, .int i0, .int i1] (N, 0, 0) h Q := zE_bipush (n := 6) (by decide +kernel) (by decide)
theorem e39_45 : zE X 39 45 [l0, l1, l2, some (.int v), l4, l5, l6, l7] [.int i0, .int i1, .int i2] (N, 0, 0) h Q = zE X 39 46 [l0, l1, l2, some (.int v), l4, l5, l6, l7] [.int v, .int i0, .int i1, .int i2] (N, 0, 0) h Q := zE_iload_n (k := 3) (by decide +kernel) rfl
theorem e39_46 : zE X 39 46 [l0, l1, l2, l3, l4, l5, l6, l7] [.int i0, .int i1, .int i2, .int i3] (N, 0, 0) h Q = zE X 39 47 [l0, l1, l2, l3, l4, l5, l6, l7] [.int (i1 * i0), .int i2, .int i3] (N, 0, 0) h Q := zE_imul (by decide +kernel)
theorem e39_47 : zE X 39 47 [l0, l1, some (.int v), l3, l4, l5, l6, l7] [.int i0, .int i1, .int i2] (N, 0, 0) h Q = zE X 39 48 [l0, l1, some (.int v), l3, l4, l5, l6, l7] [.int v, .int i0, .int i1, .int i2] (N, 0, 0) h Q := zE_iload_n (k := 2) (by decide +kernel) rfl
theorem e39_48 : zE X 39 48 [l0, l1, l2, l3, l4, l5, l6, l7] [.int i0, .int i1, .int i2, .int i3] (N, 0, 0) h Q = zE X 39 49 [l0, l1, l2, l3, l4, l5, l6, l7] [.int (i1 + i0), .int i2, .int i3] (N, 0, 0) h Q := zE_iadd (by decide +kernel)
theorem e39_49 : zE X 39 49 [l0, l1, l2, l3, l4, l5, l6, l7] [.int i0, .int i1, .int i2] (N, 0, 0) h Q = zE X 39 50 [l0, l1, l2, l3, l4, l5, l6, l7] [.int (i1 * i0), .int i2] (N, 0, 0) h Q := zE_imul (by decide +kernel)
theorem e39_50 : zE X 39 50 [l0, some (.int v), l2, l3, l4, l5, l6, l7] [.int i0, .int i1] (N, 0, 0) h Q = zE X 39 51 [l0, some (.int v), l2, l3, l4, l5, l6, l7] [.int v, .int i0, .int i1] (N, 0, 0) h Q := zE_iload_n (k := 1) (by decide +kernel) rfl
theorem e39_51 : zE X 39 51 [l0, l1, l2, l3, l4, l5, l6, l7] [.int i0, .int i1, .int i2] (N, 0, 0) h Q = zE X 39 52 [l0, l1, l2, l3, l4, l5, l6, l7] [.int (i1 + i0), .int i2] (N, 0, 0) h Q := zE_iadd (by decide +kernel)
theorem e39_52 : zE X 39 52 [l0, l1, l2, l3, l4, l5, l6, l7] [.int i0, .int i1] (N, 0, 0) h Q = zE X 39 53 [l0, l1, l2, l3, l4, l5, l6, l7] [.int (i1 * i0)] (N, 0, 0) h Q := zE_imul (by decide +kernel)
theorem e39_53 : zE X 39 53 [l0, l1, l2, l3, l4, l5, l6, l7] [.int i0] (N, 0, 0) h Q = zE X 39 56 [l0, l1, l2, l3, l4, l5, l6, l7] [.int 1777, .int i0] (N, 0, 0) h Q := zE_sipush (n := 1777) (by decide +kernel) (by decide)
theorem e39_56 : zE X 39 56 [l0, l1, l2, l3, l4, l5, l6, l7] [.int i0, .int i1] (N, 0, 0) h Q = zE X 39 57 [l0, l1, l2, l3, l4, l5, l6, l7] [.int (i1 + i0)] (N, 0, 0) h Q := zE_iadd (by decide +kernel)
theorem e39_57 : zE X 39 57 [l0, l1, l2, l3, l4, l5, l6, l7] [.int i0] (N, 0, 0) h Q = zE X 39 60 [l0, l1, l2, l3, l4, l5, l6, l7] [.int 7919, .int i0] (N, 0, 0) h Q := zE_sipush (n := 7919) (by decide +kernel) (by decide)
theorem e39_60 : zE X 39 60 [l0, l1, l2, l3, l4, l5, l6, l7] [.int i0, .int i1] (N, 0, 0) h Q = if i0 = 0 then False else zE X 39 61 [l0, l1, l2, l3, l4, l5, l6, l7] [.int (i1 - i1 / i0 * i0)] (N, 0, 0) h Q := zE_irem (by decide +kernel)
theorem e39_61 : zE X 39 61 [l0, l1, l2, l3, l4, l5, l6, l7] [.int i0] (N, 0, 0) h Q = zE X 39 63 [l0, l1, l2, l3, l4, l5, some (.int i0), l7] [] (N, 0, 0) h Q := zE_istore (k := 6) (by decide +kernel) rfl rfl
theorem e39_63 : zE X 39 63 [l0, l1, l2, l3, l4, some (.int v), l6, l7] [] (N, 0, 0) h Q = zE X 39 65 [l0, l1, l2, l3, l4, some (.int v), l6, l7] [.int v] (N, 0, 0) h Q := zE_iload (k := 5) (by decide +kernel) rfl
theorem e39_65 : zE X 39 65 [l0, l1, l2, l3, l4, l5, l6, l7] [.int i0] (N, 0, 0) h Q = if i0 ≤ 0 then zE X 39 83 [l0, l1, l2, l3, l4, l5, l6, l7] [] (N, 0, 0) h Q else zE X 39 68 [l0, l1, l2, l3, l4, l5, l6, l7] [] (N, 0, 0) h Q := zE_if_le (off := 18) (by decide +kernel) (by decide)
theorem e39_68 : zE X 39 68 [l0, l1, l2, l3, l4, l5, some (.int v), l7] [] (N, 0, 0) h Q = zE X 39 70 [l0, l1, l2, l3, l4, l5, some (.int v), l7] [.int v] (N, 0, 0) h Q := zE_iload (k := 6) (by decide +kernel) rfl
theorem e39_70 : zE X 39 70 [l0, l1, l2, l3, l4, some (.int v), l6, l7] [.int i0] (N, 0, 0) h Q = zE X 39 72 [l0, l1, l2, l3, l4, some (.int v), l6, l7] [.int v, .int i0] (N, 0, 0) h Q := zE_iload (k := 5) (by decide +kernel) rfl
theorem e39_72 : zE X 39 72 [l0, l1, l2, l3, l4, l5, l6, l7] [.int i0, .int i1] (N, 0, 0) h Q = if i0 = 0 then False else zE X 39 73 [l0, l1, l2, l3, l4, l5, l6, l7] [.int (i1 - i1 / i0 * i0)] (N, 0, 0) h Q := zE_irem (by decide +kernel)
theorem e39_73 : zE X 39 73 [some (.ref r), l1, l2, l3, l4, l5, l6, l7] [.int i0] (N, 0, 0) h Q = zE X 39 74 [some (.ref r), l1, l2, l3, l4, l5, l6, l7] [.ref r, .int i0] (N, 0, 0) h Q := zE_aload_n (k := 0) (by decide +kernel) rfl
theorem e39_74 : zE X 39 74 [l0, l1, l2, l3, l4, l5, l6, l7] [.ref a0, .int i1] (N, 0, 0) h Q = zgf (h a0) 5 7 (fun v => zE X 39 77 [l0, l1, l2, l3, l4, l5, l6, l7] [v, .int i1] (N, 0, 0) h Q) := zE_getfield (k := 27) (nest := false) (q := 171) (by decide +kernel) rfl
theorem e39_77 : zE X 39 77 [l0, l1, some (.int v), l3, l4, l5, l6, l7] [.ref a0, .int i1] (N, 0, 0) h Q = zE X 39 78 [l0, l1, some (.int v), l3, l4, l5, l6, l7] [.int v, .ref a0, .int i1] (N, 0, 0) h Q := zE_iload_n (k := 2) (by decide +kernel) rfl
theorem e39_78 : zE X 39 78 [l0, l1, l2, l3, l4, l5, l6, l7] [.int i0, .ref a1, .int i2] (N, 0, 0) h Q = zal (h a1) 0 i0 (fun x => zE X 39 79 [l0, l1, l2, l3, l4, l5, l6, l7] [.int x, .int i2] (N, 0, 0) h Q) := zE_iaload (by decide +kernel)
theorem e39_79 : zE X 39 79 [l0, l1, l2, l3, l4, l5, l6, l7] [.int i0, .int i1] (N, 0, 0) h Q = zE X 39 80 [l0, l1, l2, l3, l4, l5, l6, l7] [.int (i1 - i0)] (N, 0, 0) h Q := zE_isub (by decide +kernel)
theorem e39_80 : zE X 39 80 [l0, l1, l2, l3, l4, l5, l6, l7] [.int i0] (N, 0, 0) h Q = zE X 39 84 [l0, l1, l2, l3, l4, l5, l6, l7] [.int i0] (N, 0, 0) h Q := zE_goto (off := 4) (by decide +kernel) (by decide)
theorem e39_83 : zE X 39 83 [l0, l1, l2, l3, l4, l5, l6, l7] [] (N, 0, 0) h Q = zE X 39 84 [l0, l1, l2, l3, l4, l5, l6, l7] [.int 0] (N, 0, 0) h Q := zE_iconst (n := 0) (by decide +kernel) (by decide)
theorem e39_84 : zE X 39 84 [l0, l1, l2, l3, l4, l5, l6, l7] [.int i0] (N, 0, 0) h Q = zE X 39 86 [l0, l1, l2, l3, l4, l5, l6, some (.int i0)] [] (N, 0, 0) h Q := zE_istore (k := 7) (by decide +kernel) rfl rfl
theorem e39_86 : zE X 39 86 [some (.ref r), l1, l2, l3, l4, l5, l6, l7] [] (N, 0, 0) h Q = zE X 39 87 [some (.ref r), l1, l2, l3, l4, l5, l6, l7] [.ref r] (N, 0, 0) h Q := zE_aload_n (k := 0) (by decide +kernel) rfl
theorem e39_87 : zE X 39 87 [l0, l1, l2, l3, l4, l5, l6, l7] [.ref a0] (N, 0, 0) h Q = zgf (h a0) 5 1 (fun v => zE X 39 90 [l0, l1, l2, l3, l4, l5, l6, l7] [v] (N, 0, 0) h Q) := zE_getfield (k := 9) (nest := false) (q := 158) (by decide +kernel) rfl
theorem e39_90 : zE X 39 90 [l0, some (.int v), l2, l3, l4, l5, l6, l7] [.ref a0] (N, 0, 0) h Q = zE X 39 91 [l0, some (.int v), l2, l3, l4, l5, l6, l7] [.int v, .ref a0] (N, 0, 0) h Q := zE_iload_n (k := 1) (by decide +kernel) rfl
theorem e39_91 : zE X 39 91 [l0, l1, l2, l3, l4, l5, l6, l7] [.int i0, .ref a1] (N, 0, 0) h Q = zal (h a1) 0 i0 (fun x => zE X 39 92 [l0, l1, l2, l3, l4, l5, l6, l7] [.int x] (N, 0, 0) h Q) := zE_iaload (by decide +kernel)
theorem e39_92 : zE X 39 92 [some (.ref r), l1, l2, l3, l4, l5, l6, l7] [.int i0] (N, 0, 0) h Q = zE X 39 93 [some (.ref r), l1, l2, l3, l4, l5, l6, l7] [.ref r, .int i0] (N, 0, 0) h Q := zE_aload_n (k := 0) (by decide +kernel) rfl
theorem e39_93 : zE X 39 93 [l0, l1, l2, l3, l4, l5, l6, l7] [.ref a0, .int i1] (N, 0, 0) h Q = zgf (h a0) 5 5 (fun v => zE X 39 96 [l0, l1, l2, l3, l4, l5, l6, l7] [v, .int i1] (N, 0, 0) h Q) := zE_getfield (k := 21) (nest := false) (q := 169) (by decide +kernel) rfl
theorem e39_96 : zE X 39 96 [l0, l1, some (.int v), l3, l4, l5, l6, l7] [.ref a0, .int i1] (N, 0, 0) h Q = zE X 39 97 [l0, l1, some (.int v), l3, l4, l5, l6, l7] [.int v, .ref a0, .int i1] (N, 0, 0) h Q := zE_iload_n (k := 2) (by decide +kernel) rfl
theorem e39_97 : zE X 39 97 [l0, l1, l2, l3, l4, l5, l6, l7] [.int i0, .ref a1, .int i2] (N, 0, 0) h Q = zal (h a1) 0 i0 (fun x => zE X 39 98 [l0, l1, l2, l3, l4, l5, l6, l7] [.int x, .int i2] (N, 0, 0) h Q) := zE_iaload (by decide +kernel)
theorem e39_98 : zE X 39 98 [some (.ref r), l1, l2, l3, l4, l5, l6, l7] [.int i0, .int i1] (N, 0, 0) h Q = zE X 39 99 [some (.ref r), l1, l2, l3, l4, l5, l6, l7] [.ref r, .int i0, .int i1] (N, 0, 0) h Q := zE_aload_n (k := 0) (by decide +kernel) rfl
theorem e39_99 : zE X 39 99 [l0, l1, l2, l3, l4, l5, l6, l7] [.ref a0, .int i1, .int i2] (N, 0, 0) h Q = zgf (h a0) 5 2 (fun v => zE X 39 102 [l0, l1, l2, l3, l4, l5, l6, l7] [v, .int i1, .int i2] (N, 0, 0) h Q) := zE_getfield (k := 15) (nest := false) (q := 161) (by decide +kernel) rfl
theorem e39_102 : zE X 39 102 [l0, some (.int v), l2, l3, l4, l5, l6, l7] [.ref a0, .int i1, .int i2] (N, 0, 0) h Q = zE X 39 103 [l0, some (.int v), l2, l3, l4, l5, l6, l7] [.int v, .ref a0, .int i1, .int i2] (N, 0, 0) h Q := zE_iload_n (k := 1) (by decide +kernel) rfl
theorem e39_103 : zE X 39 103 [l0, l1, l2, l3, l4, l5, l6, l7] [.int i0, .ref a1, .int i2, .int i3] (N, 0, 0) h Q = zal (h a1) 0 i0 (fun x => zE X 39 104 [l0, l1, l2, l3, l4, l5, l6, l7] [.int x, .int i2, .int i3] (N, 0, 0) h Q) := zE_iaload (by decide +kernel)
theorem e39_104 : zE X 39 104 [l0, l1, l2, l3, l4, l5, l6, l7] [.int i0, .int i1, .int i2] (N, 0, 0) h Q = zE X 39 105 [l0, l1, l2, l3, l4, l5, l6, l7] [.int (i1 * i0), .int i2] (N, 0, 0) h Q := zE_imul (by decide +kernel)
theorem e39_105 : zE X 39 105 [l0, l1, l2, l3, l4, l5, l6, l7] [.int i0, .int i1] (N, 0, 0) h Q = zE X 39 106 [l0, l1, l2, l3, l4, l5, l6, l7] [.int (i1 + i0)] (N, 0, 0) h Q := zE_iadd (by decide +kernel)
theorem e39_106 : zE X 39 106 [l0, l1, l2, l3, l4, l5, l6, l7] [.int i0] (N, 0, 0) h Q = zE X 39 108 [l0, l1, l2, l3, l4, l5, l6, l7] [.int 10, .int i0] (N, 0, 0) h Q := zE_bipush (n := 10) (by decide +kernel) (by decide)
theorem e39_108 : zE X 39 108 [some (.ref r), l1, l2, l3, l4, l5, l6, l7] [.int i0, .int i1] (N, 0, 0) h Q = zE X 39 109 [some (.ref r), l1, l2, l3, l4, l5, l6, l7] [.ref r, .int i0, .int i1] (N, 0, 0) h Q := zE_aload_n (k := 0) (by decide +kernel) rfl
theorem e39_109 : zE X 39 109 [l0, l1, l2, l3, l4, l5, l6, l7] [.ref a0, .int i1, .int i2] (N, 0, 0) h Q = zgf (h a0) 5 6 (fun v => zE X 39 112 [l0, l1, l2, l3, l4, l5, l6, l7] [v, .int i1, .int i2] (N, 0, 0) h Q) := zE_getfield (k := 24) (nest := false) (q := 170) (by decide +kernel) rfl
theorem e39_112 : zE X 39 112 [l0, l1, some (.int v), l3, l4, l5, l6, l7] [.ref a0, .int i1, .int i2] (N, 0, 0) h Q = zE X 39 113 [l0, l1, some (.int v), l3, l4, l5, l6, l7] [.int v, .ref a0, .int i1, .int i2] (N, 0, 0) h Q := zE_iload_n (k := 2) (by decide +kernel) rfl
theorem e39_113 : zE X 39 113 [l0, l1, l2, l3, l4, l5, l6, l7] [.int i0, .ref a1, .int i2, .int i3] (N, 0, 0) h Q = zal (h a1) 0 i0 (fun x => zE X 39 114 [l0, l1, l2, l3, l4, l5, l6, l7] [.int x, .int i2, .int i3] (N, 0, 0) h Q) := zE_iaload (by decide +kernel)
theorem e39_114 : zE X 39 114 [l0, l1, l2, l3, l4, l5, l6, l7] [.int i0, .int i1, .int i2] (N, 0, 0) h Q = zE X 39 115 [l0, l1, l2, l3, l4, l5, l6, l7] [.int (i1 * i0), .int i2] (N, 0, 0) h Q := zE_imul (by decide +kernel)
theorem e39_115 : zE X 39 115 [l0, l1, l2, l3, some (.int v), l5, l6, l7] [.int i0, .int i1] (N, 0, 0) h Q = zE X 39 117 [l0, l1, l2, l3, some (.int v), l5, l6, l7] [.int v, .int i0, .int i1] (N, 0, 0) h Q := zE_iload (k := 4) (by decide +kernel) rfl
theorem e39_117 : zE X 39 117 [l0, l1, l2, l3, l4, l5, l6, l7] [.int i0, .int i1, .int i2] (N, 0, 0) h Q = zE X 39 118 [l0, l1, l2, l3, l4, l5, l6, l7] [.int (i1 * i0), .int i2] (N, 0, 0) h Q := zE_imul (by decide +kernel)
theorem e39_118 : zE X 39 118 [l0, l1, l2, l3, l4, l5, l6, l7] [.int i0, .int i1] (N, 0, 0) h Q = zE X 39 119 [l0, l1, l2, l3, l4, l5, l6, l7] [.int (i1 + i0)] (N, 0, 0) h Q := zE_iadd (by decide +kernel)
theorem e39_119 : zE X 39 119 [l0, l1, l2, l3, l4, l5, l6, some (.int v)] [.int i0] (N, 0, 0) h Q = zE X 39 121 [l0, l1, l2, l3, l4, l5, l6, some (.int v)] [.int v, .int i0] (N, 0, 0) h Q := zE_iload (k := 7) (by decide +kernel) rfl
theorem e39_121 : zE X 39 121 [l0, l1, l2, l3, l4, l5, l6, l7] [.int i0, .int i1] (N, 0, 0) h Q = zE X 39 122 [l0, l1, l2, l3, l4, l5, l6, l7] [.int (i1 + i0)] (N, 0, 0) h Q := zE_iadd (by decide +kernel)
theorem e39_122 : zE X 39 122 [l0, l1, l2, l3, l4, l5, l6, l7] [.int i0] (N, 0, 0) h Q = Q (some (.int i0)) N h := zE_ireturn (by decide +kernel) rfl
-- 72 Sheet_worthOf (I)I
theorem e72_0 : zE X 72 0 [l0, some (.int v)] [] (N, 0, 0) h Q = zE X 72 1 [l0, some (.int v)] [.int v] (N, 0, 0) h Q := zE_iload_n (k := 1) (by decide +kernel) rfl
theorem e72_1 : zE X 72 1 [l0, l1] [.int i0] (N, 0, 0) h Q = if i0 < 0 then zE X 72 21 [l0, l1] [] (N, 0, 0) h Q else zE X 72 4 [l0, l1] [] (N, 0, 0) h Q := zE_if_lt (off := 20) (by decide +kernel) (by decide)
theorem e72_4 : zE X 72 4 [l0, some (.int v)] [] (N, 0, 0) h Q = zE X 72 5 [l0, some (.int v)] [.int v] (N, 0, 0) h Q := zE_iload_n (k := 1) (by decide +kernel) rfl
theorem e72_5 : zE X 72 5 [some (.ref r), l1] [.int i0] (N, 0, 0) h Q = zE X 72 6 [some (.ref r), l1] [.ref r, .int i0] (N, 0, 0) h Q := zE_aload_n (k := 0) (by decide +kernel) rfl
theorem e72_6 : zE X 72 6 [l0, l1] [.ref a0, .int i1] (N, 0, 0) h Q = zgf (h a0) 5 0 (fun v => zE X 72 9 [l0, l1] [v, .int i1] (N, 0, 0) h Q) := zE_getfield (k := 37) (nest := false) (q := 154) (by decide +kernel) rfl
theorem e72_9 : zE X 72 9 [l0, l1] [.int i0, .int i1] (N, 0, 0) h Q = if i0 ≤ i1 then zE X 72 21 [l0, l1] [] (N, 0, 0) h Q else zE X 72 12 [l0, l1] [] (N, 0, 0) h Q := zE_icmp_ge (off := 12) (by decide +kernel) (by decide)
theorem e72_12 : zE X 72 12 [some (.ref r), l1] [] (N, 0, 0) h Q = zE X 72 13 [some (.ref r), l1] [.ref r] (N, 0, 0) h Q := zE_aload_n (k := 0) (by decide +kernel) rfl
theorem e72_13 : zE X 72 13 [l0, l1] [.ref a0] (N, 0, 0) h Q = zgf (h a0) 5 1 (fun v => zE X 72 16 [l0, l1] [v] (N, 0, 0) h Q) := zE_getfield (k := 9) (nest := false) (q := 158) (by decide +kernel) rfl
theorem e72_16 : zE X 72 16 [l0, some (.int v)] [.ref a0] (N, 0, 0) h Q = zE X 72 17 [l0, some (.int v)] [.int v, .ref a0] (N, 0, 0) h Q := zE_iload_n (k := 1) (by decide +kernel) rfl
theorem e72_17 : zE X 72 17 [l0, l1] [.int i0, .ref a1] (N, 0, 0) h Q = zal (h a1) 0 i0 (fun x => zE X 72 18 [l0, l1] [.int x] (N, 0, 0) h Q) := zE_iaload (by decide +kernel)
theorem e72_18 : zE X 72 18 [l0, l1] [.int i0] (N, 0, 0) h Q = zE X 72 22 [l0, l1] [.int i0] (N, 0, 0) h Q := zE_goto (off := 4) (by decide +kernel) (by decide)
theorem e72_21 : zE X 72 21 [l0, l1] [] (N, 0, 0) h Q = zE X 72 22 [l0, l1] [.int 0] (N, 0, 0) h Q := zE_iconst (n := 0) (by decide +kernel) (by decide)
theorem e72_22 : zE X 72 22 [l0, l1] [.int i0] (N, 0, 0) h Q = Q (some (.int i0)) N h := zE_ireturn (by decide +kernel) rfl
-- 78 Sheet_costOf (III)I
theorem e78_0 : zE X 78 0 [some (.ref r), l1, l2, l3] [] (N, 0, 0) h Q = zE X 78 1 [some (.ref r), l1, l2, l3] [.ref r] (N, 0, 0) h Q := zE_aload_n (k := 0) (by decide +kernel) rfl
theorem e78_1 : zE X 78 1 [l0, l1, l2, l3] [.ref a0] (N, 0, 0) h Q = zgf (h a0) 5 12 (fun v => zE X 78 4 [l0, l1, l2, l3] [v] (N, 0, 0) h Q) := zE_getfield (k := 52) (nest := false) (q := 180) (by decide +kernel) rfl
theorem e78_4 : zE X 78 4 [l0, some (.int v), l2, l3] [.int i0] (N, 0, 0) h Q = zE X 78 5 [l0, some (.int v), l2, l3] [.int v, .int i0] (N, 0, 0) h Q := zE_iload_n (k := 1) (by decide +kernel) rfl
theorem e78_5 : zE X 78 5 [l0, l1, l2, l3] [.int i0, .int i1] (N, 0, 0) h Q = zE X 78 6 [l0, l1, l2, l3] [.int (i1 * i0)] (N, 0, 0) h Q := zE_imul (by decide +kernel)
theorem e78_6 : zE X 78 6 [some (.ref r), l1, l2, l3] [.int i0] (N, 0, 0) h Q = zE X 78 7 [some (.ref r), l1, l2, l3] [.ref r, .int i0] (N, 0, 0) h Q := zE_aload_n (k := 0) (by decide +kernel) rfl
theorem e78_7 : zE X 78 7 [l0, l1, l2, l3] [.ref a0, .int i1] (N, 0, 0) h Q = zgf (h a0) 5 13 (fun v => zE X 78 10 [l0, l1, l2, l3] [v, .int i1] (N, 0, 0) h Q) := zE_getfield (k := 55) (nest := false) (q := 181) (by decide +kernel) rfl
theorem e78_10 : zE X 78 10 [l0, l1, l2, some (.int v)] [.int i0, .int i1] (N, 0, 0) h Q = zE X 78 11 [l0, l1, l2, some (.int v)] [.int v, .int i0, .int i1] (N, 0, 0) h Q := zE_iload_n (k := 3) (by decide +kernel) rfl
theorem e78_11 : zE X 78 11 [l0, l1, l2, l3] [.int i0, .int i1, .int i2] (N, 0, 0) h Q = zE X 78 12 [l0, l1, l2, l3] [.int (i1 * i0), .int i2] (N, 0, 0) h Q := zE_imul (by decide +kernel)
theorem e78_12 : zE X 78 12 [l0, some (.int v), l2, l3] [.int i0, .int i1] (N, 0, 0) h Q = zE X 78 13 [l0, some (.int v), l2, l3] [.int v, .int i0, .int i1] (N, 0, 0) h Q := zE_iload_n (k := 1) (by decide +kernel) rfl
theorem e78_13 : zE X 78 13 [l0, l1, some (.int v), l3] [.int i0, .int i1, .int i2] (N, 0, 0) h Q = zE X 78 14 [l0, l1, some (.int v), l3] [.int v, .int i0, .int i1, .int i2] (N, 0, 0) h Q := zE_iload_n (k := 2) (by decide +kernel) rfl
theorem e78_14 : zE X 78 14 [l0, l1, l2, l3] [.int i0, .int i1, .int i2, .int i3] (N, 0, 0) h Q = zE X 78 15 [l0, l1, l2, l3] [.int (i1 - i0), .int i2, .int i3] (N, 0, 0) h Q := zE_isub (by decide +kernel)
theorem e78_15 : zE X 78 15 [l0, l1, l2, l3] [.int i0, .int i1, .int i2] (N, 0, 0) h Q = zE X 78 16 [l0, l1, l2, l3] [.int (i1 * i0), .int i2] (N, 0, 0) h Q := zE_imul (by decide +kernel)
theorem e78_16 : zE X 78 16 [l0, l1, l2, l3] [.int i0, .int i1] (N, 0, 0) h Q = zE X 78 17 [l0, l1, l2, l3] [.int (i1 + i0)] (N, 0, 0) h Q := zE_iadd (by decide +kernel)
theorem e78_17 : zE X 78 17 [l0, l1, l2, l3] [.int i0] (N, 0, 0) h Q = Q (some (.int i0)) N h := zE_ireturn (by decide +kernel) rfl
end ZM
