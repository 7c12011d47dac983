theorem dJxa1e45_init_da8c8_0 : decode cJxa1e45_init_da8c8 0 = .ok (.aload_n 0, 1) := by decide +kernel
theorem dJxa1e45_init_da8c8_1 : decode cJxa1e45_init_da8c8 1 = .ok (.invokespecial 1, 3) := by decide +kernel
theorem dJxa1e45_init_da8c8_4 : decode cJxa1e45_init_da8c8 4 = .ok (.return_, 1) := by decide +kernel
theorem dJxc12de_init_da8c8_0 : decode cJxc12de_init_da8c8 0 = .ok (.aload_n 0, 1) := by decide +kernel
theorem dJxc12de_init_da8c8_1 : decode cJxc12de_init_da8c8 1 = .ok (.invokespecial 1, 3) := by decide +kernel
theorem dJxc12de_init_da8c8_4 : decode cJxc12de_init_da8c8 4 = .ok (.aload_n 0, 1) := by decide +kernel
theorem dJxc12de_init_da8c8_5 : decode cJxc12de_init_da8c8 5 = .ok (.iconst 0, 1) := by decide +kernel
theorem dJxc12de_init_da8c8_6 : decode cJxc12de_init_da8c8 6 = .ok (.putfield 7, 3) := by decide +kernel
theorem dJxc12de_init_da8c8_9 : decode cJxc12de_init_da8c8 9 = .ok (.return_, 1) := by decide +kernel
theorem dJx4a65c_init_da8c8_0 : decode cJx4a65c_init_da8c8 0 = .ok (.aload_n 0, 1) := by decide +kernel
theorem dJx4a65c_init_da8c8_1 : decode cJx4a65c_init_da8c8 1 = .ok (.invokespecial 1, 3) := by decide +kernel
theorem dJx4a65c_init_da8c8_4 : decode cJx4a65c_init_da8c8 4 = .ok (.aload_n 0, 1) := by decide +kernel
theorem dJx4a65c_init_da8c8_5 : decode cJx4a65c_init_da8c8 5 = .ok (.getstatic 39, 3) := by decide +kernel
theorem dJx4a65c_init_da8c8_8 : decode cJx4a65c_init_da8c8 8 = .ok (.putfield 9, 3) := by decide +kernel
theorem dJx4a65c_init_da8c8_11 : decode cJx4a65c_init_da8c8 11 = .ok (.return_, 1) := by decide +kernel
theorem dJx4a65c_clear_da8c8_0 : decode cJx4a65c_clear_da8c8 0 = .ok (.aload_n 0, 1) := by decide +kernel
theorem dJx4a65c_clear_da8c8_1 : decode cJx4a65c_clear_da8c8 1 = .ok (.dup, 1) := by decide +kernel
theorem dJx4a65c_clear_da8c8_2 : decode cJx4a65c_clear_da8c8 2 = .ok (.getfield 63, 3) := by decide +kernel
theorem dJx4a65c_clear_da8c8_5 : decode cJx4a65c_clear_da8c8 5 = .ok (.iconst 1, 1) := by decide +kernel
theorem dJx4a65c_clear_da8c8_6 : decode cJx4a65c_clear_da8c8 6 = .ok (.iadd, 1) := by decide +kernel
theorem dJx4a65c_clear_da8c8_7 : decode cJx4a65c_clear_da8c8 7 = .ok (.putfield 63, 3) := by decide +kernel
theorem dJx4a65c_clear_da8c8_10 : decode cJx4a65c_clear_da8c8 10 = .ok (.aload_n 0, 1) := by decide +kernel
theorem dJx4a65c_clear_da8c8_11 : decode cJx4a65c_clear_da8c8 11 = .ok (.getfield 9, 3) := by decide +kernel
theorem dJx4a65c_clear_da8c8_14 : decode cJx4a65c_clear_da8c8 14 = .ok (.astore_n 1, 1) := by decide +kernel
theorem dJx4a65c_clear_da8c8_15 : decode cJx4a65c_clear_da8c8 15 = .ok (.aload_n 0, 1) := by decide +kernel
theorem dJx4a65c_clear_da8c8_16 : decode cJx4a65c_clear_da8c8 16 = .ok (.getfield 48, 3) := by decide +kernel
theorem dJx4a65c_clear_da8c8_19 : decode cJx4a65c_clear_da8c8 19 = .ok (.istore_n 2, 1) := by decide +kernel
theorem dJx4a65c_clear_da8c8_20 : decode cJx4a65c_clear_da8c8 20 = .ok (.aload_n 0, 1) := by decide +kernel
theorem dJx4a65c_clear_da8c8_21 : decode cJx4a65c_clear_da8c8 21 = .ok (.iconst 0, 1) := by decide +kernel
theorem dJx4a65c_clear_da8c8_22 : decode cJx4a65c_clear_da8c8 22 = .ok (.dup_x1, 1) := by decide +kernel
theorem dJx4a65c_clear_da8c8_23 : decode cJx4a65c_clear_da8c8 23 = .ok (.putfield 48, 3) := by decide +kernel
theorem dJx4a65c_clear_da8c8_26 : decode cJx4a65c_clear_da8c8 26 = .ok (.istore_n 3, 1) := by decide +kernel
theorem dJx4a65c_clear_da8c8_27 : decode cJx4a65c_clear_da8c8 27 = .ok (.iload_n 3, 1) := by decide +kernel
theorem dJx4a65c_clear_da8c8_28 : decode cJx4a65c_clear_da8c8 28 = .ok (.iload_n 2, 1) := by decide +kernel
theorem dJx4a65c_clear_da8c8_29 : decode cJx4a65c_clear_da8c8 29 = .ok (.if_icmp .ge 13, 3) := by decide +kernel
theorem dJx4a65c_clear_da8c8_42 : decode cJx4a65c_clear_da8c8 42 = .ok (.return_, 1) := by decide +kernel
theorem dJx4a65c_size_8abf5_0 : decode cJx4a65c_size_8abf5 0 = .ok (.aload_n 0, 1) := by decide +kernel
theorem dJx4a65c_size_8abf5_1 : decode cJx4a65c_size_8abf5 1 = .ok (.getfield 48, 3) := by decide +kernel
theorem dJx4a65c_size_8abf5_4 : decode cJx4a65c_size_8abf5 4 = .ok (.ireturn, 1) := by decide +kernel
theorem dJx4a65c_isEmpty_aae02_0 : decode cJx4a65c_isEmpty_aae02 0 = .ok (.aload_n 0, 1) := by decide +kernel
theorem dJx4a65c_isEmpty_aae02_1 : decode cJx4a65c_isEmpty_aae02 1 = .ok (.getfield 48, 3) := by decide +kernel
theorem dJx4a65c_isEmpty_aae02_4 : decode cJx4a65c_isEmpty_aae02 4 = .ok (.ifCond .ne 7, 3) := by decide +kernel
theorem dJx4a65c_isEmpty_aae02_7 : decode cJx4a65c_isEmpty_aae02 7 = .ok (.iconst 1, 1) := by decide +kernel
theorem dJx4a65c_isEmpty_aae02_8 : decode cJx4a65c_isEmpty_aae02 8 = .ok (.goto 4, 3) := by decide +kernel
theorem dJx4a65c_isEmpty_aae02_12 : decode cJx4a65c_isEmpty_aae02 12 = .ok (.ireturn, 1) := by decide +kernel
theorem dJx35411_init_45d68_0 : decode cJx35411_init_45d68 0 = .ok (.aload_n 0, 1) := by decide +kernel
theorem dJx35411_init_45d68_1 : decode cJx35411_init_45d68 1 = .ok (.aload_n 1, 1) := by decide +kernel
theorem dJx35411_init_45d68_2 : decode cJx35411_init_45d68 2 = .ok (.putfield 1, 3) := by decide +kernel
theorem dJx35411_init_45d68_5 : decode cJx35411_init_45d68 5 = .ok (.aload_n 0, 1) := by decide +kernel
theorem dJx35411_init_45d68_6 : decode cJx35411_init_45d68 6 = .ok (.invokespecial 7, 3) := by decide +kernel
theorem dJx35411_init_45d68_9 : decode cJx35411_init_45d68 9 = .ok (.aload_n 0, 1) := by decide +kernel
theorem dJx35411_init_45d68_10 : decode cJx35411_init_45d68 10 = .ok (.iconst (-1), 1) := by decide +kernel
theorem dJx35411_init_45d68_11 : decode cJx35411_init_45d68 11 = .ok (.putfield 13, 3) := by decide +kernel
theorem dJx35411_init_45d68_14 : decode cJx35411_init_45d68 14 = .ok (.aload_n 0, 1) := by decide +kernel
theorem dJx35411_init_45d68_15 : decode cJx35411_init_45d68 15 = .ok (.aload_n 0, 1) := by decide +kernel
theorem dJx35411_init_45d68_16 : decode cJx35411_init_45d68 16 = .ok (.getfield 1, 3) := by decide +kernel
theorem dJx35411_init_45d68_19 : decode cJx35411_init_45d68 19 = .ok (.getfield 17, 3) := by decide +kernel
theorem dJx35411_init_45d68_22 : decode cJx35411_init_45d68 22 = .ok (.putfield 22, 3) := by decide +kernel
theorem dJx35411_init_45d68_25 : decode cJx35411_init_45d68 25 = .ok (.return_, 1) := by decide +kernel
theorem dJx4a65c_iterator_32c93_0 : decode cJx4a65c_iterator_32c93 0 = .ok (.new 267, 3) := by decide +kernel
theorem dJx4a65c_iterator_32c93_3 : decode cJx4a65c_iterator_32c93 3 = .ok (.dup, 1) := by decide +kernel
theorem dJx4a65c_iterator_32c93_4 : decode cJx4a65c_iterator_32c93 4 = .ok (.aload_n 0, 1) := by decide +kernel
theorem dJx4a65c_iterator_32c93_5 : decode cJx4a65c_iterator_32c93 5 = .ok (.invokespecial 269, 3) := by decide +kernel
theorem dJx4a65c_iterator_32c93_8 : decode cJx4a65c_iterator_32c93 8 = .ok (.areturn, 1) := by decide +kernel
theorem dJx35411_hasNext_aae02_0 : decode cJx35411_hasNext_aae02 0 = .ok (.aload_n 0, 1) := by decide +kernel
theorem dJx35411_hasNext_aae02_1 : decode cJx35411_hasNext_aae02 1 = .ok (.getfield 25, 3) := by decide +kernel
theorem dJx35411_hasNext_aae02_4 : decode cJx35411_hasNext_aae02 4 = .ok (.aload_n 0, 1) := by decide +kernel
theorem dJx35411_hasNext_aae02_5 : decode cJx35411_hasNext_aae02 5 = .ok (.getfield 1, 3) := by decide +kernel
theorem dJx35411_hasNext_aae02_8 : decode cJx35411_hasNext_aae02 8 = .ok (.getfield 28, 3) := by decide +kernel
theorem dJx35411_hasNext_aae02_11 : decode cJx35411_hasNext_aae02 11 = .ok (.if_icmp .eq 7, 3) := by decide +kernel
theorem dJx35411_hasNext_aae02_18 : decode cJx35411_hasNext_aae02 18 = .ok (.iconst 0, 1) := by decide +kernel
theorem dJx35411_hasNext_aae02_19 : decode cJx35411_hasNext_aae02 19 = .ok (.ireturn, 1) := by decide +kernel
theorem dJ7_fill_18040_0 : decode cJ7_fill_18040 0 = .ok (.iconst 0, 1) := by decide +kernel
theorem dJ7_fill_18040_1 : decode cJ7_fill_18040 1 = .ok (.istore_n 2, 1) := by decide +kernel
theorem dJ7_fill_18040_2 : decode cJ7_fill_18040 2 = .ok (.aload_n 0, 1) := by decide +kernel
theorem dJ7_fill_18040_3 : decode cJ7_fill_18040 3 = .ok (.arraylength, 1) := by decide +kernel
theorem dJ7_fill_18040_4 : decode cJ7_fill_18040 4 = .ok (.istore_n 3, 1) := by decide +kernel
theorem dJ7_fill_18040_5 : decode cJ7_fill_18040 5 = .ok (.iload_n 2, 1) := by decide +kernel
theorem dJ7_fill_18040_6 : decode cJ7_fill_18040 6 = .ok (.iload_n 3, 1) := by decide +kernel
theorem dJ7_fill_18040_7 : decode cJ7_fill_18040 7 = .ok (.if_icmp .ge 13, 3) := by decide +kernel
theorem dJ7_fill_18040_20 : decode cJ7_fill_18040 20 = .ok (.return_, 1) := by decide +kernel
theorem dJ7_fill_18040_10 : decode cJ7_fill_18040 10 = .ok (.aload_n 0, 1) := by decide +kernel
theorem dJ7_fill_18040_11 : decode cJ7_fill_18040 11 = .ok (.iload_n 2, 1) := by decide +kernel
theorem dJ7_fill_18040_12 : decode cJ7_fill_18040 12 = .ok (.iload_n 1, 1) := by decide +kernel
theorem dJ7_fill_18040_13 : decode cJ7_fill_18040 13 = .ok (.castore, 1) := by decide +kernel
theorem dJ7_fill_18040_14 : decode cJ7_fill_18040 14 = .ok (.iinc 2 1, 3) := by decide +kernel
theorem dJ7_fill_18040_17 : decode cJ7_fill_18040 17 = .ok (.goto (-12), 3) := by decide +kernel
theorem dX9_in_0 : decode cX9_in 0 = .ok (.lload_n 0, 1) := by decide +kernel
theorem dX9_in_1 : decode cX9_in 1 = .ok (.lload_n 2, 1) := by decide +kernel
theorem dX9_in_2 : decode cX9_in 2 = .ok (.lcmp, 1) := by decide +kernel
theorem dX9_in_3 : decode cX9_in 3 = .ok (.ifCond .lt 14, 3) := by decide +kernel
theorem dX9_in_17 : decode cX9_in 17 = .ok (.iconst 0, 1) := by decide +kernel
theorem dX9_in_18 : decode cX9_in 18 = .ok (.ireturn, 1) := by decide +kernel
theorem dX9_in_6 : decode cX9_in 6 = .ok (.lload_n 0, 1) := by decide +kernel
theorem dX9_in_7 : decode cX9_in 7 = .ok (.lload 4, 2) := by decide +kernel
theorem dX9_in_9 : decode cX9_in 9 = .ok (.lcmp, 1) := by decide +kernel
theorem dX9_in_10 : decode cX9_in 10 = .ok (.ifCond .gt 7, 3) := by decide +kernel
theorem dX9_in_13 : decode cX9_in 13 = .ok (.iconst 1, 1) := by decide +kernel
theorem dX9_in_14 : decode cX9_in 14 = .ok (.goto 4, 3) := by decide +kernel
theorem dX9_thrown_0 : decode cX9_thrown 0 = .ok (.aload_n 0, 1) := by decide +kernel
theorem dX9_thrown_1 : decode cX9_thrown 1 = .ok (.getfield 16, 3) := by decide +kernel
theorem dX9_thrown_4 : decode cX9_thrown 4 = .ok (.ireturn, 1) := by decide +kernel
theorem dX9_fails_0 : decode cX9_fails 0 = .ok (.aload_n 0, 1) := by decide +kernel
theorem dX9_fails_1 : decode cX9_fails 1 = .ok (.iload_n 1, 1) := by decide +kernel
theorem dX9_fails_2 : decode cX9_fails 2 = .ok (.putfield 16, 3) := by decide +kernel
theorem dX9_fails_5 : decode cX9_fails 5 = .ok (.iconst 0, 1) := by decide +kernel
theorem dX9_fails_6 : decode cX9_fails 6 = .ok (.ireturn, 1) := by decide +kernel
theorem dX9_tells_0 : decode cX9_tells 0 = .ok (.aload_n 0, 1) := by decide +kernel
theorem dX9_tells_1 : decode cX9_tells 1 = .ok (.iconst 0, 1) := by decide +kernel
theorem dX9_tells_2 : decode cX9_tells 2 = .ok (.putfield 16, 3) := by decide +kernel
theorem dX9_tells_5 : decode cX9_tells 5 = .ok (.iload_n 1, 1) := by decide +kernel
theorem dX9_tells_6 : decode cX9_tells 6 = .ok (.ireturn, 1) := by decide +kernel
theorem dX9_isKind_0 : decode cX9_isKind 0 = .ok (.iload_n 0, 1) := by decide +kernel
theorem dX9_isKind_1 : decode cX9_isKind 1 = .ok (.bipush 46, 2) := by decide +kernel
theorem dX9_isKind_3 : decode cX9_isKind 3 = .ok (.if_icmp .eq 15, 3) := by decide +kernel
theorem dX9_isKind_18 : decode cX9_isKind 18 = .ok (.iconst 1, 1) := by decide +kernel
theorem dX9_isKind_19 : decode cX9_isKind 19 = .ok (.goto 4, 3) := by decide +kernel
theorem dX9_isKind_23 : decode cX9_isKind 23 = .ok (.ireturn, 1) := by decide +kernel
theorem dX9_isKind_6 : decode cX9_isKind 6 = .ok (.iload_n 0, 1) := by decide +kernel
theorem dX9_isKind_7 : decode cX9_isKind 7 = .ok (.bipush 119, 2) := by decide +kernel
theorem dX9_isKind_9 : decode cX9_isKind 9 = .ok (.if_icmp .eq 9, 3) := by decide +kernel
theorem dX9_isKind_12 : decode cX9_isKind 12 = .ok (.iload_n 0, 1) := by decide +kernel
theorem dX9_isKind_13 : decode cX9_isKind 13 = .ok (.bipush 120, 2) := by decide +kernel
theorem dX9_isKind_15 : decode cX9_isKind 15 = .ok (.if_icmp .ne 7, 3) := by decide +kernel
theorem dX9_isKind_22 : decode cX9_isKind 22 = .ok (.iconst 0, 1) := by decide +kernel
theorem dX9_isCell_0 : decode cX9_isCell 0 = .ok (.iload_n 1, 1) := by decide +kernel
theorem dX9_isCell_1 : decode cX9_isCell 1 = .ok (.i2l, 1) := by decide +kernel
theorem dX9_isCell_2 : decode cX9_isCell 2 = .ok (.lconst 0, 1) := by decide +kernel
theorem dX9_isCell_3 : decode cX9_isCell 3 = .ok (.aload_n 0, 1) := by decide +kernel
theorem dX9_isCell_4 : decode cX9_isCell 4 = .ok (.getfield 19, 3) := by decide +kernel
theorem dX9_isCell_7 : decode cX9_isCell 7 = .ok (.arraylength, 1) := by decide +kernel
theorem dX9_isCell_8 : decode cX9_isCell 8 = .ok (.iconst 1, 1) := by decide +kernel
theorem dX9_isCell_9 : decode cX9_isCell 9 = .ok (.isub, 1) := by decide +kernel
theorem dX9_isCell_10 : decode cX9_isCell 10 = .ok (.i2l, 1) := by decide +kernel
theorem dX9_isCell_11 : decode cX9_isCell 11 = .ok (.invokestatic 72, 3) := by decide +kernel
theorem dX9_isCell_14 : decode cX9_isCell 14 = .ok (.ireturn, 1) := by decide +kernel
theorem dX9_isControl_0 : decode cX9_isControl 0 = .ok (.iload_n 1, 1) := by decide +kernel
theorem dX9_isControl_1 : decode cX9_isControl 1 = .ok (.i2l, 1) := by decide +kernel
theorem dX9_isControl_2 : decode cX9_isControl 2 = .ok (.lconst 0, 1) := by decide +kernel
theorem dX9_isControl_3 : decode cX9_isControl 3 = .ok (.aload_n 0, 1) := by decide +kernel
theorem dX9_isControl_4 : decode cX9_isControl 4 = .ok (.getfield 39, 3) := by decide +kernel
theorem dX9_isControl_7 : decode cX9_isControl 7 = .ok (.invokevirtual 135, 3) := by decide +kernel
theorem dX9_isControl_10 : decode cX9_isControl 10 = .ok (.iconst 1, 1) := by decide +kernel
theorem dX9_isControl_11 : decode cX9_isControl 11 = .ok (.isub, 1) := by decide +kernel
theorem dX9_isControl_12 : decode cX9_isControl 12 = .ok (.i2l, 1) := by decide +kernel
theorem dX9_isControl_13 : decode cX9_isControl 13 = .ok (.invokestatic 72, 3) := by decide +kernel
theorem dX9_isControl_16 : decode cX9_isControl 16 = .ok (.ireturn, 1) := by decide +kernel
theorem dX9_isCourse_0 : decode cX9_isCourse 0 = .ok (.iload_n 1, 1) := by decide +kernel
theorem dX9_isCourse_1 : decode cX9_isCourse 1 = .ok (.i2l, 1) := by decide +kernel
theorem dX9_isCourse_2 : decode cX9_isCourse 2 = .ok (.lconst 0, 1) := by decide +kernel
theorem dX9_isCourse_3 : decode cX9_isCourse 3 = .ok (.aload_n 0, 1) := by decide +kernel
theorem dX9_isCourse_4 : decode cX9_isCourse 4 = .ok (.getfield 43, 3) := by decide +kernel
theorem dX9_isCourse_7 : decode cX9_isCourse 7 = .ok (.invokevirtual 135, 3) := by decide +kernel
theorem dX9_isCourse_10 : decode cX9_isCourse 10 = .ok (.iconst 1, 1) := by decide +kernel
theorem dX9_isCourse_11 : decode cX9_isCourse 11 = .ok (.isub, 1) := by decide +kernel
theorem dX9_isCourse_12 : decode cX9_isCourse 12 = .ok (.i2l, 1) := by decide +kernel
theorem dX9_isCourse_13 : decode cX9_isCourse 13 = .ok (.invokestatic 72, 3) := by decide +kernel
theorem dX9_isCourse_16 : decode cX9_isCourse 16 = .ok (.ireturn, 1) := by decide +kernel
theorem dX9_isRunner_0 : decode cX9_isRunner 0 = .ok (.iload_n 1, 1) := by decide +kernel
theorem dX9_isRunner_1 : decode cX9_isRunner 1 = .ok (.i2l, 1) := by decide +kernel
theorem dX9_isRunner_2 : decode cX9_isRunner 2 = .ok (.lconst 0, 1) := by decide +kernel
theorem dX9_isRunner_3 : decode cX9_isRunner 3 = .ok (.aload_n 0, 1) := by decide +kernel
theorem dX9_isRunner_4 : decode cX9_isRunner 4 = .ok (.getfield 46, 3) := by decide +kernel
theorem dX9_isRunner_7 : decode cX9_isRunner 7 = .ok (.invokevirtual 135, 3) := by decide +kernel
theorem dX9_isRunner_10 : decode cX9_isRunner 10 = .ok (.iconst 1, 1) := by decide +kernel
theorem dX9_isRunner_11 : decode cX9_isRunner 11 = .ok (.isub, 1) := by decide +kernel
theorem dX9_isRunner_12 : decode cX9_isRunner 12 = .ok (.i2l, 1) := by decide +kernel
theorem dX9_isRunner_13 : decode cX9_isRunner 13 = .ok (.invokestatic 72, 3) := by decide +kernel
theorem dX9_isRunner_16 : decode cX9_isRunner 16 = .ok (.ireturn, 1) := by decide +kernel
/-! the reference: lists, ranges, what it tells -/
section MC5
variable {p : Program} {l : Launch} {e : Env} {R : Room} {s : State} {m : MethodId} {args : Array Value} {below : List Frame} {meth : Method} {c : Code} {H : Heap} {locs : List Loc} {cells slots : Nat} {Q : State → Prop}
variable {pc : Nat} {ls : Array Slot} {rest st0 : List Value} {a : Array Value} {A : Nat → Prop} {mc ms : Nat} {D : va_G} {tys : List (ClassId × FieldType)} {wl wc wr : va_W} {S : Type} {w1 : S → va_W} {t1 : S → List (ClassId × FieldType)}
theorem mc5_i {post : Int32 → S → Prop} (hr : va_Run5 p l e R s m args below meth c H locs cells slots mc ms (F0 m pc ls st0) rest (va_Qi post (qb D (va_A wc H.size) w1 t1) (va_A wc H.size) a) (va_A wc H.size))
    (hP : va_P D vwCl wl H) (hD : va_D A wl) (hK : va_K D vwCl tys s) (hS : va_S A s.heap H locs) (hA : ∀ q, s.heap.size ≤ q → A q) (isC isR : List Nat) (hC : isC.map (fun i => wl[i]?) = wc.map some) (hR : isR.map (fun i => wl[i]?) = wr.map some) (hn : va_nd isR = true) (hdis : ∀ i ∈ isR, i ∉ isC)
    (kk : ∀ (r : Int32) (u : S) (H1 : Heap) (locs1 : List Loc), post r u → va_P D vwCl (wr ++ w1 u) H1 → va_D A (wr ++ w1 u) → va_K D vwCl (tys ++ t1 u) s → va_S A s.heap H1 locs1 → W p l e R s m args below meth c H1 locs1 (cells + mc) (slots + ms) Q (F0 m (pc + 5) ls (.int r :: rest))) : W p l e R s m args below meth c H locs cells slots Q (F0 m pc ls st0) := by
  have hFc := va_free (wc := wc) hD hS hA isC hC
  refine va_callFi hr hS (fun q _ h => hFc q h) hFc (fun r u t H1 locs1 ht hvm hw hB hz1 hk1 hS1 => ?_)
  obtain ⟨k1, k2, k3⟩ := mc_join hP hD hK hS hA isC isR hC hR hn hdis ht hvm hB hk1
  exact kk r u H1 locs1 hw k1 k2 k3 hS1
theorem mc5_q {post : Option Nat → S → Prop} (hr : va_Run5 p l e R s m args below meth c H locs cells slots mc ms (F0 m pc ls st0) rest (va_Qq post (qb D (va_A wc H.size) w1 t1) (va_A wc H.size) a) (va_A wc H.size))
    (hP : va_P D vwCl wl H) (hD : va_D A wl) (hK : va_K D vwCl tys s) (hS : va_S A s.heap H locs) (hA : ∀ q, s.heap.size ≤ q → A q) (isC isR : List Nat) (hC : isC.map (fun i => wl[i]?) = wc.map some) (hR : isR.map (fun i => wl[i]?) = wr.map some) (hn : va_nd isR = true) (hdis : ∀ i ∈ isR, i ∉ isC)
    (kk : ∀ (r : Option Nat) (u : S) (H1 : Heap) (locs1 : List Loc), post r u → va_P D vwCl (wr ++ w1 u) H1 → va_D A (wr ++ w1 u) → va_K D vwCl (tys ++ t1 u) s → va_S A s.heap H1 locs1 → W p l e R s m args below meth c H1 locs1 (cells + mc) (slots + ms) Q (F0 m (pc + 5) ls (va_rf r :: rest))) : W p l e R s m args below meth c H locs cells slots Q (F0 m pc ls st0) := by
  have hFc := va_free (wc := wc) hD hS hA isC hC
  refine va_callFq hr hS (fun q _ h => hFc q h) hFc (fun r u t H1 locs1 ht hvm hw hB hz1 hk1 hS1 => ?_)
  obtain ⟨k1, k2, k3⟩ := mc_join hP hD hK hS hA isC isR hC hR hn hdis ht hvm hB hk1
  exact kk r u H1 locs1 hw k1 k2 k3 hS1
end MC5
theorem in_lt {v lo hi : Int32} {l1 : Int64} (hl : lo.toInt64 = l1) (h : lg_cmp v.toInt64 l1 < 0) : (if inR v lo hi then (1 : Int32) else 0) = 0 := if_neg (fun q => q.1 (by rw [lg_cmp_lt, ← hl, fa_wide_lt] at h; exact h))
theorem in_gt {v lo hi : Int32} {h1 : Int64} (hh : hi.toInt64 = h1) (h : 0 < lg_cmp v.toInt64 h1) : (if inR v lo hi then (1 : Int32) else 0) = 0 := if_neg (fun q => by rw [lg_cmp_gt, ← hh, fa_wide_lt] at h; exact (fa_of_lt h).2.1 q.2)
theorem in_ok {v lo hi : Int32} {l1 h1 : Int64} (hl : lo.toInt64 = l1) (hh : hi.toInt64 = h1) (h : ¬ lg_cmp v.toInt64 l1 < 0) (g : ¬ 0 < lg_cmp v.toInt64 h1) : (if inR v lo hi then (1 : Int32) else 0) = 1 := by
  rw [lg_cmp_lt, ← hl, fa_wide_lt] at h
  rw [lg_cmp_gt, ← hh, fa_wide_lt] at g
  exact if_pos ⟨h, fa_of_nlt g⟩
theorem nar01 (c : Prop) [Decidable c] : narrow .boolean (.int (if c then 1 else 0)) = .int (if c then 1 else 0) := by split <;> rfl
theorem in_24 (v : Int32) : (if inR v 0 24 then (1 : Int32) else 0) = if inI v 25 then 1 else 0 := by
  have h : inR v 0 24 ↔ inI v 25 := by
    unfold inR inI
    rw [fa_lt, fa_le, fa_lt v 25, show (24 : Int32).toInt = 24 from by decide, show (25 : Int32).toInt = 25 from by decide]
    omega
  by_cases g : inI v 25
  · rw [if_pos g, if_pos (h.mpr g)]
  · rw [if_neg g, if_neg (fun q => g (h.mp q))]
theorem in_none (v : Int32) : (if inR v 0 (-1) then (1 : Int32) else 0) = 0 := if_neg (fun q => by
  have a := q.1
  have b := q.2
  rw [fa_lt, show (0 : Int32).toInt = 0 from by decide] at a
  rw [fa_le, show (-1 : Int32).toInt = -1 from by decide] at b
  omega)
theorem ite01_0 {c : Prop} [Decidable c] (h : (if c then (1 : Int32) else 0) = 0) : ¬ c := fun g => by rw [if_pos g] at h; exact absurd h (by decide)
theorem ite01_1 {c : Prop} [Decidable c] (h : ¬ (if c then (1 : Int32) else 0) = 0) : c := Decidable.byContradiction fun g => h (if_neg g)
theorem fill_succL (v : Int64) (f : Nat → Int64) (i : Nat) : vp_updL (fa_fill (fun _ => v) f i) i v = fa_fill (fun _ => v) f (i + 1) := by
  funext j
  unfold vp_updL fa_fill
  by_cases h : j = i
  · subst h; simp
  · by_cases g : j < i
    · simp [h, g, Nat.lt_succ_of_lt g]
    · have g2 : ¬ j < i + 1 := by omega
      simp [h, g, g2]
def fK5 : Nat → Int32 := fun j => if j < 25 then 46 else 0
def us_c_acInit : List Cond := .code yJxa1e45_init_da8c8 cJxa1e45_init_da8c8 1 none :: (([.methodLink RJxa1e45 1 objectInit, .instanceMethod objectInit, .code objectInit ⟨#[0xb1]⟩ 1 none] : List Cond) ++ ([]))
theorem gw_c_acInit : ∀ w ∈ us_c_acInit, goodWord w = true := gw_cons rfl (gw_app (by decide +kernel) (fun _ h => nomatch h))
set_option maxHeartbeats 4000000 in
set_option maxRecDepth 100000 in
/-- AbstractCollection begins -/
theorem c_acInit (l : Launch) (hst : l.stackTraces = false) (D : va_G) (b : Nat) (sz : Nat) : Met l yJxa1e45_init_da8c8 us_c_acInit { frames := 1, cells := 0, slots := 0, locals := 15 } (pw D [.ref b] [] [] sz) (va_Qv (fun _ : Unit => True) (qb D (va_A [] sz) (fun _ : Unit => []) (fun _ : Unit => ([] : List (ClassId × FieldType)))) (va_A [] sz)) 0 0 (va_A [] sz) := by
  refine op_M (Qc := fun A => (va_Qv (fun _ : Unit => True) (qb D A (fun _ : Unit => []) (fun _ : Unit => ([] : List (ClassId × FieldType)))) A)) (by decide +kernel) rfl (Nat.le_of_ble_eq_true rfl) ?_
  intro p e s m args below meth c A ls hx hb hr hml hts hown hlocks hmn htab hA hD hS hP hK hE hsz hl
  have hown : s.vm.findClass RJxa1e45 = some m.cls := hown
  have hl : lv_has ls 1 [(0, .ref b)] := hl
  have hw_0 := hts (.methodLink RJxa1e45 1 objectInit) (List.mem_cons_of_mem _ (List.mem_append_left _ (List.mem_of_getElem? (i := 0) rfl)))
  have hw_1 := hts (.instanceMethod objectInit) (List.mem_cons_of_mem _ (List.mem_append_left _ (List.mem_of_getElem? (i := 1) rfl)))
  have hw_2 := hts (.code objectInit ⟨#[0xb1]⟩ 1 none) (List.mem_cons_of_mem _ (List.mem_append_left _ (List.mem_of_getElem? (i := 2) rfl)))
  refine lv_aload_n hx hb dJxa1e45_init_da8c8_0 rfl (lv_at hl 0 rfl) ?_
  refine W.objInit hx hb hown hw_0 hw_1 hw_2 rfl (by rw [hml]; exact hl.1) rfl dJxa1e45_init_da8c8_1 (Nat.le_of_ble_eq_true rfl) (Nat.le_of_ble_eq_true rfl) ?_
  refine W.eq (g2 := F0 m 4 ls []) rfl ?_
  exact mr_v hx hb hr () (trivial) (hP.sub [] rfl) (hK.sub [] rfl) (hD.sub [] (by decide) rfl) hS (Nat.le_of_ble_eq_true rfl) (Nat.le_of_ble_eq_true rfl) hlocks dJxa1e45_init_da8c8_4

def us_c_aliInit : List Cond := .code yJxc12de_init_da8c8 cJxc12de_init_da8c8 1 none :: (([.initialized RJxa1e45, .methodLink RJxc12de 1 yJxa1e45_init_da8c8, .instanceMethod yJxa1e45_init_da8c8, .fieldLink RJxc12de 7 "java/util/AbstractList" "modCount" "I"] : List Cond) ++ (us_c_acInit ++ (wsJx4a65c0 ++ ([]))))
theorem gw_c_aliInit : ∀ w ∈ us_c_aliInit, goodWord w = true := gw_cons rfl (gw_app (by decide +kernel) (gw_app gw_c_acInit (gw_app gwf_Jx4a65c (fun _ h => nomatch h))))
set_option maxHeartbeats 4000000 in
set_option maxRecDepth 100000 in
/-- AbstractList begins -/
theorem c_aliInit (l : Launch) (hst : l.stackTraces = false) (D : va_G) (b : Nat) (v : Int32) (n : Int32) (sz : Nat) : Met l yJxc12de_init_da8c8 us_c_aliInit { frames := 2, cells := 0, slots := 0, locals := 35 } (pw D [.ref b] [] [(b, .inr (5, [.int v, .null, .int n]))] sz) (va_Qv (fun _ : Unit => True) (qb D (va_A [(b, .inr (5, [.int v, .null, .int n]))] sz) (fun _ : Unit => [(b, .inr (5, [.int 0, .null, .int n]))]) (fun _ : Unit => ([] : List (ClassId × FieldType)))) (va_A [(b, .inr (5, [.int v, .null, .int n]))] sz)) 0 0 (va_A [(b, .inr (5, [.int v, .null, .int n]))] sz) := by
  refine op_M (Qc := fun A => (va_Qv (fun _ : Unit => True) (qb D A (fun _ : Unit => [(b, .inr (5, [.int 0, .null, .int n]))]) (fun _ : Unit => ([] : List (ClassId × FieldType)))) A)) (by decide +kernel) rfl (Nat.le_of_ble_eq_true rfl) ?_
  intro p e s m args below meth c A ls hx hb hr hml hts hown hlocks hmn htab hA hD hS hP hK hE hsz hl
  have hown : s.vm.findClass RJxc12de = some m.cls := hown
  have hl : lv_has ls 1 [(0, .ref b)] := hl
  have hw_0 := hts (.initialized RJxa1e45) (List.mem_cons_of_mem _ (List.mem_append_left _ (List.mem_of_getElem? (i := 0) rfl)))
  have hw_1 := hts (.methodLink RJxc12de 1 yJxa1e45_init_da8c8) (List.mem_cons_of_mem _ (List.mem_append_left _ (List.mem_of_getElem? (i := 1) rfl)))
  have hw_2 := hts (.instanceMethod yJxa1e45_init_da8c8) (List.mem_cons_of_mem _ (List.mem_append_left _ (List.mem_of_getElem? (i := 2) rfl)))
  have hw_3 := hts (.fieldLink RJxc12de 7 "java/util/AbstractList" "modCount" "I") (List.mem_cons_of_mem _ (List.mem_append_left _ (List.mem_of_getElem? (i := 3) rfl)))
  have hb_0 : ∀ w ∈ us_c_acInit, w ∈ us_c_aliInit := fun w h => List.mem_cons_of_mem _ (List.mem_append_right _ (List.mem_append_left _ h))
  have hb_1 : ∀ w ∈ wsJx4a65c0, w ∈ us_c_aliInit := fun w h => List.mem_cons_of_mem _ (List.mem_append_right _ (List.mem_append_right _ (List.mem_append_left _ h)))
  refine lv_aload_n hx hb dJxc12de_init_da8c8_0 rfl (lv_at hl 0 rfl) ?_
  refine mc_v (wr := [(b, .inr (5, [.int v, .null, .int n]))]) (va_runI (As := []) (rest := []) ⟨hx, hb, hml, hown, hts⟩ (c_acInit l hst D b s.heap.size) (cwI 0 hts (goodIn_sub hb_0 (List.all_eq_true.mpr gw_c_acInit)) rfl rfl rfl hw_0 hw_1 hw_2 rfl (by decide +kernel) ⟨Nat.le_of_ble_eq_true rfl, Nat.le_of_ble_eq_true rfl⟩) (pr_S (As := [.ref b]) hP hD hK hS hA hE [] [] rfl rfl rfl) rfl rfl hl.1 rfl (lv_room (Nat.le_of_ble_eq_true rfl)) dJxc12de_init_da8c8_1 ⟨Nat.le_of_ble_eq_true rfl, Nat.le_of_ble_eq_true rfl⟩) hP hD hK hS hA [] [0] rfl rfl (by decide) (by decide) (fun _ H locs w1 hP hD hK hS => ?_)
  have hP : va_P D vwCl [(b, .inr (5, [.int v, .null, .int n]))] H := hP
  have hD : va_D A [(b, .inr (5, [.int v, .null, .int n]))] := hD
  have hK : va_K D vwCl [] s := hK
  refine lv_aload_n hx hb dJxc12de_init_da8c8_4 rfl (lv_at hl 0 rfl) ?_
  refine lv_iconst (v := 0) hx hb dJxc12de_init_da8c8_5 (by decide) ?_
  refine va_put (D := D) (ci := 5) (v := .int 0) (ty := .int) (C := RJx4a65c) (T := TJx4a65c) (N := 3) hx hb hts hb_1 tyJx4a65c tyJx4a65c_ok nmJx4a65c hown hK hP hD hS 0 rfl rfl 0 (by decide) hw_3 (fun _ h9 => h9) rfl (by decide +kernel) rfl rfl (Nat.le_of_ble_eq_true rfl) dJxc12de_init_da8c8_6 (fun H locs hP hD hS => ?_)
  have hP : va_P D vwCl [(b, .inr (5, [.int 0, .null, .int n]))] H := hP
  have hD : va_D A [(b, .inr (5, [.int 0, .null, .int n]))] := hD
  exact mr_v hx hb hr () (trivial) (hP.sub [0] rfl) (hK.sub [] rfl) (hD.sub [0] (by decide) rfl) hS (Nat.le_of_ble_eq_true rfl) (Nat.le_of_ble_eq_true rfl) hlocks dJxc12de_init_da8c8_9

def us_c_alInit : List Cond := .code yJx4a65c_init_da8c8 cJx4a65c_init_da8c8 1 none :: (([.initialized RJxc12de, .methodLink RJx4a65c 1 yJxc12de_init_da8c8, .instanceMethod yJxc12de_init_da8c8, .fieldLink RJx4a65c 39 "java/util/ArrayList" "DEFAULTCAPACITY_EMPTY_ELEMENTDATA" "[Ljava/lang/Object;", .fieldLink RJx4a65c 9 "java/util/ArrayList" "elementData" "[Ljava/lang/Object;"] : List Cond) ++ (us_c_aliInit ++ (wsJx4a65c0 ++ ([]))))
theorem gw_c_alInit : ∀ w ∈ us_c_alInit, goodWord w = true := gw_cons rfl (gw_app (by decide +kernel) (gw_app gw_c_aliInit (gw_app gwf_Jx4a65c (fun _ h => nomatch h))))
set_option maxHeartbeats 4000000 in
set_option maxRecDepth 100000 in
/-- a new list -/
theorem c_alInit (l : Launch) (hst : l.stackTraces = false) (D : va_G) (b : Nat) (v : Int32) (n : Int32) (sz : Nat) : Met l yJx4a65c_init_da8c8 us_c_alInit { frames := 3, cells := 0, slots := 0, locals := 55 } (pw D [.ref b] [] [(b, .inr (5, [.int v, .null, .int n]))] sz) (va_Qv (fun _ : Unit => True) (qb D (va_A [(b, .inr (5, [.int v, .null, .int n]))] sz) (fun _ : Unit => [(b, .inr (5, [.int 0, .ref (D.1 1000), .int n]))]) (fun _ : Unit => ([] : List (ClassId × FieldType)))) (va_A [(b, .inr (5, [.int v, .null, .int n]))] sz)) 0 0 (va_A [(b, .inr (5, [.int v, .null, .int n]))] sz) := by
  refine op_M (Qc := fun A => (va_Qv (fun _ : Unit => True) (qb D A (fun _ : Unit => [(b, .inr (5, [.int 0, .ref (D.1 1000), .int n]))]) (fun _ : Unit => ([] : List (ClassId × FieldType)))) A)) (by decide +kernel) rfl (Nat.le_of_ble_eq_true rfl) ?_
  intro p e s m args below meth c A ls hx hb hr hml hts hown hlocks hmn htab hA hD hS hP hK hE hsz hl
  have hown : s.vm.findClass RJx4a65c = some m.cls := hown
  have hl : lv_has ls 1 [(0, .ref b)] := hl
  have hw_0 := hts (.initialized RJxc12de) (List.mem_cons_of_mem _ (List.mem_append_left _ (List.mem_of_getElem? (i := 0) rfl)))
  have hw_1 := hts (.methodLink RJx4a65c 1 yJxc12de_init_da8c8) (List.mem_cons_of_mem _ (List.mem_append_left _ (List.mem_of_getElem? (i := 1) rfl)))
  have hw_2 := hts (.instanceMethod yJxc12de_init_da8c8) (List.mem_cons_of_mem _ (List.mem_append_left _ (List.mem_of_getElem? (i := 2) rfl)))
  have hw_3 := hts (.fieldLink RJx4a65c 39 "java/util/ArrayList" "DEFAULTCAPACITY_EMPTY_ELEMENTDATA" "[Ljava/lang/Object;") (List.mem_cons_of_mem _ (List.mem_append_left _ (List.mem_of_getElem? (i := 3) rfl)))
  have hw_4 := hts (.fieldLink RJx4a65c 9 "java/util/ArrayList" "elementData" "[Ljava/lang/Object;") (List.mem_cons_of_mem _ (List.mem_append_left _ (List.mem_of_getElem? (i := 4) rfl)))
  have hb_0 : ∀ w ∈ us_c_aliInit, w ∈ us_c_alInit := fun w h => List.mem_cons_of_mem _ (List.mem_append_right _ (List.mem_append_left _ h))
  have hb_1 : ∀ w ∈ wsJx4a65c0, w ∈ us_c_alInit := fun w h => List.mem_cons_of_mem _ (List.mem_append_right _ (List.mem_append_right _ (List.mem_append_left _ h)))
  refine lv_aload_n hx hb dJx4a65c_init_da8c8_0 rfl (lv_at hl 0 rfl) ?_
  refine mc_v (wr := []) (va_runI (As := []) (rest := []) ⟨hx, hb, hml, hown, hts⟩ (c_aliInit l hst D b v n s.heap.size) (cwI 0 hts (goodIn_sub hb_0 (List.all_eq_true.mpr gw_c_aliInit)) rfl rfl rfl hw_0 hw_1 hw_2 rfl (by decide +kernel) ⟨Nat.le_of_ble_eq_true rfl, Nat.le_of_ble_eq_true rfl⟩) (pr_S (As := [.ref b]) hP hD hK hS hA hE [0] [] rfl rfl rfl) rfl rfl hl.1 rfl (lv_room (Nat.le_of_ble_eq_true rfl)) dJx4a65c_init_da8c8_1 ⟨Nat.le_of_ble_eq_true rfl, Nat.le_of_ble_eq_true rfl⟩) hP hD hK hS hA [0] [] rfl rfl (by decide) (by decide) (fun _ H locs w1 hP hD hK hS => ?_)
  have hP : va_P D vwCl [(b, .inr (5, [.int 0, .null, .int n]))] H := hP
  have hD : va_D A [(b, .inr (5, [.int 0, .null, .int n]))] := hD
  have hK : va_K D vwCl [] s := hK
  refine lv_aload_n hx hb dJx4a65c_init_da8c8_4 rfl (lv_at hl 0 rfl) ?_
  refine va_gets hx hb hE.2.2.2.2.2.2.1 hS hown hw_3 (fun _ h9 => h9) dJx4a65c_init_da8c8_5 ?_
  refine va_put (D := D) (ci := 5) (v := .ref (D.1 1000)) (ty := (.array (.object "java/lang/Object"))) (C := RJx4a65c) (T := TJx4a65c) (N := 3) hx hb hts hb_1 tyJx4a65c tyJx4a65c_ok nmJx4a65c hown hK hP hD hS 0 rfl rfl 1 (by decide) hw_4 (fun _ h9 => h9) rfl (by decide +kernel) rfl rfl (Nat.le_of_ble_eq_true rfl) dJx4a65c_init_da8c8_8 (fun H locs hP hD hS => ?_)
  have hP : va_P D vwCl [(b, .inr (5, [.int 0, .ref (D.1 1000), .int n]))] H := hP
  have hD : va_D A [(b, .inr (5, [.int 0, .ref (D.1 1000), .int n]))] := hD
  exact mr_v hx hb hr () (trivial) (hP.sub [0] rfl) (hK.sub [] rfl) (hD.sub [0] (by decide) rfl) hS (Nat.le_of_ble_eq_true rfl) (Nat.le_of_ble_eq_true rfl) hlocks dJx4a65c_init_da8c8_11

def us_c_alClear : List Cond := .code yJx4a65c_clear_da8c8 cJx4a65c_clear_da8c8 4 none :: (([.sameField "java/util/ArrayList" "java/util/AbstractList" "modCount" "I", .fieldLink RJx4a65c 63 "java/util/ArrayList" "modCount" "I", .fieldLink RJx4a65c 9 "java/util/ArrayList" "elementData" "[Ljava/lang/Object;", .fieldLink RJx4a65c 48 "java/util/ArrayList" "size" "I"] : List Cond) ++ (wsJx4a65c0 ++ ([])))
theorem gw_c_alClear : ∀ w ∈ us_c_alClear, goodWord w = true := gw_cons rfl (gw_app (by decide +kernel) (gw_app gwf_Jx4a65c (fun _ h => nomatch h)))
set_option maxHeartbeats 4000000 in
set_option maxRecDepth 100000 in
/-- an empty list is cleared -/
theorem c_alClear (l : Launch) (hst : l.stackTraces = false) (D : va_G) (b : Nat) (v : Int32) (e0 : Nat) (sz : Nat) : Met l yJx4a65c_clear_da8c8 us_c_alClear { frames := 0, cells := 0, slots := 0, locals := 0 } (pw D [.ref b] [] [(b, .inr (5, [.int v, .ref e0, .int 0]))] sz) (va_Qv (fun _ : Unit => True) (qb D (va_A [(b, .inr (5, [.int v, .ref e0, .int 0]))] sz) (fun _ : Unit => [(b, .inr (5, [.int (v + 1), .ref e0, .int 0]))]) (fun _ : Unit => ([] : List (ClassId × FieldType)))) (va_A [(b, .inr (5, [.int v, .ref e0, .int 0]))] sz)) 0 0 (va_A [(b, .inr (5, [.int v, .ref e0, .int 0]))] sz) := by
  refine op_M (Qc := fun A => (va_Qv (fun _ : Unit => True) (qb D A (fun _ : Unit => [(b, .inr (5, [.int (v + 1), .ref e0, .int 0]))]) (fun _ : Unit => ([] : List (ClassId × FieldType)))) A)) (by decide +kernel) rfl (Nat.le_of_ble_eq_true rfl) ?_
  intro p e s m args below meth c A ls hx hb hr hml hts hown hlocks hmn htab hA hD hS hP hK hE hsz hl
  have hown : s.vm.findClass RJx4a65c = some m.cls := hown
  have hl : lv_has ls 4 [(0, .ref b)] := hl
  have hw_0 := hts (.sameField "java/util/ArrayList" "java/util/AbstractList" "modCount" "I") (List.mem_cons_of_mem _ (List.mem_append_left _ (List.mem_of_getElem? (i := 0) rfl)))
  have hw_1 := hts (.fieldLink RJx4a65c 63 "java/util/ArrayList" "modCount" "I") (List.mem_cons_of_mem _ (List.mem_append_left _ (List.mem_of_getElem? (i := 1) rfl)))
  have hw_2 := hts (.fieldLink RJx4a65c 9 "java/util/ArrayList" "elementData" "[Ljava/lang/Object;") (List.mem_cons_of_mem _ (List.mem_append_left _ (List.mem_of_getElem? (i := 2) rfl)))
  have hw_3 := hts (.fieldLink RJx4a65c 48 "java/util/ArrayList" "size" "I") (List.mem_cons_of_mem _ (List.mem_append_left _ (List.mem_of_getElem? (i := 3) rfl)))
  have hb_0 : ∀ w ∈ wsJx4a65c0, w ∈ us_c_alClear := fun w h => List.mem_cons_of_mem _ (List.mem_append_right _ (List.mem_append_left _ h))
  refine lv_aload_n hx hb dJx4a65c_clear_da8c8_0 rfl (lv_at hl 0 rfl) ?_
  refine lv_dup hx hb dJx4a65c_clear_da8c8_1 rfl ?_
  refine va_get (D := D) (ci := 5) (v := .int v) (C := RJx4a65c) (T := TJx4a65c) (N := 3) hx hb hts hb_0 hown hK hP 0 rfl rfl 0 (by decide) hw_1 (fun x9 h9 => u_same hw_0 x9 h9) rfl dJx4a65c_clear_da8c8_2 ?_
  refine lv_iconst (v := 1) hx hb dJx4a65c_clear_da8c8_5 (by decide) ?_
  refine lv_iadd hx hb dJx4a65c_clear_da8c8_6 ?_
  refine lv_topi (fun x1 e1 => ?_)
  obtain rfl : x1 = v + 1 := e1
  refine va_put (D := D) (ci := 5) (v := .int (v + 1)) (ty := .int) (C := RJx4a65c) (T := TJx4a65c) (N := 3) hx hb hts hb_0 tyJx4a65c tyJx4a65c_ok nmJx4a65c hown hK hP hD hS 0 rfl rfl 0 (by decide) hw_1 (fun x9 h9 => u_same hw_0 x9 h9) rfl (by decide +kernel) rfl rfl (Nat.le_of_ble_eq_true rfl) dJx4a65c_clear_da8c8_7 (fun H locs hP hD hS => ?_)
  have hP : va_P D vwCl [(b, .inr (5, [.int (v + 1), .ref e0, .int 0]))] H := hP
  have hD : va_D A [(b, .inr (5, [.int (v + 1), .ref e0, .int 0]))] := hD
  refine lv_aload_n hx hb dJx4a65c_clear_da8c8_10 rfl (lv_at hl 0 rfl) ?_
  refine va_get (D := D) (ci := 5) (v := .ref e0) (C := RJx4a65c) (T := TJx4a65c) (N := 3) hx hb hts hb_0 hown hK hP 0 rfl rfl 1 (by decide) hw_2 (fun _ h9 => h9) rfl dJx4a65c_clear_da8c8_11 ?_
  refine lv_astore_n (lv' := [(1, .ref e0), (0, .ref b)]) hx hb dJx4a65c_clear_da8c8_14 rfl hl (by decide) rfl (fun ls hl => ?_)
  refine lv_aload_n hx hb dJx4a65c_clear_da8c8_15 rfl (lv_at hl 1 rfl) ?_
  refine va_get (D := D) (ci := 5) (v := .int 0) (C := RJx4a65c) (T := TJx4a65c) (N := 3) hx hb hts hb_0 hown hK hP 0 rfl rfl 2 (by decide) hw_3 (fun _ h9 => h9) rfl dJx4a65c_clear_da8c8_16 ?_
  refine lv_istore_n (lv' := [(2, .int 0), (1, .ref e0), (0, .ref b)]) hx hb dJx4a65c_clear_da8c8_19 rfl hl (by decide) rfl (fun ls hl => ?_)
  refine lv_aload_n hx hb dJx4a65c_clear_da8c8_20 rfl (lv_at hl 2 rfl) ?_
  refine lv_iconst (v := 0) hx hb dJx4a65c_clear_da8c8_21 (by decide) ?_
  refine lv_dup_x1 hx hb dJx4a65c_clear_da8c8_22 rfl rfl ?_
  refine va_put (D := D) (ci := 5) (v := .int 0) (ty := .int) (C := RJx4a65c) (T := TJx4a65c) (N := 3) hx hb hts hb_0 tyJx4a65c tyJx4a65c_ok nmJx4a65c hown hK hP hD hS 0 rfl rfl 2 (by decide) hw_3 (fun _ h9 => h9) rfl (by decide +kernel) rfl rfl (Nat.le_of_ble_eq_true rfl) dJx4a65c_clear_da8c8_23 (fun H locs hP hD hS => ?_)
  have hP : va_P D vwCl [(b, .inr (5, [.int (v + 1), .ref e0, .int 0]))] H := hP
  have hD : va_D A [(b, .inr (5, [.int (v + 1), .ref e0, .int 0]))] := hD
  refine lv_istore_n (lv' := [(3, .int 0), (2, .int 0), (1, .ref e0), (0, .ref b)]) hx hb dJx4a65c_clear_da8c8_26 rfl hl (by decide) rfl (fun ls hl => ?_)
  refine lv_iload_n hx hb dJx4a65c_clear_da8c8_27 rfl (lv_at hl 0 rfl) ?_
  refine lv_iload_n hx hb dJx4a65c_clear_da8c8_28 rfl (lv_at hl 1 rfl) ?_
  refine lv_icmp_ge (tgt := 42) hx hb dJx4a65c_clear_da8c8_29 (by decide) (fun h2 => ?_) (fun h2 => absurd (by decide) h2)
  exact mr_v hx hb hr () (trivial) (hP.sub [0] rfl) (hK.sub [] rfl) (hD.sub [0] (by decide) rfl) hS (Nat.le_of_ble_eq_true rfl) (Nat.le_of_ble_eq_true rfl) hlocks dJx4a65c_clear_da8c8_42

def us_c_alSize : List Cond := .code yJx4a65c_size_8abf5 cJx4a65c_size_8abf5 1 (some .int) :: (([.fieldLink RJx4a65c 48 "java/util/ArrayList" "size" "I"] : List Cond) ++ (wsJx4a65c0 ++ ([])))
theorem gw_c_alSize : ∀ w ∈ us_c_alSize, goodWord w = true := gw_cons rfl (gw_app (by decide +kernel) (gw_app gwf_Jx4a65c (fun _ h => nomatch h)))
set_option maxHeartbeats 4000000 in
set_option maxRecDepth 100000 in
/-- size -/
theorem c_alSize (l : Launch) (hst : l.stackTraces = false) (D : va_G) (b : Nat) (v : Int32) (e0 : Nat) (n : Int32) (sz : Nat) : Met l yJx4a65c_size_8abf5 us_c_alSize { frames := 0, cells := 0, slots := 0, locals := 0 } (pw D [.ref b] [] [(b, .inr (5, [.int v, .ref e0, .int n]))] sz) (va_Qi (fun (r : Int32) (_ : Unit) => r = n) (qb D (va_A [(b, .inr (5, [.int v, .ref e0, .int n]))] sz) (fun _ : Unit => [(b, .inr (5, [.int v, .ref e0, .int n]))]) (fun _ : Unit => ([] : List (ClassId × FieldType)))) (va_A [(b, .inr (5, [.int v, .ref e0, .int n]))] sz)) 0 0 (va_A [(b, .inr (5, [.int v, .ref e0, .int n]))] sz) := by
  refine op_M (Qc := fun A => (va_Qi (fun (r : Int32) (_ : Unit) => r = n) (qb D A (fun _ : Unit => [(b, .inr (5, [.int v, .ref e0, .int n]))]) (fun _ : Unit => ([] : List (ClassId × FieldType)))) A)) (by decide +kernel) rfl (Nat.le_of_ble_eq_true rfl) ?_
  intro p e s m args below meth c A ls hx hb hr hml hts hown hlocks hmn htab hA hD hS hP hK hE hsz hl
  have hown : s.vm.findClass RJx4a65c = some m.cls := hown
  have hl : lv_has ls 1 [(0, .ref b)] := hl
  have hw_0 := hts (.fieldLink RJx4a65c 48 "java/util/ArrayList" "size" "I") (List.mem_cons_of_mem _ (List.mem_append_left _ (List.mem_of_getElem? (i := 0) rfl)))
  have hb_0 : ∀ w ∈ wsJx4a65c0, w ∈ us_c_alSize := fun w h => List.mem_cons_of_mem _ (List.mem_append_right _ (List.mem_append_left _ h))
  refine lv_aload_n hx hb dJx4a65c_size_8abf5_0 rfl (lv_at hl 0 rfl) ?_
  refine va_get (D := D) (ci := 5) (v := .int n) (C := RJx4a65c) (T := TJx4a65c) (N := 3) hx hb hts hb_0 hown hK hP 0 rfl rfl 2 (by decide) hw_0 (fun _ h9 => h9) rfl dJx4a65c_size_8abf5_1 ?_
  exact mr_i hx hb hr () (rfl) (hP.sub [0] rfl) (hK.sub [] rfl) (hD.sub [0] (by decide) rfl) hS (Nat.le_of_ble_eq_true rfl) (Nat.le_of_ble_eq_true rfl) hlocks dJx4a65c_size_8abf5_4

def us_c_alIsEmpty : List Cond := .code yJx4a65c_isEmpty_aae02 cJx4a65c_isEmpty_aae02 1 (some .boolean) :: (([.fieldLink RJx4a65c 48 "java/util/ArrayList" "size" "I"] : List Cond) ++ (wsJx4a65c0 ++ ([])))
theorem gw_c_alIsEmpty : ∀ w ∈ us_c_alIsEmpty, goodWord w = true := gw_cons rfl (gw_app (by decide +kernel) (gw_app gwf_Jx4a65c (fun _ h => nomatch h)))
set_option maxHeartbeats 4000000 in
set_option maxRecDepth 100000 in
/-- isEmpty -/
theorem c_alIsEmpty (l : Launch) (hst : l.stackTraces = false) (D : va_G) (b : Nat) (v : Int32) (e0 : Nat) (sz : Nat) : Met l yJx4a65c_isEmpty_aae02 us_c_alIsEmpty { frames := 0, cells := 0, slots := 0, locals := 0 } (pw D [.ref b] [] [(b, .inr (5, [.int v, .ref e0, .int 0]))] sz) (va_Qi (fun (r : Int32) (_ : Unit) => r = 1) (qb D (va_A [(b, .inr (5, [.int v, .ref e0, .int 0]))] sz) (fun _ : Unit => [(b, .inr (5, [.int v, .ref e0, .int 0]))]) (fun _ : Unit => ([] : List (ClassId × FieldType)))) (va_A [(b, .inr (5, [.int v, .ref e0, .int 0]))] sz)) 0 0 (va_A [(b, .inr (5, [.int v, .ref e0, .int 0]))] sz) := by
  refine op_M (Qc := fun A => (va_Qi (fun (r : Int32) (_ : Unit) => r = 1) (qb D A (fun _ : Unit => [(b, .inr (5, [.int v, .ref e0, .int 0]))]) (fun _ : Unit => ([] : List (ClassId × FieldType)))) A)) (by decide +kernel) rfl (Nat.le_of_ble_eq_true rfl) ?_
  intro p e s m args below meth c A ls hx hb hr hml hts hown hlocks hmn htab hA hD hS hP hK hE hsz hl
  have hown : s.vm.findClass RJx4a65c = some m.cls := hown
  have hl : lv_has ls 1 [(0, .ref b)] := hl
  have hw_0 := hts (.fieldLink RJx4a65c 48 "java/util/ArrayList" "size" "I") (List.mem_cons_of_mem _ (List.mem_append_left _ (List.mem_of_getElem? (i := 0) rfl)))
  have hb_0 : ∀ w ∈ wsJx4a65c0, w ∈ us_c_alIsEmpty := fun w h => List.mem_cons_of_mem _ (List.mem_append_right _ (List.mem_append_left _ h))
  refine lv_aload_n hx hb dJx4a65c_isEmpty_aae02_0 rfl (lv_at hl 0 rfl) ?_
  refine va_get (D := D) (ci := 5) (v := .int 0) (C := RJx4a65c) (T := TJx4a65c) (N := 3) hx hb hts hb_0 hown hK hP 0 rfl rfl 2 (by decide) hw_0 (fun _ h9 => h9) rfl dJx4a65c_isEmpty_aae02_1 ?_
  refine lv_if_ne (tgt := 11) hx hb dJx4a65c_isEmpty_aae02_4 (by decide) (fun h1 => absurd (by decide) h1) (fun h1 => ?_)
  refine lv_iconst (v := 1) hx hb dJx4a65c_isEmpty_aae02_7 (by decide) ?_
  refine lv_goto (tgt := 12) hx hb dJx4a65c_isEmpty_aae02_8 (by decide) ?_
  exact mr_z (rfl) hx hb hr () (rfl) (hP.sub [0] rfl) (hK.sub [] rfl) (hD.sub [0] (by decide) rfl) hS (Nat.le_of_ble_eq_true rfl) (Nat.le_of_ble_eq_true rfl) hlocks dJx4a65c_isEmpty_aae02_12

def us_c_itInit : List Cond := .code yJx35411_init_45d68 cJx35411_init_45d68 2 none :: (([.fieldLink RJx35411 1 "java/util/ArrayList$Itr" "this$0" "Ljava/util/ArrayList;", .methodLink RJx35411 7 objectInit, .instanceMethod objectInit, .code objectInit ⟨#[0xb1]⟩ 1 none, .fieldLink RJx35411 13 "java/util/ArrayList$Itr" "lastRet" "I", .sameField "java/util/ArrayList" "java/util/AbstractList" "modCount" "I", .fieldLink RJx35411 17 "java/util/ArrayList" "modCount" "I", .fieldLink RJx35411 22 "java/util/ArrayList$Itr" "expectedModCount" "I"] : List Cond) ++ (wsJx354110 ++ (wsJx4a65c0 ++ ([]))))
theorem gw_c_itInit : ∀ w ∈ us_c_itInit, goodWord w = true := gw_cons rfl (gw_app (by decide +kernel) (gw_app gwf_Jx35411 (gw_app gwf_Jx4a65c (fun _ h => nomatch h))))
set_option maxHeartbeats 4000000 in
set_option maxRecDepth 100000 in
/-- an iterator begins -/
theorem c_itInit (l : Launch) (hst : l.stackTraces = false) (D : va_G) (q : Nat) (b : Nat) (v : Int32) (e0 : Nat) (n : Int32) (sz : Nat) : Met l yJx35411_init_45d68 us_c_itInit { frames := 1, cells := 0, slots := 0, locals := 15 } (pw D [.ref q, .ref b] [] [(q, .inr (4, [.int 0, .int 0, .int 0, .null])), (b, .inr (5, [.int v, .ref e0, .int n]))] sz) (va_Qv (fun _ : Unit => True) (qb D (va_A [(q, .inr (4, [.int 0, .int 0, .int 0, .null])), (b, .inr (5, [.int v, .ref e0, .int n]))] sz) (fun _ : Unit => [(q, .inr (4, [.int 0, .int (-1), .int v, .ref b])), (b, .inr (5, [.int v, .ref e0, .int n]))]) (fun _ : Unit => ([] : List (ClassId × FieldType)))) (va_A [(q, .inr (4, [.int 0, .int 0, .int 0, .null])), (b, .inr (5, [.int v, .ref e0, .int n]))] sz)) 0 0 (va_A [(q, .inr (4, [.int 0, .int 0, .int 0, .null])), (b, .inr (5, [.int v, .ref e0, .int n]))] sz) := by
  refine op_M (Qc := fun A => (va_Qv (fun _ : Unit => True) (qb D A (fun _ : Unit => [(q, .inr (4, [.int 0, .int (-1), .int v, .ref b])), (b, .inr (5, [.int v, .ref e0, .int n]))]) (fun _ : Unit => ([] : List (ClassId × FieldType)))) A)) (by decide +kernel) rfl (Nat.le_of_ble_eq_true rfl) ?_
  intro p e s m args below meth c A ls hx hb hr hml hts hown hlocks hmn htab hA hD hS hP hK hE hsz hl
  have hown : s.vm.findClass RJx35411 = some m.cls := hown
  have hl : lv_has ls 2 [(0, .ref q), (1, .ref b)] := hl
  have hw_0 := hts (.fieldLink RJx35411 1 "java/util/ArrayList$Itr" "this$0" "Ljava/util/ArrayList;") (List.mem_cons_of_mem _ (List.mem_append_left _ (List.mem_of_getElem? (i := 0) rfl)))
  have hw_1 := hts (.methodLink RJx35411 7 objectInit) (List.mem_cons_of_mem _ (List.mem_append_left _ (List.mem_of_getElem? (i := 1) rfl)))
  have hw_2 := hts (.instanceMethod objectInit) (List.mem_cons_of_mem _ (List.mem_append_left _ (List.mem_of_getElem? (i := 2) rfl)))
  have hw_3 := hts (.code objectInit ⟨#[0xb1]⟩ 1 none) (List.mem_cons_of_mem _ (List.mem_append_left _ (List.mem_of_getElem? (i := 3) rfl)))
  have hw_4 := hts (.fieldLink RJx35411 13 "java/util/ArrayList$Itr" "lastRet" "I") (List.mem_cons_of_mem _ (List.mem_append_left _ (List.mem_of_getElem? (i := 4) rfl)))
  have hw_5 := hts (.sameField "java/util/ArrayList" "java/util/AbstractList" "modCount" "I") (List.mem_cons_of_mem _ (List.mem_append_left _ (List.mem_of_getElem? (i := 5) rfl)))
  have hw_6 := hts (.fieldLink RJx35411 17 "java/util/ArrayList" "modCount" "I") (List.mem_cons_of_mem _ (List.mem_append_left _ (List.mem_of_getElem? (i := 6) rfl)))
  have hw_7 := hts (.fieldLink RJx35411 22 "java/util/ArrayList$Itr" "expectedModCount" "I") (List.mem_cons_of_mem _ (List.mem_append_left _ (List.mem_of_getElem? (i := 7) rfl)))
  have hb_0 : ∀ w ∈ wsJx354110, w ∈ us_c_itInit := fun w h => List.mem_cons_of_mem _ (List.mem_append_right _ (List.mem_append_left _ h))
  have hb_1 : ∀ w ∈ wsJx4a65c0, w ∈ us_c_itInit := fun w h => List.mem_cons_of_mem _ (List.mem_append_right _ (List.mem_append_right _ (List.mem_append_left _ h)))
  refine lv_aload_n hx hb dJx35411_init_45d68_0 rfl (lv_at hl 0 rfl) ?_
  refine lv_aload_n hx hb dJx35411_init_45d68_1 rfl (lv_at hl 1 rfl) ?_
  refine va_putF (D := D) (ci := 4) (v := .ref b) (ty := (.object "java/util/ArrayList")) (C := RJx35411) (T := TJx35411) (N := 4) hx hb hts hb_0 tyJx35411 tyJx35411_ok nmJx35411 hown hK hP hD hS 0 rfl rfl 3 (by decide) hw_0 (fun _ h9 => h9) rfl hmn rfl (by decide +kernel) rfl rfl (Nat.le_of_ble_eq_true rfl) dJx35411_init_45d68_2 (fun H locs hP hD hS => ?_)
  have hP : va_P D vwCl [(q, .inr (4, [.int 0, .int 0, .int 0, .ref b])), (b, .inr (5, [.int v, .ref e0, .int n]))] H := hP
  have hD : va_D A [(q, .inr (4, [.int 0, .int 0, .int 0, .ref b])), (b, .inr (5, [.int v, .ref e0, .int n]))] := hD
  refine lv_aload_n hx hb dJx35411_init_45d68_5 rfl (lv_at hl 0 rfl) ?_
  refine W.objInit hx hb hown hw_1 hw_2 hw_3 rfl (by rw [hml]; exact hl.1) rfl dJx35411_init_45d68_6 (Nat.le_of_ble_eq_true rfl) (Nat.le_of_ble_eq_true rfl) ?_
  refine W.eq (g2 := F0 m 9 ls []) rfl ?_
  refine lv_aload_n hx hb dJx35411_init_45d68_9 rfl (lv_at hl 0 rfl) ?_
  refine lv_iconst (v := -1) hx hb dJx35411_init_45d68_10 (by decide) ?_
  refine va_put (D := D) (ci := 4) (v := .int (-1)) (ty := .int) (C := RJx35411) (T := TJx35411) (N := 4) hx hb hts hb_0 tyJx35411 tyJx35411_ok nmJx35411 hown hK hP hD hS 0 rfl rfl 1 (by decide) hw_4 (fun _ h9 => h9) rfl (by decide +kernel) rfl rfl (Nat.le_of_ble_eq_true rfl) dJx35411_init_45d68_11 (fun H locs hP hD hS => ?_)
  have hP : va_P D vwCl [(q, .inr (4, [.int 0, .int (-1), .int 0, .ref b])), (b, .inr (5, [.int v, .ref e0, .int n]))] H := hP
  have hD : va_D A [(q, .inr (4, [.int 0, .int (-1), .int 0, .ref b])), (b, .inr (5, [.int v, .ref e0, .int n]))] := hD
  refine lv_aload_n hx hb dJx35411_init_45d68_14 rfl (lv_at hl 0 rfl) ?_
  refine lv_aload_n hx hb dJx35411_init_45d68_15 rfl (lv_at hl 0 rfl) ?_
  refine va_get (D := D) (ci := 4) (v := .ref b) (C := RJx35411) (T := TJx35411) (N := 4) hx hb hts hb_0 hown hK hP 0 rfl rfl 3 (by decide) hw_0 (fun _ h9 => h9) rfl dJx35411_init_45d68_16 ?_
  refine va_get (D := D) (ci := 5) (v := .int v) (C := RJx4a65c) (T := TJx4a65c) (N := 3) hx hb hts hb_1 hown hK hP 1 rfl rfl 0 (by decide) hw_6 (fun x9 h9 => u_same hw_5 x9 h9) rfl dJx35411_init_45d68_19 ?_
  refine va_put (D := D) (ci := 4) (v := .int v) (ty := .int) (C := RJx35411) (T := TJx35411) (N := 4) hx hb hts hb_0 tyJx35411 tyJx35411_ok nmJx35411 hown hK hP hD hS 0 rfl rfl 2 (by decide) hw_7 (fun _ h9 => h9) rfl (by decide +kernel) rfl rfl (Nat.le_of_ble_eq_true rfl) dJx35411_init_45d68_22 (fun H locs hP hD hS => ?_)
  have hP : va_P D vwCl [(q, .inr (4, [.int 0, .int (-1), .int v, .ref b])), (b, .inr (5, [.int v, .ref e0, .int n]))] H := hP
  have hD : va_D A [(q, .inr (4, [.int 0, .int (-1), .int v, .ref b])), (b, .inr (5, [.int v, .ref e0, .int n]))] := hD
  exact mr_v hx hb hr () (trivial) (hP.sub [0, 1] rfl) (hK.sub [] rfl) (hD.sub [0, 1] (by decide) rfl) hS (Nat.le_of_ble_eq_true rfl) (Nat.le_of_ble_eq_true rfl) hlocks dJx35411_init_45d68_25

def us_c_alIter : List Cond := .code yJx4a65c_iterator_32c93 cJx4a65c_iterator_32c93 1 (some (.object "java/util/Iterator")) :: (([.classLink RJx4a65c 267 RJx35411, .instantiable RJx35411 4, .initialized RJx35411, .methodLink RJx4a65c 269 yJx35411_init_45d68, .instanceMethod yJx35411_init_45d68] : List Cond) ++ (wsJx354110 ++ (us_c_itInit ++ ([]))))
theorem gw_c_alIter : ∀ w ∈ us_c_alIter, goodWord w = true := gw_cons rfl (gw_app (by decide +kernel) (gw_app gwf_Jx35411 (gw_app gw_c_itInit (fun _ h => nomatch h))))
set_option maxHeartbeats 4000000 in
set_option maxRecDepth 100000 in
/-- iterator -/
theorem c_alIter (l : Launch) (hst : l.stackTraces = false) (D : va_G) (b : Nat) (v : Int32) (e0 : Nat) (n : Int32) (sz : Nat) : Met l yJx4a65c_iterator_32c93 us_c_alIter { frames := 2, cells := 1, slots := 4, locals := 36 } (pw D [.ref b] [] [(b, .inr (5, [.int v, .ref e0, .int n]))] sz) (va_Qq (fun (r : Option Nat) (u : Nat) => r = some u) (qb D (va_A [(b, .inr (5, [.int v, .ref e0, .int n]))] sz) (fun u : Nat => [(u, .inr (4, [.int 0, .int (-1), .int v, .ref b])), (b, .inr (5, [.int v, .ref e0, .int n]))]) (fun u : Nat => ([] : List (ClassId × FieldType)))) (va_A [(b, .inr (5, [.int v, .ref e0, .int n]))] sz)) 1 4 (va_A [(b, .inr (5, [.int v, .ref e0, .int n]))] sz) := by
  refine op_M (Qc := fun A => (va_Qq (fun (r : Option Nat) (u : Nat) => r = some u) (qb D A (fun u : Nat => [(u, .inr (4, [.int 0, .int (-1), .int v, .ref b])), (b, .inr (5, [.int v, .ref e0, .int n]))]) (fun u : Nat => ([] : List (ClassId × FieldType)))) A)) (by decide +kernel) rfl (Nat.le_of_ble_eq_true rfl) ?_
  intro p e s m args below meth c A ls hx hb hr hml hts hown hlocks hmn htab hA hD hS hP hK hE hsz hl
  have hown : s.vm.findClass RJx4a65c = some m.cls := hown
  have hl : lv_has ls 1 [(0, .ref b)] := hl
  have hw_0 := hts (.classLink RJx4a65c 267 RJx35411) (List.mem_cons_of_mem _ (List.mem_append_left _ (List.mem_of_getElem? (i := 0) rfl)))
  have hw_1 := hts (.instantiable RJx35411 4) (List.mem_cons_of_mem _ (List.mem_append_left _ (List.mem_of_getElem? (i := 1) rfl)))
  have hw_2 := hts (.initialized RJx35411) (List.mem_cons_of_mem _ (List.mem_append_left _ (List.mem_of_getElem? (i := 2) rfl)))
  have hw_3 := hts (.methodLink RJx4a65c 269 yJx35411_init_45d68) (List.mem_cons_of_mem _ (List.mem_append_left _ (List.mem_of_getElem? (i := 3) rfl)))
  have hw_4 := hts (.instanceMethod yJx35411_init_45d68) (List.mem_cons_of_mem _ (List.mem_append_left _ (List.mem_of_getElem? (i := 4) rfl)))
  have hb_0 : ∀ w ∈ wsJx354110, w ∈ us_c_alIter := fun w h => List.mem_cons_of_mem _ (List.mem_append_right _ (List.mem_append_left _ h))
  have hb_1 : ∀ w ∈ us_c_itInit, w ∈ us_c_alIter := fun w h => List.mem_cons_of_mem _ (List.mem_append_right _ (List.mem_append_right _ (List.mem_append_left _ h)))
  refine va_new (ci := 4) (fs := [.int 0, .int 0, .int 0, .null]) (C := RJx35411) (T := TJx35411) (N := 4) hx hb hts hb_0 tyJx35411 tyJx35411_ok hown hw_0 hw_1 hw_2 hK hP hD hS hA rfl (by decide +kernel) (Nat.le_of_ble_eq_true rfl) (Nat.le_of_ble_eq_true rfl) dJx4a65c_iterator_32c93_0 (fun q1 H hP hD hS => ?_)
  have hP : va_P D vwCl [(b, .inr (5, [.int v, .ref e0, .int n])), (q1, .inr (4, [.int 0, .int 0, .int 0, .null]))] H := hP
  have hD : va_D A [(b, .inr (5, [.int v, .ref e0, .int n])), (q1, .inr (4, [.int 0, .int 0, .int 0, .null]))] := hD
  refine W.widen (k := 1) (n := 4) (Nat.le_of_ble_eq_true rfl) (Nat.le_of_ble_eq_true rfl) ?_
  refine lv_dup hx hb dJx4a65c_iterator_32c93_3 rfl ?_
  refine lv_aload_n hx hb dJx4a65c_iterator_32c93_4 rfl (lv_at hl 0 rfl) ?_
  refine mc_v (wr := []) (va_runI (As := [.ref b]) (rest := [.ref q1]) ⟨hx, hb, hml, hown, hts⟩ (c_itInit l hst D q1 b v e0 n H.size) (cwI 1 hts (goodIn_sub hb_1 (List.all_eq_true.mpr gw_c_itInit)) rfl rfl rfl hw_2 hw_3 hw_4 rfl (by decide +kernel) ⟨Nat.le_of_ble_eq_true rfl, Nat.le_of_ble_eq_true rfl⟩) (pr_S (As := [.ref q1, .ref b]) hP hD hK hS hA hE [1, 0] [] rfl rfl rfl) rfl rfl hl.1 rfl (lv_room (Nat.le_of_ble_eq_true rfl)) dJx4a65c_iterator_32c93_5 ⟨Nat.le_of_ble_eq_true rfl, Nat.le_of_ble_eq_true rfl⟩) hP hD hK hS hA [1, 0] [] rfl rfl (by decide) (by decide) (fun _ H locs w2 hP hD hK hS => ?_)
  have hP : va_P D vwCl [(q1, .inr (4, [.int 0, .int (-1), .int v, .ref b])), (b, .inr (5, [.int v, .ref e0, .int n]))] H := hP
  have hD : va_D A [(q1, .inr (4, [.int 0, .int (-1), .int v, .ref b])), (b, .inr (5, [.int v, .ref e0, .int n]))] := hD
  have hK : va_K D vwCl [] s := hK
  exact mr_q (v := some q1) hx hb hr (Or.inl ⟨_, rfl⟩) q1 (rfl) (hP.sub [0, 1] rfl) (hK.sub [] rfl) (hD.sub [0, 1] (by decide) rfl) hS (Nat.le_of_ble_eq_true rfl) (Nat.le_of_ble_eq_true rfl) hlocks dJx4a65c_iterator_32c93_8

def us_c_itHas : List Cond := .code yJx35411_hasNext_aae02 cJx35411_hasNext_aae02 1 (some .boolean) :: (([.fieldLink RJx35411 25 "java/util/ArrayList$Itr" "cursor" "I", .fieldLink RJx35411 1 "java/util/ArrayList$Itr" "this$0" "Ljava/util/ArrayList;"] : List Cond) ++ (wsJx354110 ++ (wsJx4a65c0 ++ ([]))))
theorem gw_c_itHas : ∀ w ∈ us_c_itHas, goodWord w = true := gw_cons rfl (gw_app (by decide +kernel) (gw_app gwf_Jx35411 (gw_app gwf_Jx4a65c (fun _ h => nomatch h))))
set_option maxHeartbeats 4000000 in
set_option maxRecDepth 100000 in
/-- hasNext of an empty list -/
theorem c_itHas (l : Launch) (hst : l.stackTraces = false) (D : va_G) (q : Nat) (b : Nat) (v : Int32) (v2 : Int32) (e0 : Nat) (sz : Nat) : Met l yJx35411_hasNext_aae02 us_c_itHas { frames := 0, cells := 0, slots := 0, locals := 0 } (pw D [.ref q] [] [(q, .inr (4, [.int 0, .int (-1), .int v, .ref b])), (b, .inr (5, [.int v2, .ref e0, .int 0]))] sz) (va_Qi (fun (r : Int32) (_ : Unit) => r = 0) (qb D (va_A [(q, .inr (4, [.int 0, .int (-1), .int v, .ref b])), (b, .inr (5, [.int v2, .ref e0, .int 0]))] sz) (fun _ : Unit => [(q, .inr (4, [.int 0, .int (-1), .int v, .ref b])), (b, .inr (5, [.int v2, .ref e0, .int 0]))]) (fun _ : Unit => ([] : List (ClassId × FieldType)))) (va_A [(q, .inr (4, [.int 0, .int (-1), .int v, .ref b])), (b, .inr (5, [.int v2, .ref e0, .int 0]))] sz)) 0 0 (va_A [(q, .inr (4, [.int 0, .int (-1), .int v, .ref b])), (b, .inr (5, [.int v2, .ref e0, .int 0]))] sz) := by
  refine op_M (Qc := fun A => (va_Qi (fun (r : Int32) (_ : Unit) => r = 0) (qb D A (fun _ : Unit => [(q, .inr (4, [.int 0, .int (-1), .int v, .ref b])), (b, .inr (5, [.int v2, .ref e0, .int 0]))]) (fun _ : Unit => ([] : List (ClassId × FieldType)))) A)) (by decide +kernel) rfl (Nat.le_of_ble_eq_true rfl) ?_
  intro p e s m args below meth c A ls hx hb hr hml hts hown hlocks hmn htab hA hD hS hP hK hE hsz hl
  have hown : s.vm.findClass RJx35411 = some m.cls := hown
  have hl : lv_has ls 1 [(0, .ref q)] := hl
  have hw_0 := hts (.fieldLink RJx35411 25 "java/util/ArrayList$Itr" "cursor" "I") (List.mem_cons_of_mem _ (List.mem_append_left _ (List.mem_of_getElem? (i := 0) rfl)))
  have hw_1 := hts (.fieldLink RJx35411 1 "java/util/ArrayList$Itr" "this$0" "Ljava/util/ArrayList;") (List.mem_cons_of_mem _ (List.mem_append_left _ (List.mem_of_getElem? (i := 1) rfl)))
  have hb_0 : ∀ w ∈ wsJx354110, w ∈ us_c_itHas := fun w h => List.mem_cons_of_mem _ (List.mem_append_right _ (List.mem_append_left _ h))
  have hb_1 : ∀ w ∈ wsJx4a65c0, w ∈ us_c_itHas := fun w h => List.mem_cons_of_mem _ (List.mem_append_right _ (List.mem_append_right _ (List.mem_append_left _ h)))
  refine lv_aload_n hx hb dJx35411_hasNext_aae02_0 rfl (lv_at hl 0 rfl) ?_
  refine va_get (D := D) (ci := 4) (v := .int 0) (C := RJx35411) (T := TJx35411) (N := 4) hx hb hts hb_0 hown hK hP 0 rfl rfl 0 (by decide) hw_0 (fun _ h9 => h9) rfl dJx35411_hasNext_aae02_1 ?_
  refine lv_aload_n hx hb dJx35411_hasNext_aae02_4 rfl (lv_at hl 0 rfl) ?_
  refine va_get (D := D) (ci := 4) (v := .ref b) (C := RJx35411) (T := TJx35411) (N := 4) hx hb hts hb_0 hown hK hP 0 rfl rfl 3 (by decide) hw_1 (fun _ h9 => h9) rfl dJx35411_hasNext_aae02_5 ?_
  refine va_getN (D := D) (ci := 5) (v := .int 0) (C := RJx4a65c) (T := TJx4a65c) (N := 3) (host := "java/util/ArrayList") hx hb hts hb_1 hown hK hP 1 rfl rfl 2 (by decide) (hE.2.2.2.2.2.1.use _ (List.mem_of_getElem? (i := 11) rfl)) (fun _ h9 => h9) rfl dJx35411_hasNext_aae02_8 ?_
  refine lv_icmp_eq (tgt := 18) hx hb dJx35411_hasNext_aae02_11 (by decide) (fun h1 => ?_) (fun h1 => absurd (by decide) h1)
  refine lv_iconst (v := 0) hx hb dJx35411_hasNext_aae02_18 (by decide) ?_
  exact mr_z (rfl) hx hb hr () (rfl) (hP.sub [0, 1] rfl) (hK.sub [] rfl) (hD.sub [0, 1] (by decide) rfl) hS (Nat.le_of_ble_eq_true rfl) (Nat.le_of_ble_eq_true rfl) hlocks dJx35411_hasNext_aae02_19

def us_c_fillC : List Cond := .code yJ7_fill_18040 cJ7_fill_18040 4 none :: (([] : List Cond) ++ ([]))
theorem gw_c_fillC : ∀ w ∈ us_c_fillC, goodWord w = true := gw_cons rfl (gw_app (by decide +kernel) (fun _ h => nomatch h))
set_option maxHeartbeats 4000000 in
set_option maxRecDepth 100000 in
/-- Arrays.fill of chars -/
theorem c_fillC (l : Launch) (hst : l.stackTraces = false) (D : va_G) (a : Nat) (cy : ClassId) (n : Nat) (f : Nat → Int32) (v : Int32) (sz : Nat) (hn : n < 2 ^ 31) (hv : vp_nar .char v = v) : Met l yJ7_fill_18040 us_c_fillC { frames := 0, cells := 0, slots := 0, locals := 0 } (pw D [.ref a, .int v] [(cy, .char)] [(a, .inl (cy, n, .inl f))] sz) (va_Qv (fun _ : Unit => True) (qb D (va_A [(a, .inl (cy, n, .inl f))] sz) (fun _ : Unit => [(a, .inl (cy, n, .inl (fa_fill (fun _ => v) f n)))]) (fun _ : Unit => ([] : List (ClassId × FieldType)))) (va_A [(a, .inl (cy, n, .inl f))] sz)) 0 0 (va_A [(a, .inl (cy, n, .inl f))] sz) := by
  refine op_M (Qc := fun A => (va_Qv (fun _ : Unit => True) (qb D A (fun _ : Unit => [(a, .inl (cy, n, .inl (fa_fill (fun _ => v) f n)))]) (fun _ : Unit => ([] : List (ClassId × FieldType)))) A)) (by decide +kernel) rfl (Nat.le_of_ble_eq_true rfl) ?_
  intro p e s m args below meth c A ls hx hb hr hml hts hown hlocks hmn htab hA hD hS hP hK hE hsz hl
  have hown : s.vm.findClass RJ7 = some m.cls := hown
  have hl : lv_has ls 4 [(0, .ref a), (1, .int v)] := hl
  refine lv_iconst (v := 0) hx hb dJ7_fill_18040_0 (by decide) ?_
  refine lv_istore_n (lv' := [(2, .int 0), (0, .ref a), (1, .int v)]) hx hb dJ7_fill_18040_1 rfl hl (by decide) rfl (fun ls hl => ?_)
  refine lv_aload_n hx hb dJ7_fill_18040_2 rfl (lv_at hl 1 rfl) ?_
  refine va_alen hx hb hK hP 0 0 rfl rfl (v := nI n) rfl dJ7_fill_18040_3 ?_
  refine lv_istore_n (lv' := [(3, .int (nI n)), (2, .int 0), (0, .ref a), (1, .int v)]) hx hb dJ7_fill_18040_4 rfl hl (by decide) rfl (fun ls hl => ?_)
  have hcf : ([(a, .inl (cy, n, .inl f))] : va_W) = [(a, .inl (cy, n, .inl (fa_fill (fun _ => v) f 0)))] := congrArg (fun f9 : Nat → Int32 => ([(a, .inl (cy, n, .inl f9))] : va_W)) (show (f : Nat → Int32) = fa_fill (fun _ => v) f 0 from (fa_fill_0 _ _).symm)
  rw [hcf] at hP hD
  clear hcf
  have lp : ∀ (fu : Nat) (i : Nat) (H : Heap) (locs : List Loc) (ls : Array Slot), (i + fu = n) → lv_has ls 4 [(2, .int (nI i)), (3, .int (nI n)), (0, .ref a), (1, .int v)] → va_P D vwCl [(a, .inl (cy, n, .inl (fa_fill (fun _ => v) f i)))] H → va_D A [(a, .inl (cy, n, .inl (fa_fill (fun _ => v) f i)))] → va_S A s.heap H locs → W p l e { frames := 0, cells := 0, slots := 0, locals := 0 } s m args below meth c H locs 0 0 (MQ below (va_Qv (fun _ : Unit => True) (qb D A (fun _ : Unit => [(a, .inl (cy, n, .inl (fa_fill (fun _ => v) f n)))]) (fun _ : Unit => ([] : List (ClassId × FieldType)))) A) args s 0 0 A) (F0 m 5 ls []) := by
    intro fu
    induction fu with
    | zero =>
      intro i H locs ls hi hl hP hD hS
      have hi : i + 0 = n := hi
      refine lv_iload_n hx hb dJ7_fill_18040_5 rfl (lv_at hl 0 rfl) ?_
      refine lv_iload_n hx hb dJ7_fill_18040_6 rfl (lv_at hl 1 rfl) ?_
      refine lv_icmp_ge (tgt := 20) hx hb dJ7_fill_18040_7 (by decide) (fun h1 => ?_) (fun h1 => absurd (by exact (nI_leI (a := n) (b := i) (by omega) (by omega)).mpr (by omega)) h1)
      have hP : va_P D vwCl [(a, .inl (cy, n, .inl (fa_fill (fun _ => v) f i)))] H := hP
      have hD : va_D A [(a, .inl (cy, n, .inl (fa_fill (fun _ => v) f i)))] := hD
      have hcf : ([(a, .inl (cy, n, .inl (fa_fill (fun _ => v) f i)))] : va_W) = [(a, .inl (cy, n, .inl (fa_fill (fun _ => v) f n)))] := congrArg (fun f9 : Nat → Int32 => ([(a, .inl (cy, n, .inl f9))] : va_W)) (show (fa_fill (fun _ => v) f i : Nat → Int32) = fa_fill (fun _ => v) f n from by rw [show i = n by omega])
      rw [hcf] at hP hD
      clear hcf
      have hP : va_P D vwCl [(a, .inl (cy, n, .inl (fa_fill (fun _ => v) f n)))] H := hP
      have hD : va_D A [(a, .inl (cy, n, .inl (fa_fill (fun _ => v) f n)))] := hD
      exact mr_v hx hb hr () (trivial) (hP.sub [0] rfl) (hK.sub [] rfl) (hD.sub [0] (by decide) rfl) hS (Nat.le_of_ble_eq_true rfl) (Nat.le_of_ble_eq_true rfl) hlocks dJ7_fill_18040_20
    | succ fu ih =>
      intro i H locs ls hi hl hP hD hS
      have hi : i + (fu + 1) = n := hi
      refine lv_iload_n hx hb dJ7_fill_18040_5 rfl (lv_at hl 0 rfl) ?_
      refine lv_iload_n hx hb dJ7_fill_18040_6 rfl (lv_at hl 1 rfl) ?_
      refine lv_icmp_ge (tgt := 20) hx hb dJ7_fill_18040_7 (by decide) (fun h2 => absurd h2 (by exact fun q9 => absurd ((nI_leI (a := n) (b := i) (by omega) (by omega)).mp q9) (by omega))) (fun h2 => ?_)
      refine lv_aload_n hx hb dJ7_fill_18040_10 rfl (lv_at hl 2 rfl) ?_
      refine lv_iload_n hx hb dJ7_fill_18040_11 rfl (lv_at hl 0 rfl) ?_
      refine lv_iload_n hx hb dJ7_fill_18040_12 rfl (lv_at hl 3 rfl) ?_
      refine va_cast hx hb hK hP hD hS 0 0 rfl rfl (vp_in_nI (by omega) (by omega)) dJ7_fill_18040_13 (fun H locs hP hD hS => ?_)
      have hcf : upd (fa_fill (fun _ => v) f i) ((nI i).toNatClampNeg) (vp_nar .char v) = fa_fill (fun _ => v) f (i + 1) := by rw [hv, nI_clamp (by omega)]; exact fa_fill_succ (fun _ => v) f i
      have hP : va_P D vwCl [(a, .inl (cy, n, .inl (upd (fa_fill (fun _ => v) f i) ((nI i).toNatClampNeg) (vp_nar .char v))))] H := hP
      have hD : va_D A [(a, .inl (cy, n, .inl (upd (fa_fill (fun _ => v) f i) ((nI i).toNatClampNeg) (vp_nar .char v))))] := hD
      rw [hcf] at hP hD
      clear hcf
      have hP : va_P D vwCl [(a, .inl (cy, n, .inl (fa_fill (fun _ => v) f (i + 1))))] H := hP
      have hD : va_D A [(a, .inl (cy, n, .inl (fa_fill (fun _ => v) f (i + 1))))] := hD
      obtain ⟨x3, e3⟩ : ∃ z : Int32, z = nI i + 1 := ⟨_, rfl⟩
      refine lv_iinc (v := x3) (lv' := [(2, .int x3), (3, .int (nI n)), (0, .ref a), (1, .int v)]) hx hb dJ7_fill_18040_14 hl (k := 0) rfl (by rw [e3]; rfl) (by decide) rfl (fun ls hl => ?_)
      obtain rfl : x3 = nI (i + 1) := e3.trans (nI_add i 1)
      refine lv_goto (tgt := 5) hx hb dJ7_fill_18040_17 (by decide) ?_
      exact ih  (i + 1) _ _ _ (by omega) (lv_sub hl [0, 1, 2, 3] rfl) (hP.sub [0] rfl) (hD.sub [0] (by decide) rfl) hS
  exact lp n 0 _ _ _ (by omega) (lv_sub hl [1, 0, 2, 3] rfl) (hP.sub [0] rfl) (hD.sub [0] (by decide) rfl) hS

def us_c_in : List Cond := .code yX9_in cX9_in 6 (some .boolean) :: (([] : List Cond) ++ ([]))
theorem gw_c_in : ∀ w ∈ us_c_in, goodWord w = true := gw_cons rfl (gw_app (by decide +kernel) (fun _ h => nomatch h))
set_option maxHeartbeats 4000000 in
set_option maxRecDepth 100000 in
/-- in -/
theorem c_in (l : Launch) (hst : l.stackTraces = false) (D : va_G) (v : Int32) (lo : Int32) (hi : Int32) (l1 : Int64) (h1 : Int64) (sz : Nat) (hlo : lo.toInt64 = l1) (hhi : hi.toInt64 = h1) : Met l yX9_in us_c_in { frames := 0, cells := 0, slots := 0, locals := 0 } (pw D [.long v.toInt64, .long l1, .long h1] [] [] sz) (va_Qi (fun (r : Int32) (_ : Unit) => r = (if inR v lo hi then 1 else 0)) (qb D (va_A [] sz) (fun _ : Unit => []) (fun _ : Unit => ([] : List (ClassId × FieldType)))) (va_A [] sz)) 0 0 (va_A [] sz) := by
  refine op_M (Qc := fun A => (va_Qi (fun (r : Int32) (_ : Unit) => r = (if inR v lo hi then 1 else 0)) (qb D A (fun _ : Unit => []) (fun _ : Unit => ([] : List (ClassId × FieldType)))) A)) (by decide +kernel) rfl (Nat.le_of_ble_eq_true rfl) ?_
  intro p e s m args below meth c A ls hx hb hr hml hts hown hlocks hmn htab hA hD hS hP hK hE hsz hl
  have hown : s.vm.findClass RX9 = some m.cls := hown
  have hl : lv_has ls 6 [(0, .long v.toInt64), (2, .long l1), (4, .long h1)] := hl
  refine lv_lload_n hx hb dX9_in_0 rfl (lv_at hl 0 rfl) ?_
  refine lv_lload_n hx hb dX9_in_1 rfl (lv_at hl 1 rfl) ?_
  refine W.lcmp hx hb dX9_in_2 ?_
  refine lv_topi (fun x1 e1 => ?_)
  refine lv_if_lt (tgt := 17) hx hb dX9_in_3 (by decide) (fun h2 => ?_) (fun h2 => ?_)
  · refine lv_iconst (v := 0) hx hb dX9_in_17 (by decide) ?_
    exact mr_z (rfl) hx hb hr () ((in_lt hlo (by rw [← e1]; exact h2)).symm) (hP.sub [] rfl) (hK.sub [] rfl) (hD.sub [] (by decide) rfl) hS (Nat.le_of_ble_eq_true rfl) (Nat.le_of_ble_eq_true rfl) hlocks dX9_in_18
  · refine lv_lload_n hx hb dX9_in_6 rfl (lv_at hl 0 rfl) ?_
    refine lv_lload hx hb dX9_in_7 (lv_at hl 2 rfl) ?_
    refine W.lcmp hx hb dX9_in_9 ?_
    refine lv_topi (fun x3 e3 => ?_)
    refine lv_if_gt (tgt := 17) hx hb dX9_in_10 (by decide) (fun h4 => ?_) (fun h4 => ?_)
    · refine lv_iconst (v := 0) hx hb dX9_in_17 (by decide) ?_
      exact mr_z (rfl) hx hb hr () ((in_gt hhi (by rw [← e3]; exact h4)).symm) (hP.sub [] rfl) (hK.sub [] rfl) (hD.sub [] (by decide) rfl) hS (Nat.le_of_ble_eq_true rfl) (Nat.le_of_ble_eq_true rfl) hlocks dX9_in_18
    · refine lv_iconst (v := 1) hx hb dX9_in_13 (by decide) ?_
      refine lv_goto (tgt := 18) hx hb dX9_in_14 (by decide) ?_
      exact mr_z (rfl) hx hb hr () ((in_ok hlo hhi (by rw [← e1]; exact h2) (by rw [← e3]; exact h4)).symm) (hP.sub [] rfl) (hK.sub [] rfl) (hD.sub [] (by decide) rfl) hS (Nat.le_of_ble_eq_true rfl) (Nat.le_of_ble_eq_true rfl) hlocks dX9_in_18

def us_c_thrown : List Cond := .code yX9_thrown cX9_thrown 1 (some .int) :: (([.fieldLink RX9 16 "ControlWoodModel" "thrown" "I"] : List Cond) ++ (wsX90 ++ ([])))
theorem gw_c_thrown : ∀ w ∈ us_c_thrown, goodWord w = true := gw_cons rfl (gw_app (by decide +kernel) (gw_app gwf_X9 (fun _ h => nomatch h)))
set_option maxHeartbeats 4000000 in
set_option maxRecDepth 100000 in
/-- thrown -/
theorem c_thrown (l : Launch) (hst : l.stackTraces = false) (D : va_G) (mo : Nat) (v0 : Int32) (v1 : Int32) (th : Int32) (m1 : Nat) (m2 : Nat) (m3 : Nat) (m4 : Nat) (m5 : Nat) (l1 : Nat) (l2 : Nat) (l3 : Nat) (rel : Int32) (l4 : Nat) (sz : Nat) : Met l yX9_thrown us_c_thrown { frames := 0, cells := 0, slots := 0, locals := 0 } (pw D [.ref mo] [] [(mo, .inr (16, [.int v0, .int v1, .int th, .ref m1, .ref m2, .ref m3, .ref m4, .ref m5, .ref l1, .ref l2, .ref l3, .int rel, .ref l4]))] sz) (va_Qi (fun (r : Int32) (_ : Unit) => r = th) (qb D (va_A [(mo, .inr (16, [.int v0, .int v1, .int th, .ref m1, .ref m2, .ref m3, .ref m4, .ref m5, .ref l1, .ref l2, .ref l3, .int rel, .ref l4]))] sz) (fun _ : Unit => [(mo, .inr (16, [.int v0, .int v1, .int th, .ref m1, .ref m2, .ref m3, .ref m4, .ref m5, .ref l1, .ref l2, .ref l3, .int rel, .ref l4]))]) (fun _ : Unit => ([] : List (ClassId × FieldType)))) (va_A [(mo, .inr (16, [.int v0, .int v1, .int th, .ref m1, .ref m2, .ref m3, .ref m4, .ref m5, .ref l1, .ref l2, .ref l3, .int rel, .ref l4]))] sz)) 0 0 (va_A [(mo, .inr (16, [.int v0, .int v1, .int th, .ref m1, .ref m2, .ref m3, .ref m4, .ref m5, .ref l1, .ref l2, .ref l3, .int rel, .ref l4]))] sz) := by
  refine op_M (Qc := fun A => (va_Qi (fun (r : Int32) (_ : Unit) => r = th) (qb D A (fun _ : Unit => [(mo, .inr (16, [.int v0, .int v1, .int th, .ref m1, .ref m2, .ref m3, .ref m4, .ref m5, .ref l1, .ref l2, .ref l3, .int rel, .ref l4]))]) (fun _ : Unit => ([] : List (ClassId × FieldType)))) A)) (by decide +kernel) rfl (Nat.le_of_ble_eq_true rfl) ?_
  intro p e s m args below meth c A ls hx hb hr hml hts hown hlocks hmn htab hA hD hS hP hK hE hsz hl
  have hown : s.vm.findClass RX9 = some m.cls := hown
  have hl : lv_has ls 1 [(0, .ref mo)] := hl
  have hw_0 := hts (.fieldLink RX9 16 "ControlWoodModel" "thrown" "I") (List.mem_cons_of_mem _ (List.mem_append_left _ (List.mem_of_getElem? (i := 0) rfl)))
  have hb_0 : ∀ w ∈ wsX90, w ∈ us_c_thrown := fun w h => List.mem_cons_of_mem _ (List.mem_append_right _ (List.mem_append_left _ h))
  refine lv_aload_n hx hb dX9_thrown_0 rfl (lv_at hl 0 rfl) ?_
  refine va_get (D := D) (ci := 16) (v := .int th) (C := RX9) (T := TX9) (N := 13) hx hb hts hb_0 hown hK hP 0 rfl rfl 2 (by decide) hw_0 (fun _ h9 => h9) rfl dX9_thrown_1 ?_
  exact mr_i hx hb hr () (rfl) (hP.sub [0] rfl) (hK.sub [] rfl) (hD.sub [0] (by decide) rfl) hS (Nat.le_of_ble_eq_true rfl) (Nat.le_of_ble_eq_true rfl) hlocks dX9_thrown_4

def us_c_fails : List Cond := .code yX9_fails cX9_fails 2 (some .int) :: (([.fieldLink RX9 16 "ControlWoodModel" "thrown" "I"] : List Cond) ++ (wsX90 ++ ([])))
theorem gw_c_fails : ∀ w ∈ us_c_fails, goodWord w = true := gw_cons rfl (gw_app (by decide +kernel) (gw_app gwf_X9 (fun _ h => nomatch h)))
set_option maxHeartbeats 4000000 in
set_option maxRecDepth 100000 in
/-- fails -/
theorem c_fails (l : Launch) (hst : l.stackTraces = false) (D : va_G) (mo : Nat) (v0 : Int32) (v1 : Int32) (th : Int32) (m1 : Nat) (m2 : Nat) (m3 : Nat) (m4 : Nat) (m5 : Nat) (l1 : Nat) (l2 : Nat) (l3 : Nat) (rel : Int32) (l4 : Nat) (n : Int32) (sz : Nat) : Met l yX9_fails us_c_fails { frames := 0, cells := 0, slots := 0, locals := 0 } (pw D [.ref mo, .int n] [] [(mo, .inr (16, [.int v0, .int v1, .int th, .ref m1, .ref m2, .ref m3, .ref m4, .ref m5, .ref l1, .ref l2, .ref l3, .int rel, .ref l4]))] sz) (va_Qi (fun (r : Int32) (_ : Unit) => r = 0) (qb D (va_A [(mo, .inr (16, [.int v0, .int v1, .int th, .ref m1, .ref m2, .ref m3, .ref m4, .ref m5, .ref l1, .ref l2, .ref l3, .int rel, .ref l4]))] sz) (fun _ : Unit => [(mo, .inr (16, [.int v0, .int v1, .int n, .ref m1, .ref m2, .ref m3, .ref m4, .ref m5, .ref l1, .ref l2, .ref l3, .int rel, .ref l4]))]) (fun _ : Unit => ([] : List (ClassId × FieldType)))) (va_A [(mo, .inr (16, [.int v0, .int v1, .int th, .ref m1, .ref m2, .ref m3, .ref m4, .ref m5, .ref l1, .ref l2, .ref l3, .int rel, .ref l4]))] sz)) 0 0 (va_A [(mo, .inr (16, [.int v0, .int v1, .int th, .ref m1, .ref m2, .ref m3, .ref m4, .ref m5, .ref l1, .ref l2, .ref l3, .int rel, .ref l4]))] sz) := by
  refine op_M (Qc := fun A => (va_Qi (fun (r : Int32) (_ : Unit) => r = 0) (qb D A (fun _ : Unit => [(mo, .inr (16, [.int v0, .int v1, .int n, .ref m1, .ref m2, .ref m3, .ref m4, .ref m5, .ref l1, .ref l2, .ref l3, .int rel, .ref l4]))]) (fun _ : Unit => ([] : List (ClassId × FieldType)))) A)) (by decide +kernel) rfl (Nat.le_of_ble_eq_true rfl) ?_
  intro p e s m args below meth c A ls hx hb hr hml hts hown hlocks hmn htab hA hD hS hP hK hE hsz hl
  have hown : s.vm.findClass RX9 = some m.cls := hown
  have hl : lv_has ls 2 [(0, .ref mo), (1, .int n)] := hl
  have hw_0 := hts (.fieldLink RX9 16 "ControlWoodModel" "thrown" "I") (List.mem_cons_of_mem _ (List.mem_append_left _ (List.mem_of_getElem? (i := 0) rfl)))
  have hb_0 : ∀ w ∈ wsX90, w ∈ us_c_fails := fun w h => List.mem_cons_of_mem _ (List.mem_append_right _ (List.mem_append_left _ h))
  refine lv_aload_n hx hb dX9_fails_0 rfl (lv_at hl 0 rfl) ?_
  refine lv_iload_n hx hb dX9_fails_1 rfl (lv_at hl 1 rfl) ?_
  refine va_put (D := D) (ci := 16) (v := .int n) (ty := .int) (C := RX9) (T := TX9) (N := 13) hx hb hts hb_0 tyX9 tyX9_ok nmX9 hown hK hP hD hS 0 rfl rfl 2 (by decide) hw_0 (fun _ h9 => h9) rfl (by decide +kernel) rfl rfl (Nat.le_of_ble_eq_true rfl) dX9_fails_2 (fun H locs hP hD hS => ?_)
  have hP : va_P D vwCl [(mo, .inr (16, [.int v0, .int v1, .int n, .ref m1, .ref m2, .ref m3, .ref m4, .ref m5, .ref l1, .ref l2, .ref l3, .int rel, .ref l4]))] H := hP
  have hD : va_D A [(mo, .inr (16, [.int v0, .int v1, .int n, .ref m1, .ref m2, .ref m3, .ref m4, .ref m5, .ref l1, .ref l2, .ref l3, .int rel, .ref l4]))] := hD
  refine lv_iconst (v := 0) hx hb dX9_fails_5 (by decide) ?_
  exact mr_i hx hb hr () (rfl) (hP.sub [0] rfl) (hK.sub [] rfl) (hD.sub [0] (by decide) rfl) hS (Nat.le_of_ble_eq_true rfl) (Nat.le_of_ble_eq_true rfl) hlocks dX9_fails_6

def us_c_tells : List Cond := .code yX9_tells cX9_tells 2 (some .int) :: (([.fieldLink RX9 16 "ControlWoodModel" "thrown" "I"] : List Cond) ++ (wsX90 ++ ([])))
theorem gw_c_tells : ∀ w ∈ us_c_tells, goodWord w = true := gw_cons rfl (gw_app (by decide +kernel) (gw_app gwf_X9 (fun _ h => nomatch h)))
set_option maxHeartbeats 4000000 in
set_option maxRecDepth 100000 in
/-- tells -/
theorem c_tells (l : Launch) (hst : l.stackTraces = false) (D : va_G) (mo : Nat) (v0 : Int32) (v1 : Int32) (th : Int32) (m1 : Nat) (m2 : Nat) (m3 : Nat) (m4 : Nat) (m5 : Nat) (l1 : Nat) (l2 : Nat) (l3 : Nat) (rel : Int32) (l4 : Nat) (n : Int32) (sz : Nat) : Met l yX9_tells us_c_tells { frames := 0, cells := 0, slots := 0, locals := 0 } (pw D [.ref mo, .int n] [] [(mo, .inr (16, [.int v0, .int v1, .int th, .ref m1, .ref m2, .ref m3, .ref m4, .ref m5, .ref l1, .ref l2, .ref l3, .int rel, .ref l4]))] sz) (va_Qi (fun (r : Int32) (_ : Unit) => r = n) (qb D (va_A [(mo, .inr (16, [.int v0, .int v1, .int th, .ref m1, .ref m2, .ref m3, .ref m4, .ref m5, .ref l1, .ref l2, .ref l3, .int rel, .ref l4]))] sz) (fun _ : Unit => [(mo, .inr (16, [.int v0, .int v1, .int 0, .ref m1, .ref m2, .ref m3, .ref m4, .ref m5, .ref l1, .ref l2, .ref l3, .int rel, .ref l4]))]) (fun _ : Unit => ([] : List (ClassId × FieldType)))) (va_A [(mo, .inr (16, [.int v0, .int v1, .int th, .ref m1, .ref m2, .ref m3, .ref m4, .ref m5, .ref l1, .ref l2, .ref l3, .int rel, .ref l4]))] sz)) 0 0 (va_A [(mo, .inr (16, [.int v0, .int v1, .int th, .ref m1, .ref m2, .ref m3, .ref m4, .ref m5, .ref l1, .ref l2, .ref l3, .int rel, .ref l4]))] sz) := by
  refine op_M (Qc := fun A => (va_Qi (fun (r : Int32) (_ : Unit) => r = n) (qb D A (fun _ : Unit => [(mo, .inr (16, [.int v0, .int v1, .int 0, .ref m1, .ref m2, .ref m3, .ref m4, .ref m5, .ref l1, .ref l2, .ref l3, .int rel, .ref l4]))]) (fun _ : Unit => ([] : List (ClassId × FieldType)))) A)) (by decide +kernel) rfl (Nat.le_of_ble_eq_true rfl) ?_
  intro p e s m args below meth c A ls hx hb hr hml hts hown hlocks hmn htab hA hD hS hP hK hE hsz hl
  have hown : s.vm.findClass RX9 = some m.cls := hown
  have hl : lv_has ls 2 [(0, .ref mo), (1, .int n)] := hl
  have hw_0 := hts (.fieldLink RX9 16 "ControlWoodModel" "thrown" "I") (List.mem_cons_of_mem _ (List.mem_append_left _ (List.mem_of_getElem? (i := 0) rfl)))
  have hb_0 : ∀ w ∈ wsX90, w ∈ us_c_tells := fun w h => List.mem_cons_of_mem _ (List.mem_append_right _ (List.mem_append_left _ h))
  refine lv_aload_n hx hb dX9_tells_0 rfl (lv_at hl 0 rfl) ?_
  refine lv_iconst (v := 0) hx hb dX9_tells_1 (by decide) ?_
  refine va_put (D := D) (ci := 16) (v := .int 0) (ty := .int) (C := RX9) (T := TX9) (N := 13) hx hb hts hb_0 tyX9 tyX9_ok nmX9 hown hK hP hD hS 0 rfl rfl 2 (by decide) hw_0 (fun _ h9 => h9) rfl (by decide +kernel) rfl rfl (Nat.le_of_ble_eq_true rfl) dX9_tells_2 (fun H locs hP hD hS => ?_)
  have hP : va_P D vwCl [(mo, .inr (16, [.int v0, .int v1, .int 0, .ref m1, .ref m2, .ref m3, .ref m4, .ref m5, .ref l1, .ref l2, .ref l3, .int rel, .ref l4]))] H := hP
  have hD : va_D A [(mo, .inr (16, [.int v0, .int v1, .int 0, .ref m1, .ref m2, .ref m3, .ref m4, .ref m5, .ref l1, .ref l2, .ref l3, .int rel, .ref l4]))] := hD
  refine lv_iload_n hx hb dX9_tells_5 rfl (lv_at hl 1 rfl) ?_
  exact mr_i hx hb hr () (rfl) (hP.sub [0] rfl) (hK.sub [] rfl) (hD.sub [0] (by decide) rfl) hS (Nat.le_of_ble_eq_true rfl) (Nat.le_of_ble_eq_true rfl) hlocks dX9_tells_6

def us_c_isKind : List Cond := .code yX9_isKind cX9_isKind 1 (some .boolean) :: (([] : List Cond) ++ ([]))
theorem gw_c_isKind : ∀ w ∈ us_c_isKind, goodWord w = true := gw_cons rfl (gw_app (by decide +kernel) (fun _ h => nomatch h))
set_option maxHeartbeats 4000000 in
set_option maxRecDepth 100000 in
/-- isKind -/
theorem c_isKind (l : Launch) (hst : l.stackTraces = false) (D : va_G) (v : Int32) (sz : Nat) : Met l yX9_isKind us_c_isKind { frames := 0, cells := 0, slots := 0, locals := 0 } (pw D [.int v] [] [] sz) (va_Qi (fun (r : Int32) (_ : Unit) => r = (if okK v then 1 else 0)) (qb D (va_A [] sz) (fun _ : Unit => []) (fun _ : Unit => ([] : List (ClassId × FieldType)))) (va_A [] sz)) 0 0 (va_A [] sz) := by
  refine op_M (Qc := fun A => (va_Qi (fun (r : Int32) (_ : Unit) => r = (if okK v then 1 else 0)) (qb D A (fun _ : Unit => []) (fun _ : Unit => ([] : List (ClassId × FieldType)))) A)) (by decide +kernel) rfl (Nat.le_of_ble_eq_true rfl) ?_
  intro p e s m args below meth c A ls hx hb hr hml hts hown hlocks hmn htab hA hD hS hP hK hE hsz hl
  have hown : s.vm.findClass RX9 = some m.cls := hown
  have hl : lv_has ls 1 [(0, .int v)] := hl
  refine lv_iload_n hx hb dX9_isKind_0 rfl (lv_at hl 0 rfl) ?_
  refine lv_bipush (v := 46) hx hb dX9_isKind_1 (by decide) ?_
  refine lv_icmp_eq (tgt := 18) hx hb dX9_isKind_3 (by decide) (fun h1 => ?_) (fun h1 => ?_)
  · refine lv_iconst (v := 1) hx hb dX9_isKind_18 (by decide) ?_
    refine lv_goto (tgt := 23) hx hb dX9_isKind_19 (by decide) ?_
    exact mr_z (rfl) hx hb hr () ((if_pos (Or.inl h1)).symm) (hP.sub [] rfl) (hK.sub [] rfl) (hD.sub [] (by decide) rfl) hS (Nat.le_of_ble_eq_true rfl) (Nat.le_of_ble_eq_true rfl) hlocks dX9_isKind_23
  · refine lv_iload_n hx hb dX9_isKind_6 rfl (lv_at hl 0 rfl) ?_
    refine lv_bipush (v := 119) hx hb dX9_isKind_7 (by decide) ?_
    refine lv_icmp_eq (tgt := 18) hx hb dX9_isKind_9 (by decide) (fun h2 => ?_) (fun h2 => ?_)
    · refine lv_iconst (v := 1) hx hb dX9_isKind_18 (by decide) ?_
      refine lv_goto (tgt := 23) hx hb dX9_isKind_19 (by decide) ?_
      exact mr_z (rfl) hx hb hr () ((if_pos (Or.inr (Or.inl h2))).symm) (hP.sub [] rfl) (hK.sub [] rfl) (hD.sub [] (by decide) rfl) hS (Nat.le_of_ble_eq_true rfl) (Nat.le_of_ble_eq_true rfl) hlocks dX9_isKind_23
    · refine lv_iload_n hx hb dX9_isKind_12 rfl (lv_at hl 0 rfl) ?_
      refine lv_bipush (v := 120) hx hb dX9_isKind_13 (by decide) ?_
      refine lv_icmp_ne (tgt := 22) hx hb dX9_isKind_15 (by decide) (fun h3 => ?_) (fun h3 => ?_)
      · refine lv_iconst (v := 0) hx hb dX9_isKind_22 (by decide) ?_
        exact mr_z (rfl) hx hb hr () ((if_neg (fun q9 => q9.elim h1 (fun q9 => q9.elim h2 h3))).symm) (hP.sub [] rfl) (hK.sub [] rfl) (hD.sub [] (by decide) rfl) hS (Nat.le_of_ble_eq_true rfl) (Nat.le_of_ble_eq_true rfl) hlocks dX9_isKind_23
      · refine lv_iconst (v := 1) hx hb dX9_isKind_18 (by decide) ?_
        refine lv_goto (tgt := 23) hx hb dX9_isKind_19 (by decide) ?_
        exact mr_z (rfl) hx hb hr () ((if_pos (Or.inr (Or.inr h3))).symm) (hP.sub [] rfl) (hK.sub [] rfl) (hD.sub [] (by decide) rfl) hS (Nat.le_of_ble_eq_true rfl) (Nat.le_of_ble_eq_true rfl) hlocks dX9_isKind_23

def us_c_isCell : List Cond := .code yX9_isCell cX9_isCell 2 (some .boolean) :: (([.fieldLink RX9 19 "ControlWoodModel" "growth" "[I", .methodLink RX9 72 yX9_in, .static yX9_in, .initialized RX9] : List Cond) ++ (wsX90 ++ (us_c_in ++ ([]))))
theorem gw_c_isCell : ∀ w ∈ us_c_isCell, goodWord w = true := gw_cons rfl (gw_app (by decide +kernel) (gw_app gwf_X9 (gw_app gw_c_in (fun _ h => nomatch h))))
set_option maxHeartbeats 4000000 in
set_option maxRecDepth 100000 in
/-- isCell -/
theorem c_isCell (l : Launch) (hst : l.stackTraces = false) (D : va_G) (mo : Nat) (th : Int32) (m1 : Nat) (m2 : Nat) (m3 : Nat) (m4 : Nat) (m5 : Nat) (l1 : Nat) (l2 : Nat) (l3 : Nat) (l4 : Nat) (cm1 : ClassId) (v : Int32) (sz : Nat) : Met l yX9_isCell us_c_isCell { frames := 1, cells := 0, slots := 0, locals := 25 } (pw D [.ref mo, .int v] [(cm1, .int)] [(mo, .inr (16, [.int 5, .int 5, .int th, .ref m1, .ref m2, .ref m3, .ref m4, .ref m5, .ref l1, .ref l2, .ref l3, .int (-1), .ref l4])), (m1, .inl (cm1, 25, .inl (fun _ => 0)))] sz) (va_Qi (fun (r : Int32) (_ : Unit) => r = (if inI v 25 then 1 else 0)) (qb D (va_A [(mo, .inr (16, [.int 5, .int 5, .int th, .ref m1, .ref m2, .ref m3, .ref m4, .ref m5, .ref l1, .ref l2, .ref l3, .int (-1), .ref l4])), (m1, .inl (cm1, 25, .inl (fun _ => 0)))] sz) (fun _ : Unit => [(mo, .inr (16, [.int 5, .int 5, .int th, .ref m1, .ref m2, .ref m3, .ref m4, .ref m5, .ref l1, .ref l2, .ref l3, .int (-1), .ref l4])), (m1, .inl (cm1, 25, .inl (fun _ => 0)))]) (fun _ : Unit => ([] : List (ClassId × FieldType)))) (va_A [(mo, .inr (16, [.int 5, .int 5, .int th, .ref m1, .ref m2, .ref m3, .ref m4, .ref m5, .ref l1, .ref l2, .ref l3, .int (-1), .ref l4])), (m1, .inl (cm1, 25, .inl (fun _ => 0)))] sz)) 0 0 (va_A [(mo, .inr (16, [.int 5, .int 5, .int th, .ref m1, .ref m2, .ref m3, .ref m4, .ref m5, .ref l1, .ref l2, .ref l3, .int (-1), .ref l4])), (m1, .inl (cm1, 25, .inl (fun _ => 0)))] sz) := by
  refine op_M (Qc := fun A => (va_Qi (fun (r : Int32) (_ : Unit) => r = (if inI v 25 then 1 else 0)) (qb D A (fun _ : Unit => [(mo, .inr (16, [.int 5, .int 5, .int th, .ref m1, .ref m2, .ref m3, .ref m4, .ref m5, .ref l1, .ref l2, .ref l3, .int (-1), .ref l4])), (m1, .inl (cm1, 25, .inl (fun _ => 0)))]) (fun _ : Unit => ([] : List (ClassId × FieldType)))) A)) (by decide +kernel) rfl (Nat.le_of_ble_eq_true rfl) ?_
  intro p e s m args below meth c A ls hx hb hr hml hts hown hlocks hmn htab hA hD hS hP hK hE hsz hl
  have hown : s.vm.findClass RX9 = some m.cls := hown
  have hl : lv_has ls 2 [(0, .ref mo), (1, .int v)] := hl
  have hw_0 := hts (.fieldLink RX9 19 "ControlWoodModel" "growth" "[I") (List.mem_cons_of_mem _ (List.mem_append_left _ (List.mem_of_getElem? (i := 0) rfl)))
  have hw_1 := hts (.methodLink RX9 72 yX9_in) (List.mem_cons_of_mem _ (List.mem_append_left _ (List.mem_of_getElem? (i := 1) rfl)))
  have hw_2 := hts (.static yX9_in) (List.mem_cons_of_mem _ (List.mem_append_left _ (List.mem_of_getElem? (i := 2) rfl)))
  have hw_3 := hts (.initialized RX9) (List.mem_cons_of_mem _ (List.mem_append_left _ (List.mem_of_getElem? (i := 3) rfl)))
  have hb_0 : ∀ w ∈ wsX90, w ∈ us_c_isCell := fun w h => List.mem_cons_of_mem _ (List.mem_append_right _ (List.mem_append_left _ h))
  have hb_1 : ∀ w ∈ us_c_in, w ∈ us_c_isCell := fun w h => List.mem_cons_of_mem _ (List.mem_append_right _ (List.mem_append_right _ (List.mem_append_left _ h)))
  refine lv_iload_n hx hb dX9_isCell_0 rfl (lv_at hl 1 rfl) ?_
  refine lv_i2l hx hb dX9_isCell_1 rfl ?_
  refine lv_topl (fun x1 e1 => ?_)
  obtain rfl : x1 = v.toInt64 := e1
  refine lv_lconst (v := 0) hx hb dX9_isCell_2 (by decide) ?_
  refine lv_aload_n hx hb dX9_isCell_3 rfl (lv_at hl 0 rfl) ?_
  refine va_get (D := D) (ci := 16) (v := .ref m1) (C := RX9) (T := TX9) (N := 13) hx hb hts hb_0 hown hK hP 0 rfl rfl 3 (by decide) hw_0 (fun _ h9 => h9) rfl dX9_isCell_4 ?_
  refine va_alen hx hb hK hP 1 0 rfl rfl (v := 25) rfl dX9_isCell_7 ?_
  refine lv_iconst (v := 1) hx hb dX9_isCell_8 (by decide) ?_
  refine lv_isub hx hb dX9_isCell_9 ?_
  refine lv_topi (fun x2 e2 => ?_)
  obtain rfl : x2 = 24 := e2.trans (by decide)
  refine lv_i2l hx hb dX9_isCell_10 rfl ?_
  refine lv_topl (fun x3 e3 => ?_)
  obtain rfl : x3 = 24 := e3.trans (by decide)
  refine mc_i (wr := [(mo, .inr (16, [.int 5, .int 5, .int th, .ref m1, .ref m2, .ref m3, .ref m4, .ref m5, .ref l1, .ref l2, .ref l3, .int (-1), .ref l4])), (m1, .inl (cm1, 25, .inl (fun _ => 0)))]) (va_runS (As := [.long v.toInt64, .long 0, .long 24]) (rest := []) ⟨hx, hb, hml, hown, hts⟩ (c_in l hst D v 0 24 0 24 s.heap.size (by decide) (by decide)) (va_cwS 3 hts (gi_c (List.mem_cons_of_mem _ (List.mem_append_left _ (List.mem_of_getElem? (i := 1) rfl))) rfl (gi_c (List.mem_cons_of_mem _ (List.mem_append_left _ (List.mem_of_getElem? (i := 2) rfl))) rfl (gi_c (List.mem_cons_of_mem _ (List.mem_append_left _ (List.mem_of_getElem? (i := 3) rfl))) rfl (goodIn_sub hb_1 (List.all_eq_true.mpr gw_c_in))))) rfl rfl rfl (by decide +kernel) ⟨Nat.le_of_ble_eq_true rfl, Nat.le_of_ble_eq_true rfl⟩) (pr_S (As := [.long v.toInt64, .long 0, .long 24]) hP hD hK hS hA hE [] [] rfl rfl rfl) rfl rfl hl.1 rfl (lv_room (Nat.le_of_ble_eq_true rfl)) dX9_isCell_11 ⟨Nat.le_of_ble_eq_true rfl, Nat.le_of_ble_eq_true rfl⟩) hP hD hK hS hA [] [0, 1] rfl rfl (by decide) (by decide) (fun r5 _ H locs w4 hP hD hK hS => ?_)
  have hP : va_P D vwCl [(mo, .inr (16, [.int 5, .int 5, .int th, .ref m1, .ref m2, .ref m3, .ref m4, .ref m5, .ref l1, .ref l2, .ref l3, .int (-1), .ref l4])), (m1, .inl (cm1, 25, .inl (fun _ => 0)))] H := hP
  have hD : va_D A [(mo, .inr (16, [.int 5, .int 5, .int th, .ref m1, .ref m2, .ref m3, .ref m4, .ref m5, .ref l1, .ref l2, .ref l3, .int (-1), .ref l4])), (m1, .inl (cm1, 25, .inl (fun _ => 0)))] := hD
  have hK : va_K D vwCl [(cm1, .int)] s := hK
  obtain rfl : r5 = (if inR v 0 24 then 1 else 0) := w4
  exact mr_z (nar01 _) hx hb hr () (in_24 v) (hP.sub [0, 1] rfl) (hK.sub [] rfl) (hD.sub [0, 1] (by decide) rfl) hS (Nat.le_of_ble_eq_true rfl) (Nat.le_of_ble_eq_true rfl) hlocks dX9_isCell_14

def us_c_isControl : List Cond := .code yX9_isControl cX9_isControl 2 (some .boolean) :: (([.fieldLink RX9 39 "ControlWoodModel" "controls" "Ljava/util/ArrayList;", .methodLink RX9 135 yJx4a65c_size_8abf5, .instanceMethod yJx4a65c_size_8abf5, .selects RJx4a65c yJx4a65c_size_8abf5 yJx4a65c_size_8abf5, .initialized RJx4a65c, .methodLink RX9 72 yX9_in, .static yX9_in, .initialized RX9] : List Cond) ++ (wsX90 ++ (us_c_alSize ++ (us_c_in ++ ([])))))
theorem gw_c_isControl : ∀ w ∈ us_c_isControl, goodWord w = true := gw_cons rfl (gw_app (by decide +kernel) (gw_app gwf_X9 (gw_app gw_c_alSize (gw_app gw_c_in (fun _ h => nomatch h)))))
set_option maxHeartbeats 4000000 in
set_option maxRecDepth 100000 in
/-- isControl: there is none yet -/
theorem c_isControl (l : Launch) (hst : l.stackTraces = false) (D : va_G) (mo : Nat) (th : Int32) (m1 : Nat) (m2 : Nat) (m3 : Nat) (m4 : Nat) (m5 : Nat) (l1 : Nat) (l2 : Nat) (l3 : Nat) (l4 : Nat) (v : Int32) (sz : Nat) : Met l yX9_isControl us_c_isControl { frames := 1, cells := 0, slots := 0, locals := 25 } (pw D [.ref mo, .int v] [] [(mo, .inr (16, [.int 5, .int 5, .int th, .ref m1, .ref m2, .ref m3, .ref m4, .ref m5, .ref l1, .ref l2, .ref l3, .int (-1), .ref l4])), (l1, .inr (5, [.int 1, .ref (D.1 1000), .int 0]))] sz) (va_Qi (fun (r : Int32) (_ : Unit) => r = 0) (qb D (va_A [(mo, .inr (16, [.int 5, .int 5, .int th, .ref m1, .ref m2, .ref m3, .ref m4, .ref m5, .ref l1, .ref l2, .ref l3, .int (-1), .ref l4])), (l1, .inr (5, [.int 1, .ref (D.1 1000), .int 0]))] sz) (fun _ : Unit => [(mo, .inr (16, [.int 5, .int 5, .int th, .ref m1, .ref m2, .ref m3, .ref m4, .ref m5, .ref l1, .ref l2, .ref l3, .int (-1), .ref l4])), (l1, .inr (5, [.int 1, .ref (D.1 1000), .int 0]))]) (fun _ : Unit => ([] : List (ClassId × FieldType)))) (va_A [(mo, .inr (16, [.int 5, .int 5, .int th, .ref m1, .ref m2, .ref m3, .ref m4, .ref m5, .ref l1, .ref l2, .ref l3, .int (-1), .ref l4])), (l1, .inr (5, [.int 1, .ref (D.1 1000), .int 0]))] sz)) 0 0 (va_A [(mo, .inr (16, [.int 5, .int 5, .int th, .ref m1, .ref m2, .ref m3, .ref m4, .ref m5, .ref l1, .ref l2, .ref l3, .int (-1), .ref l4])), (l1, .inr (5, [.int 1, .ref (D.1 1000), .int 0]))] sz) := by
  refine op_M (Qc := fun A => (va_Qi (fun (r : Int32) (_ : Unit) => r = 0) (qb D A (fun _ : Unit => [(mo, .inr (16, [.int 5, .int 5, .int th, .ref m1, .ref m2, .ref m3, .ref m4, .ref m5, .ref l1, .ref l2, .ref l3, .int (-1), .ref l4])), (l1, .inr (5, [.int 1, .ref (D.1 1000), .int 0]))]) (fun _ : Unit => ([] : List (ClassId × FieldType)))) A)) (by decide +kernel) rfl (Nat.le_of_ble_eq_true rfl) ?_
  intro p e s m args below meth c A ls hx hb hr hml hts hown hlocks hmn htab hA hD hS hP hK hE hsz hl
  have hown : s.vm.findClass RX9 = some m.cls := hown
  have hl : lv_has ls 2 [(0, .ref mo), (1, .int v)] := hl
  have hw_0 := hts (.fieldLink RX9 39 "ControlWoodModel" "controls" "Ljava/util/ArrayList;") (List.mem_cons_of_mem _ (List.mem_append_left _ (List.mem_of_getElem? (i := 0) rfl)))
  have hw_1 := hts (.methodLink RX9 135 yJx4a65c_size_8abf5) (List.mem_cons_of_mem _ (List.mem_append_left _ (List.mem_of_getElem? (i := 1) rfl)))
  have hw_2 := hts (.instanceMethod yJx4a65c_size_8abf5) (List.mem_cons_of_mem _ (List.mem_append_left _ (List.mem_of_getElem? (i := 2) rfl)))
  have hw_3 := hts (.selects RJx4a65c yJx4a65c_size_8abf5 yJx4a65c_size_8abf5) (List.mem_cons_of_mem _ (List.mem_append_left _ (List.mem_of_getElem? (i := 3) rfl)))
  have hw_4 := hts (.initialized RJx4a65c) (List.mem_cons_of_mem _ (List.mem_append_left _ (List.mem_of_getElem? (i := 4) rfl)))
  have hw_5 := hts (.methodLink RX9 72 yX9_in) (List.mem_cons_of_mem _ (List.mem_append_left _ (List.mem_of_getElem? (i := 5) rfl)))
  have hw_6 := hts (.static yX9_in) (List.mem_cons_of_mem _ (List.mem_append_left _ (List.mem_of_getElem? (i := 6) rfl)))
  have hw_7 := hts (.initialized RX9) (List.mem_cons_of_mem _ (List.mem_append_left _ (List.mem_of_getElem? (i := 7) rfl)))
  have hb_0 : ∀ w ∈ wsX90, w ∈ us_c_isControl := fun w h => List.mem_cons_of_mem _ (List.mem_append_right _ (List.mem_append_left _ h))
  have hb_1 : ∀ w ∈ us_c_alSize, w ∈ us_c_isControl := fun w h => List.mem_cons_of_mem _ (List.mem_append_right _ (List.mem_append_right _ (List.mem_append_left _ h)))
  have hb_2 : ∀ w ∈ us_c_in, w ∈ us_c_isControl := fun w h => List.mem_cons_of_mem _ (List.mem_append_right _ (List.mem_append_right _ (List.mem_append_right _ (List.mem_append_left _ h))))
  refine lv_iload_n hx hb dX9_isControl_0 rfl (lv_at hl 1 rfl) ?_
  refine lv_i2l hx hb dX9_isControl_1 rfl ?_
  refine lv_topl (fun x1 e1 => ?_)
  obtain rfl : x1 = v.toInt64 := e1
  refine lv_lconst (v := 0) hx hb dX9_isControl_2 (by decide) ?_
  refine lv_aload_n hx hb dX9_isControl_3 rfl (lv_at hl 0 rfl) ?_
  refine va_get (D := D) (ci := 16) (v := .ref l1) (C := RX9) (T := TX9) (N := 13) hx hb hts hb_0 hown hK hP 0 rfl rfl 8 (by decide) hw_0 (fun _ h9 => h9) rfl dX9_isControl_4 ?_
  refine mc_i (wr := [(mo, .inr (16, [.int 5, .int 5, .int th, .ref m1, .ref m2, .ref m3, .ref m4, .ref m5, .ref l1, .ref l2, .ref l3, .int (-1), .ref l4]))]) (va_runV (As := []) (rest := [.long 0, .long v.toInt64]) ⟨hx, hb, hml, hown, hts⟩ (c_alSize l hst D l1 1 (D.1 1000) 0 s.heap.size) (cwV 0 hts (gi_c (List.mem_cons_of_mem _ (List.mem_append_left _ (List.mem_of_getElem? (i := 1) rfl))) rfl (gi_c (List.mem_cons_of_mem _ (List.mem_append_left _ (List.mem_of_getElem? (i := 2) rfl))) rfl (gi_c (List.mem_cons_of_mem _ (List.mem_append_left _ (List.mem_of_getElem? (i := 3) rfl))) rfl (gi_c (List.mem_cons_of_mem _ (List.mem_append_left _ (List.mem_of_getElem? (i := 4) rfl))) rfl (goodIn_sub hb_1 (List.all_eq_true.mpr gw_c_alSize)))))) rfl rfl rfl (by decide +kernel) ⟨Nat.le_of_ble_eq_true rfl, Nat.le_of_ble_eq_true rfl⟩) (pr_V (As := []) (b := l1) (C := RJx4a65c) hP hD hK hS hA hE [1] [] rfl rfl rfl 1 5 rfl rfl rfl) rfl rfl hl.1 rfl (lv_room (Nat.le_of_ble_eq_true rfl)) dX9_isControl_7 ⟨Nat.le_of_ble_eq_true rfl, Nat.le_of_ble_eq_true rfl⟩) hP hD hK hS hA [1] [0] rfl rfl (by decide) (by decide) (fun r3 _ H locs w2 hP hD hK hS => ?_)
  have hP : va_P D vwCl [(mo, .inr (16, [.int 5, .int 5, .int th, .ref m1, .ref m2, .ref m3, .ref m4, .ref m5, .ref l1, .ref l2, .ref l3, .int (-1), .ref l4])), (l1, .inr (5, [.int 1, .ref (D.1 1000), .int 0]))] H := hP
  have hD : va_D A [(mo, .inr (16, [.int 5, .int 5, .int th, .ref m1, .ref m2, .ref m3, .ref m4, .ref m5, .ref l1, .ref l2, .ref l3, .int (-1), .ref l4])), (l1, .inr (5, [.int 1, .ref (D.1 1000), .int 0]))] := hD
  have hK : va_K D vwCl [] s := hK
  obtain rfl : r3 = 0 := w2
  refine lv_iconst (v := 1) hx hb dX9_isControl_10 (by decide) ?_
  refine lv_isub hx hb dX9_isControl_11 ?_
  refine lv_topi (fun x4 e4 => ?_)
  obtain rfl : x4 = (-1) := e4.trans (by decide)
  refine lv_i2l hx hb dX9_isControl_12 rfl ?_
  refine lv_topl (fun x5 e5 => ?_)
  obtain rfl : x5 = (-1) := e5.trans (by decide)
  refine mc_i (wr := [(mo, .inr (16, [.int 5, .int 5, .int th, .ref m1, .ref m2, .ref m3, .ref m4, .ref m5, .ref l1, .ref l2, .ref l3, .int (-1), .ref l4])), (l1, .inr (5, [.int 1, .ref (D.1 1000), .int 0]))]) (va_runS (As := [.long v.toInt64, .long 0, .long (-1)]) (rest := []) ⟨hx, hb, hml, hown, hts⟩ (c_in l hst D v 0 (-1) 0 (-1) H.size (by decide) (by decide)) (va_cwS 3 hts (gi_c (List.mem_cons_of_mem _ (List.mem_append_left _ (List.mem_of_getElem? (i := 5) rfl))) rfl (gi_c (List.mem_cons_of_mem _ (List.mem_append_left _ (List.mem_of_getElem? (i := 6) rfl))) rfl (gi_c (List.mem_cons_of_mem _ (List.mem_append_left _ (List.mem_of_getElem? (i := 7) rfl))) rfl (goodIn_sub hb_2 (List.all_eq_true.mpr gw_c_in))))) rfl rfl rfl (by decide +kernel) ⟨Nat.le_of_ble_eq_true rfl, Nat.le_of_ble_eq_true rfl⟩) (pr_S (As := [.long v.toInt64, .long 0, .long (-1)]) hP hD hK hS hA hE [] [] rfl rfl rfl) rfl rfl hl.1 rfl (lv_room (Nat.le_of_ble_eq_true rfl)) dX9_isControl_13 ⟨Nat.le_of_ble_eq_true rfl, Nat.le_of_ble_eq_true rfl⟩) hP hD hK hS hA [] [0, 1] rfl rfl (by decide) (by decide) (fun r7 _ H locs w6 hP hD hK hS => ?_)
  have hP : va_P D vwCl [(mo, .inr (16, [.int 5, .int 5, .int th, .ref m1, .ref m2, .ref m3, .ref m4, .ref m5, .ref l1, .ref l2, .ref l3, .int (-1), .ref l4])), (l1, .inr (5, [.int 1, .ref (D.1 1000), .int 0]))] H := hP
  have hD : va_D A [(mo, .inr (16, [.int 5, .int 5, .int th, .ref m1, .ref m2, .ref m3, .ref m4, .ref m5, .ref l1, .ref l2, .ref l3, .int (-1), .ref l4])), (l1, .inr (5, [.int 1, .ref (D.1 1000), .int 0]))] := hD
  have hK : va_K D vwCl [] s := hK
  obtain rfl : r7 = (if inR v 0 (-1) then 1 else 0) := w6
  exact mr_z (by rw [in_none]; rfl) hx hb hr () (in_none v) (hP.sub [0, 1] rfl) (hK.sub [] rfl) (hD.sub [0, 1] (by decide) rfl) hS (Nat.le_of_ble_eq_true rfl) (Nat.le_of_ble_eq_true rfl) hlocks dX9_isControl_16

def us_c_isCourse : List Cond := .code yX9_isCourse cX9_isCourse 2 (some .boolean) :: (([.fieldLink RX9 43 "ControlWoodModel" "courses" "Ljava/util/ArrayList;", .methodLink RX9 135 yJx4a65c_size_8abf5, .instanceMethod yJx4a65c_size_8abf5, .selects RJx4a65c yJx4a65c_size_8abf5 yJx4a65c_size_8abf5, .initialized RJx4a65c, .methodLink RX9 72 yX9_in, .static yX9_in, .initialized RX9] : List Cond) ++ (wsX90 ++ (us_c_alSize ++ (us_c_in ++ ([])))))
theorem gw_c_isCourse : ∀ w ∈ us_c_isCourse, goodWord w = true := gw_cons rfl (gw_app (by decide +kernel) (gw_app gwf_X9 (gw_app gw_c_alSize (gw_app gw_c_in (fun _ h => nomatch h)))))
set_option maxHeartbeats 4000000 in
set_option maxRecDepth 100000 in
/-- isCourse: there is none yet -/
theorem c_isCourse (l : Launch) (hst : l.stackTraces = false) (D : va_G) (mo : Nat) (th : Int32) (m1 : Nat) (m2 : Nat) (m3 : Nat) (m4 : Nat) (m5 : Nat) (l1 : Nat) (l2 : Nat) (l3 : Nat) (l4 : Nat) (v : Int32) (sz : Nat) : Met l yX9_isCourse us_c_isCourse { frames := 1, cells := 0, slots := 0, locals := 25 } (pw D [.ref mo, .int v] [] [(mo, .inr (16, [.int 5, .int 5, .int th, .ref m1, .ref m2, .ref m3, .ref m4, .ref m5, .ref l1, .ref l2, .ref l3, .int (-1), .ref l4])), (l2, .inr (5, [.int 1, .ref (D.1 1000), .int 0]))] sz) (va_Qi (fun (r : Int32) (_ : Unit) => r = 0) (qb D (va_A [(mo, .inr (16, [.int 5, .int 5, .int th, .ref m1, .ref m2, .ref m3, .ref m4, .ref m5, .ref l1, .ref l2, .ref l3, .int (-1), .ref l4])), (l2, .inr (5, [.int 1, .ref (D.1 1000), .int 0]))] sz) (fun _ : Unit => [(mo, .inr (16, [.int 5, .int 5, .int th, .ref m1, .ref m2, .ref m3, .ref m4, .ref m5, .ref l1, .ref l2, .ref l3, .int (-1), .ref l4])), (l2, .inr (5, [.int 1, .ref (D.1 1000), .int 0]))]) (fun _ : Unit => ([] : List (ClassId × FieldType)))) (va_A [(mo, .inr (16, [.int 5, .int 5, .int th, .ref m1, .ref m2, .ref m3, .ref m4, .ref m5, .ref l1, .ref l2, .ref l3, .int (-1), .ref l4])), (l2, .inr (5, [.int 1, .ref (D.1 1000), .int 0]))] sz)) 0 0 (va_A [(mo, .inr (16, [.int 5, .int 5, .int th, .ref m1, .ref m2, .ref m3, .ref m4, .ref m5, .ref l1, .ref l2, .ref l3, .int (-1), .ref l4])), (l2, .inr (5, [.int 1, .ref (D.1 1000), .int 0]))] sz) := by
  refine op_M (Qc := fun A => (va_Qi (fun (r : Int32) (_ : Unit) => r = 0) (qb D A (fun _ : Unit => [(mo, .inr (16, [.int 5, .int 5, .int th, .ref m1, .ref m2, .ref m3, .ref m4, .ref m5, .ref l1, .ref l2, .ref l3, .int (-1), .ref l4])), (l2, .inr (5, [.int 1, .ref (D.1 1000), .int 0]))]) (fun _ : Unit => ([] : List (ClassId × FieldType)))) A)) (by decide +kernel) rfl (Nat.le_of_ble_eq_true rfl) ?_
  intro p e s m args below meth c A ls hx hb hr hml hts hown hlocks hmn htab hA hD hS hP hK hE hsz hl
  have hown : s.vm.findClass RX9 = some m.cls := hown
  have hl : lv_has ls 2 [(0, .ref mo), (1, .int v)] := hl
  have hw_0 := hts (.fieldLink RX9 43 "ControlWoodModel" "courses" "Ljava/util/ArrayList;") (List.mem_cons_of_mem _ (List.mem_append_left _ (List.mem_of_getElem? (i := 0) rfl)))
  have hw_1 := hts (.methodLink RX9 135 yJx4a65c_size_8abf5) (List.mem_cons_of_mem _ (List.mem_append_left _ (List.mem_of_getElem? (i := 1) rfl)))
  have hw_2 := hts (.instanceMethod yJx4a65c_size_8abf5) (List.mem_cons_of_mem _ (List.mem_append_left _ (List.mem_of_getElem? (i := 2) rfl)))
  have hw_3 := hts (.selects RJx4a65c yJx4a65c_size_8abf5 yJx4a65c_size_8abf5) (List.mem_cons_of_mem _ (List.mem_append_left _ (List.mem_of_getElem? (i := 3) rfl)))
  have hw_4 := hts (.initialized RJx4a65c) (List.mem_cons_of_mem _ (List.mem_append_left _ (List.mem_of_getElem? (i := 4) rfl)))
  have hw_5 := hts (.methodLink RX9 72 yX9_in) (List.mem_cons_of_mem _ (List.mem_append_left _ (List.mem_of_getElem? (i := 5) rfl)))
  have hw_6 := hts (.static yX9_in) (List.mem_cons_of_mem _ (List.mem_append_left _ (List.mem_of_getElem? (i := 6) rfl)))
  have hw_7 := hts (.initialized RX9) (List.mem_cons_of_mem _ (List.mem_append_left _ (List.mem_of_getElem? (i := 7) rfl)))
  have hb_0 : ∀ w ∈ wsX90, w ∈ us_c_isCourse := fun w h => List.mem_cons_of_mem _ (List.mem_append_right _ (List.mem_append_left _ h))
  have hb_1 : ∀ w ∈ us_c_alSize, w ∈ us_c_isCourse := fun w h => List.mem_cons_of_mem _ (List.mem_append_right _ (List.mem_append_right _ (List.mem_append_left _ h)))
  have hb_2 : ∀ w ∈ us_c_in, w ∈ us_c_isCourse := fun w h => List.mem_cons_of_mem _ (List.mem_append_right _ (List.mem_append_right _ (List.mem_append_right _ (List.mem_append_left _ h))))
  refine lv_iload_n hx hb dX9_isCourse_0 rfl (lv_at hl 1 rfl) ?_
  refine lv_i2l hx hb dX9_isCourse_1 rfl ?_
  refine lv_topl (fun x1 e1 => ?_)
  obtain rfl : x1 = v.toInt64 := e1
  refine lv_lconst (v := 0) hx hb dX9_isCourse_2 (by decide) ?_
  refine lv_aload_n hx hb dX9_isCourse_3 rfl (lv_at hl 0 rfl) ?_
  refine va_get (D := D) (ci := 16) (v := .ref l2) (C := RX9) (T := TX9) (N := 13) hx hb hts hb_0 hown hK hP 0 rfl rfl 9 (by decide) hw_0 (fun _ h9 => h9) rfl dX9_isCourse_4 ?_
  refine mc_i (wr := [(mo, .inr (16, [.int 5, .int 5, .int th, .ref m1, .ref m2, .ref m3, .ref m4, .ref m5, .ref l1, .ref l2, .ref l3, .int (-1), .ref l4]))]) (va_runV (As := []) (rest := [.long 0, .long v.toInt64]) ⟨hx, hb, hml, hown, hts⟩ (c_alSize l hst D l2 1 (D.1 1000) 0 s.heap.size) (cwV 0 hts (gi_c (List.mem_cons_of_mem _ (List.mem_append_left _ (List.mem_of_getElem? (i := 1) rfl))) rfl (gi_c (List.mem_cons_of_mem _ (List.mem_append_left _ (List.mem_of_getElem? (i := 2) rfl))) rfl (gi_c (List.mem_cons_of_mem _ (List.mem_append_left _ (List.mem_of_getElem? (i := 3) rfl))) rfl (gi_c (List.mem_cons_of_mem _ (List.mem_append_left _ (List.mem_of_getElem? (i := 4) rfl))) rfl (goodIn_sub hb_1 (List.all_eq_true.mpr gw_c_alSize)))))) rfl rfl rfl (by decide +kernel) ⟨Nat.le_of_ble_eq_true rfl, Nat.le_of_ble_eq_true rfl⟩) (pr_V (As := []) (b := l2) (C := RJx4a65c) hP hD hK hS hA hE [1] [] rfl rfl rfl 1 5 rfl rfl rfl) rfl rfl hl.1 rfl (lv_room (Nat.le_of_ble_eq_true rfl)) dX9_isCourse_7 ⟨Nat.le_of_ble_eq_true rfl, Nat.le_of_ble_eq_true rfl⟩) hP hD hK hS hA [1] [0] rfl rfl (by decide) (by decide) (fun r3 _ H locs w2 hP hD hK hS => ?_)
  have hP : va_P D vwCl [(mo, .inr (16, [.int 5, .int 5, .int th, .ref m1, .ref m2, .ref m3, .ref m4, .ref m5, .ref l1, .ref l2, .ref l3, .int (-1), .ref l4])), (l2, .inr (5, [.int 1, .ref (D.1 1000), .int 0]))] H := hP
  have hD : va_D A [(mo, .inr (16, [.int 5, .int 5, .int th, .ref m1, .ref m2, .ref m3, .ref m4, .ref m5, .ref l1, .ref l2, .ref l3, .int (-1), .ref l4])), (l2, .inr (5, [.int 1, .ref (D.1 1000), .int 0]))] := hD
  have hK : va_K D vwCl [] s := hK
  obtain rfl : r3 = 0 := w2
  refine lv_iconst (v := 1) hx hb dX9_isCourse_10 (by decide) ?_
  refine lv_isub hx hb dX9_isCourse_11 ?_
  refine lv_topi (fun x4 e4 => ?_)
  obtain rfl : x4 = (-1) := e4.trans (by decide)
  refine lv_i2l hx hb dX9_isCourse_12 rfl ?_
  refine lv_topl (fun x5 e5 => ?_)
  obtain rfl : x5 = (-1) := e5.trans (by decide)
  refine mc_i (wr := [(mo, .inr (16, [.int 5, .int 5, .int th, .ref m1, .ref m2, .ref m3, .ref m4, .ref m5, .ref l1, .ref l2, .ref l3, .int (-1), .ref l4])), (l2, .inr (5, [.int 1, .ref (D.1 1000), .int 0]))]) (va_runS (As := [.long v.toInt64, .long 0, .long (-1)]) (rest := []) ⟨hx, hb, hml, hown, hts⟩ (c_in l hst D v 0 (-1) 0 (-1) H.size (by decide) (by decide)) (va_cwS 3 hts (gi_c (List.mem_cons_of_mem _ (List.mem_append_left _ (List.mem_of_getElem? (i := 5) rfl))) rfl (gi_c (List.mem_cons_of_mem _ (List.mem_append_left _ (List.mem_of_getElem? (i := 6) rfl))) rfl (gi_c (List.mem_cons_of_mem _ (List.mem_append_left _ (List.mem_of_getElem? (i := 7) rfl))) rfl (goodIn_sub hb_2 (List.all_eq_true.mpr gw_c_in))))) rfl rfl rfl (by decide +kernel) ⟨Nat.le_of_ble_eq_true rfl, Nat.le_of_ble_eq_true rfl⟩) (pr_S (As := [.long v.toInt64, .long 0, .long (-1)]) hP hD hK hS hA hE [] [] rfl rfl rfl) rfl rfl hl.1 rfl (lv_room (Nat.le_of_ble_eq_true rfl)) dX9_isCourse_13 ⟨Nat.le_of_ble_eq_true rfl, Nat.le_of_ble_eq_true rfl⟩) hP hD hK hS hA [] [0, 1] rfl rfl (by decide) (by decide) (fun r7 _ H locs w6 hP hD hK hS => ?_)
  have hP : va_P D vwCl [(mo, .inr (16, [.int 5, .int 5, .int th, .ref m1, .ref m2, .ref m3, .ref m4, .ref m5, .ref l1, .ref l2, .ref l3, .int (-1), .ref l4])), (l2, .inr (5, [.int 1, .ref (D.1 1000), .int 0]))] H := hP
  have hD : va_D A [(mo, .inr (16, [.int 5, .int 5, .int th, .ref m1, .ref m2, .ref m3, .ref m4, .ref m5, .ref l1, .ref l2, .ref l3, .int (-1), .ref l4])), (l2, .inr (5, [.int 1, .ref (D.1 1000), .int 0]))] := hD
  have hK : va_K D vwCl [] s := hK
  obtain rfl : r7 = (if inR v 0 (-1) then 1 else 0) := w6
  exact mr_z (by rw [in_none]; rfl) hx hb hr () (in_none v) (hP.sub [0, 1] rfl) (hK.sub [] rfl) (hD.sub [0, 1] (by decide) rfl) hS (Nat.le_of_ble_eq_true rfl) (Nat.le_of_ble_eq_true rfl) hlocks dX9_isCourse_16

def us_c_isRunner : List Cond := .code yX9_isRunner cX9_isRunner 2 (some .boolean) :: (([.fieldLink RX9 46 "ControlWoodModel" "runners" "Ljava/util/ArrayList;", .methodLink RX9 135 yJx4a65c_size_8abf5, .instanceMethod yJx4a65c_size_8abf5, .selects RJx4a65c yJx4a65c_size_8abf5 yJx4a65c_size_8abf5, .initialized RJx4a65c, .methodLink RX9 72 yX9_in, .static yX9_in, .initialized RX9] : List Cond) ++ (wsX90 ++ (us_c_alSize ++ (us_c_in ++ ([])))))
theorem gw_c_isRunner : ∀ w ∈ us_c_isRunner, goodWord w = true := gw_cons rfl (gw_app (by decide +kernel) (gw_app gwf_X9 (gw_app gw_c_alSize (gw_app gw_c_in (fun _ h => nomatch h)))))
set_option maxHeartbeats 4000000 in
set_option maxRecDepth 100000 in
/-- isRunner: there is none yet -/
theorem c_isRunner (l : Launch) (hst : l.stackTraces = false) (D : va_G) (mo : Nat) (th : Int32) (m1 : Nat) (m2 : Nat) (m3 : Nat) (m4 : Nat) (m5 : Nat) (l1 : Nat) (l2 : Nat) (l3 : Nat) (l4 : Nat) (v : Int32) (sz : Nat) : Met l yX9_isRunner us_c_isRunner { frames := 1, cells := 0, slots := 0, locals := 25 } (pw D [.ref mo, .int v] [] [(mo, .inr (16, [.int 5, .int 5, .int th, .ref m1, .ref m2, .ref m3, .ref m4, .ref m5, .ref l1, .ref l2, .ref l3, .int (-1), .ref l4])), (l3, .inr (5, [.int 1, .ref (D.1 1000), .int 0]))] sz) (va_Qi (fun (r : Int32) (_ : Unit) => r = 0) (qb D (va_A [(mo, .inr (16, [.int 5, .int 5, .int th, .ref m1, .ref m2, .ref m3, .ref m4, .ref m5, .ref l1, .ref l2, .ref l3, .int (-1), .ref l4])), (l3, .inr (5, [.int 1, .ref (D.1 1000), .int 0]))] sz) (fun _ : Unit => [(mo, .inr (16, [.int 5, .int 5, .int th, .ref m1, .ref m2, .ref m3, .ref m4, .ref m5, .ref l1, .ref l2, .ref l3, .int (-1), .ref l4])), (l3, .inr (5, [.int 1, .ref (D.1 1000), .int 0]))]) (fun _ : Unit => ([] : List (ClassId × FieldType)))) (va_A [(mo, .inr (16, [.int 5, .int 5, .int th, .ref m1, .ref m2, .ref m3, .ref m4, .ref m5, .ref l1, .ref l2, .ref l3, .int (-1), .ref l4])), (l3, .inr (5, [.int 1, .ref (D.1 1000), .int 0]))] sz)) 0 0 (va_A [(mo, .inr (16, [.int 5, .int 5, .int th, .ref m1, .ref m2, .ref m3, .ref m4, .ref m5, .ref l1, .ref l2, .ref l3, .int (-1), .ref l4])), (l3, .inr (5, [.int 1, .ref (D.1 1000), .int 0]))] sz) := by
  refine op_M (Qc := fun A => (va_Qi (fun (r : Int32) (_ : Unit) => r = 0) (qb D A (fun _ : Unit => [(mo, .inr (16, [.int 5, .int 5, .int th, .ref m1, .ref m2, .ref m3, .ref m4, .ref m5, .ref l1, .ref l2, .ref l3, .int (-1), .ref l4])), (l3, .inr (5, [.int 1, .ref (D.1 1000), .int 0]))]) (fun _ : Unit => ([] : List (ClassId × FieldType)))) A)) (by decide +kernel) rfl (Nat.le_of_ble_eq_true rfl) ?_
  intro p e s m args below meth c A ls hx hb hr hml hts hown hlocks hmn htab hA hD hS hP hK hE hsz hl
  have hown : s.vm.findClass RX9 = some m.cls := hown
  have hl : lv_has ls 2 [(0, .ref mo), (1, .int v)] := hl
  have hw_0 := hts (.fieldLink RX9 46 "ControlWoodModel" "runners" "Ljava/util/ArrayList;") (List.mem_cons_of_mem _ (List.mem_append_left _ (List.mem_of_getElem? (i := 0) rfl)))
  have hw_1 := hts (.methodLink RX9 135 yJx4a65c_size_8abf5) (List.mem_cons_of_mem _ (List.mem_append_left _ (List.mem_of_getElem? (i := 1) rfl)))
  have hw_2 := hts (.instanceMethod yJx4a65c_size_8abf5) (List.mem_cons_of_mem _ (List.mem_append_left _ (List.mem_of_getElem? (i := 2) rfl)))
  have hw_3 := hts (.selects RJx4a65c yJx4a65c_size_8abf5 yJx4a65c_size_8abf5) (List.mem_cons_of_mem _ (List.mem_append_left _ (List.mem_of_getElem? (i := 3) rfl)))
  have hw_4 := hts (.initialized RJx4a65c) (List.mem_cons_of_mem _ (List.mem_append_left _ (List.mem_of_getElem? (i := 4) rfl)))
  have hw_5 := hts (.methodLink RX9 72 yX9_in) (List.mem_cons_of_mem _ (List.mem_append_left _ (List.mem_of_getElem? (i := 5) rfl)))
  have hw_6 := hts (.static yX9_in) (List.mem_cons_of_mem _ (List.mem_append_left _ (List.mem_of_getElem? (i := 6) rfl)))
  have hw_7 := hts (.initialized RX9) (List.mem_cons_of_mem _ (List.mem_append_left _ (List.mem_of_getElem? (i := 7) rfl)))
  have hb_0 : ∀ w ∈ wsX90, w ∈ us_c_isRunner := fun w h => List.mem_cons_of_mem _ (List.mem_append_right _ (List.mem_append_left _ h))
  have hb_1 : ∀ w ∈ us_c_alSize, w ∈ us_c_isRunner := fun w h => List.mem_cons_of_mem _ (List.mem_append_right _ (List.mem_append_right _ (List.mem_append_left _ h)))
  have hb_2 : ∀ w ∈ us_c_in, w ∈ us_c_isRunner := fun w h => List.mem_cons_of_mem _ (List.mem_append_right _ (List.mem_append_right _ (List.mem_append_right _ (List.mem_append_left _ h))))
  refine lv_iload_n hx hb dX9_isRunner_0 rfl (lv_at hl 1 rfl) ?_
  refine lv_i2l hx hb dX9_isRunner_1 rfl ?_
  refine lv_topl (fun x1 e1 => ?_)
  obtain rfl : x1 = v.toInt64 := e1
  refine lv_lconst (v := 0) hx hb dX9_isRunner_2 (by decide) ?_
  refine lv_aload_n hx hb dX9_isRunner_3 rfl (lv_at hl 0 rfl) ?_
  refine va_get (D := D) (ci := 16) (v := .ref l3) (C := RX9) (T := TX9) (N := 13) hx hb hts hb_0 hown hK hP 0 rfl rfl 10 (by decide) hw_0 (fun _ h9 => h9) rfl dX9_isRunner_4 ?_
  refine mc_i (wr := [(mo, .inr (16, [.int 5, .int 5, .int th, .ref m1, .ref m2, .ref m3, .ref m4, .ref m5, .ref l1, .ref l2, .ref l3, .int (-1), .ref l4]))]) (va_runV (As := []) (rest := [.long 0, .long v.toInt64]) ⟨hx, hb, hml, hown, hts⟩ (c_alSize l hst D l3 1 (D.1 1000) 0 s.heap.size) (cwV 0 hts (gi_c (List.mem_cons_of_mem _ (List.mem_append_left _ (List.mem_of_getElem? (i := 1) rfl))) rfl (gi_c (List.mem_cons_of_mem _ (List.mem_append_left _ (List.mem_of_getElem? (i := 2) rfl))) rfl (gi_c (List.mem_cons_of_mem _ (List.mem_append_left _ (List.mem_of_getElem? (i := 3) rfl))) rfl (gi_c (List.mem_cons_of_mem _ (List.mem_append_left _ (List.mem_of_getElem? (i := 4) rfl))) rfl (goodIn_sub hb_1 (List.all_eq_true.mpr gw_c_alSize)))))) rfl rfl rfl (by decide +kernel) ⟨Nat.le_of_ble_eq_true rfl, Nat.le_of_ble_eq_true rfl⟩) (pr_V (As := []) (b := l3) (C := RJx4a65c) hP hD hK hS hA hE [1] [] rfl rfl rfl 1 5 rfl rfl rfl) rfl rfl hl.1 rfl (lv_room (Nat.le_of_ble_eq_true rfl)) dX9_isRunner_7 ⟨Nat.le_of_ble_eq_true rfl, Nat.le_of_ble_eq_true rfl⟩) hP hD hK hS hA [1] [0] rfl rfl (by decide) (by decide) (fun r3 _ H locs w2 hP hD hK hS => ?_)
  have hP : va_P D vwCl [(mo, .inr (16, [.int 5, .int 5, .int th, .ref m1, .ref m2, .ref m3, .ref m4, .ref m5, .ref l1, .ref l2, .ref l3, .int (-1), .ref l4])), (l3, .inr (5, [.int 1, .ref (D.1 1000), .int 0]))] H := hP
  have hD : va_D A [(mo, .inr (16, [.int 5, .int 5, .int th, .ref m1, .ref m2, .ref m3, .ref m4, .ref m5, .ref l1, .ref l2, .ref l3, .int (-1), .ref l4])), (l3, .inr (5, [.int 1, .ref (D.1 1000), .int 0]))] := hD
  have hK : va_K D vwCl [] s := hK
  obtain rfl : r3 = 0 := w2
  refine lv_iconst (v := 1) hx hb dX9_isRunner_10 (by decide) ?_
  refine lv_isub hx hb dX9_isRunner_11 ?_
  refine lv_topi (fun x4 e4 => ?_)
  obtain rfl : x4 = (-1) := e4.trans (by decide)
  refine lv_i2l hx hb dX9_isRunner_12 rfl ?_
  refine lv_topl (fun x5 e5 => ?_)
  obtain rfl : x5 = (-1) := e5.trans (by decide)
  refine mc_i (wr := [(mo, .inr (16, [.int 5, .int 5, .int th, .ref m1, .ref m2, .ref m3, .ref m4, .ref m5, .ref l1, .ref l2, .ref l3, .int (-1), .ref l4])), (l3, .inr (5, [.int 1, .ref (D.1 1000), .int 0]))]) (va_runS (As := [.long v.toInt64, .long 0, .long (-1)]) (rest := []) ⟨hx, hb, hml, hown, hts⟩ (c_in l hst D v 0 (-1) 0 (-1) H.size (by decide) (by decide)) (va_cwS 3 hts (gi_c (List.mem_cons_of_mem _ (List.mem_append_left _ (List.mem_of_getElem? (i := 5) rfl))) rfl (gi_c (List.mem_cons_of_mem _ (List.mem_append_left _ (List.mem_of_getElem? (i := 6) rfl))) rfl (gi_c (List.mem_cons_of_mem _ (List.mem_append_left _ (List.mem_of_getElem? (i := 7) rfl))) rfl (goodIn_sub hb_2 (List.all_eq_true.mpr gw_c_in))))) rfl rfl rfl (by decide +kernel) ⟨Nat.le_of_ble_eq_true rfl, Nat.le_of_ble_eq_true rfl⟩) (pr_S (As := [.long v.toInt64, .long 0, .long (-1)]) hP hD hK hS hA hE [] [] rfl rfl rfl) rfl rfl hl.1 rfl (lv_room (Nat.le_of_ble_eq_true rfl)) dX9_isRunner_13 ⟨Nat.le_of_ble_eq_true rfl, Nat.le_of_ble_eq_true rfl⟩) hP hD hK hS hA [] [0, 1] rfl rfl (by decide) (by decide) (fun r7 _ H locs w6 hP hD hK hS => ?_)
  have hP : va_P D vwCl [(mo, .inr (16, [.int 5, .int 5, .int th, .ref m1, .ref m2, .ref m3, .ref m4, .ref m5, .ref l1, .ref l2, .ref l3, .int (-1), .ref l4])), (l3, .inr (5, [.int 1, .ref (D.1 1000), .int 0]))] H := hP
  have hD : va_D A [(mo, .inr (16, [.int 5, .int 5, .int th, .ref m1, .ref m2, .ref m3, .ref m4, .ref m5, .ref l1, .ref l2, .ref l3, .int (-1), .ref l4])), (l3, .inr (5, [.int 1, .ref (D.1 1000), .int 0]))] := hD
  have hK : va_K D vwCl [] s := hK
  obtain rfl : r7 = (if inR v 0 (-1) then 1 else 0) := w6
  exact mr_z (by rw [in_none]; rfl) hx hb hr () (in_none v) (hP.sub [0, 1] rfl) (hK.sub [] rfl) (hD.sub [0, 1] (by decide) rfl) hS (Nat.le_of_ble_eq_true rfl) (Nat.le_of_ble_eq_true rfl) hlocks dX9_isRunner_16
