def dcK (c : ByteArray) (q : Nat × Jvm.ClassFile.Instr × Nat) : Bool := decide (decode c q.1 = .ok (q.2.1, q.2.2))
theorem dc_q {c : ByteArray} {q : Nat × Jvm.ClassFile.Instr × Nat} (h : dcK c q = true) : decode c q.1 = .ok (q.2.1, q.2.2) := by
  unfold dcK at h
  exact of_decide_eq_true h
theorem dc_at {c : ByteArray} {L : List (Nat × Jvm.ClassFile.Instr × Nat)} (h : L.all (dcK c) = true) (i : Nat) {pc n : Nat} {ins : Jvm.ClassFile.Instr} (hq : L[i]? = some (pc, ins, n)) : decode c pc = .ok (ins, n) := dc_q (q := (pc, ins, n)) (List.all_eq_true.mp h _ (List.mem_of_getElem? hq))
def dlX0_init_0 : List (Nat × Jvm.ClassFile.Instr × Nat) := [(0, .aload_n 0, 1), (1, .invokespecial 3, 3), (4, .aload_n 0, 1), (5, .bipush 16, 2), (7, .newarray .int, 2), (9, .putfield 9, 3), (12, .aload_n 0, 1), (13, .bipush 16, 2), (15, .newarray .int, 2), (17, .putfield 15, 3), (20, .return_, 1)]
theorem daX0_init_0 : dlX0_init_0.all (dcK cX0_init) = true := by decide +kernel
theorem dX0_init_0 : decode cX0_init 0 = .ok (.aload_n 0, 1) := dc_at daX0_init_0 0 rfl
theorem dX0_init_1 : decode cX0_init 1 = .ok (.invokespecial 3, 3) := dc_at daX0_init_0 1 rfl
theorem dX0_init_4 : decode cX0_init 4 = .ok (.aload_n 0, 1) := dc_at daX0_init_0 2 rfl
theorem dX0_init_5 : decode cX0_init 5 = .ok (.bipush 16, 2) := dc_at daX0_init_0 3 rfl
theorem dX0_init_7 : decode cX0_init 7 = .ok (.newarray .int, 2) := dc_at daX0_init_0 4 rfl
theorem dX0_init_9 : decode cX0_init 9 = .ok (.putfield 9, 3) := dc_at daX0_init_0 5 rfl
theorem dX0_init_12 : decode cX0_init 12 = .ok (.aload_n 0, 1) := dc_at daX0_init_0 6 rfl
theorem dX0_init_13 : decode cX0_init 13 = .ok (.bipush 16, 2) := dc_at daX0_init_0 7 rfl
theorem dX0_init_15 : decode cX0_init 15 = .ok (.newarray .int, 2) := dc_at daX0_init_0 8 rfl
theorem dX0_init_17 : decode cX0_init 17 = .ok (.putfield 15, 3) := dc_at daX0_init_0 9 rfl
theorem dX0_init_20 : decode cX0_init 20 = .ok (.return_, 1) := dc_at daX0_init_0 10 rfl
def dlX0_fewest_0 : List (Nat × Jvm.ClassFile.Instr × Nat) := [(0, .aload_n 0, 1), (1, .aload_n 1, 1), (2, .invokevirtual 18, 3), (5, .aload_n 1, 1), (6, .invokevirtual 22, 3), (9, .istore_n 3, 1), (10, .iconst 0, 1), (11, .istore 4, 2), (13, .iload 4, 2), (15, .aload_n 1, 1), (16, .getfield 28, 3), (19, .if_icmp .gt 27, 3), (22, .aload_n 0, 1), (23, .getfield 9, 3), (26, .aload_n 0, 1), (27, .getfield 15, 3), (30, .iload_n 2, 1), (31, .iload_n 3, 1), (32, .iload 4, 2), (34, .invokestatic 32, 3), (37, .ifCond .ne 9, 3), (40, .iinc 4 1, 3), (43, .goto (-30), 3), (46, .iload 4, 2)]
theorem daX0_fewest_0 : dlX0_fewest_0.all (dcK cX0_fewest) = true := by decide +kernel
theorem dX0_fewest_0 : decode cX0_fewest 0 = .ok (.aload_n 0, 1) := dc_at daX0_fewest_0 0 rfl
theorem dX0_fewest_1 : decode cX0_fewest 1 = .ok (.aload_n 1, 1) := dc_at daX0_fewest_0 1 rfl
theorem dX0_fewest_2 : decode cX0_fewest 2 = .ok (.invokevirtual 18, 3) := dc_at daX0_fewest_0 2 rfl
theorem dX0_fewest_5 : decode cX0_fewest 5 = .ok (.aload_n 1, 1) := dc_at daX0_fewest_0 3 rfl
theorem dX0_fewest_6 : decode cX0_fewest 6 = .ok (.invokevirtual 22, 3) := dc_at daX0_fewest_0 4 rfl
theorem dX0_fewest_9 : decode cX0_fewest 9 = .ok (.istore_n 3, 1) := dc_at daX0_fewest_0 5 rfl
theorem dX0_fewest_10 : decode cX0_fewest 10 = .ok (.iconst 0, 1) := dc_at daX0_fewest_0 6 rfl
theorem dX0_fewest_11 : decode cX0_fewest 11 = .ok (.istore 4, 2) := dc_at daX0_fewest_0 7 rfl
theorem dX0_fewest_13 : decode cX0_fewest 13 = .ok (.iload 4, 2) := dc_at daX0_fewest_0 8 rfl
theorem dX0_fewest_15 : decode cX0_fewest 15 = .ok (.aload_n 1, 1) := dc_at daX0_fewest_0 9 rfl
theorem dX0_fewest_16 : decode cX0_fewest 16 = .ok (.getfield 28, 3) := dc_at daX0_fewest_0 10 rfl
theorem dX0_fewest_19 : decode cX0_fewest 19 = .ok (.if_icmp .gt 27, 3) := dc_at daX0_fewest_0 11 rfl
theorem dX0_fewest_22 : decode cX0_fewest 22 = .ok (.aload_n 0, 1) := dc_at daX0_fewest_0 12 rfl
theorem dX0_fewest_23 : decode cX0_fewest 23 = .ok (.getfield 9, 3) := dc_at daX0_fewest_0 13 rfl
theorem dX0_fewest_26 : decode cX0_fewest 26 = .ok (.aload_n 0, 1) := dc_at daX0_fewest_0 14 rfl
theorem dX0_fewest_27 : decode cX0_fewest 27 = .ok (.getfield 15, 3) := dc_at daX0_fewest_0 15 rfl
theorem dX0_fewest_30 : decode cX0_fewest 30 = .ok (.iload_n 2, 1) := dc_at daX0_fewest_0 16 rfl
theorem dX0_fewest_31 : decode cX0_fewest 31 = .ok (.iload_n 3, 1) := dc_at daX0_fewest_0 17 rfl
theorem dX0_fewest_32 : decode cX0_fewest 32 = .ok (.iload 4, 2) := dc_at daX0_fewest_0 18 rfl
theorem dX0_fewest_34 : decode cX0_fewest 34 = .ok (.invokestatic 32, 3) := dc_at daX0_fewest_0 19 rfl
theorem dX0_fewest_37 : decode cX0_fewest 37 = .ok (.ifCond .ne 9, 3) := dc_at daX0_fewest_0 20 rfl
theorem dX0_fewest_40 : decode cX0_fewest 40 = .ok (.iinc 4 1, 3) := dc_at daX0_fewest_0 21 rfl
theorem dX0_fewest_43 : decode cX0_fewest 43 = .ok (.goto (-30), 3) := dc_at daX0_fewest_0 22 rfl
theorem dX0_fewest_46 : decode cX0_fewest 46 = .ok (.iload 4, 2) := dc_at daX0_fewest_0 23 rfl
def dlX0_fewest_1 : List (Nat × Jvm.ClassFile.Instr × Nat) := [(48, .aload_n 1, 1), (49, .getfield 28, 3), (52, .if_icmp .le 5, 3), (55, .iconst (-1), 1), (56, .ireturn, 1), (57, .aload_n 0, 1), (58, .aload_n 1, 1), (59, .getfield 28, 3), (62, .iload_n 2, 1), (63, .iload 4, 2), (65, .invokevirtual 36, 3), (68, .ireturn, 1)]
theorem daX0_fewest_1 : dlX0_fewest_1.all (dcK cX0_fewest) = true := by decide +kernel
theorem dX0_fewest_48 : decode cX0_fewest 48 = .ok (.aload_n 1, 1) := dc_at daX0_fewest_1 0 rfl
theorem dX0_fewest_49 : decode cX0_fewest 49 = .ok (.getfield 28, 3) := dc_at daX0_fewest_1 1 rfl
theorem dX0_fewest_52 : decode cX0_fewest 52 = .ok (.if_icmp .le 5, 3) := dc_at daX0_fewest_1 2 rfl
theorem dX0_fewest_55 : decode cX0_fewest 55 = .ok (.iconst (-1), 1) := dc_at daX0_fewest_1 3 rfl
theorem dX0_fewest_56 : decode cX0_fewest 56 = .ok (.ireturn, 1) := dc_at daX0_fewest_1 4 rfl
theorem dX0_fewest_57 : decode cX0_fewest 57 = .ok (.aload_n 0, 1) := dc_at daX0_fewest_1 5 rfl
theorem dX0_fewest_58 : decode cX0_fewest 58 = .ok (.aload_n 1, 1) := dc_at daX0_fewest_1 6 rfl
theorem dX0_fewest_59 : decode cX0_fewest 59 = .ok (.getfield 28, 3) := dc_at daX0_fewest_1 7 rfl
theorem dX0_fewest_62 : decode cX0_fewest 62 = .ok (.iload_n 2, 1) := dc_at daX0_fewest_1 8 rfl
theorem dX0_fewest_63 : decode cX0_fewest 63 = .ok (.iload 4, 2) := dc_at daX0_fewest_1 9 rfl
theorem dX0_fewest_65 : decode cX0_fewest 65 = .ok (.invokevirtual 36, 3) := dc_at daX0_fewest_1 10 rfl
theorem dX0_fewest_68 : decode cX0_fewest 68 = .ok (.ireturn, 1) := dc_at daX0_fewest_1 11 rfl
def dlX0_leastBits_0 : List (Nat × Jvm.ClassFile.Instr × Nat) := [(0, .iconst 0, 1), (1, .istore 4, 2), (3, .iload_n 2, 1), (4, .istore 5, 2), (6, .iload_n 3, 1), (7, .istore 6, 2), (9, .iload_n 1, 1), (10, .iconst 1, 1), (11, .isub, 1), (12, .istore 7, 2), (14, .iload 7, 2), (16, .ifCond .lt 59, 3), (19, .aload_n 0, 1), (20, .getfield 9, 3), (23, .aload_n 0, 1), (24, .getfield 15, 3), (27, .iload 5, 2), (29, .iconst 1, 1), (30, .iload 7, 2), (32, .ishl, 1), (33, .iconst 1, 1), (34, .isub, 1), (35, .iload 6, 2), (37, .invokestatic 32, 3)]
theorem daX0_leastBits_0 : dlX0_leastBits_0.all (dcK cX0_leastBits) = true := by decide +kernel
theorem dX0_leastBits_0 : decode cX0_leastBits 0 = .ok (.iconst 0, 1) := dc_at daX0_leastBits_0 0 rfl
theorem dX0_leastBits_1 : decode cX0_leastBits 1 = .ok (.istore 4, 2) := dc_at daX0_leastBits_0 1 rfl
theorem dX0_leastBits_3 : decode cX0_leastBits 3 = .ok (.iload_n 2, 1) := dc_at daX0_leastBits_0 2 rfl
theorem dX0_leastBits_4 : decode cX0_leastBits 4 = .ok (.istore 5, 2) := dc_at daX0_leastBits_0 3 rfl
theorem dX0_leastBits_6 : decode cX0_leastBits 6 = .ok (.iload_n 3, 1) := dc_at daX0_leastBits_0 4 rfl
theorem dX0_leastBits_7 : decode cX0_leastBits 7 = .ok (.istore 6, 2) := dc_at daX0_leastBits_0 5 rfl
theorem dX0_leastBits_9 : decode cX0_leastBits 9 = .ok (.iload_n 1, 1) := dc_at daX0_leastBits_0 6 rfl
theorem dX0_leastBits_10 : decode cX0_leastBits 10 = .ok (.iconst 1, 1) := dc_at daX0_leastBits_0 7 rfl
theorem dX0_leastBits_11 : decode cX0_leastBits 11 = .ok (.isub, 1) := dc_at daX0_leastBits_0 8 rfl
theorem dX0_leastBits_12 : decode cX0_leastBits 12 = .ok (.istore 7, 2) := dc_at daX0_leastBits_0 9 rfl
theorem dX0_leastBits_14 : decode cX0_leastBits 14 = .ok (.iload 7, 2) := dc_at daX0_leastBits_0 10 rfl
theorem dX0_leastBits_16 : decode cX0_leastBits 16 = .ok (.ifCond .lt 59, 3) := dc_at daX0_leastBits_0 11 rfl
theorem dX0_leastBits_19 : decode cX0_leastBits 19 = .ok (.aload_n 0, 1) := dc_at daX0_leastBits_0 12 rfl
theorem dX0_leastBits_20 : decode cX0_leastBits 20 = .ok (.getfield 9, 3) := dc_at daX0_leastBits_0 13 rfl
theorem dX0_leastBits_23 : decode cX0_leastBits 23 = .ok (.aload_n 0, 1) := dc_at daX0_leastBits_0 14 rfl
theorem dX0_leastBits_24 : decode cX0_leastBits 24 = .ok (.getfield 15, 3) := dc_at daX0_leastBits_0 15 rfl
theorem dX0_leastBits_27 : decode cX0_leastBits 27 = .ok (.iload 5, 2) := dc_at daX0_leastBits_0 16 rfl
theorem dX0_leastBits_29 : decode cX0_leastBits 29 = .ok (.iconst 1, 1) := dc_at daX0_leastBits_0 17 rfl
theorem dX0_leastBits_30 : decode cX0_leastBits 30 = .ok (.iload 7, 2) := dc_at daX0_leastBits_0 18 rfl
theorem dX0_leastBits_32 : decode cX0_leastBits 32 = .ok (.ishl, 1) := dc_at daX0_leastBits_0 19 rfl
theorem dX0_leastBits_33 : decode cX0_leastBits 33 = .ok (.iconst 1, 1) := dc_at daX0_leastBits_0 20 rfl
theorem dX0_leastBits_34 : decode cX0_leastBits 34 = .ok (.isub, 1) := dc_at daX0_leastBits_0 21 rfl
theorem dX0_leastBits_35 : decode cX0_leastBits 35 = .ok (.iload 6, 2) := dc_at daX0_leastBits_0 22 rfl
theorem dX0_leastBits_37 : decode cX0_leastBits 37 = .ok (.invokestatic 32, 3) := dc_at daX0_leastBits_0 23 rfl
def dlX0_leastBits_1 : List (Nat × Jvm.ClassFile.Instr × Nat) := [(40, .ifCond .ne 29, 3), (43, .iload 4, 2), (45, .iconst 1, 1), (46, .iload 7, 2), (48, .ishl, 1), (49, .ior, 1), (50, .istore 4, 2), (52, .iload 5, 2), (54, .aload_n 0, 1), (55, .getfield 9, 3), (58, .iload 7, 2), (60, .iaload, 1), (61, .iconst (-1), 1), (62, .ixor, 1), (63, .iand, 1), (64, .istore 5, 2), (66, .iinc 6 (-1), 3), (69, .iinc 7 (-1), 3), (72, .goto (-58), 3), (75, .iload 4, 2), (77, .ireturn, 1)]
theorem daX0_leastBits_1 : dlX0_leastBits_1.all (dcK cX0_leastBits) = true := by decide +kernel
theorem dX0_leastBits_40 : decode cX0_leastBits 40 = .ok (.ifCond .ne 29, 3) := dc_at daX0_leastBits_1 0 rfl
theorem dX0_leastBits_43 : decode cX0_leastBits 43 = .ok (.iload 4, 2) := dc_at daX0_leastBits_1 1 rfl
theorem dX0_leastBits_45 : decode cX0_leastBits 45 = .ok (.iconst 1, 1) := dc_at daX0_leastBits_1 2 rfl
theorem dX0_leastBits_46 : decode cX0_leastBits 46 = .ok (.iload 7, 2) := dc_at daX0_leastBits_1 3 rfl
theorem dX0_leastBits_48 : decode cX0_leastBits 48 = .ok (.ishl, 1) := dc_at daX0_leastBits_1 4 rfl
theorem dX0_leastBits_49 : decode cX0_leastBits 49 = .ok (.ior, 1) := dc_at daX0_leastBits_1 5 rfl
theorem dX0_leastBits_50 : decode cX0_leastBits 50 = .ok (.istore 4, 2) := dc_at daX0_leastBits_1 6 rfl
theorem dX0_leastBits_52 : decode cX0_leastBits 52 = .ok (.iload 5, 2) := dc_at daX0_leastBits_1 7 rfl
theorem dX0_leastBits_54 : decode cX0_leastBits 54 = .ok (.aload_n 0, 1) := dc_at daX0_leastBits_1 8 rfl
theorem dX0_leastBits_55 : decode cX0_leastBits 55 = .ok (.getfield 9, 3) := dc_at daX0_leastBits_1 9 rfl
theorem dX0_leastBits_58 : decode cX0_leastBits 58 = .ok (.iload 7, 2) := dc_at daX0_leastBits_1 10 rfl
theorem dX0_leastBits_60 : decode cX0_leastBits 60 = .ok (.iaload, 1) := dc_at daX0_leastBits_1 11 rfl
theorem dX0_leastBits_61 : decode cX0_leastBits 61 = .ok (.iconst (-1), 1) := dc_at daX0_leastBits_1 12 rfl
theorem dX0_leastBits_62 : decode cX0_leastBits 62 = .ok (.ixor, 1) := dc_at daX0_leastBits_1 13 rfl
theorem dX0_leastBits_63 : decode cX0_leastBits 63 = .ok (.iand, 1) := dc_at daX0_leastBits_1 14 rfl
theorem dX0_leastBits_64 : decode cX0_leastBits 64 = .ok (.istore 5, 2) := dc_at daX0_leastBits_1 15 rfl
theorem dX0_leastBits_66 : decode cX0_leastBits 66 = .ok (.iinc 6 (-1), 3) := dc_at daX0_leastBits_1 16 rfl
theorem dX0_leastBits_69 : decode cX0_leastBits 69 = .ok (.iinc 7 (-1), 3) := dc_at daX0_leastBits_1 17 rfl
theorem dX0_leastBits_72 : decode cX0_leastBits 72 = .ok (.goto (-58), 3) := dc_at daX0_leastBits_1 18 rfl
theorem dX0_leastBits_75 : decode cX0_leastBits 75 = .ok (.iload 4, 2) := dc_at daX0_leastBits_1 19 rfl
theorem dX0_leastBits_77 : decode cX0_leastBits 77 = .ok (.ireturn, 1) := dc_at daX0_leastBits_1 20 rfl
def dlX0_look_0 : List (Nat × Jvm.ClassFile.Instr × Nat) := [(0, .aload_n 0, 1), (1, .getfield 15, 3), (4, .iconst 0, 1), (5, .invokestatic 40, 3), (8, .iconst 0, 1), (9, .istore_n 2, 1), (10, .iload_n 2, 1), (11, .aload_n 1, 1), (12, .getfield 28, 3), (15, .if_icmp .ge 57, 3), (18, .aload_n 0, 1), (19, .getfield 9, 3), (22, .iload_n 2, 1), (23, .aload_n 1, 1), (24, .iload_n 2, 1), (25, .invokevirtual 46, 3), (28, .iastore, 1), (29, .iconst 0, 1), (30, .istore_n 3, 1), (31, .iload_n 3, 1), (32, .aload_n 1, 1), (33, .getfield 28, 3), (36, .if_icmp .ge 30, 3), (39, .aload_n 0, 1)]
theorem daX0_look_0 : dlX0_look_0.all (dcK cX0_look) = true := by decide +kernel
theorem dX0_look_0 : decode cX0_look 0 = .ok (.aload_n 0, 1) := dc_at daX0_look_0 0 rfl
theorem dX0_look_1 : decode cX0_look 1 = .ok (.getfield 15, 3) := dc_at daX0_look_0 1 rfl
theorem dX0_look_4 : decode cX0_look 4 = .ok (.iconst 0, 1) := dc_at daX0_look_0 2 rfl
theorem dX0_look_5 : decode cX0_look 5 = .ok (.invokestatic 40, 3) := dc_at daX0_look_0 3 rfl
theorem dX0_look_8 : decode cX0_look 8 = .ok (.iconst 0, 1) := dc_at daX0_look_0 4 rfl
theorem dX0_look_9 : decode cX0_look 9 = .ok (.istore_n 2, 1) := dc_at daX0_look_0 5 rfl
theorem dX0_look_10 : decode cX0_look 10 = .ok (.iload_n 2, 1) := dc_at daX0_look_0 6 rfl
theorem dX0_look_11 : decode cX0_look 11 = .ok (.aload_n 1, 1) := dc_at daX0_look_0 7 rfl
theorem dX0_look_12 : decode cX0_look 12 = .ok (.getfield 28, 3) := dc_at daX0_look_0 8 rfl
theorem dX0_look_15 : decode cX0_look 15 = .ok (.if_icmp .ge 57, 3) := dc_at daX0_look_0 9 rfl
theorem dX0_look_18 : decode cX0_look 18 = .ok (.aload_n 0, 1) := dc_at daX0_look_0 10 rfl
theorem dX0_look_19 : decode cX0_look 19 = .ok (.getfield 9, 3) := dc_at daX0_look_0 11 rfl
theorem dX0_look_22 : decode cX0_look 22 = .ok (.iload_n 2, 1) := dc_at daX0_look_0 12 rfl
theorem dX0_look_23 : decode cX0_look 23 = .ok (.aload_n 1, 1) := dc_at daX0_look_0 13 rfl
theorem dX0_look_24 : decode cX0_look 24 = .ok (.iload_n 2, 1) := dc_at daX0_look_0 14 rfl
theorem dX0_look_25 : decode cX0_look 25 = .ok (.invokevirtual 46, 3) := dc_at daX0_look_0 15 rfl
theorem dX0_look_28 : decode cX0_look 28 = .ok (.iastore, 1) := dc_at daX0_look_0 16 rfl
theorem dX0_look_29 : decode cX0_look 29 = .ok (.iconst 0, 1) := dc_at daX0_look_0 17 rfl
theorem dX0_look_30 : decode cX0_look 30 = .ok (.istore_n 3, 1) := dc_at daX0_look_0 18 rfl
theorem dX0_look_31 : decode cX0_look 31 = .ok (.iload_n 3, 1) := dc_at daX0_look_0 19 rfl
theorem dX0_look_32 : decode cX0_look 32 = .ok (.aload_n 1, 1) := dc_at daX0_look_0 20 rfl
theorem dX0_look_33 : decode cX0_look 33 = .ok (.getfield 28, 3) := dc_at daX0_look_0 21 rfl
theorem dX0_look_36 : decode cX0_look 36 = .ok (.if_icmp .ge 30, 3) := dc_at daX0_look_0 22 rfl
theorem dX0_look_39 : decode cX0_look 39 = .ok (.aload_n 0, 1) := dc_at daX0_look_0 23 rfl
def dlX0_look_1 : List (Nat × Jvm.ClassFile.Instr × Nat) := [(40, .getfield 15, 3), (43, .iload_n 3, 1), (44, .dup2, 1), (45, .iaload, 1), (46, .aload_n 0, 1), (47, .getfield 9, 3), (50, .iload_n 2, 1), (51, .iaload, 1), (52, .iload_n 3, 1), (53, .ishr, 1), (54, .iconst 1, 1), (55, .iand, 1), (56, .iload_n 2, 1), (57, .ishl, 1), (58, .ior, 1), (59, .iastore, 1), (60, .iinc 3 1, 3), (63, .goto (-32), 3), (66, .iinc 2 1, 3), (69, .goto (-59), 3), (72, .return_, 1)]
theorem daX0_look_1 : dlX0_look_1.all (dcK cX0_look) = true := by decide +kernel
theorem dX0_look_40 : decode cX0_look 40 = .ok (.getfield 15, 3) := dc_at daX0_look_1 0 rfl
theorem dX0_look_43 : decode cX0_look 43 = .ok (.iload_n 3, 1) := dc_at daX0_look_1 1 rfl
theorem dX0_look_44 : decode cX0_look 44 = .ok (.dup2, 1) := dc_at daX0_look_1 2 rfl
theorem dX0_look_45 : decode cX0_look 45 = .ok (.iaload, 1) := dc_at daX0_look_1 3 rfl
theorem dX0_look_46 : decode cX0_look 46 = .ok (.aload_n 0, 1) := dc_at daX0_look_1 4 rfl
theorem dX0_look_47 : decode cX0_look 47 = .ok (.getfield 9, 3) := dc_at daX0_look_1 5 rfl
theorem dX0_look_50 : decode cX0_look 50 = .ok (.iload_n 2, 1) := dc_at daX0_look_1 6 rfl
theorem dX0_look_51 : decode cX0_look 51 = .ok (.iaload, 1) := dc_at daX0_look_1 7 rfl
theorem dX0_look_52 : decode cX0_look 52 = .ok (.iload_n 3, 1) := dc_at daX0_look_1 8 rfl
theorem dX0_look_53 : decode cX0_look 53 = .ok (.ishr, 1) := dc_at daX0_look_1 9 rfl
theorem dX0_look_54 : decode cX0_look 54 = .ok (.iconst 1, 1) := dc_at daX0_look_1 10 rfl
theorem dX0_look_55 : decode cX0_look 55 = .ok (.iand, 1) := dc_at daX0_look_1 11 rfl
theorem dX0_look_56 : decode cX0_look 56 = .ok (.iload_n 2, 1) := dc_at daX0_look_1 12 rfl
theorem dX0_look_57 : decode cX0_look 57 = .ok (.ishl, 1) := dc_at daX0_look_1 13 rfl
theorem dX0_look_58 : decode cX0_look 58 = .ok (.ior, 1) := dc_at daX0_look_1 14 rfl
theorem dX0_look_59 : decode cX0_look 59 = .ok (.iastore, 1) := dc_at daX0_look_1 15 rfl
theorem dX0_look_60 : decode cX0_look 60 = .ok (.iinc 3 1, 3) := dc_at daX0_look_1 16 rfl
theorem dX0_look_63 : decode cX0_look 63 = .ok (.goto (-32), 3) := dc_at daX0_look_1 17 rfl
theorem dX0_look_66 : decode cX0_look 66 = .ok (.iinc 2 1, 3) := dc_at daX0_look_1 18 rfl
theorem dX0_look_69 : decode cX0_look 69 = .ok (.goto (-59), 3) := dc_at daX0_look_1 19 rfl
theorem dX0_look_72 : decode cX0_look 72 = .ok (.return_, 1) := dc_at daX0_look_1 20 rfl
def dlX0_canLight_0 : List (Nat × Jvm.ClassFile.Instr × Nat) := [(0, .iload_n 2, 1), (1, .ifCond .ne 5, 3), (4, .iconst 1, 1), (5, .ireturn, 1), (6, .iload_n 2, 1), (7, .invokestatic 49, 3), (10, .istore 5, 2), (12, .iload 4, 2), (14, .ifCond .le 10, 3), (17, .iload 5, 2), (19, .bipush 16, 2), (21, .if_icmp .lt 5, 3), (24, .iconst 0, 1), (25, .ireturn, 1), (26, .aload_n 1, 1), (27, .iload 5, 2), (29, .iaload, 1), (30, .iload_n 3, 1), (31, .iand, 1), (32, .istore 6, 2), (34, .iconst 0, 1), (35, .istore 7, 2), (37, .iload 7, 2), (39, .bipush 16, 2)]
theorem daX0_canLight_0 : dlX0_canLight_0.all (dcK cX0_canLight) = true := by decide +kernel
theorem dX0_canLight_0 : decode cX0_canLight 0 = .ok (.iload_n 2, 1) := dc_at daX0_canLight_0 0 rfl
theorem dX0_canLight_1 : decode cX0_canLight 1 = .ok (.ifCond .ne 5, 3) := dc_at daX0_canLight_0 1 rfl
theorem dX0_canLight_4 : decode cX0_canLight 4 = .ok (.iconst 1, 1) := dc_at daX0_canLight_0 2 rfl
theorem dX0_canLight_5 : decode cX0_canLight 5 = .ok (.ireturn, 1) := dc_at daX0_canLight_0 3 rfl
theorem dX0_canLight_6 : decode cX0_canLight 6 = .ok (.iload_n 2, 1) := dc_at daX0_canLight_0 4 rfl
theorem dX0_canLight_7 : decode cX0_canLight 7 = .ok (.invokestatic 49, 3) := dc_at daX0_canLight_0 5 rfl
theorem dX0_canLight_10 : decode cX0_canLight 10 = .ok (.istore 5, 2) := dc_at daX0_canLight_0 6 rfl
theorem dX0_canLight_12 : decode cX0_canLight 12 = .ok (.iload 4, 2) := dc_at daX0_canLight_0 7 rfl
theorem dX0_canLight_14 : decode cX0_canLight 14 = .ok (.ifCond .le 10, 3) := dc_at daX0_canLight_0 8 rfl
theorem dX0_canLight_17 : decode cX0_canLight 17 = .ok (.iload 5, 2) := dc_at daX0_canLight_0 9 rfl
theorem dX0_canLight_19 : decode cX0_canLight 19 = .ok (.bipush 16, 2) := dc_at daX0_canLight_0 10 rfl
theorem dX0_canLight_21 : decode cX0_canLight 21 = .ok (.if_icmp .lt 5, 3) := dc_at daX0_canLight_0 11 rfl
theorem dX0_canLight_24 : decode cX0_canLight 24 = .ok (.iconst 0, 1) := dc_at daX0_canLight_0 12 rfl
theorem dX0_canLight_25 : decode cX0_canLight 25 = .ok (.ireturn, 1) := dc_at daX0_canLight_0 13 rfl
theorem dX0_canLight_26 : decode cX0_canLight 26 = .ok (.aload_n 1, 1) := dc_at daX0_canLight_0 14 rfl
theorem dX0_canLight_27 : decode cX0_canLight 27 = .ok (.iload 5, 2) := dc_at daX0_canLight_0 15 rfl
theorem dX0_canLight_29 : decode cX0_canLight 29 = .ok (.iaload, 1) := dc_at daX0_canLight_0 16 rfl
theorem dX0_canLight_30 : decode cX0_canLight 30 = .ok (.iload_n 3, 1) := dc_at daX0_canLight_0 17 rfl
theorem dX0_canLight_31 : decode cX0_canLight 31 = .ok (.iand, 1) := dc_at daX0_canLight_0 18 rfl
theorem dX0_canLight_32 : decode cX0_canLight 32 = .ok (.istore 6, 2) := dc_at daX0_canLight_0 19 rfl
theorem dX0_canLight_34 : decode cX0_canLight 34 = .ok (.iconst 0, 1) := dc_at daX0_canLight_0 20 rfl
theorem dX0_canLight_35 : decode cX0_canLight 35 = .ok (.istore 7, 2) := dc_at daX0_canLight_0 21 rfl
theorem dX0_canLight_37 : decode cX0_canLight 37 = .ok (.iload 7, 2) := dc_at daX0_canLight_0 22 rfl
theorem dX0_canLight_39 : decode cX0_canLight 39 = .ok (.bipush 16, 2) := dc_at daX0_canLight_0 23 rfl
def dlX0_canLight_1 : List (Nat × Jvm.ClassFile.Instr × Nat) := [(41, .if_icmp .ge 42, 3), (44, .iload 6, 2), (46, .iload 7, 2), (48, .ishr, 1), (49, .iconst 1, 1), (50, .iand, 1), (51, .ifCond .eq 26, 3), (54, .aload_n 0, 1), (55, .aload_n 1, 1), (56, .iload_n 2, 1), (57, .aload_n 0, 1), (58, .iload 7, 2), (60, .iaload, 1), (61, .iconst (-1), 1), (62, .ixor, 1), (63, .iand, 1), (64, .iload_n 3, 1), (65, .iload 4, 2), (67, .iconst 1, 1), (68, .isub, 1), (69, .invokestatic 32, 3), (72, .ifCond .eq 5, 3), (75, .iconst 1, 1), (76, .ireturn, 1)]
theorem daX0_canLight_1 : dlX0_canLight_1.all (dcK cX0_canLight) = true := by decide +kernel
theorem dX0_canLight_41 : decode cX0_canLight 41 = .ok (.if_icmp .ge 42, 3) := dc_at daX0_canLight_1 0 rfl
theorem dX0_canLight_44 : decode cX0_canLight 44 = .ok (.iload 6, 2) := dc_at daX0_canLight_1 1 rfl
theorem dX0_canLight_46 : decode cX0_canLight 46 = .ok (.iload 7, 2) := dc_at daX0_canLight_1 2 rfl
theorem dX0_canLight_48 : decode cX0_canLight 48 = .ok (.ishr, 1) := dc_at daX0_canLight_1 3 rfl
theorem dX0_canLight_49 : decode cX0_canLight 49 = .ok (.iconst 1, 1) := dc_at daX0_canLight_1 4 rfl
theorem dX0_canLight_50 : decode cX0_canLight 50 = .ok (.iand, 1) := dc_at daX0_canLight_1 5 rfl
theorem dX0_canLight_51 : decode cX0_canLight 51 = .ok (.ifCond .eq 26, 3) := dc_at daX0_canLight_1 6 rfl
theorem dX0_canLight_54 : decode cX0_canLight 54 = .ok (.aload_n 0, 1) := dc_at daX0_canLight_1 7 rfl
theorem dX0_canLight_55 : decode cX0_canLight 55 = .ok (.aload_n 1, 1) := dc_at daX0_canLight_1 8 rfl
theorem dX0_canLight_56 : decode cX0_canLight 56 = .ok (.iload_n 2, 1) := dc_at daX0_canLight_1 9 rfl
theorem dX0_canLight_57 : decode cX0_canLight 57 = .ok (.aload_n 0, 1) := dc_at daX0_canLight_1 10 rfl
theorem dX0_canLight_58 : decode cX0_canLight 58 = .ok (.iload 7, 2) := dc_at daX0_canLight_1 11 rfl
theorem dX0_canLight_60 : decode cX0_canLight 60 = .ok (.iaload, 1) := dc_at daX0_canLight_1 12 rfl
theorem dX0_canLight_61 : decode cX0_canLight 61 = .ok (.iconst (-1), 1) := dc_at daX0_canLight_1 13 rfl
theorem dX0_canLight_62 : decode cX0_canLight 62 = .ok (.ixor, 1) := dc_at daX0_canLight_1 14 rfl
theorem dX0_canLight_63 : decode cX0_canLight 63 = .ok (.iand, 1) := dc_at daX0_canLight_1 15 rfl
theorem dX0_canLight_64 : decode cX0_canLight 64 = .ok (.iload_n 3, 1) := dc_at daX0_canLight_1 16 rfl
theorem dX0_canLight_65 : decode cX0_canLight 65 = .ok (.iload 4, 2) := dc_at daX0_canLight_1 17 rfl
theorem dX0_canLight_67 : decode cX0_canLight 67 = .ok (.iconst 1, 1) := dc_at daX0_canLight_1 18 rfl
theorem dX0_canLight_68 : decode cX0_canLight 68 = .ok (.isub, 1) := dc_at daX0_canLight_1 19 rfl
theorem dX0_canLight_69 : decode cX0_canLight 69 = .ok (.invokestatic 32, 3) := dc_at daX0_canLight_1 20 rfl
theorem dX0_canLight_72 : decode cX0_canLight 72 = .ok (.ifCond .eq 5, 3) := dc_at daX0_canLight_1 21 rfl
theorem dX0_canLight_75 : decode cX0_canLight 75 = .ok (.iconst 1, 1) := dc_at daX0_canLight_1 22 rfl
theorem dX0_canLight_76 : decode cX0_canLight 76 = .ok (.ireturn, 1) := dc_at daX0_canLight_1 23 rfl
def dlX0_canLight_2 : List (Nat × Jvm.ClassFile.Instr × Nat) := [(77, .iinc 7 1, 3), (80, .goto (-43), 3), (83, .iconst 0, 1), (84, .ireturn, 1)]
theorem daX0_canLight_2 : dlX0_canLight_2.all (dcK cX0_canLight) = true := by decide +kernel
theorem dX0_canLight_77 : decode cX0_canLight 77 = .ok (.iinc 7 1, 3) := dc_at daX0_canLight_2 0 rfl
theorem dX0_canLight_80 : decode cX0_canLight 80 = .ok (.goto (-43), 3) := dc_at daX0_canLight_2 1 rfl
theorem dX0_canLight_83 : decode cX0_canLight 83 = .ok (.iconst 0, 1) := dc_at daX0_canLight_2 2 rfl
theorem dX0_canLight_84 : decode cX0_canLight 84 = .ok (.ireturn, 1) := dc_at daX0_canLight_2 3 rfl
def dlX1_init_0 : List (Nat × Jvm.ClassFile.Instr × Nat) := [(0, .aload_n 0, 1), (1, .invokespecial 3, 3), (4, .aload_n 0, 1), (5, .sipush 176, 3), (8, .newarray .long, 2), (10, .putfield 11, 3), (13, .aload_n 0, 1), (14, .sipush 176, 3), (17, .newarray .long, 2), (19, .putfield 15, 3), (22, .aload_n 0, 1), (23, .iconst 0, 1), (24, .putfield 18, 3), (27, .aload_n 0, 1), (28, .iconst 0, 1), (29, .putfield 22, 3), (32, .aload_n 0, 1), (33, .iconst 0, 1), (34, .putfield 25, 3), (37, .return_, 1)]
theorem daX1_init_0 : dlX1_init_0.all (dcK cX1_init) = true := by decide +kernel
theorem dX1_init_0 : decode cX1_init 0 = .ok (.aload_n 0, 1) := dc_at daX1_init_0 0 rfl
theorem dX1_init_1 : decode cX1_init 1 = .ok (.invokespecial 3, 3) := dc_at daX1_init_0 1 rfl
theorem dX1_init_4 : decode cX1_init 4 = .ok (.aload_n 0, 1) := dc_at daX1_init_0 2 rfl
theorem dX1_init_5 : decode cX1_init 5 = .ok (.sipush 176, 3) := dc_at daX1_init_0 3 rfl
theorem dX1_init_8 : decode cX1_init 8 = .ok (.newarray .long, 2) := dc_at daX1_init_0 4 rfl
theorem dX1_init_10 : decode cX1_init 10 = .ok (.putfield 11, 3) := dc_at daX1_init_0 5 rfl
theorem dX1_init_13 : decode cX1_init 13 = .ok (.aload_n 0, 1) := dc_at daX1_init_0 6 rfl
theorem dX1_init_14 : decode cX1_init 14 = .ok (.sipush 176, 3) := dc_at daX1_init_0 7 rfl
theorem dX1_init_17 : decode cX1_init 17 = .ok (.newarray .long, 2) := dc_at daX1_init_0 8 rfl
theorem dX1_init_19 : decode cX1_init 19 = .ok (.putfield 15, 3) := dc_at daX1_init_0 9 rfl
theorem dX1_init_22 : decode cX1_init 22 = .ok (.aload_n 0, 1) := dc_at daX1_init_0 10 rfl
theorem dX1_init_23 : decode cX1_init 23 = .ok (.iconst 0, 1) := dc_at daX1_init_0 11 rfl
theorem dX1_init_24 : decode cX1_init 24 = .ok (.putfield 18, 3) := dc_at daX1_init_0 12 rfl
theorem dX1_init_27 : decode cX1_init 27 = .ok (.aload_n 0, 1) := dc_at daX1_init_0 13 rfl
theorem dX1_init_28 : decode cX1_init 28 = .ok (.iconst 0, 1) := dc_at daX1_init_0 14 rfl
theorem dX1_init_29 : decode cX1_init 29 = .ok (.putfield 22, 3) := dc_at daX1_init_0 15 rfl
theorem dX1_init_32 : decode cX1_init 32 = .ok (.aload_n 0, 1) := dc_at daX1_init_0 16 rfl
theorem dX1_init_33 : decode cX1_init 33 = .ok (.iconst 0, 1) := dc_at daX1_init_0 17 rfl
theorem dX1_init_34 : decode cX1_init 34 = .ok (.putfield 25, 3) := dc_at daX1_init_0 18 rfl
theorem dX1_init_37 : decode cX1_init 37 = .ok (.return_, 1) := dc_at daX1_init_0 19 rfl
def dlX1_countUnlike_0 : List (Nat × Jvm.ClassFile.Instr × Nat) := [(0, .aload_n 0, 1), (1, .iconst 0, 1), (2, .putfield 18, 3), (5, .aload_n 2, 1), (6, .iload_n 3, 1), (7, .invokevirtual 28, 3), (10, .istore 4, 2), (12, .aload_n 2, 1), (13, .iload_n 3, 1), (14, .invokevirtual 34, 3), (17, .istore 5, 2), (19, .iload 5, 2), (21, .iload 4, 2), (23, .if_icmp .ge 45, 3), (26, .aload_n 2, 1), (27, .getfield 37, 3), (30, .iload 5, 2), (32, .baload, 1), (33, .ifCond .ne 29, 3), (36, .aload_n 1, 1), (37, .aload_n 2, 1), (38, .getfield 41, 3), (41, .iload 5, 2), (43, .laload, 1)]
theorem daX1_countUnlike_0 : dlX1_countUnlike_0.all (dcK cX1_countUnlike) = true := by decide +kernel
theorem dX1_countUnlike_0 : decode cX1_countUnlike 0 = .ok (.aload_n 0, 1) := dc_at daX1_countUnlike_0 0 rfl
theorem dX1_countUnlike_1 : decode cX1_countUnlike 1 = .ok (.iconst 0, 1) := dc_at daX1_countUnlike_0 1 rfl
theorem dX1_countUnlike_2 : decode cX1_countUnlike 2 = .ok (.putfield 18, 3) := dc_at daX1_countUnlike_0 2 rfl
theorem dX1_countUnlike_5 : decode cX1_countUnlike 5 = .ok (.aload_n 2, 1) := dc_at daX1_countUnlike_0 3 rfl
theorem dX1_countUnlike_6 : decode cX1_countUnlike 6 = .ok (.iload_n 3, 1) := dc_at daX1_countUnlike_0 4 rfl
theorem dX1_countUnlike_7 : decode cX1_countUnlike 7 = .ok (.invokevirtual 28, 3) := dc_at daX1_countUnlike_0 5 rfl
theorem dX1_countUnlike_10 : decode cX1_countUnlike 10 = .ok (.istore 4, 2) := dc_at daX1_countUnlike_0 6 rfl
theorem dX1_countUnlike_12 : decode cX1_countUnlike 12 = .ok (.aload_n 2, 1) := dc_at daX1_countUnlike_0 7 rfl
theorem dX1_countUnlike_13 : decode cX1_countUnlike 13 = .ok (.iload_n 3, 1) := dc_at daX1_countUnlike_0 8 rfl
theorem dX1_countUnlike_14 : decode cX1_countUnlike 14 = .ok (.invokevirtual 34, 3) := dc_at daX1_countUnlike_0 9 rfl
theorem dX1_countUnlike_17 : decode cX1_countUnlike 17 = .ok (.istore 5, 2) := dc_at daX1_countUnlike_0 10 rfl
theorem dX1_countUnlike_19 : decode cX1_countUnlike 19 = .ok (.iload 5, 2) := dc_at daX1_countUnlike_0 11 rfl
theorem dX1_countUnlike_21 : decode cX1_countUnlike 21 = .ok (.iload 4, 2) := dc_at daX1_countUnlike_0 12 rfl
theorem dX1_countUnlike_23 : decode cX1_countUnlike 23 = .ok (.if_icmp .ge 45, 3) := dc_at daX1_countUnlike_0 13 rfl
theorem dX1_countUnlike_26 : decode cX1_countUnlike 26 = .ok (.aload_n 2, 1) := dc_at daX1_countUnlike_0 14 rfl
theorem dX1_countUnlike_27 : decode cX1_countUnlike 27 = .ok (.getfield 37, 3) := dc_at daX1_countUnlike_0 15 rfl
theorem dX1_countUnlike_30 : decode cX1_countUnlike 30 = .ok (.iload 5, 2) := dc_at daX1_countUnlike_0 16 rfl
theorem dX1_countUnlike_32 : decode cX1_countUnlike 32 = .ok (.baload, 1) := dc_at daX1_countUnlike_0 17 rfl
theorem dX1_countUnlike_33 : decode cX1_countUnlike 33 = .ok (.ifCond .ne 29, 3) := dc_at daX1_countUnlike_0 18 rfl
theorem dX1_countUnlike_36 : decode cX1_countUnlike 36 = .ok (.aload_n 1, 1) := dc_at daX1_countUnlike_0 19 rfl
theorem dX1_countUnlike_37 : decode cX1_countUnlike 37 = .ok (.aload_n 2, 1) := dc_at daX1_countUnlike_0 20 rfl
theorem dX1_countUnlike_38 : decode cX1_countUnlike 38 = .ok (.getfield 41, 3) := dc_at daX1_countUnlike_0 21 rfl
theorem dX1_countUnlike_41 : decode cX1_countUnlike 41 = .ok (.iload 5, 2) := dc_at daX1_countUnlike_0 22 rfl
theorem dX1_countUnlike_43 : decode cX1_countUnlike 43 = .ok (.laload, 1) := dc_at daX1_countUnlike_0 23 rfl
def dlX1_countUnlike_1 : List (Nat × Jvm.ClassFile.Instr × Nat) := [(44, .invokevirtual 44, 3), (47, .aload_n 0, 1), (48, .aload_n 1, 1), (49, .iconst 0, 1), (50, .invokestatic 50, 3), (53, .aload_n 1, 1), (54, .bipush 8, 2), (56, .invokestatic 50, 3), (59, .invokevirtual 54, 3), (62, .iinc 5 1, 3), (65, .goto (-46), 3), (68, .aload_n 0, 1), (69, .getfield 18, 3), (72, .ireturn, 1)]
theorem daX1_countUnlike_1 : dlX1_countUnlike_1.all (dcK cX1_countUnlike) = true := by decide +kernel
theorem dX1_countUnlike_44 : decode cX1_countUnlike 44 = .ok (.invokevirtual 44, 3) := dc_at daX1_countUnlike_1 0 rfl
theorem dX1_countUnlike_47 : decode cX1_countUnlike 47 = .ok (.aload_n 0, 1) := dc_at daX1_countUnlike_1 1 rfl
theorem dX1_countUnlike_48 : decode cX1_countUnlike 48 = .ok (.aload_n 1, 1) := dc_at daX1_countUnlike_1 2 rfl
theorem dX1_countUnlike_49 : decode cX1_countUnlike 49 = .ok (.iconst 0, 1) := dc_at daX1_countUnlike_1 3 rfl
theorem dX1_countUnlike_50 : decode cX1_countUnlike 50 = .ok (.invokestatic 50, 3) := dc_at daX1_countUnlike_1 4 rfl
theorem dX1_countUnlike_53 : decode cX1_countUnlike 53 = .ok (.aload_n 1, 1) := dc_at daX1_countUnlike_1 5 rfl
theorem dX1_countUnlike_54 : decode cX1_countUnlike 54 = .ok (.bipush 8, 2) := dc_at daX1_countUnlike_1 6 rfl
theorem dX1_countUnlike_56 : decode cX1_countUnlike 56 = .ok (.invokestatic 50, 3) := dc_at daX1_countUnlike_1 7 rfl
theorem dX1_countUnlike_59 : decode cX1_countUnlike 59 = .ok (.invokevirtual 54, 3) := dc_at daX1_countUnlike_1 8 rfl
theorem dX1_countUnlike_62 : decode cX1_countUnlike 62 = .ok (.iinc 5 1, 3) := dc_at daX1_countUnlike_1 9 rfl
theorem dX1_countUnlike_65 : decode cX1_countUnlike 65 = .ok (.goto (-46), 3) := dc_at daX1_countUnlike_1 10 rfl
theorem dX1_countUnlike_68 : decode cX1_countUnlike 68 = .ok (.aload_n 0, 1) := dc_at daX1_countUnlike_1 11 rfl
theorem dX1_countUnlike_69 : decode cX1_countUnlike 69 = .ok (.getfield 18, 3) := dc_at daX1_countUnlike_1 12 rfl
theorem dX1_countUnlike_72 : decode cX1_countUnlike 72 = .ok (.ireturn, 1) := dc_at daX1_countUnlike_1 13 rfl
def dlX1_packed_0 : List (Nat × Jvm.ClassFile.Instr × Nat) := [(0, .lconst 0, 1), (1, .lstore_n 2, 1), (2, .iload_n 1, 1), (3, .bipush 8, 2), (5, .iadd, 1), (6, .aload_n 0, 1), (7, .getfield 58, 3), (10, .getfield 62, 3), (13, .invokestatic 67, 3), (16, .istore 4, 2), (18, .iload_n 1, 1), (19, .istore 5, 2), (21, .iload 5, 2), (23, .iload 4, 2), (25, .if_icmp .ge 37, 3), (28, .lload_n 2, 1), (29, .bipush 7, 2), (31, .lshl, 1), (32, .aload_n 0, 1), (33, .getfield 58, 3), (36, .getfield 73, 3), (39, .iload 5, 2), (41, .iaload, 1), (42, .aload_n 0, 1)]
theorem daX1_packed_0 : dlX1_packed_0.all (dcK cX1_packed) = true := by decide +kernel
theorem dX1_packed_0 : decode cX1_packed 0 = .ok (.lconst 0, 1) := dc_at daX1_packed_0 0 rfl
theorem dX1_packed_1 : decode cX1_packed 1 = .ok (.lstore_n 2, 1) := dc_at daX1_packed_0 1 rfl
theorem dX1_packed_2 : decode cX1_packed 2 = .ok (.iload_n 1, 1) := dc_at daX1_packed_0 2 rfl
theorem dX1_packed_3 : decode cX1_packed 3 = .ok (.bipush 8, 2) := dc_at daX1_packed_0 3 rfl
theorem dX1_packed_5 : decode cX1_packed 5 = .ok (.iadd, 1) := dc_at daX1_packed_0 4 rfl
theorem dX1_packed_6 : decode cX1_packed 6 = .ok (.aload_n 0, 1) := dc_at daX1_packed_0 5 rfl
theorem dX1_packed_7 : decode cX1_packed 7 = .ok (.getfield 58, 3) := dc_at daX1_packed_0 6 rfl
theorem dX1_packed_10 : decode cX1_packed 10 = .ok (.getfield 62, 3) := dc_at daX1_packed_0 7 rfl
theorem dX1_packed_13 : decode cX1_packed 13 = .ok (.invokestatic 67, 3) := dc_at daX1_packed_0 8 rfl
theorem dX1_packed_16 : decode cX1_packed 16 = .ok (.istore 4, 2) := dc_at daX1_packed_0 9 rfl
theorem dX1_packed_18 : decode cX1_packed 18 = .ok (.iload_n 1, 1) := dc_at daX1_packed_0 10 rfl
theorem dX1_packed_19 : decode cX1_packed 19 = .ok (.istore 5, 2) := dc_at daX1_packed_0 11 rfl
theorem dX1_packed_21 : decode cX1_packed 21 = .ok (.iload 5, 2) := dc_at daX1_packed_0 12 rfl
theorem dX1_packed_23 : decode cX1_packed 23 = .ok (.iload 4, 2) := dc_at daX1_packed_0 13 rfl
theorem dX1_packed_25 : decode cX1_packed 25 = .ok (.if_icmp .ge 37, 3) := dc_at daX1_packed_0 14 rfl
theorem dX1_packed_28 : decode cX1_packed 28 = .ok (.lload_n 2, 1) := dc_at daX1_packed_0 15 rfl
theorem dX1_packed_29 : decode cX1_packed 29 = .ok (.bipush 7, 2) := dc_at daX1_packed_0 16 rfl
theorem dX1_packed_31 : decode cX1_packed 31 = .ok (.lshl, 1) := dc_at daX1_packed_0 17 rfl
theorem dX1_packed_32 : decode cX1_packed 32 = .ok (.aload_n 0, 1) := dc_at daX1_packed_0 18 rfl
theorem dX1_packed_33 : decode cX1_packed 33 = .ok (.getfield 58, 3) := dc_at daX1_packed_0 19 rfl
theorem dX1_packed_36 : decode cX1_packed 36 = .ok (.getfield 73, 3) := dc_at daX1_packed_0 20 rfl
theorem dX1_packed_39 : decode cX1_packed 39 = .ok (.iload 5, 2) := dc_at daX1_packed_0 21 rfl
theorem dX1_packed_41 : decode cX1_packed 41 = .ok (.iaload, 1) := dc_at daX1_packed_0 22 rfl
theorem dX1_packed_42 : decode cX1_packed 42 = .ok (.aload_n 0, 1) := dc_at daX1_packed_0 23 rfl
def dlX1_packed_1 : List (Nat × Jvm.ClassFile.Instr × Nat) := [(43, .aload_n 0, 1), (44, .getfield 77, 3), (47, .iload 5, 2), (49, .invokevirtual 80, 3), (52, .isub, 1), (53, .i2l, 1), (54, .lor, 1), (55, .lstore_n 2, 1), (56, .iinc 5 1, 3), (59, .goto (-38), 3), (62, .lload_n 2, 1), (63, .lreturn, 1)]
theorem daX1_packed_1 : dlX1_packed_1.all (dcK cX1_packed) = true := by decide +kernel
theorem dX1_packed_43 : decode cX1_packed 43 = .ok (.aload_n 0, 1) := dc_at daX1_packed_1 0 rfl
theorem dX1_packed_44 : decode cX1_packed 44 = .ok (.getfield 77, 3) := dc_at daX1_packed_1 1 rfl
theorem dX1_packed_47 : decode cX1_packed 47 = .ok (.iload 5, 2) := dc_at daX1_packed_1 2 rfl
theorem dX1_packed_49 : decode cX1_packed 49 = .ok (.invokevirtual 80, 3) := dc_at daX1_packed_1 3 rfl
theorem dX1_packed_52 : decode cX1_packed 52 = .ok (.isub, 1) := dc_at daX1_packed_1 4 rfl
theorem dX1_packed_53 : decode cX1_packed 53 = .ok (.i2l, 1) := dc_at daX1_packed_1 5 rfl
theorem dX1_packed_54 : decode cX1_packed 54 = .ok (.lor, 1) := dc_at daX1_packed_1 6 rfl
theorem dX1_packed_55 : decode cX1_packed 55 = .ok (.lstore_n 2, 1) := dc_at daX1_packed_1 7 rfl
theorem dX1_packed_56 : decode cX1_packed 56 = .ok (.iinc 5 1, 3) := dc_at daX1_packed_1 8 rfl
theorem dX1_packed_59 : decode cX1_packed 59 = .ok (.goto (-38), 3) := dc_at daX1_packed_1 9 rfl
theorem dX1_packed_62 : decode cX1_packed 62 = .ok (.lload_n 2, 1) := dc_at daX1_packed_1 10 rfl
theorem dX1_packed_63 : decode cX1_packed 63 = .ok (.lreturn, 1) := dc_at daX1_packed_1 11 rfl
def dlX1_keep_0 : List (Nat × Jvm.ClassFile.Instr × Nat) := [(0, .iconst 0, 1), (1, .istore 5, 2), (3, .iload 5, 2), (5, .aload_n 0, 1), (6, .getfield 18, 3), (9, .if_icmp .ge 34, 3), (12, .aload_n 0, 1), (13, .getfield 11, 3), (16, .iload 5, 2), (18, .laload, 1), (19, .lload_n 1, 1), (20, .lcmp, 1), (21, .ifCond .ne 16, 3), (24, .aload_n 0, 1), (25, .getfield 15, 3), (28, .iload 5, 2), (30, .laload, 1), (31, .lload_n 3, 1), (32, .lcmp, 1), (33, .ifCond .ne 4, 3), (36, .return_, 1), (37, .iinc 5 1, 3), (40, .goto (-37), 3), (43, .aload_n 0, 1)]
theorem daX1_keep_0 : dlX1_keep_0.all (dcK cX1_keep) = true := by decide +kernel
theorem dX1_keep_0 : decode cX1_keep 0 = .ok (.iconst 0, 1) := dc_at daX1_keep_0 0 rfl
theorem dX1_keep_1 : decode cX1_keep 1 = .ok (.istore 5, 2) := dc_at daX1_keep_0 1 rfl
theorem dX1_keep_3 : decode cX1_keep 3 = .ok (.iload 5, 2) := dc_at daX1_keep_0 2 rfl
theorem dX1_keep_5 : decode cX1_keep 5 = .ok (.aload_n 0, 1) := dc_at daX1_keep_0 3 rfl
theorem dX1_keep_6 : decode cX1_keep 6 = .ok (.getfield 18, 3) := dc_at daX1_keep_0 4 rfl
theorem dX1_keep_9 : decode cX1_keep 9 = .ok (.if_icmp .ge 34, 3) := dc_at daX1_keep_0 5 rfl
theorem dX1_keep_12 : decode cX1_keep 12 = .ok (.aload_n 0, 1) := dc_at daX1_keep_0 6 rfl
theorem dX1_keep_13 : decode cX1_keep 13 = .ok (.getfield 11, 3) := dc_at daX1_keep_0 7 rfl
theorem dX1_keep_16 : decode cX1_keep 16 = .ok (.iload 5, 2) := dc_at daX1_keep_0 8 rfl
theorem dX1_keep_18 : decode cX1_keep 18 = .ok (.laload, 1) := dc_at daX1_keep_0 9 rfl
theorem dX1_keep_19 : decode cX1_keep 19 = .ok (.lload_n 1, 1) := dc_at daX1_keep_0 10 rfl
theorem dX1_keep_20 : decode cX1_keep 20 = .ok (.lcmp, 1) := dc_at daX1_keep_0 11 rfl
theorem dX1_keep_21 : decode cX1_keep 21 = .ok (.ifCond .ne 16, 3) := dc_at daX1_keep_0 12 rfl
theorem dX1_keep_24 : decode cX1_keep 24 = .ok (.aload_n 0, 1) := dc_at daX1_keep_0 13 rfl
theorem dX1_keep_25 : decode cX1_keep 25 = .ok (.getfield 15, 3) := dc_at daX1_keep_0 14 rfl
theorem dX1_keep_28 : decode cX1_keep 28 = .ok (.iload 5, 2) := dc_at daX1_keep_0 15 rfl
theorem dX1_keep_30 : decode cX1_keep 30 = .ok (.laload, 1) := dc_at daX1_keep_0 16 rfl
theorem dX1_keep_31 : decode cX1_keep 31 = .ok (.lload_n 3, 1) := dc_at daX1_keep_0 17 rfl
theorem dX1_keep_32 : decode cX1_keep 32 = .ok (.lcmp, 1) := dc_at daX1_keep_0 18 rfl
theorem dX1_keep_33 : decode cX1_keep 33 = .ok (.ifCond .ne 4, 3) := dc_at daX1_keep_0 19 rfl
theorem dX1_keep_36 : decode cX1_keep 36 = .ok (.return_, 1) := dc_at daX1_keep_0 20 rfl
theorem dX1_keep_37 : decode cX1_keep 37 = .ok (.iinc 5 1, 3) := dc_at daX1_keep_0 21 rfl
theorem dX1_keep_40 : decode cX1_keep 40 = .ok (.goto (-37), 3) := dc_at daX1_keep_0 22 rfl
theorem dX1_keep_43 : decode cX1_keep 43 = .ok (.aload_n 0, 1) := dc_at daX1_keep_0 23 rfl
def dlX1_keep_1 : List (Nat × Jvm.ClassFile.Instr × Nat) := [(44, .getfield 18, 3), (47, .sipush 176, 3), (50, .if_icmp .ge 33, 3), (53, .aload_n 0, 1), (54, .getfield 11, 3), (57, .aload_n 0, 1), (58, .getfield 18, 3), (61, .lload_n 1, 1), (62, .lastore, 1), (63, .aload_n 0, 1), (64, .getfield 15, 3), (67, .aload_n 0, 1), (68, .getfield 18, 3), (71, .lload_n 3, 1), (72, .lastore, 1), (73, .aload_n 0, 1), (74, .dup, 1), (75, .getfield 18, 3), (78, .iconst 1, 1), (79, .iadd, 1), (80, .putfield 18, 3), (83, .return_, 1)]
theorem daX1_keep_1 : dlX1_keep_1.all (dcK cX1_keep) = true := by decide +kernel
theorem dX1_keep_44 : decode cX1_keep 44 = .ok (.getfield 18, 3) := dc_at daX1_keep_1 0 rfl
theorem dX1_keep_47 : decode cX1_keep 47 = .ok (.sipush 176, 3) := dc_at daX1_keep_1 1 rfl
theorem dX1_keep_50 : decode cX1_keep 50 = .ok (.if_icmp .ge 33, 3) := dc_at daX1_keep_1 2 rfl
theorem dX1_keep_53 : decode cX1_keep 53 = .ok (.aload_n 0, 1) := dc_at daX1_keep_1 3 rfl
theorem dX1_keep_54 : decode cX1_keep 54 = .ok (.getfield 11, 3) := dc_at daX1_keep_1 4 rfl
theorem dX1_keep_57 : decode cX1_keep 57 = .ok (.aload_n 0, 1) := dc_at daX1_keep_1 5 rfl
theorem dX1_keep_58 : decode cX1_keep 58 = .ok (.getfield 18, 3) := dc_at daX1_keep_1 6 rfl
theorem dX1_keep_61 : decode cX1_keep 61 = .ok (.lload_n 1, 1) := dc_at daX1_keep_1 7 rfl
theorem dX1_keep_62 : decode cX1_keep 62 = .ok (.lastore, 1) := dc_at daX1_keep_1 8 rfl
theorem dX1_keep_63 : decode cX1_keep 63 = .ok (.aload_n 0, 1) := dc_at daX1_keep_1 9 rfl
theorem dX1_keep_64 : decode cX1_keep 64 = .ok (.getfield 15, 3) := dc_at daX1_keep_1 10 rfl
theorem dX1_keep_67 : decode cX1_keep 67 = .ok (.aload_n 0, 1) := dc_at daX1_keep_1 11 rfl
theorem dX1_keep_68 : decode cX1_keep 68 = .ok (.getfield 18, 3) := dc_at daX1_keep_1 12 rfl
theorem dX1_keep_71 : decode cX1_keep 71 = .ok (.lload_n 3, 1) := dc_at daX1_keep_1 13 rfl
theorem dX1_keep_72 : decode cX1_keep 72 = .ok (.lastore, 1) := dc_at daX1_keep_1 14 rfl
theorem dX1_keep_73 : decode cX1_keep 73 = .ok (.aload_n 0, 1) := dc_at daX1_keep_1 15 rfl
theorem dX1_keep_74 : decode cX1_keep 74 = .ok (.dup, 1) := dc_at daX1_keep_1 16 rfl
theorem dX1_keep_75 : decode cX1_keep 75 = .ok (.getfield 18, 3) := dc_at daX1_keep_1 17 rfl
theorem dX1_keep_78 : decode cX1_keep 78 = .ok (.iconst 1, 1) := dc_at daX1_keep_1 18 rfl
theorem dX1_keep_79 : decode cX1_keep 79 = .ok (.iadd, 1) := dc_at daX1_keep_1 19 rfl
theorem dX1_keep_80 : decode cX1_keep 80 = .ok (.putfield 18, 3) := dc_at daX1_keep_1 20 rfl
theorem dX1_keep_83 : decode cX1_keep 83 = .ok (.return_, 1) := dc_at daX1_keep_1 21 rfl
def dlX1_explainNothing_0 : List (Nat × Jvm.ClassFile.Instr × Nat) := [(0, .aload_n 0, 1), (1, .iconst 0, 1), (2, .putfield 22, 3), (5, .aload_n 0, 1), (6, .iconst 0, 1), (7, .putfield 25, 3), (10, .return_, 1)]
theorem daX1_explainNothing_0 : dlX1_explainNothing_0.all (dcK cX1_explainNothing) = true := by decide +kernel
theorem dX1_explainNothing_0 : decode cX1_explainNothing 0 = .ok (.aload_n 0, 1) := dc_at daX1_explainNothing_0 0 rfl
theorem dX1_explainNothing_1 : decode cX1_explainNothing 1 = .ok (.iconst 0, 1) := dc_at daX1_explainNothing_0 1 rfl
theorem dX1_explainNothing_2 : decode cX1_explainNothing 2 = .ok (.putfield 22, 3) := dc_at daX1_explainNothing_0 2 rfl
theorem dX1_explainNothing_5 : decode cX1_explainNothing 5 = .ok (.aload_n 0, 1) := dc_at daX1_explainNothing_0 3 rfl
theorem dX1_explainNothing_6 : decode cX1_explainNothing 6 = .ok (.iconst 0, 1) := dc_at daX1_explainNothing_0 4 rfl
theorem dX1_explainNothing_7 : decode cX1_explainNothing 7 = .ok (.putfield 25, 3) := dc_at daX1_explainNothing_0 5 rfl
theorem dX1_explainNothing_10 : decode cX1_explainNothing 10 = .ok (.return_, 1) := dc_at daX1_explainNothing_0 6 rfl
def dlX1_explain_0 : List (Nat × Jvm.ClassFile.Instr × Nat) := [(0, .aload_n 0, 1), (1, .invokevirtual 84, 3), (4, .aload_n 1, 1), (5, .getfield 58, 3), (8, .invokevirtual 87, 3), (11, .istore 5, 2), (13, .aload_n 2, 1), (14, .iload_n 3, 1), (15, .invokevirtual 28, 3), (18, .istore 6, 2), (20, .aload_n 2, 1), (21, .iload_n 3, 1), (22, .invokevirtual 34, 3), (25, .istore 7, 2), (27, .iload 7, 2), (29, .iload 6, 2), (31, .if_icmp .ge 54, 3), (34, .aload_n 1, 1), (35, .aload_n 2, 1), (36, .getfield 41, 3), (39, .iload 7, 2), (41, .laload, 1), (42, .invokevirtual 44, 3), (45, .aload_n 1, 1)]
theorem daX1_explain_0 : dlX1_explain_0.all (dcK cX1_explain) = true := by decide +kernel
theorem dX1_explain_0 : decode cX1_explain 0 = .ok (.aload_n 0, 1) := dc_at daX1_explain_0 0 rfl
theorem dX1_explain_1 : decode cX1_explain 1 = .ok (.invokevirtual 84, 3) := dc_at daX1_explain_0 1 rfl
theorem dX1_explain_4 : decode cX1_explain 4 = .ok (.aload_n 1, 1) := dc_at daX1_explain_0 2 rfl
theorem dX1_explain_5 : decode cX1_explain 5 = .ok (.getfield 58, 3) := dc_at daX1_explain_0 3 rfl
theorem dX1_explain_8 : decode cX1_explain 8 = .ok (.invokevirtual 87, 3) := dc_at daX1_explain_0 4 rfl
theorem dX1_explain_11 : decode cX1_explain 11 = .ok (.istore 5, 2) := dc_at daX1_explain_0 5 rfl
theorem dX1_explain_13 : decode cX1_explain 13 = .ok (.aload_n 2, 1) := dc_at daX1_explain_0 6 rfl
theorem dX1_explain_14 : decode cX1_explain 14 = .ok (.iload_n 3, 1) := dc_at daX1_explain_0 7 rfl
theorem dX1_explain_15 : decode cX1_explain 15 = .ok (.invokevirtual 28, 3) := dc_at daX1_explain_0 8 rfl
theorem dX1_explain_18 : decode cX1_explain 18 = .ok (.istore 6, 2) := dc_at daX1_explain_0 9 rfl
theorem dX1_explain_20 : decode cX1_explain 20 = .ok (.aload_n 2, 1) := dc_at daX1_explain_0 10 rfl
theorem dX1_explain_21 : decode cX1_explain 21 = .ok (.iload_n 3, 1) := dc_at daX1_explain_0 11 rfl
theorem dX1_explain_22 : decode cX1_explain 22 = .ok (.invokevirtual 34, 3) := dc_at daX1_explain_0 12 rfl
theorem dX1_explain_25 : decode cX1_explain 25 = .ok (.istore 7, 2) := dc_at daX1_explain_0 13 rfl
theorem dX1_explain_27 : decode cX1_explain 27 = .ok (.iload 7, 2) := dc_at daX1_explain_0 14 rfl
theorem dX1_explain_29 : decode cX1_explain 29 = .ok (.iload 6, 2) := dc_at daX1_explain_0 15 rfl
theorem dX1_explain_31 : decode cX1_explain 31 = .ok (.if_icmp .ge 54, 3) := dc_at daX1_explain_0 16 rfl
theorem dX1_explain_34 : decode cX1_explain 34 = .ok (.aload_n 1, 1) := dc_at daX1_explain_0 17 rfl
theorem dX1_explain_35 : decode cX1_explain 35 = .ok (.aload_n 2, 1) := dc_at daX1_explain_0 18 rfl
theorem dX1_explain_36 : decode cX1_explain 36 = .ok (.getfield 41, 3) := dc_at daX1_explain_0 19 rfl
theorem dX1_explain_39 : decode cX1_explain 39 = .ok (.iload 7, 2) := dc_at daX1_explain_0 20 rfl
theorem dX1_explain_41 : decode cX1_explain 41 = .ok (.laload, 1) := dc_at daX1_explain_0 21 rfl
theorem dX1_explain_42 : decode cX1_explain 42 = .ok (.invokevirtual 44, 3) := dc_at daX1_explain_0 22 rfl
theorem dX1_explain_45 : decode cX1_explain 45 = .ok (.aload_n 1, 1) := dc_at daX1_explain_0 23 rfl
def dlX1_explain_1 : List (Nat × Jvm.ClassFile.Instr × Nat) := [(46, .aload 4, 2), (48, .invokestatic 91, 3), (51, .ifCond .eq 28, 3), (54, .aload_n 0, 1), (55, .dup, 1), (56, .getfield 22, 3), (59, .aload_n 2, 1), (60, .getfield 95, 3), (63, .iload 7, 2), (65, .iaload, 1), (66, .iadd, 1), (67, .putfield 22, 3), (70, .iload 5, 2), (72, .aload_n 1, 1), (73, .invokevirtual 98, 3), (76, .iand, 1), (77, .istore 5, 2), (79, .iinc 7 1, 3), (82, .goto (-55), 3), (85, .aload_n 0, 1), (86, .getfield 22, 3), (89, .ifCond .le 9, 3), (92, .aload_n 0, 1), (93, .iload 5, 2)]
theorem daX1_explain_1 : dlX1_explain_1.all (dcK cX1_explain) = true := by decide +kernel
theorem dX1_explain_46 : decode cX1_explain 46 = .ok (.aload 4, 2) := dc_at daX1_explain_1 0 rfl
theorem dX1_explain_48 : decode cX1_explain 48 = .ok (.invokestatic 91, 3) := dc_at daX1_explain_1 1 rfl
theorem dX1_explain_51 : decode cX1_explain 51 = .ok (.ifCond .eq 28, 3) := dc_at daX1_explain_1 2 rfl
theorem dX1_explain_54 : decode cX1_explain 54 = .ok (.aload_n 0, 1) := dc_at daX1_explain_1 3 rfl
theorem dX1_explain_55 : decode cX1_explain 55 = .ok (.dup, 1) := dc_at daX1_explain_1 4 rfl
theorem dX1_explain_56 : decode cX1_explain 56 = .ok (.getfield 22, 3) := dc_at daX1_explain_1 5 rfl
theorem dX1_explain_59 : decode cX1_explain 59 = .ok (.aload_n 2, 1) := dc_at daX1_explain_1 6 rfl
theorem dX1_explain_60 : decode cX1_explain 60 = .ok (.getfield 95, 3) := dc_at daX1_explain_1 7 rfl
theorem dX1_explain_63 : decode cX1_explain 63 = .ok (.iload 7, 2) := dc_at daX1_explain_1 8 rfl
theorem dX1_explain_65 : decode cX1_explain 65 = .ok (.iaload, 1) := dc_at daX1_explain_1 9 rfl
theorem dX1_explain_66 : decode cX1_explain 66 = .ok (.iadd, 1) := dc_at daX1_explain_1 10 rfl
theorem dX1_explain_67 : decode cX1_explain 67 = .ok (.putfield 22, 3) := dc_at daX1_explain_1 11 rfl
theorem dX1_explain_70 : decode cX1_explain 70 = .ok (.iload 5, 2) := dc_at daX1_explain_1 12 rfl
theorem dX1_explain_72 : decode cX1_explain 72 = .ok (.aload_n 1, 1) := dc_at daX1_explain_1 13 rfl
theorem dX1_explain_73 : decode cX1_explain 73 = .ok (.invokevirtual 98, 3) := dc_at daX1_explain_1 14 rfl
theorem dX1_explain_76 : decode cX1_explain 76 = .ok (.iand, 1) := dc_at daX1_explain_1 15 rfl
theorem dX1_explain_77 : decode cX1_explain 77 = .ok (.istore 5, 2) := dc_at daX1_explain_1 16 rfl
theorem dX1_explain_79 : decode cX1_explain 79 = .ok (.iinc 7 1, 3) := dc_at daX1_explain_1 17 rfl
theorem dX1_explain_82 : decode cX1_explain 82 = .ok (.goto (-55), 3) := dc_at daX1_explain_1 18 rfl
theorem dX1_explain_85 : decode cX1_explain 85 = .ok (.aload_n 0, 1) := dc_at daX1_explain_1 19 rfl
theorem dX1_explain_86 : decode cX1_explain 86 = .ok (.getfield 22, 3) := dc_at daX1_explain_1 20 rfl
theorem dX1_explain_89 : decode cX1_explain 89 = .ok (.ifCond .le 9, 3) := dc_at daX1_explain_1 21 rfl
theorem dX1_explain_92 : decode cX1_explain 92 = .ok (.aload_n 0, 1) := dc_at daX1_explain_1 22 rfl
theorem dX1_explain_93 : decode cX1_explain 93 = .ok (.iload 5, 2) := dc_at daX1_explain_1 23 rfl
def dlX1_explain_2 : List (Nat × Jvm.ClassFile.Instr × Nat) := [(95, .putfield 25, 3), (98, .return_, 1)]
theorem daX1_explain_2 : dlX1_explain_2.all (dcK cX1_explain) = true := by decide +kernel
theorem dX1_explain_95 : decode cX1_explain 95 = .ok (.putfield 25, 3) := dc_at daX1_explain_2 0 rfl
theorem dX1_explain_98 : decode cX1_explain 98 = .ok (.return_, 1) := dc_at daX1_explain_2 1 rfl
def dlX1_leaves_0 : List (Nat × Jvm.ClassFile.Instr × Nat) := [(0, .iconst 0, 1), (1, .istore_n 2, 1), (2, .iload_n 2, 1), (3, .aload_n 0, 1), (4, .getfield 58, 3), (7, .getfield 62, 3), (10, .if_icmp .ge 40, 3), (13, .aload_n 0, 1), (14, .getfield 58, 3), (17, .getfield 73, 3), (20, .iload_n 2, 1), (21, .iaload, 1), (22, .aload_n 0, 1), (23, .aload_n 0, 1), (24, .getfield 77, 3), (27, .iload_n 2, 1), (28, .invokevirtual 80, 3), (31, .isub, 1), (32, .i2l, 1), (33, .aload_n 1, 1), (34, .iload_n 2, 1), (35, .invokevirtual 101, 3), (38, .lcmp, 1), (39, .ifCond .eq 5, 3)]
theorem daX1_leaves_0 : dlX1_leaves_0.all (dcK cX1_leaves) = true := by decide +kernel
theorem dX1_leaves_0 : decode cX1_leaves 0 = .ok (.iconst 0, 1) := dc_at daX1_leaves_0 0 rfl
theorem dX1_leaves_1 : decode cX1_leaves 1 = .ok (.istore_n 2, 1) := dc_at daX1_leaves_0 1 rfl
theorem dX1_leaves_2 : decode cX1_leaves 2 = .ok (.iload_n 2, 1) := dc_at daX1_leaves_0 2 rfl
theorem dX1_leaves_3 : decode cX1_leaves 3 = .ok (.aload_n 0, 1) := dc_at daX1_leaves_0 3 rfl
theorem dX1_leaves_4 : decode cX1_leaves 4 = .ok (.getfield 58, 3) := dc_at daX1_leaves_0 4 rfl
theorem dX1_leaves_7 : decode cX1_leaves 7 = .ok (.getfield 62, 3) := dc_at daX1_leaves_0 5 rfl
theorem dX1_leaves_10 : decode cX1_leaves 10 = .ok (.if_icmp .ge 40, 3) := dc_at daX1_leaves_0 6 rfl
theorem dX1_leaves_13 : decode cX1_leaves 13 = .ok (.aload_n 0, 1) := dc_at daX1_leaves_0 7 rfl
theorem dX1_leaves_14 : decode cX1_leaves 14 = .ok (.getfield 58, 3) := dc_at daX1_leaves_0 8 rfl
theorem dX1_leaves_17 : decode cX1_leaves 17 = .ok (.getfield 73, 3) := dc_at daX1_leaves_0 9 rfl
theorem dX1_leaves_20 : decode cX1_leaves 20 = .ok (.iload_n 2, 1) := dc_at daX1_leaves_0 10 rfl
theorem dX1_leaves_21 : decode cX1_leaves 21 = .ok (.iaload, 1) := dc_at daX1_leaves_0 11 rfl
theorem dX1_leaves_22 : decode cX1_leaves 22 = .ok (.aload_n 0, 1) := dc_at daX1_leaves_0 12 rfl
theorem dX1_leaves_23 : decode cX1_leaves 23 = .ok (.aload_n 0, 1) := dc_at daX1_leaves_0 13 rfl
theorem dX1_leaves_24 : decode cX1_leaves 24 = .ok (.getfield 77, 3) := dc_at daX1_leaves_0 14 rfl
theorem dX1_leaves_27 : decode cX1_leaves 27 = .ok (.iload_n 2, 1) := dc_at daX1_leaves_0 15 rfl
theorem dX1_leaves_28 : decode cX1_leaves 28 = .ok (.invokevirtual 80, 3) := dc_at daX1_leaves_0 16 rfl
theorem dX1_leaves_31 : decode cX1_leaves 31 = .ok (.isub, 1) := dc_at daX1_leaves_0 17 rfl
theorem dX1_leaves_32 : decode cX1_leaves 32 = .ok (.i2l, 1) := dc_at daX1_leaves_0 18 rfl
theorem dX1_leaves_33 : decode cX1_leaves 33 = .ok (.aload_n 1, 1) := dc_at daX1_leaves_0 19 rfl
theorem dX1_leaves_34 : decode cX1_leaves 34 = .ok (.iload_n 2, 1) := dc_at daX1_leaves_0 20 rfl
theorem dX1_leaves_35 : decode cX1_leaves 35 = .ok (.invokevirtual 101, 3) := dc_at daX1_leaves_0 21 rfl
theorem dX1_leaves_38 : decode cX1_leaves 38 = .ok (.lcmp, 1) := dc_at daX1_leaves_0 22 rfl
theorem dX1_leaves_39 : decode cX1_leaves 39 = .ok (.ifCond .eq 5, 3) := dc_at daX1_leaves_0 23 rfl
def dlX1_leaves_1 : List (Nat × Jvm.ClassFile.Instr × Nat) := [(42, .iconst 0, 1), (43, .ireturn, 1), (44, .iinc 2 1, 3), (47, .goto (-45), 3), (50, .iconst 1, 1), (51, .ireturn, 1)]
theorem daX1_leaves_1 : dlX1_leaves_1.all (dcK cX1_leaves) = true := by decide +kernel
theorem dX1_leaves_42 : decode cX1_leaves 42 = .ok (.iconst 0, 1) := dc_at daX1_leaves_1 0 rfl
theorem dX1_leaves_43 : decode cX1_leaves 43 = .ok (.ireturn, 1) := dc_at daX1_leaves_1 1 rfl
theorem dX1_leaves_44 : decode cX1_leaves 44 = .ok (.iinc 2 1, 3) := dc_at daX1_leaves_1 2 rfl
theorem dX1_leaves_47 : decode cX1_leaves 47 = .ok (.goto (-45), 3) := dc_at daX1_leaves_1 3 rfl
theorem dX1_leaves_50 : decode cX1_leaves 50 = .ok (.iconst 1, 1) := dc_at daX1_leaves_1 4 rfl
theorem dX1_leaves_51 : decode cX1_leaves 51 = .ok (.ireturn, 1) := dc_at daX1_leaves_1 5 rfl
def dlX2_init_0 : List (Nat × Jvm.ClassFile.Instr × Nat) := [(0, .aload_n 0, 1), (1, .invokespecial 3, 3), (4, .aload_n 0, 1), (5, .new 9, 3), (8, .dup, 1), (9, .invokespecial 11, 3), (12, .putfield 12, 3), (15, .aload_n 0, 1), (16, .iconst 0, 1), (17, .putfield 18, 3), (20, .aload_n 0, 1), (21, .bipush 16, 2), (23, .newarray .int, 2), (25, .putfield 22, 3), (28, .aload_n 0, 1), (29, .sipush 256, 3), (32, .newarray .int, 2), (34, .putfield 26, 3), (37, .aload_n 0, 1), (38, .bipush 16, 2), (40, .newarray .int, 2), (42, .putfield 29, 3), (45, .aload_n 0, 1), (46, .bipush 6, 2)]
theorem daX2_init_0 : dlX2_init_0.all (dcK cX2_init) = true := by decide +kernel
theorem dX2_init_0 : decode cX2_init 0 = .ok (.aload_n 0, 1) := dc_at daX2_init_0 0 rfl
theorem dX2_init_1 : decode cX2_init 1 = .ok (.invokespecial 3, 3) := dc_at daX2_init_0 1 rfl
theorem dX2_init_4 : decode cX2_init 4 = .ok (.aload_n 0, 1) := dc_at daX2_init_0 2 rfl
theorem dX2_init_5 : decode cX2_init 5 = .ok (.new 9, 3) := dc_at daX2_init_0 3 rfl
theorem dX2_init_8 : decode cX2_init 8 = .ok (.dup, 1) := dc_at daX2_init_0 4 rfl
theorem dX2_init_9 : decode cX2_init 9 = .ok (.invokespecial 11, 3) := dc_at daX2_init_0 5 rfl
theorem dX2_init_12 : decode cX2_init 12 = .ok (.putfield 12, 3) := dc_at daX2_init_0 6 rfl
theorem dX2_init_15 : decode cX2_init 15 = .ok (.aload_n 0, 1) := dc_at daX2_init_0 7 rfl
theorem dX2_init_16 : decode cX2_init 16 = .ok (.iconst 0, 1) := dc_at daX2_init_0 8 rfl
theorem dX2_init_17 : decode cX2_init 17 = .ok (.putfield 18, 3) := dc_at daX2_init_0 9 rfl
theorem dX2_init_20 : decode cX2_init 20 = .ok (.aload_n 0, 1) := dc_at daX2_init_0 10 rfl
theorem dX2_init_21 : decode cX2_init 21 = .ok (.bipush 16, 2) := dc_at daX2_init_0 11 rfl
theorem dX2_init_23 : decode cX2_init 23 = .ok (.newarray .int, 2) := dc_at daX2_init_0 12 rfl
theorem dX2_init_25 : decode cX2_init 25 = .ok (.putfield 22, 3) := dc_at daX2_init_0 13 rfl
theorem dX2_init_28 : decode cX2_init 28 = .ok (.aload_n 0, 1) := dc_at daX2_init_0 14 rfl
theorem dX2_init_29 : decode cX2_init 29 = .ok (.sipush 256, 3) := dc_at daX2_init_0 15 rfl
theorem dX2_init_32 : decode cX2_init 32 = .ok (.newarray .int, 2) := dc_at daX2_init_0 16 rfl
theorem dX2_init_34 : decode cX2_init 34 = .ok (.putfield 26, 3) := dc_at daX2_init_0 17 rfl
theorem dX2_init_37 : decode cX2_init 37 = .ok (.aload_n 0, 1) := dc_at daX2_init_0 18 rfl
theorem dX2_init_38 : decode cX2_init 38 = .ok (.bipush 16, 2) := dc_at daX2_init_0 19 rfl
theorem dX2_init_40 : decode cX2_init 40 = .ok (.newarray .int, 2) := dc_at daX2_init_0 20 rfl
theorem dX2_init_42 : decode cX2_init 42 = .ok (.putfield 29, 3) := dc_at daX2_init_0 21 rfl
theorem dX2_init_45 : decode cX2_init 45 = .ok (.aload_n 0, 1) := dc_at daX2_init_0 22 rfl
theorem dX2_init_46 : decode cX2_init 46 = .ok (.bipush 6, 2) := dc_at daX2_init_0 23 rfl
def dlX2_init_1 : List (Nat × Jvm.ClassFile.Instr × Nat) := [(48, .newarray .int, 2), (50, .putfield 32, 3), (53, .aload_n 0, 1), (54, .bipush 8, 2), (56, .newarray .int, 2), (58, .putfield 35, 3), (61, .aload_n 0, 1), (62, .bipush 8, 2), (64, .newarray .int, 2), (66, .putfield 38, 3), (69, .aload_n 0, 1), (70, .iconst 0, 1), (71, .putfield 41, 3), (74, .aload_n 0, 1), (75, .iconst 0, 1), (76, .putfield 44, 3), (79, .aload_n 0, 1), (80, .iconst 0, 1), (81, .putfield 47, 3), (84, .return_, 1)]
theorem daX2_init_1 : dlX2_init_1.all (dcK cX2_init) = true := by decide +kernel
theorem dX2_init_48 : decode cX2_init 48 = .ok (.newarray .int, 2) := dc_at daX2_init_1 0 rfl
theorem dX2_init_50 : decode cX2_init 50 = .ok (.putfield 32, 3) := dc_at daX2_init_1 1 rfl
theorem dX2_init_53 : decode cX2_init 53 = .ok (.aload_n 0, 1) := dc_at daX2_init_1 2 rfl
theorem dX2_init_54 : decode cX2_init 54 = .ok (.bipush 8, 2) := dc_at daX2_init_1 3 rfl
theorem dX2_init_56 : decode cX2_init 56 = .ok (.newarray .int, 2) := dc_at daX2_init_1 4 rfl
theorem dX2_init_58 : decode cX2_init 58 = .ok (.putfield 35, 3) := dc_at daX2_init_1 5 rfl
theorem dX2_init_61 : decode cX2_init 61 = .ok (.aload_n 0, 1) := dc_at daX2_init_1 6 rfl
theorem dX2_init_62 : decode cX2_init 62 = .ok (.bipush 8, 2) := dc_at daX2_init_1 7 rfl
theorem dX2_init_64 : decode cX2_init 64 = .ok (.newarray .int, 2) := dc_at daX2_init_1 8 rfl
theorem dX2_init_66 : decode cX2_init 66 = .ok (.putfield 38, 3) := dc_at daX2_init_1 9 rfl
theorem dX2_init_69 : decode cX2_init 69 = .ok (.aload_n 0, 1) := dc_at daX2_init_1 10 rfl
theorem dX2_init_70 : decode cX2_init 70 = .ok (.iconst 0, 1) := dc_at daX2_init_1 11 rfl
theorem dX2_init_71 : decode cX2_init 71 = .ok (.putfield 41, 3) := dc_at daX2_init_1 12 rfl
theorem dX2_init_74 : decode cX2_init 74 = .ok (.aload_n 0, 1) := dc_at daX2_init_1 13 rfl
theorem dX2_init_75 : decode cX2_init 75 = .ok (.iconst 0, 1) := dc_at daX2_init_1 14 rfl
theorem dX2_init_76 : decode cX2_init 76 = .ok (.putfield 44, 3) := dc_at daX2_init_1 15 rfl
theorem dX2_init_79 : decode cX2_init 79 = .ok (.aload_n 0, 1) := dc_at daX2_init_1 16 rfl
theorem dX2_init_80 : decode cX2_init 80 = .ok (.iconst 0, 1) := dc_at daX2_init_1 17 rfl
theorem dX2_init_81 : decode cX2_init 81 = .ok (.putfield 47, 3) := dc_at daX2_init_1 18 rfl
theorem dX2_init_84 : decode cX2_init 84 = .ok (.return_, 1) := dc_at daX2_init_1 19 rfl
def dlX2_prepare_0 : List (Nat × Jvm.ClassFile.Instr × Nat) := [(0, .aload_n 0, 1), (1, .aload_n 1, 1), (2, .putfield 12, 3), (5, .aload_n 0, 1), (6, .iload_n 2, 1), (7, .putfield 18, 3), (10, .iconst 0, 1), (11, .istore 4, 2), (13, .iload 4, 2), (15, .aload_n 1, 1), (16, .getfield 50, 3), (19, .if_icmp .ge 28, 3), (22, .aload_n 0, 1), (23, .getfield 22, 3), (26, .iload 4, 2), (28, .aload_n 0, 1), (29, .aload_n 1, 1), (30, .getfield 53, 3), (33, .iload 4, 2), (35, .iaload, 1), (36, .iload_n 3, 1), (37, .invokevirtual 56, 3), (40, .iastore, 1), (41, .iinc 4 1, 3)]
theorem daX2_prepare_0 : dlX2_prepare_0.all (dcK cX2_prepare) = true := by decide +kernel
theorem dX2_prepare_0 : decode cX2_prepare 0 = .ok (.aload_n 0, 1) := dc_at daX2_prepare_0 0 rfl
theorem dX2_prepare_1 : decode cX2_prepare 1 = .ok (.aload_n 1, 1) := dc_at daX2_prepare_0 1 rfl
theorem dX2_prepare_2 : decode cX2_prepare 2 = .ok (.putfield 12, 3) := dc_at daX2_prepare_0 2 rfl
theorem dX2_prepare_5 : decode cX2_prepare 5 = .ok (.aload_n 0, 1) := dc_at daX2_prepare_0 3 rfl
theorem dX2_prepare_6 : decode cX2_prepare 6 = .ok (.iload_n 2, 1) := dc_at daX2_prepare_0 4 rfl
theorem dX2_prepare_7 : decode cX2_prepare 7 = .ok (.putfield 18, 3) := dc_at daX2_prepare_0 5 rfl
theorem dX2_prepare_10 : decode cX2_prepare 10 = .ok (.iconst 0, 1) := dc_at daX2_prepare_0 6 rfl
theorem dX2_prepare_11 : decode cX2_prepare 11 = .ok (.istore 4, 2) := dc_at daX2_prepare_0 7 rfl
theorem dX2_prepare_13 : decode cX2_prepare 13 = .ok (.iload 4, 2) := dc_at daX2_prepare_0 8 rfl
theorem dX2_prepare_15 : decode cX2_prepare 15 = .ok (.aload_n 1, 1) := dc_at daX2_prepare_0 9 rfl
theorem dX2_prepare_16 : decode cX2_prepare 16 = .ok (.getfield 50, 3) := dc_at daX2_prepare_0 10 rfl
theorem dX2_prepare_19 : decode cX2_prepare 19 = .ok (.if_icmp .ge 28, 3) := dc_at daX2_prepare_0 11 rfl
theorem dX2_prepare_22 : decode cX2_prepare 22 = .ok (.aload_n 0, 1) := dc_at daX2_prepare_0 12 rfl
theorem dX2_prepare_23 : decode cX2_prepare 23 = .ok (.getfield 22, 3) := dc_at daX2_prepare_0 13 rfl
theorem dX2_prepare_26 : decode cX2_prepare 26 = .ok (.iload 4, 2) := dc_at daX2_prepare_0 14 rfl
theorem dX2_prepare_28 : decode cX2_prepare 28 = .ok (.aload_n 0, 1) := dc_at daX2_prepare_0 15 rfl
theorem dX2_prepare_29 : decode cX2_prepare 29 = .ok (.aload_n 1, 1) := dc_at daX2_prepare_0 16 rfl
theorem dX2_prepare_30 : decode cX2_prepare 30 = .ok (.getfield 53, 3) := dc_at daX2_prepare_0 17 rfl
theorem dX2_prepare_33 : decode cX2_prepare 33 = .ok (.iload 4, 2) := dc_at daX2_prepare_0 18 rfl
theorem dX2_prepare_35 : decode cX2_prepare 35 = .ok (.iaload, 1) := dc_at daX2_prepare_0 19 rfl
theorem dX2_prepare_36 : decode cX2_prepare 36 = .ok (.iload_n 3, 1) := dc_at daX2_prepare_0 20 rfl
theorem dX2_prepare_37 : decode cX2_prepare 37 = .ok (.invokevirtual 56, 3) := dc_at daX2_prepare_0 21 rfl
theorem dX2_prepare_40 : decode cX2_prepare 40 = .ok (.iastore, 1) := dc_at daX2_prepare_0 22 rfl
theorem dX2_prepare_41 : decode cX2_prepare 41 = .ok (.iinc 4 1, 3) := dc_at daX2_prepare_0 23 rfl
def dlX2_prepare_1 : List (Nat × Jvm.ClassFile.Instr × Nat) := [(44, .goto (-31), 3), (47, .aload_n 0, 1), (48, .aload_n 0, 1), (49, .getfield 26, 3), (52, .iconst 0, 1), (53, .invokevirtual 60, 3), (56, .iconst 0, 1), (57, .istore 4, 2), (59, .iload 4, 2), (61, .aload_n 1, 1), (62, .getfield 50, 3), (65, .if_icmp .ge 22, 3), (68, .aload_n 0, 1), (69, .getfield 29, 3), (72, .iload 4, 2), (74, .aload_n 0, 1), (75, .iload 4, 2), (77, .invokevirtual 64, 3), (80, .iastore, 1), (81, .iinc 4 1, 3), (84, .goto (-25), 3), (87, .return_, 1)]
theorem daX2_prepare_1 : dlX2_prepare_1.all (dcK cX2_prepare) = true := by decide +kernel
theorem dX2_prepare_44 : decode cX2_prepare 44 = .ok (.goto (-31), 3) := dc_at daX2_prepare_1 0 rfl
theorem dX2_prepare_47 : decode cX2_prepare 47 = .ok (.aload_n 0, 1) := dc_at daX2_prepare_1 1 rfl
theorem dX2_prepare_48 : decode cX2_prepare 48 = .ok (.aload_n 0, 1) := dc_at daX2_prepare_1 2 rfl
theorem dX2_prepare_49 : decode cX2_prepare 49 = .ok (.getfield 26, 3) := dc_at daX2_prepare_1 3 rfl
theorem dX2_prepare_52 : decode cX2_prepare 52 = .ok (.iconst 0, 1) := dc_at daX2_prepare_1 4 rfl
theorem dX2_prepare_53 : decode cX2_prepare 53 = .ok (.invokevirtual 60, 3) := dc_at daX2_prepare_1 5 rfl
theorem dX2_prepare_56 : decode cX2_prepare 56 = .ok (.iconst 0, 1) := dc_at daX2_prepare_1 6 rfl
theorem dX2_prepare_57 : decode cX2_prepare 57 = .ok (.istore 4, 2) := dc_at daX2_prepare_1 7 rfl
theorem dX2_prepare_59 : decode cX2_prepare 59 = .ok (.iload 4, 2) := dc_at daX2_prepare_1 8 rfl
theorem dX2_prepare_61 : decode cX2_prepare 61 = .ok (.aload_n 1, 1) := dc_at daX2_prepare_1 9 rfl
theorem dX2_prepare_62 : decode cX2_prepare 62 = .ok (.getfield 50, 3) := dc_at daX2_prepare_1 10 rfl
theorem dX2_prepare_65 : decode cX2_prepare 65 = .ok (.if_icmp .ge 22, 3) := dc_at daX2_prepare_1 11 rfl
theorem dX2_prepare_68 : decode cX2_prepare 68 = .ok (.aload_n 0, 1) := dc_at daX2_prepare_1 12 rfl
theorem dX2_prepare_69 : decode cX2_prepare 69 = .ok (.getfield 29, 3) := dc_at daX2_prepare_1 13 rfl
theorem dX2_prepare_72 : decode cX2_prepare 72 = .ok (.iload 4, 2) := dc_at daX2_prepare_1 14 rfl
theorem dX2_prepare_74 : decode cX2_prepare 74 = .ok (.aload_n 0, 1) := dc_at daX2_prepare_1 15 rfl
theorem dX2_prepare_75 : decode cX2_prepare 75 = .ok (.iload 4, 2) := dc_at daX2_prepare_1 16 rfl
theorem dX2_prepare_77 : decode cX2_prepare 77 = .ok (.invokevirtual 64, 3) := dc_at daX2_prepare_1 17 rfl
theorem dX2_prepare_80 : decode cX2_prepare 80 = .ok (.iastore, 1) := dc_at daX2_prepare_1 18 rfl
theorem dX2_prepare_81 : decode cX2_prepare 81 = .ok (.iinc 4 1, 3) := dc_at daX2_prepare_1 19 rfl
theorem dX2_prepare_84 : decode cX2_prepare 84 = .ok (.goto (-25), 3) := dc_at daX2_prepare_1 20 rfl
theorem dX2_prepare_87 : decode cX2_prepare 87 = .ok (.return_, 1) := dc_at daX2_prepare_1 21 rfl
def dlX2_firstWorth_0 : List (Nat × Jvm.ClassFile.Instr × Nat) := [(0, .iconst 0, 1), (1, .istore_n 2, 1), (2, .iconst 0, 1), (3, .istore_n 3, 1), (4, .iload_n 3, 1), (5, .aload_n 0, 1), (6, .getfield 12, 3), (9, .getfield 50, 3), (12, .if_icmp .ge 42, 3), (15, .iload_n 2, 1), (16, .aload_n 0, 1), (17, .getfield 22, 3), (20, .iload_n 3, 1), (21, .iaload, 1), (22, .aload_n 0, 1), (23, .getfield 26, 3), (26, .iload_n 1, 1), (27, .bipush 16, 2), (29, .imul, 1), (30, .iload_n 3, 1), (31, .iadd, 1), (32, .iaload, 1), (33, .aload_n 0, 1), (34, .getfield 12, 3)]
theorem daX2_firstWorth_0 : dlX2_firstWorth_0.all (dcK cX2_firstWorth) = true := by decide +kernel
theorem dX2_firstWorth_0 : decode cX2_firstWorth 0 = .ok (.iconst 0, 1) := dc_at daX2_firstWorth_0 0 rfl
theorem dX2_firstWorth_1 : decode cX2_firstWorth 1 = .ok (.istore_n 2, 1) := dc_at daX2_firstWorth_0 1 rfl
theorem dX2_firstWorth_2 : decode cX2_firstWorth 2 = .ok (.iconst 0, 1) := dc_at daX2_firstWorth_0 2 rfl
theorem dX2_firstWorth_3 : decode cX2_firstWorth 3 = .ok (.istore_n 3, 1) := dc_at daX2_firstWorth_0 3 rfl
theorem dX2_firstWorth_4 : decode cX2_firstWorth 4 = .ok (.iload_n 3, 1) := dc_at daX2_firstWorth_0 4 rfl
theorem dX2_firstWorth_5 : decode cX2_firstWorth 5 = .ok (.aload_n 0, 1) := dc_at daX2_firstWorth_0 5 rfl
theorem dX2_firstWorth_6 : decode cX2_firstWorth 6 = .ok (.getfield 12, 3) := dc_at daX2_firstWorth_0 6 rfl
theorem dX2_firstWorth_9 : decode cX2_firstWorth 9 = .ok (.getfield 50, 3) := dc_at daX2_firstWorth_0 7 rfl
theorem dX2_firstWorth_12 : decode cX2_firstWorth 12 = .ok (.if_icmp .ge 42, 3) := dc_at daX2_firstWorth_0 8 rfl
theorem dX2_firstWorth_15 : decode cX2_firstWorth 15 = .ok (.iload_n 2, 1) := dc_at daX2_firstWorth_0 9 rfl
theorem dX2_firstWorth_16 : decode cX2_firstWorth 16 = .ok (.aload_n 0, 1) := dc_at daX2_firstWorth_0 10 rfl
theorem dX2_firstWorth_17 : decode cX2_firstWorth 17 = .ok (.getfield 22, 3) := dc_at daX2_firstWorth_0 11 rfl
theorem dX2_firstWorth_20 : decode cX2_firstWorth 20 = .ok (.iload_n 3, 1) := dc_at daX2_firstWorth_0 12 rfl
theorem dX2_firstWorth_21 : decode cX2_firstWorth 21 = .ok (.iaload, 1) := dc_at daX2_firstWorth_0 13 rfl
theorem dX2_firstWorth_22 : decode cX2_firstWorth 22 = .ok (.aload_n 0, 1) := dc_at daX2_firstWorth_0 14 rfl
theorem dX2_firstWorth_23 : decode cX2_firstWorth 23 = .ok (.getfield 26, 3) := dc_at daX2_firstWorth_0 15 rfl
theorem dX2_firstWorth_26 : decode cX2_firstWorth 26 = .ok (.iload_n 1, 1) := dc_at daX2_firstWorth_0 16 rfl
theorem dX2_firstWorth_27 : decode cX2_firstWorth 27 = .ok (.bipush 16, 2) := dc_at daX2_firstWorth_0 17 rfl
theorem dX2_firstWorth_29 : decode cX2_firstWorth 29 = .ok (.imul, 1) := dc_at daX2_firstWorth_0 18 rfl
theorem dX2_firstWorth_30 : decode cX2_firstWorth 30 = .ok (.iload_n 3, 1) := dc_at daX2_firstWorth_0 19 rfl
theorem dX2_firstWorth_31 : decode cX2_firstWorth 31 = .ok (.iadd, 1) := dc_at daX2_firstWorth_0 20 rfl
theorem dX2_firstWorth_32 : decode cX2_firstWorth 32 = .ok (.iaload, 1) := dc_at daX2_firstWorth_0 21 rfl
theorem dX2_firstWorth_33 : decode cX2_firstWorth 33 = .ok (.aload_n 0, 1) := dc_at daX2_firstWorth_0 22 rfl
theorem dX2_firstWorth_34 : decode cX2_firstWorth 34 = .ok (.getfield 12, 3) := dc_at daX2_firstWorth_0 23 rfl
def dlX2_firstWorth_1 : List (Nat × Jvm.ClassFile.Instr × Nat) := [(37, .getfield 68, 3), (40, .iload_n 3, 1), (41, .iaload, 1), (42, .invokestatic 71, 3), (45, .imul, 1), (46, .iadd, 1), (47, .istore_n 2, 1), (48, .iinc 3 1, 3), (51, .goto (-47), 3), (54, .iload_n 2, 1), (55, .ireturn, 1)]
theorem daX2_firstWorth_1 : dlX2_firstWorth_1.all (dcK cX2_firstWorth) = true := by decide +kernel
theorem dX2_firstWorth_37 : decode cX2_firstWorth 37 = .ok (.getfield 68, 3) := dc_at daX2_firstWorth_1 0 rfl
theorem dX2_firstWorth_40 : decode cX2_firstWorth 40 = .ok (.iload_n 3, 1) := dc_at daX2_firstWorth_1 1 rfl
theorem dX2_firstWorth_41 : decode cX2_firstWorth 41 = .ok (.iaload, 1) := dc_at daX2_firstWorth_1 2 rfl
theorem dX2_firstWorth_42 : decode cX2_firstWorth 42 = .ok (.invokestatic 71, 3) := dc_at daX2_firstWorth_1 3 rfl
theorem dX2_firstWorth_45 : decode cX2_firstWorth 45 = .ok (.imul, 1) := dc_at daX2_firstWorth_1 4 rfl
theorem dX2_firstWorth_46 : decode cX2_firstWorth 46 = .ok (.iadd, 1) := dc_at daX2_firstWorth_1 5 rfl
theorem dX2_firstWorth_47 : decode cX2_firstWorth 47 = .ok (.istore_n 2, 1) := dc_at daX2_firstWorth_1 6 rfl
theorem dX2_firstWorth_48 : decode cX2_firstWorth 48 = .ok (.iinc 3 1, 3) := dc_at daX2_firstWorth_1 7 rfl
theorem dX2_firstWorth_51 : decode cX2_firstWorth 51 = .ok (.goto (-47), 3) := dc_at daX2_firstWorth_1 8 rfl
theorem dX2_firstWorth_54 : decode cX2_firstWorth 54 = .ok (.iload_n 2, 1) := dc_at daX2_firstWorth_1 9 rfl
theorem dX2_firstWorth_55 : decode cX2_firstWorth 55 = .ok (.ireturn, 1) := dc_at daX2_firstWorth_1 10 rfl
def dlX2_weightOf_0 : List (Nat × Jvm.ClassFile.Instr × Nat) := [(0, .aload_n 0, 1), (1, .getfield 18, 3), (4, .iconst 1, 1), (5, .if_icmp .ne 22, 3), (8, .iload_n 1, 1), (9, .iload_n 2, 1), (10, .if_icmp .ne 7, 3), (13, .iconst 0, 1), (14, .goto 12, 3), (17, .aload_n 0, 1), (18, .getfield 12, 3), (21, .getfield 76, 3), (24, .iload_n 1, 1), (25, .iaload, 1), (26, .ireturn, 1), (27, .aload_n 0, 1), (28, .getfield 18, 3), (31, .iconst 3, 1), (32, .if_icmp .ne 8, 3), (35, .iload_n 1, 1), (36, .iload_n 2, 1), (37, .if_icmp .ne 7, 3), (40, .iconst 1, 1), (41, .goto 4, 3)]
theorem daX2_weightOf_0 : dlX2_weightOf_0.all (dcK cX2_weightOf) = true := by decide +kernel
theorem dX2_weightOf_0 : decode cX2_weightOf 0 = .ok (.aload_n 0, 1) := dc_at daX2_weightOf_0 0 rfl
theorem dX2_weightOf_1 : decode cX2_weightOf 1 = .ok (.getfield 18, 3) := dc_at daX2_weightOf_0 1 rfl
theorem dX2_weightOf_4 : decode cX2_weightOf 4 = .ok (.iconst 1, 1) := dc_at daX2_weightOf_0 2 rfl
theorem dX2_weightOf_5 : decode cX2_weightOf 5 = .ok (.if_icmp .ne 22, 3) := dc_at daX2_weightOf_0 3 rfl
theorem dX2_weightOf_8 : decode cX2_weightOf 8 = .ok (.iload_n 1, 1) := dc_at daX2_weightOf_0 4 rfl
theorem dX2_weightOf_9 : decode cX2_weightOf 9 = .ok (.iload_n 2, 1) := dc_at daX2_weightOf_0 5 rfl
theorem dX2_weightOf_10 : decode cX2_weightOf 10 = .ok (.if_icmp .ne 7, 3) := dc_at daX2_weightOf_0 6 rfl
theorem dX2_weightOf_13 : decode cX2_weightOf 13 = .ok (.iconst 0, 1) := dc_at daX2_weightOf_0 7 rfl
theorem dX2_weightOf_14 : decode cX2_weightOf 14 = .ok (.goto 12, 3) := dc_at daX2_weightOf_0 8 rfl
theorem dX2_weightOf_17 : decode cX2_weightOf 17 = .ok (.aload_n 0, 1) := dc_at daX2_weightOf_0 9 rfl
theorem dX2_weightOf_18 : decode cX2_weightOf 18 = .ok (.getfield 12, 3) := dc_at daX2_weightOf_0 10 rfl
theorem dX2_weightOf_21 : decode cX2_weightOf 21 = .ok (.getfield 76, 3) := dc_at daX2_weightOf_0 11 rfl
theorem dX2_weightOf_24 : decode cX2_weightOf 24 = .ok (.iload_n 1, 1) := dc_at daX2_weightOf_0 12 rfl
theorem dX2_weightOf_25 : decode cX2_weightOf 25 = .ok (.iaload, 1) := dc_at daX2_weightOf_0 13 rfl
theorem dX2_weightOf_26 : decode cX2_weightOf 26 = .ok (.ireturn, 1) := dc_at daX2_weightOf_0 14 rfl
theorem dX2_weightOf_27 : decode cX2_weightOf 27 = .ok (.aload_n 0, 1) := dc_at daX2_weightOf_0 15 rfl
theorem dX2_weightOf_28 : decode cX2_weightOf 28 = .ok (.getfield 18, 3) := dc_at daX2_weightOf_0 16 rfl
theorem dX2_weightOf_31 : decode cX2_weightOf 31 = .ok (.iconst 3, 1) := dc_at daX2_weightOf_0 17 rfl
theorem dX2_weightOf_32 : decode cX2_weightOf 32 = .ok (.if_icmp .ne 8, 3) := dc_at daX2_weightOf_0 18 rfl
theorem dX2_weightOf_35 : decode cX2_weightOf 35 = .ok (.iload_n 1, 1) := dc_at daX2_weightOf_0 19 rfl
theorem dX2_weightOf_36 : decode cX2_weightOf 36 = .ok (.iload_n 2, 1) := dc_at daX2_weightOf_0 20 rfl
theorem dX2_weightOf_37 : decode cX2_weightOf 37 = .ok (.if_icmp .ne 7, 3) := dc_at daX2_weightOf_0 21 rfl
theorem dX2_weightOf_40 : decode cX2_weightOf 40 = .ok (.iconst 1, 1) := dc_at daX2_weightOf_0 22 rfl
theorem dX2_weightOf_41 : decode cX2_weightOf 41 = .ok (.goto 4, 3) := dc_at daX2_weightOf_0 23 rfl
def dlX2_weightOf_1 : List (Nat × Jvm.ClassFile.Instr × Nat) := [(44, .iconst 0, 1), (45, .ireturn, 1)]
theorem daX2_weightOf_1 : dlX2_weightOf_1.all (dcK cX2_weightOf) = true := by decide +kernel
theorem dX2_weightOf_44 : decode cX2_weightOf 44 = .ok (.iconst 0, 1) := dc_at daX2_weightOf_1 0 rfl
theorem dX2_weightOf_45 : decode cX2_weightOf 45 = .ok (.ireturn, 1) := dc_at daX2_weightOf_1 1 rfl
def dlX2_fillCaps_0 : List (Nat × Jvm.ClassFile.Instr × Nat) := [(0, .iconst 0, 1), (1, .istore_n 3, 1), (2, .iload_n 3, 1), (3, .aload_n 0, 1), (4, .getfield 12, 3), (7, .getfield 50, 3), (10, .if_icmp .ge 72, 3), (13, .iconst 0, 1), (14, .istore 4, 2), (16, .iload 4, 2), (18, .aload_n 0, 1), (19, .getfield 12, 3), (22, .getfield 50, 3), (25, .if_icmp .ge 51, 3), (28, .iconst 0, 1), (29, .aload_n 0, 1), (30, .getfield 12, 3), (33, .getfield 79, 3), (36, .iload 4, 2), (38, .iaload, 1), (39, .iload_n 2, 1), (40, .iadd, 1), (41, .invokestatic 82, 3), (44, .istore 5, 2)]
theorem daX2_fillCaps_0 : dlX2_fillCaps_0.all (dcK cX2_fillCaps) = true := by decide +kernel
theorem dX2_fillCaps_0 : decode cX2_fillCaps 0 = .ok (.iconst 0, 1) := dc_at daX2_fillCaps_0 0 rfl
theorem dX2_fillCaps_1 : decode cX2_fillCaps 1 = .ok (.istore_n 3, 1) := dc_at daX2_fillCaps_0 1 rfl
theorem dX2_fillCaps_2 : decode cX2_fillCaps 2 = .ok (.iload_n 3, 1) := dc_at daX2_fillCaps_0 2 rfl
theorem dX2_fillCaps_3 : decode cX2_fillCaps 3 = .ok (.aload_n 0, 1) := dc_at daX2_fillCaps_0 3 rfl
theorem dX2_fillCaps_4 : decode cX2_fillCaps 4 = .ok (.getfield 12, 3) := dc_at daX2_fillCaps_0 4 rfl
theorem dX2_fillCaps_7 : decode cX2_fillCaps 7 = .ok (.getfield 50, 3) := dc_at daX2_fillCaps_0 5 rfl
theorem dX2_fillCaps_10 : decode cX2_fillCaps 10 = .ok (.if_icmp .ge 72, 3) := dc_at daX2_fillCaps_0 6 rfl
theorem dX2_fillCaps_13 : decode cX2_fillCaps 13 = .ok (.iconst 0, 1) := dc_at daX2_fillCaps_0 7 rfl
theorem dX2_fillCaps_14 : decode cX2_fillCaps 14 = .ok (.istore 4, 2) := dc_at daX2_fillCaps_0 8 rfl
theorem dX2_fillCaps_16 : decode cX2_fillCaps 16 = .ok (.iload 4, 2) := dc_at daX2_fillCaps_0 9 rfl
theorem dX2_fillCaps_18 : decode cX2_fillCaps 18 = .ok (.aload_n 0, 1) := dc_at daX2_fillCaps_0 10 rfl
theorem dX2_fillCaps_19 : decode cX2_fillCaps 19 = .ok (.getfield 12, 3) := dc_at daX2_fillCaps_0 11 rfl
theorem dX2_fillCaps_22 : decode cX2_fillCaps 22 = .ok (.getfield 50, 3) := dc_at daX2_fillCaps_0 12 rfl
theorem dX2_fillCaps_25 : decode cX2_fillCaps 25 = .ok (.if_icmp .ge 51, 3) := dc_at daX2_fillCaps_0 13 rfl
theorem dX2_fillCaps_28 : decode cX2_fillCaps 28 = .ok (.iconst 0, 1) := dc_at daX2_fillCaps_0 14 rfl
theorem dX2_fillCaps_29 : decode cX2_fillCaps 29 = .ok (.aload_n 0, 1) := dc_at daX2_fillCaps_0 15 rfl
theorem dX2_fillCaps_30 : decode cX2_fillCaps 30 = .ok (.getfield 12, 3) := dc_at daX2_fillCaps_0 16 rfl
theorem dX2_fillCaps_33 : decode cX2_fillCaps 33 = .ok (.getfield 79, 3) := dc_at daX2_fillCaps_0 17 rfl
theorem dX2_fillCaps_36 : decode cX2_fillCaps 36 = .ok (.iload 4, 2) := dc_at daX2_fillCaps_0 18 rfl
theorem dX2_fillCaps_38 : decode cX2_fillCaps 38 = .ok (.iaload, 1) := dc_at daX2_fillCaps_0 19 rfl
theorem dX2_fillCaps_39 : decode cX2_fillCaps 39 = .ok (.iload_n 2, 1) := dc_at daX2_fillCaps_0 20 rfl
theorem dX2_fillCaps_40 : decode cX2_fillCaps 40 = .ok (.iadd, 1) := dc_at daX2_fillCaps_0 21 rfl
theorem dX2_fillCaps_41 : decode cX2_fillCaps 41 = .ok (.invokestatic 82, 3) := dc_at daX2_fillCaps_0 22 rfl
theorem dX2_fillCaps_44 : decode cX2_fillCaps 44 = .ok (.istore 5, 2) := dc_at daX2_fillCaps_0 23 rfl
def dlX2_fillCaps_1 : List (Nat × Jvm.ClassFile.Instr × Nat) := [(46, .aload_n 1, 1), (47, .iload_n 3, 1), (48, .bipush 16, 2), (50, .imul, 1), (51, .iload 4, 2), (53, .iadd, 1), (54, .iload 5, 2), (56, .aload_n 0, 1), (57, .getfield 12, 3), (60, .iload_n 3, 1), (61, .iload 4, 2), (63, .invokevirtual 85, 3), (66, .invokestatic 71, 3), (69, .iastore, 1), (70, .iinc 4 1, 3), (73, .goto (-57), 3), (76, .iinc 3 1, 3), (79, .goto (-77), 3), (82, .return_, 1)]
theorem daX2_fillCaps_1 : dlX2_fillCaps_1.all (dcK cX2_fillCaps) = true := by decide +kernel
theorem dX2_fillCaps_46 : decode cX2_fillCaps 46 = .ok (.aload_n 1, 1) := dc_at daX2_fillCaps_1 0 rfl
theorem dX2_fillCaps_47 : decode cX2_fillCaps 47 = .ok (.iload_n 3, 1) := dc_at daX2_fillCaps_1 1 rfl
theorem dX2_fillCaps_48 : decode cX2_fillCaps 48 = .ok (.bipush 16, 2) := dc_at daX2_fillCaps_1 2 rfl
theorem dX2_fillCaps_50 : decode cX2_fillCaps 50 = .ok (.imul, 1) := dc_at daX2_fillCaps_1 3 rfl
theorem dX2_fillCaps_51 : decode cX2_fillCaps 51 = .ok (.iload 4, 2) := dc_at daX2_fillCaps_1 4 rfl
theorem dX2_fillCaps_53 : decode cX2_fillCaps 53 = .ok (.iadd, 1) := dc_at daX2_fillCaps_1 5 rfl
theorem dX2_fillCaps_54 : decode cX2_fillCaps 54 = .ok (.iload 5, 2) := dc_at daX2_fillCaps_1 6 rfl
theorem dX2_fillCaps_56 : decode cX2_fillCaps 56 = .ok (.aload_n 0, 1) := dc_at daX2_fillCaps_1 7 rfl
theorem dX2_fillCaps_57 : decode cX2_fillCaps 57 = .ok (.getfield 12, 3) := dc_at daX2_fillCaps_1 8 rfl
theorem dX2_fillCaps_60 : decode cX2_fillCaps 60 = .ok (.iload_n 3, 1) := dc_at daX2_fillCaps_1 9 rfl
theorem dX2_fillCaps_61 : decode cX2_fillCaps 61 = .ok (.iload 4, 2) := dc_at daX2_fillCaps_1 10 rfl
theorem dX2_fillCaps_63 : decode cX2_fillCaps 63 = .ok (.invokevirtual 85, 3) := dc_at daX2_fillCaps_1 11 rfl
theorem dX2_fillCaps_66 : decode cX2_fillCaps 66 = .ok (.invokestatic 71, 3) := dc_at daX2_fillCaps_1 12 rfl
theorem dX2_fillCaps_69 : decode cX2_fillCaps 69 = .ok (.iastore, 1) := dc_at daX2_fillCaps_1 13 rfl
theorem dX2_fillCaps_70 : decode cX2_fillCaps 70 = .ok (.iinc 4 1, 3) := dc_at daX2_fillCaps_1 14 rfl
theorem dX2_fillCaps_73 : decode cX2_fillCaps 73 = .ok (.goto (-57), 3) := dc_at daX2_fillCaps_1 15 rfl
theorem dX2_fillCaps_76 : decode cX2_fillCaps 76 = .ok (.iinc 3 1, 3) := dc_at daX2_fillCaps_1 16 rfl
theorem dX2_fillCaps_79 : decode cX2_fillCaps 79 = .ok (.goto (-77), 3) := dc_at daX2_fillCaps_1 17 rfl
theorem dX2_fillCaps_82 : decode cX2_fillCaps 82 = .ok (.return_, 1) := dc_at daX2_fillCaps_1 18 rfl
def dlX2_seekBest_0 : List (Nat × Jvm.ClassFile.Instr × Nat) := [(0, .aload_n 0, 1), (1, .iload_n 3, 1), (2, .putfield 44, 3), (5, .aload_n 1, 1), (6, .iload_n 2, 1), (7, .invokevirtual 88, 3), (10, .istore 4, 2), (12, .aload_n 1, 1), (13, .iload_n 2, 1), (14, .invokevirtual 93, 3), (17, .istore 5, 2), (19, .iload 5, 2), (21, .iload 4, 2), (23, .if_icmp .ge 94, 3), (26, .aload_n 1, 1), (27, .getfield 96, 3), (30, .iload 5, 2), (32, .baload, 1), (33, .ifCond .eq 6, 3), (36, .goto 75, 3), (39, .aload_n 0, 1), (40, .aload_n 1, 1), (41, .getfield 100, 3), (44, .iload 5, 2)]
theorem daX2_seekBest_0 : dlX2_seekBest_0.all (dcK cX2_seekBest) = true := by decide +kernel
theorem dX2_seekBest_0 : decode cX2_seekBest 0 = .ok (.aload_n 0, 1) := dc_at daX2_seekBest_0 0 rfl
theorem dX2_seekBest_1 : decode cX2_seekBest 1 = .ok (.iload_n 3, 1) := dc_at daX2_seekBest_0 1 rfl
theorem dX2_seekBest_2 : decode cX2_seekBest 2 = .ok (.putfield 44, 3) := dc_at daX2_seekBest_0 2 rfl
theorem dX2_seekBest_5 : decode cX2_seekBest 5 = .ok (.aload_n 1, 1) := dc_at daX2_seekBest_0 3 rfl
theorem dX2_seekBest_6 : decode cX2_seekBest 6 = .ok (.iload_n 2, 1) := dc_at daX2_seekBest_0 4 rfl
theorem dX2_seekBest_7 : decode cX2_seekBest 7 = .ok (.invokevirtual 88, 3) := dc_at daX2_seekBest_0 5 rfl
theorem dX2_seekBest_10 : decode cX2_seekBest 10 = .ok (.istore 4, 2) := dc_at daX2_seekBest_0 6 rfl
theorem dX2_seekBest_12 : decode cX2_seekBest 12 = .ok (.aload_n 1, 1) := dc_at daX2_seekBest_0 7 rfl
theorem dX2_seekBest_13 : decode cX2_seekBest 13 = .ok (.iload_n 2, 1) := dc_at daX2_seekBest_0 8 rfl
theorem dX2_seekBest_14 : decode cX2_seekBest 14 = .ok (.invokevirtual 93, 3) := dc_at daX2_seekBest_0 9 rfl
theorem dX2_seekBest_17 : decode cX2_seekBest 17 = .ok (.istore 5, 2) := dc_at daX2_seekBest_0 10 rfl
theorem dX2_seekBest_19 : decode cX2_seekBest 19 = .ok (.iload 5, 2) := dc_at daX2_seekBest_0 11 rfl
theorem dX2_seekBest_21 : decode cX2_seekBest 21 = .ok (.iload 4, 2) := dc_at daX2_seekBest_0 12 rfl
theorem dX2_seekBest_23 : decode cX2_seekBest 23 = .ok (.if_icmp .ge 94, 3) := dc_at daX2_seekBest_0 13 rfl
theorem dX2_seekBest_26 : decode cX2_seekBest 26 = .ok (.aload_n 1, 1) := dc_at daX2_seekBest_0 14 rfl
theorem dX2_seekBest_27 : decode cX2_seekBest 27 = .ok (.getfield 96, 3) := dc_at daX2_seekBest_0 15 rfl
theorem dX2_seekBest_30 : decode cX2_seekBest 30 = .ok (.iload 5, 2) := dc_at daX2_seekBest_0 16 rfl
theorem dX2_seekBest_32 : decode cX2_seekBest 32 = .ok (.baload, 1) := dc_at daX2_seekBest_0 17 rfl
theorem dX2_seekBest_33 : decode cX2_seekBest 33 = .ok (.ifCond .eq 6, 3) := dc_at daX2_seekBest_0 18 rfl
theorem dX2_seekBest_36 : decode cX2_seekBest 36 = .ok (.goto 75, 3) := dc_at daX2_seekBest_0 19 rfl
theorem dX2_seekBest_39 : decode cX2_seekBest 39 = .ok (.aload_n 0, 1) := dc_at daX2_seekBest_0 20 rfl
theorem dX2_seekBest_40 : decode cX2_seekBest 40 = .ok (.aload_n 1, 1) := dc_at daX2_seekBest_0 21 rfl
theorem dX2_seekBest_41 : decode cX2_seekBest 41 = .ok (.getfield 100, 3) := dc_at daX2_seekBest_0 22 rfl
theorem dX2_seekBest_44 : decode cX2_seekBest 44 = .ok (.iload 5, 2) := dc_at daX2_seekBest_0 23 rfl
def dlX2_seekBest_1 : List (Nat × Jvm.ClassFile.Instr × Nat) := [(46, .laload, 1), (47, .invokevirtual 104, 3), (50, .aload_n 0, 1), (51, .getfield 18, 3), (54, .iconst 2, 1), (55, .if_icmp .eq 14, 3), (58, .aload_n 0, 1), (59, .invokevirtual 108, 3), (62, .aload_n 0, 1), (63, .getfield 44, 3), (66, .if_icmp .le 45, 3), (69, .aload_n 0, 1), (70, .getfield 18, 3), (73, .iconst 2, 1), (74, .if_icmp .ne 10, 3), (77, .aload_n 0, 1), (78, .invokevirtual 112, 3), (81, .goto 7, 3), (84, .aload_n 0, 1), (85, .invokevirtual 115, 3), (88, .istore 6, 2), (90, .iload 6, 2), (92, .aload_n 0, 1), (93, .getfield 44, 3)]
theorem daX2_seekBest_1 : dlX2_seekBest_1.all (dcK cX2_seekBest) = true := by decide +kernel
theorem dX2_seekBest_46 : decode cX2_seekBest 46 = .ok (.laload, 1) := dc_at daX2_seekBest_1 0 rfl
theorem dX2_seekBest_47 : decode cX2_seekBest 47 = .ok (.invokevirtual 104, 3) := dc_at daX2_seekBest_1 1 rfl
theorem dX2_seekBest_50 : decode cX2_seekBest 50 = .ok (.aload_n 0, 1) := dc_at daX2_seekBest_1 2 rfl
theorem dX2_seekBest_51 : decode cX2_seekBest 51 = .ok (.getfield 18, 3) := dc_at daX2_seekBest_1 3 rfl
theorem dX2_seekBest_54 : decode cX2_seekBest 54 = .ok (.iconst 2, 1) := dc_at daX2_seekBest_1 4 rfl
theorem dX2_seekBest_55 : decode cX2_seekBest 55 = .ok (.if_icmp .eq 14, 3) := dc_at daX2_seekBest_1 5 rfl
theorem dX2_seekBest_58 : decode cX2_seekBest 58 = .ok (.aload_n 0, 1) := dc_at daX2_seekBest_1 6 rfl
theorem dX2_seekBest_59 : decode cX2_seekBest 59 = .ok (.invokevirtual 108, 3) := dc_at daX2_seekBest_1 7 rfl
theorem dX2_seekBest_62 : decode cX2_seekBest 62 = .ok (.aload_n 0, 1) := dc_at daX2_seekBest_1 8 rfl
theorem dX2_seekBest_63 : decode cX2_seekBest 63 = .ok (.getfield 44, 3) := dc_at daX2_seekBest_1 9 rfl
theorem dX2_seekBest_66 : decode cX2_seekBest 66 = .ok (.if_icmp .le 45, 3) := dc_at daX2_seekBest_1 10 rfl
theorem dX2_seekBest_69 : decode cX2_seekBest 69 = .ok (.aload_n 0, 1) := dc_at daX2_seekBest_1 11 rfl
theorem dX2_seekBest_70 : decode cX2_seekBest 70 = .ok (.getfield 18, 3) := dc_at daX2_seekBest_1 12 rfl
theorem dX2_seekBest_73 : decode cX2_seekBest 73 = .ok (.iconst 2, 1) := dc_at daX2_seekBest_1 13 rfl
theorem dX2_seekBest_74 : decode cX2_seekBest 74 = .ok (.if_icmp .ne 10, 3) := dc_at daX2_seekBest_1 14 rfl
theorem dX2_seekBest_77 : decode cX2_seekBest 77 = .ok (.aload_n 0, 1) := dc_at daX2_seekBest_1 15 rfl
theorem dX2_seekBest_78 : decode cX2_seekBest 78 = .ok (.invokevirtual 112, 3) := dc_at daX2_seekBest_1 16 rfl
theorem dX2_seekBest_81 : decode cX2_seekBest 81 = .ok (.goto 7, 3) := dc_at daX2_seekBest_1 17 rfl
theorem dX2_seekBest_84 : decode cX2_seekBest 84 = .ok (.aload_n 0, 1) := dc_at daX2_seekBest_1 18 rfl
theorem dX2_seekBest_85 : decode cX2_seekBest 85 = .ok (.invokevirtual 115, 3) := dc_at daX2_seekBest_1 19 rfl
theorem dX2_seekBest_88 : decode cX2_seekBest 88 = .ok (.istore 6, 2) := dc_at daX2_seekBest_1 20 rfl
theorem dX2_seekBest_90 : decode cX2_seekBest 90 = .ok (.iload 6, 2) := dc_at daX2_seekBest_1 21 rfl
theorem dX2_seekBest_92 : decode cX2_seekBest 92 = .ok (.aload_n 0, 1) := dc_at daX2_seekBest_1 22 rfl
theorem dX2_seekBest_93 : decode cX2_seekBest 93 = .ok (.getfield 44, 3) := dc_at daX2_seekBest_1 23 rfl
def dlX2_seekBest_2 : List (Nat × Jvm.ClassFile.Instr × Nat) := [(96, .if_icmp .le 15, 3), (99, .aload_n 0, 1), (100, .iload 6, 2), (102, .putfield 44, 3), (105, .aload_n 0, 1), (106, .iload 5, 2), (108, .putfield 47, 3), (111, .iinc 5 1, 3), (114, .goto (-95), 3), (117, .return_, 1)]
theorem daX2_seekBest_2 : dlX2_seekBest_2.all (dcK cX2_seekBest) = true := by decide +kernel
theorem dX2_seekBest_96 : decode cX2_seekBest 96 = .ok (.if_icmp .le 15, 3) := dc_at daX2_seekBest_2 0 rfl
theorem dX2_seekBest_99 : decode cX2_seekBest 99 = .ok (.aload_n 0, 1) := dc_at daX2_seekBest_2 1 rfl
theorem dX2_seekBest_100 : decode cX2_seekBest 100 = .ok (.iload 6, 2) := dc_at daX2_seekBest_2 2 rfl
theorem dX2_seekBest_102 : decode cX2_seekBest 102 = .ok (.putfield 44, 3) := dc_at daX2_seekBest_2 3 rfl
theorem dX2_seekBest_105 : decode cX2_seekBest 105 = .ok (.aload_n 0, 1) := dc_at daX2_seekBest_2 4 rfl
theorem dX2_seekBest_106 : decode cX2_seekBest 106 = .ok (.iload 5, 2) := dc_at daX2_seekBest_2 5 rfl
theorem dX2_seekBest_108 : decode cX2_seekBest 108 = .ok (.putfield 47, 3) := dc_at daX2_seekBest_2 6 rfl
theorem dX2_seekBest_111 : decode cX2_seekBest 111 = .ok (.iinc 5 1, 3) := dc_at daX2_seekBest_2 7 rfl
theorem dX2_seekBest_114 : decode cX2_seekBest 114 = .ok (.goto (-95), 3) := dc_at daX2_seekBest_2 8 rfl
theorem dX2_seekBest_117 : decode cX2_seekBest 117 = .ok (.return_, 1) := dc_at daX2_seekBest_2 9 rfl
def dlX2_couldBeWorth_0 : List (Nat × Jvm.ClassFile.Instr × Nat) := [(0, .iconst 0, 1), (1, .istore_n 1, 1), (2, .iconst 0, 1), (3, .istore_n 2, 1), (4, .iload_n 2, 1), (5, .aload_n 0, 1), (6, .getfield 41, 3), (9, .if_icmp .ge 30, 3), (12, .iload_n 1, 1), (13, .aload_n 0, 1), (14, .getfield 38, 3), (17, .iload_n 2, 1), (18, .iaload, 1), (19, .aload_n 0, 1), (20, .getfield 29, 3), (23, .aload_n 0, 1), (24, .getfield 35, 3), (27, .iload_n 2, 1), (28, .iaload, 1), (29, .iaload, 1), (30, .imul, 1), (31, .iadd, 1), (32, .istore_n 1, 1), (33, .iinc 2 1, 3)]
theorem daX2_couldBeWorth_0 : dlX2_couldBeWorth_0.all (dcK cX2_couldBeWorth) = true := by decide +kernel
theorem dX2_couldBeWorth_0 : decode cX2_couldBeWorth 0 = .ok (.iconst 0, 1) := dc_at daX2_couldBeWorth_0 0 rfl
theorem dX2_couldBeWorth_1 : decode cX2_couldBeWorth 1 = .ok (.istore_n 1, 1) := dc_at daX2_couldBeWorth_0 1 rfl
theorem dX2_couldBeWorth_2 : decode cX2_couldBeWorth 2 = .ok (.iconst 0, 1) := dc_at daX2_couldBeWorth_0 2 rfl
theorem dX2_couldBeWorth_3 : decode cX2_couldBeWorth 3 = .ok (.istore_n 2, 1) := dc_at daX2_couldBeWorth_0 3 rfl
theorem dX2_couldBeWorth_4 : decode cX2_couldBeWorth 4 = .ok (.iload_n 2, 1) := dc_at daX2_couldBeWorth_0 4 rfl
theorem dX2_couldBeWorth_5 : decode cX2_couldBeWorth 5 = .ok (.aload_n 0, 1) := dc_at daX2_couldBeWorth_0 5 rfl
theorem dX2_couldBeWorth_6 : decode cX2_couldBeWorth 6 = .ok (.getfield 41, 3) := dc_at daX2_couldBeWorth_0 6 rfl
theorem dX2_couldBeWorth_9 : decode cX2_couldBeWorth 9 = .ok (.if_icmp .ge 30, 3) := dc_at daX2_couldBeWorth_0 7 rfl
theorem dX2_couldBeWorth_12 : decode cX2_couldBeWorth 12 = .ok (.iload_n 1, 1) := dc_at daX2_couldBeWorth_0 8 rfl
theorem dX2_couldBeWorth_13 : decode cX2_couldBeWorth 13 = .ok (.aload_n 0, 1) := dc_at daX2_couldBeWorth_0 9 rfl
theorem dX2_couldBeWorth_14 : decode cX2_couldBeWorth 14 = .ok (.getfield 38, 3) := dc_at daX2_couldBeWorth_0 10 rfl
theorem dX2_couldBeWorth_17 : decode cX2_couldBeWorth 17 = .ok (.iload_n 2, 1) := dc_at daX2_couldBeWorth_0 11 rfl
theorem dX2_couldBeWorth_18 : decode cX2_couldBeWorth 18 = .ok (.iaload, 1) := dc_at daX2_couldBeWorth_0 12 rfl
theorem dX2_couldBeWorth_19 : decode cX2_couldBeWorth 19 = .ok (.aload_n 0, 1) := dc_at daX2_couldBeWorth_0 13 rfl
theorem dX2_couldBeWorth_20 : decode cX2_couldBeWorth 20 = .ok (.getfield 29, 3) := dc_at daX2_couldBeWorth_0 14 rfl
theorem dX2_couldBeWorth_23 : decode cX2_couldBeWorth 23 = .ok (.aload_n 0, 1) := dc_at daX2_couldBeWorth_0 15 rfl
theorem dX2_couldBeWorth_24 : decode cX2_couldBeWorth 24 = .ok (.getfield 35, 3) := dc_at daX2_couldBeWorth_0 16 rfl
theorem dX2_couldBeWorth_27 : decode cX2_couldBeWorth 27 = .ok (.iload_n 2, 1) := dc_at daX2_couldBeWorth_0 17 rfl
theorem dX2_couldBeWorth_28 : decode cX2_couldBeWorth 28 = .ok (.iaload, 1) := dc_at daX2_couldBeWorth_0 18 rfl
theorem dX2_couldBeWorth_29 : decode cX2_couldBeWorth 29 = .ok (.iaload, 1) := dc_at daX2_couldBeWorth_0 19 rfl
theorem dX2_couldBeWorth_30 : decode cX2_couldBeWorth 30 = .ok (.imul, 1) := dc_at daX2_couldBeWorth_0 20 rfl
theorem dX2_couldBeWorth_31 : decode cX2_couldBeWorth 31 = .ok (.iadd, 1) := dc_at daX2_couldBeWorth_0 21 rfl
theorem dX2_couldBeWorth_32 : decode cX2_couldBeWorth 32 = .ok (.istore_n 1, 1) := dc_at daX2_couldBeWorth_0 22 rfl
theorem dX2_couldBeWorth_33 : decode cX2_couldBeWorth 33 = .ok (.iinc 2 1, 3) := dc_at daX2_couldBeWorth_0 23 rfl
def dlX2_couldBeWorth_1 : List (Nat × Jvm.ClassFile.Instr × Nat) := [(36, .goto (-32), 3), (39, .iload_n 1, 1), (40, .ireturn, 1)]
theorem daX2_couldBeWorth_1 : dlX2_couldBeWorth_1.all (dcK cX2_couldBeWorth) = true := by decide +kernel
theorem dX2_couldBeWorth_36 : decode cX2_couldBeWorth 36 = .ok (.goto (-32), 3) := dc_at daX2_couldBeWorth_1 0 rfl
theorem dX2_couldBeWorth_39 : decode cX2_couldBeWorth 39 = .ok (.iload_n 1, 1) := dc_at daX2_couldBeWorth_1 1 rfl
theorem dX2_couldBeWorth_40 : decode cX2_couldBeWorth 40 = .ok (.ireturn, 1) := dc_at daX2_couldBeWorth_1 2 rfl
def dlX2_open_0 : List (Nat × Jvm.ClassFile.Instr × Nat) := [(0, .aload_n 0, 1), (1, .iconst 0, 1), (2, .putfield 41, 3), (5, .lload_n 1, 1), (6, .lstore_n 3, 1), (7, .iconst 0, 1), (8, .istore 5, 2), (10, .iload 5, 2), (12, .bipush 16, 2), (14, .if_icmp .ge 73, 3), (17, .lload_n 3, 1), (18, .lconst 0, 1), (19, .lcmp, 1), (20, .ifCond .eq 67, 3), (23, .aload_n 0, 1), (24, .getfield 41, 3), (27, .bipush 8, 2), (29, .if_icmp .ge 58, 3), (32, .lload_n 3, 1), (33, .ldc2_w 118, 3), (36, .land, 1), (37, .l2i, 1), (38, .istore 6, 2), (40, .iload 6, 2)]
theorem daX2_open_0 : dlX2_open_0.all (dcK cX2_open) = true := by decide +kernel
theorem dX2_open_0 : decode cX2_open 0 = .ok (.aload_n 0, 1) := dc_at daX2_open_0 0 rfl
theorem dX2_open_1 : decode cX2_open 1 = .ok (.iconst 0, 1) := dc_at daX2_open_0 1 rfl
theorem dX2_open_2 : decode cX2_open 2 = .ok (.putfield 41, 3) := dc_at daX2_open_0 2 rfl
theorem dX2_open_5 : decode cX2_open 5 = .ok (.lload_n 1, 1) := dc_at daX2_open_0 3 rfl
theorem dX2_open_6 : decode cX2_open 6 = .ok (.lstore_n 3, 1) := dc_at daX2_open_0 4 rfl
theorem dX2_open_7 : decode cX2_open 7 = .ok (.iconst 0, 1) := dc_at daX2_open_0 5 rfl
theorem dX2_open_8 : decode cX2_open 8 = .ok (.istore 5, 2) := dc_at daX2_open_0 6 rfl
theorem dX2_open_10 : decode cX2_open 10 = .ok (.iload 5, 2) := dc_at daX2_open_0 7 rfl
theorem dX2_open_12 : decode cX2_open 12 = .ok (.bipush 16, 2) := dc_at daX2_open_0 8 rfl
theorem dX2_open_14 : decode cX2_open 14 = .ok (.if_icmp .ge 73, 3) := dc_at daX2_open_0 9 rfl
theorem dX2_open_17 : decode cX2_open 17 = .ok (.lload_n 3, 1) := dc_at daX2_open_0 10 rfl
theorem dX2_open_18 : decode cX2_open 18 = .ok (.lconst 0, 1) := dc_at daX2_open_0 11 rfl
theorem dX2_open_19 : decode cX2_open 19 = .ok (.lcmp, 1) := dc_at daX2_open_0 12 rfl
theorem dX2_open_20 : decode cX2_open 20 = .ok (.ifCond .eq 67, 3) := dc_at daX2_open_0 13 rfl
theorem dX2_open_23 : decode cX2_open 23 = .ok (.aload_n 0, 1) := dc_at daX2_open_0 14 rfl
theorem dX2_open_24 : decode cX2_open 24 = .ok (.getfield 41, 3) := dc_at daX2_open_0 15 rfl
theorem dX2_open_27 : decode cX2_open 27 = .ok (.bipush 8, 2) := dc_at daX2_open_0 16 rfl
theorem dX2_open_29 : decode cX2_open 29 = .ok (.if_icmp .ge 58, 3) := dc_at daX2_open_0 17 rfl
theorem dX2_open_32 : decode cX2_open 32 = .ok (.lload_n 3, 1) := dc_at daX2_open_0 18 rfl
theorem dX2_open_33 : decode cX2_open 33 = .ok (.ldc2_w 118, 3) := dc_at daX2_open_0 19 rfl
theorem dX2_open_36 : decode cX2_open 36 = .ok (.land, 1) := dc_at daX2_open_0 20 rfl
theorem dX2_open_37 : decode cX2_open 37 = .ok (.l2i, 1) := dc_at daX2_open_0 21 rfl
theorem dX2_open_38 : decode cX2_open 38 = .ok (.istore 6, 2) := dc_at daX2_open_0 22 rfl
theorem dX2_open_40 : decode cX2_open 40 = .ok (.iload 6, 2) := dc_at daX2_open_0 23 rfl
def dlX2_open_1 : List (Nat × Jvm.ClassFile.Instr × Nat) := [(42, .ifCond .eq 35, 3), (45, .aload_n 0, 1), (46, .getfield 35, 3), (49, .aload_n 0, 1), (50, .getfield 41, 3), (53, .iload 5, 2), (55, .iastore, 1), (56, .aload_n 0, 1), (57, .getfield 38, 3), (60, .aload_n 0, 1), (61, .getfield 41, 3), (64, .iload 6, 2), (66, .iastore, 1), (67, .aload_n 0, 1), (68, .dup, 1), (69, .getfield 41, 3), (72, .iconst 1, 1), (73, .iadd, 1), (74, .putfield 41, 3), (77, .lload_n 3, 1), (78, .iconst 4, 1), (79, .lushr, 1), (80, .lstore_n 3, 1), (81, .iinc 5 1, 3)]
theorem daX2_open_1 : dlX2_open_1.all (dcK cX2_open) = true := by decide +kernel
theorem dX2_open_42 : decode cX2_open 42 = .ok (.ifCond .eq 35, 3) := dc_at daX2_open_1 0 rfl
theorem dX2_open_45 : decode cX2_open 45 = .ok (.aload_n 0, 1) := dc_at daX2_open_1 1 rfl
theorem dX2_open_46 : decode cX2_open 46 = .ok (.getfield 35, 3) := dc_at daX2_open_1 2 rfl
theorem dX2_open_49 : decode cX2_open 49 = .ok (.aload_n 0, 1) := dc_at daX2_open_1 3 rfl
theorem dX2_open_50 : decode cX2_open 50 = .ok (.getfield 41, 3) := dc_at daX2_open_1 4 rfl
theorem dX2_open_53 : decode cX2_open 53 = .ok (.iload 5, 2) := dc_at daX2_open_1 5 rfl
theorem dX2_open_55 : decode cX2_open 55 = .ok (.iastore, 1) := dc_at daX2_open_1 6 rfl
theorem dX2_open_56 : decode cX2_open 56 = .ok (.aload_n 0, 1) := dc_at daX2_open_1 7 rfl
theorem dX2_open_57 : decode cX2_open 57 = .ok (.getfield 38, 3) := dc_at daX2_open_1 8 rfl
theorem dX2_open_60 : decode cX2_open 60 = .ok (.aload_n 0, 1) := dc_at daX2_open_1 9 rfl
theorem dX2_open_61 : decode cX2_open 61 = .ok (.getfield 41, 3) := dc_at daX2_open_1 10 rfl
theorem dX2_open_64 : decode cX2_open 64 = .ok (.iload 6, 2) := dc_at daX2_open_1 11 rfl
theorem dX2_open_66 : decode cX2_open 66 = .ok (.iastore, 1) := dc_at daX2_open_1 12 rfl
theorem dX2_open_67 : decode cX2_open 67 = .ok (.aload_n 0, 1) := dc_at daX2_open_1 13 rfl
theorem dX2_open_68 : decode cX2_open 68 = .ok (.dup, 1) := dc_at daX2_open_1 14 rfl
theorem dX2_open_69 : decode cX2_open 69 = .ok (.getfield 41, 3) := dc_at daX2_open_1 15 rfl
theorem dX2_open_72 : decode cX2_open 72 = .ok (.iconst 1, 1) := dc_at daX2_open_1 16 rfl
theorem dX2_open_73 : decode cX2_open 73 = .ok (.iadd, 1) := dc_at daX2_open_1 17 rfl
theorem dX2_open_74 : decode cX2_open 74 = .ok (.putfield 41, 3) := dc_at daX2_open_1 18 rfl
theorem dX2_open_77 : decode cX2_open 77 = .ok (.lload_n 3, 1) := dc_at daX2_open_1 19 rfl
theorem dX2_open_78 : decode cX2_open 78 = .ok (.iconst 4, 1) := dc_at daX2_open_1 20 rfl
theorem dX2_open_79 : decode cX2_open 79 = .ok (.lushr, 1) := dc_at daX2_open_1 21 rfl
theorem dX2_open_80 : decode cX2_open 80 = .ok (.lstore_n 3, 1) := dc_at daX2_open_1 22 rfl
theorem dX2_open_81 : decode cX2_open 81 = .ok (.iinc 5 1, 3) := dc_at daX2_open_1 23 rfl
def dlX2_open_2 : List (Nat × Jvm.ClassFile.Instr × Nat) := [(84, .goto (-74), 3), (87, .return_, 1)]
theorem daX2_open_2 : dlX2_open_2.all (dcK cX2_open) = true := by decide +kernel
theorem dX2_open_84 : decode cX2_open 84 = .ok (.goto (-74), 3) := dc_at daX2_open_2 0 rfl
theorem dX2_open_87 : decode cX2_open 87 = .ok (.return_, 1) := dc_at daX2_open_2 1 rfl
def dlX2_cutOf_0 : List (Nat × Jvm.ClassFile.Instr × Nat) := [(0, .iconst 0, 1), (1, .istore_n 3, 1), (2, .iconst 0, 1), (3, .istore 4, 2), (5, .iload 4, 2), (7, .aload_n 0, 1), (8, .getfield 41, 3), (11, .if_icmp .ge 34, 3), (14, .iload_n 3, 1), (15, .aload_n 0, 1), (16, .getfield 38, 3), (19, .iload 4, 2), (21, .iaload, 1), (22, .aload_n 1, 1), (23, .aload_n 0, 1), (24, .getfield 35, 3), (27, .iload 4, 2), (29, .iaload, 1), (30, .bipush 16, 2), (32, .imul, 1), (33, .iload_n 2, 1), (34, .iadd, 1), (35, .iaload, 1), (36, .imul, 1)]
theorem daX2_cutOf_0 : dlX2_cutOf_0.all (dcK cX2_cutOf) = true := by decide +kernel
theorem dX2_cutOf_0 : decode cX2_cutOf 0 = .ok (.iconst 0, 1) := dc_at daX2_cutOf_0 0 rfl
theorem dX2_cutOf_1 : decode cX2_cutOf 1 = .ok (.istore_n 3, 1) := dc_at daX2_cutOf_0 1 rfl
theorem dX2_cutOf_2 : decode cX2_cutOf 2 = .ok (.iconst 0, 1) := dc_at daX2_cutOf_0 2 rfl
theorem dX2_cutOf_3 : decode cX2_cutOf 3 = .ok (.istore 4, 2) := dc_at daX2_cutOf_0 3 rfl
theorem dX2_cutOf_5 : decode cX2_cutOf 5 = .ok (.iload 4, 2) := dc_at daX2_cutOf_0 4 rfl
theorem dX2_cutOf_7 : decode cX2_cutOf 7 = .ok (.aload_n 0, 1) := dc_at daX2_cutOf_0 5 rfl
theorem dX2_cutOf_8 : decode cX2_cutOf 8 = .ok (.getfield 41, 3) := dc_at daX2_cutOf_0 6 rfl
theorem dX2_cutOf_11 : decode cX2_cutOf 11 = .ok (.if_icmp .ge 34, 3) := dc_at daX2_cutOf_0 7 rfl
theorem dX2_cutOf_14 : decode cX2_cutOf 14 = .ok (.iload_n 3, 1) := dc_at daX2_cutOf_0 8 rfl
theorem dX2_cutOf_15 : decode cX2_cutOf 15 = .ok (.aload_n 0, 1) := dc_at daX2_cutOf_0 9 rfl
theorem dX2_cutOf_16 : decode cX2_cutOf 16 = .ok (.getfield 38, 3) := dc_at daX2_cutOf_0 10 rfl
theorem dX2_cutOf_19 : decode cX2_cutOf 19 = .ok (.iload 4, 2) := dc_at daX2_cutOf_0 11 rfl
theorem dX2_cutOf_21 : decode cX2_cutOf 21 = .ok (.iaload, 1) := dc_at daX2_cutOf_0 12 rfl
theorem dX2_cutOf_22 : decode cX2_cutOf 22 = .ok (.aload_n 1, 1) := dc_at daX2_cutOf_0 13 rfl
theorem dX2_cutOf_23 : decode cX2_cutOf 23 = .ok (.aload_n 0, 1) := dc_at daX2_cutOf_0 14 rfl
theorem dX2_cutOf_24 : decode cX2_cutOf 24 = .ok (.getfield 35, 3) := dc_at daX2_cutOf_0 15 rfl
theorem dX2_cutOf_27 : decode cX2_cutOf 27 = .ok (.iload 4, 2) := dc_at daX2_cutOf_0 16 rfl
theorem dX2_cutOf_29 : decode cX2_cutOf 29 = .ok (.iaload, 1) := dc_at daX2_cutOf_0 17 rfl
theorem dX2_cutOf_30 : decode cX2_cutOf 30 = .ok (.bipush 16, 2) := dc_at daX2_cutOf_0 18 rfl
theorem dX2_cutOf_32 : decode cX2_cutOf 32 = .ok (.imul, 1) := dc_at daX2_cutOf_0 19 rfl
theorem dX2_cutOf_33 : decode cX2_cutOf 33 = .ok (.iload_n 2, 1) := dc_at daX2_cutOf_0 20 rfl
theorem dX2_cutOf_34 : decode cX2_cutOf 34 = .ok (.iadd, 1) := dc_at daX2_cutOf_0 21 rfl
theorem dX2_cutOf_35 : decode cX2_cutOf 35 = .ok (.iaload, 1) := dc_at daX2_cutOf_0 22 rfl
theorem dX2_cutOf_36 : decode cX2_cutOf 36 = .ok (.imul, 1) := dc_at daX2_cutOf_0 23 rfl
def dlX2_cutOf_1 : List (Nat × Jvm.ClassFile.Instr × Nat) := [(37, .iadd, 1), (38, .istore_n 3, 1), (39, .iinc 4 1, 3), (42, .goto (-37), 3), (45, .iload_n 3, 1), (46, .aload_n 0, 1), (47, .getfield 12, 3), (50, .getfield 68, 3), (53, .iload_n 2, 1), (54, .iaload, 1), (55, .invokestatic 71, 3), (58, .ireturn, 1)]
theorem daX2_cutOf_1 : dlX2_cutOf_1.all (dcK cX2_cutOf) = true := by decide +kernel
theorem dX2_cutOf_37 : decode cX2_cutOf 37 = .ok (.iadd, 1) := dc_at daX2_cutOf_1 0 rfl
theorem dX2_cutOf_38 : decode cX2_cutOf 38 = .ok (.istore_n 3, 1) := dc_at daX2_cutOf_1 1 rfl
theorem dX2_cutOf_39 : decode cX2_cutOf 39 = .ok (.iinc 4 1, 3) := dc_at daX2_cutOf_1 2 rfl
theorem dX2_cutOf_42 : decode cX2_cutOf 42 = .ok (.goto (-37), 3) := dc_at daX2_cutOf_1 3 rfl
theorem dX2_cutOf_45 : decode cX2_cutOf 45 = .ok (.iload_n 3, 1) := dc_at daX2_cutOf_1 4 rfl
theorem dX2_cutOf_46 : decode cX2_cutOf 46 = .ok (.aload_n 0, 1) := dc_at daX2_cutOf_1 5 rfl
theorem dX2_cutOf_47 : decode cX2_cutOf 47 = .ok (.getfield 12, 3) := dc_at daX2_cutOf_1 6 rfl
theorem dX2_cutOf_50 : decode cX2_cutOf 50 = .ok (.getfield 68, 3) := dc_at daX2_cutOf_1 7 rfl
theorem dX2_cutOf_53 : decode cX2_cutOf 53 = .ok (.iload_n 2, 1) := dc_at daX2_cutOf_1 8 rfl
theorem dX2_cutOf_54 : decode cX2_cutOf 54 = .ok (.iaload, 1) := dc_at daX2_cutOf_1 9 rfl
theorem dX2_cutOf_55 : decode cX2_cutOf 55 = .ok (.invokestatic 71, 3) := dc_at daX2_cutOf_1 10 rfl
theorem dX2_cutOf_58 : decode cX2_cutOf 58 = .ok (.ireturn, 1) := dc_at daX2_cutOf_1 11 rfl
def dlX2_weighedScore_0 : List (Nat × Jvm.ClassFile.Instr × Nat) := [(0, .iconst 0, 1), (1, .istore_n 1, 1), (2, .iconst 0, 1), (3, .istore_n 2, 1), (4, .iload_n 2, 1), (5, .aload_n 0, 1), (6, .getfield 12, 3), (9, .getfield 50, 3), (12, .if_icmp .ge 49, 3), (15, .aload_n 0, 1), (16, .getfield 22, 3), (19, .iload_n 2, 1), (20, .iaload, 1), (21, .ifCond .eq 34, 3), (24, .aload_n 0, 1), (25, .getfield 12, 3), (28, .getfield 68, 3), (31, .iload_n 2, 1), (32, .iaload, 1), (33, .ifCond .eq 22, 3), (36, .iload_n 1, 1), (37, .aload_n 0, 1), (38, .getfield 22, 3), (41, .iload_n 2, 1)]
theorem daX2_weighedScore_0 : dlX2_weighedScore_0.all (dcK cX2_weighedScore) = true := by decide +kernel
theorem dX2_weighedScore_0 : decode cX2_weighedScore 0 = .ok (.iconst 0, 1) := dc_at daX2_weighedScore_0 0 rfl
theorem dX2_weighedScore_1 : decode cX2_weighedScore 1 = .ok (.istore_n 1, 1) := dc_at daX2_weighedScore_0 1 rfl
theorem dX2_weighedScore_2 : decode cX2_weighedScore 2 = .ok (.iconst 0, 1) := dc_at daX2_weighedScore_0 2 rfl
theorem dX2_weighedScore_3 : decode cX2_weighedScore 3 = .ok (.istore_n 2, 1) := dc_at daX2_weighedScore_0 3 rfl
theorem dX2_weighedScore_4 : decode cX2_weighedScore 4 = .ok (.iload_n 2, 1) := dc_at daX2_weighedScore_0 4 rfl
theorem dX2_weighedScore_5 : decode cX2_weighedScore 5 = .ok (.aload_n 0, 1) := dc_at daX2_weighedScore_0 5 rfl
theorem dX2_weighedScore_6 : decode cX2_weighedScore 6 = .ok (.getfield 12, 3) := dc_at daX2_weighedScore_0 6 rfl
theorem dX2_weighedScore_9 : decode cX2_weighedScore 9 = .ok (.getfield 50, 3) := dc_at daX2_weighedScore_0 7 rfl
theorem dX2_weighedScore_12 : decode cX2_weighedScore 12 = .ok (.if_icmp .ge 49, 3) := dc_at daX2_weighedScore_0 8 rfl
theorem dX2_weighedScore_15 : decode cX2_weighedScore 15 = .ok (.aload_n 0, 1) := dc_at daX2_weighedScore_0 9 rfl
theorem dX2_weighedScore_16 : decode cX2_weighedScore 16 = .ok (.getfield 22, 3) := dc_at daX2_weighedScore_0 10 rfl
theorem dX2_weighedScore_19 : decode cX2_weighedScore 19 = .ok (.iload_n 2, 1) := dc_at daX2_weighedScore_0 11 rfl
theorem dX2_weighedScore_20 : decode cX2_weighedScore 20 = .ok (.iaload, 1) := dc_at daX2_weighedScore_0 12 rfl
theorem dX2_weighedScore_21 : decode cX2_weighedScore 21 = .ok (.ifCond .eq 34, 3) := dc_at daX2_weighedScore_0 13 rfl
theorem dX2_weighedScore_24 : decode cX2_weighedScore 24 = .ok (.aload_n 0, 1) := dc_at daX2_weighedScore_0 14 rfl
theorem dX2_weighedScore_25 : decode cX2_weighedScore 25 = .ok (.getfield 12, 3) := dc_at daX2_weighedScore_0 15 rfl
theorem dX2_weighedScore_28 : decode cX2_weighedScore 28 = .ok (.getfield 68, 3) := dc_at daX2_weighedScore_0 16 rfl
theorem dX2_weighedScore_31 : decode cX2_weighedScore 31 = .ok (.iload_n 2, 1) := dc_at daX2_weighedScore_0 17 rfl
theorem dX2_weighedScore_32 : decode cX2_weighedScore 32 = .ok (.iaload, 1) := dc_at daX2_weighedScore_0 18 rfl
theorem dX2_weighedScore_33 : decode cX2_weighedScore 33 = .ok (.ifCond .eq 22, 3) := dc_at daX2_weighedScore_0 19 rfl
theorem dX2_weighedScore_36 : decode cX2_weighedScore 36 = .ok (.iload_n 1, 1) := dc_at daX2_weighedScore_0 20 rfl
theorem dX2_weighedScore_37 : decode cX2_weighedScore 37 = .ok (.aload_n 0, 1) := dc_at daX2_weighedScore_0 21 rfl
theorem dX2_weighedScore_38 : decode cX2_weighedScore 38 = .ok (.getfield 22, 3) := dc_at daX2_weighedScore_0 22 rfl
theorem dX2_weighedScore_41 : decode cX2_weighedScore 41 = .ok (.iload_n 2, 1) := dc_at daX2_weighedScore_0 23 rfl
def dlX2_weighedScore_1 : List (Nat × Jvm.ClassFile.Instr × Nat) := [(42, .iaload, 1), (43, .aload_n 0, 1), (44, .aload_n 0, 1), (45, .getfield 26, 3), (48, .iload_n 2, 1), (49, .invokevirtual 120, 3), (52, .imul, 1), (53, .iadd, 1), (54, .istore_n 1, 1), (55, .iinc 2 1, 3), (58, .goto (-54), 3), (61, .iload_n 1, 1), (62, .ireturn, 1)]
theorem daX2_weighedScore_1 : dlX2_weighedScore_1.all (dcK cX2_weighedScore) = true := by decide +kernel
theorem dX2_weighedScore_42 : decode cX2_weighedScore 42 = .ok (.iaload, 1) := dc_at daX2_weighedScore_1 0 rfl
theorem dX2_weighedScore_43 : decode cX2_weighedScore 43 = .ok (.aload_n 0, 1) := dc_at daX2_weighedScore_1 1 rfl
theorem dX2_weighedScore_44 : decode cX2_weighedScore 44 = .ok (.aload_n 0, 1) := dc_at daX2_weighedScore_1 2 rfl
theorem dX2_weighedScore_45 : decode cX2_weighedScore 45 = .ok (.getfield 26, 3) := dc_at daX2_weighedScore_1 3 rfl
theorem dX2_weighedScore_48 : decode cX2_weighedScore 48 = .ok (.iload_n 2, 1) := dc_at daX2_weighedScore_1 4 rfl
theorem dX2_weighedScore_49 : decode cX2_weighedScore 49 = .ok (.invokevirtual 120, 3) := dc_at daX2_weighedScore_1 5 rfl
theorem dX2_weighedScore_52 : decode cX2_weighedScore 52 = .ok (.imul, 1) := dc_at daX2_weighedScore_1 6 rfl
theorem dX2_weighedScore_53 : decode cX2_weighedScore 53 = .ok (.iadd, 1) := dc_at daX2_weighedScore_1 7 rfl
theorem dX2_weighedScore_54 : decode cX2_weighedScore 54 = .ok (.istore_n 1, 1) := dc_at daX2_weighedScore_1 8 rfl
theorem dX2_weighedScore_55 : decode cX2_weighedScore 55 = .ok (.iinc 2 1, 3) := dc_at daX2_weighedScore_1 9 rfl
theorem dX2_weighedScore_58 : decode cX2_weighedScore 58 = .ok (.goto (-54), 3) := dc_at daX2_weighedScore_1 10 rfl
theorem dX2_weighedScore_61 : decode cX2_weighedScore 61 = .ok (.iload_n 1, 1) := dc_at daX2_weighedScore_1 11 rfl
theorem dX2_weighedScore_62 : decode cX2_weighedScore 62 = .ok (.ireturn, 1) := dc_at daX2_weighedScore_1 12 rfl
def dlX2_fairScore_0 : List (Nat × Jvm.ClassFile.Instr × Nat) := [(0, .aload_n 0, 1), (1, .getfield 32, 3), (4, .iconst 0, 1), (5, .invokestatic 124, 3), (8, .iconst 0, 1), (9, .istore_n 1, 1), (10, .iconst 0, 1), (11, .istore_n 2, 1), (12, .iload_n 2, 1), (13, .aload_n 0, 1), (14, .getfield 12, 3), (17, .getfield 50, 3), (20, .if_icmp .ge 41, 3), (23, .aload_n 0, 1), (24, .aload_n 0, 1), (25, .getfield 26, 3), (28, .iload_n 2, 1), (29, .invokevirtual 120, 3), (32, .istore_n 3, 1), (33, .aload_n 0, 1), (34, .getfield 32, 3), (37, .aload_n 0, 1), (38, .getfield 12, 3), (41, .getfield 53, 3)]
theorem daX2_fairScore_0 : dlX2_fairScore_0.all (dcK cX2_fairScore) = true := by decide +kernel
theorem dX2_fairScore_0 : decode cX2_fairScore 0 = .ok (.aload_n 0, 1) := dc_at daX2_fairScore_0 0 rfl
theorem dX2_fairScore_1 : decode cX2_fairScore 1 = .ok (.getfield 32, 3) := dc_at daX2_fairScore_0 1 rfl
theorem dX2_fairScore_4 : decode cX2_fairScore 4 = .ok (.iconst 0, 1) := dc_at daX2_fairScore_0 2 rfl
theorem dX2_fairScore_5 : decode cX2_fairScore 5 = .ok (.invokestatic 124, 3) := dc_at daX2_fairScore_0 3 rfl
theorem dX2_fairScore_8 : decode cX2_fairScore 8 = .ok (.iconst 0, 1) := dc_at daX2_fairScore_0 4 rfl
theorem dX2_fairScore_9 : decode cX2_fairScore 9 = .ok (.istore_n 1, 1) := dc_at daX2_fairScore_0 5 rfl
theorem dX2_fairScore_10 : decode cX2_fairScore 10 = .ok (.iconst 0, 1) := dc_at daX2_fairScore_0 6 rfl
theorem dX2_fairScore_11 : decode cX2_fairScore 11 = .ok (.istore_n 2, 1) := dc_at daX2_fairScore_0 7 rfl
theorem dX2_fairScore_12 : decode cX2_fairScore 12 = .ok (.iload_n 2, 1) := dc_at daX2_fairScore_0 8 rfl
theorem dX2_fairScore_13 : decode cX2_fairScore 13 = .ok (.aload_n 0, 1) := dc_at daX2_fairScore_0 9 rfl
theorem dX2_fairScore_14 : decode cX2_fairScore 14 = .ok (.getfield 12, 3) := dc_at daX2_fairScore_0 10 rfl
theorem dX2_fairScore_17 : decode cX2_fairScore 17 = .ok (.getfield 50, 3) := dc_at daX2_fairScore_0 11 rfl
theorem dX2_fairScore_20 : decode cX2_fairScore 20 = .ok (.if_icmp .ge 41, 3) := dc_at daX2_fairScore_0 12 rfl
theorem dX2_fairScore_23 : decode cX2_fairScore 23 = .ok (.aload_n 0, 1) := dc_at daX2_fairScore_0 13 rfl
theorem dX2_fairScore_24 : decode cX2_fairScore 24 = .ok (.aload_n 0, 1) := dc_at daX2_fairScore_0 14 rfl
theorem dX2_fairScore_25 : decode cX2_fairScore 25 = .ok (.getfield 26, 3) := dc_at daX2_fairScore_0 15 rfl
theorem dX2_fairScore_28 : decode cX2_fairScore 28 = .ok (.iload_n 2, 1) := dc_at daX2_fairScore_0 16 rfl
theorem dX2_fairScore_29 : decode cX2_fairScore 29 = .ok (.invokevirtual 120, 3) := dc_at daX2_fairScore_0 17 rfl
theorem dX2_fairScore_32 : decode cX2_fairScore 32 = .ok (.istore_n 3, 1) := dc_at daX2_fairScore_0 18 rfl
theorem dX2_fairScore_33 : decode cX2_fairScore 33 = .ok (.aload_n 0, 1) := dc_at daX2_fairScore_0 19 rfl
theorem dX2_fairScore_34 : decode cX2_fairScore 34 = .ok (.getfield 32, 3) := dc_at daX2_fairScore_0 20 rfl
theorem dX2_fairScore_37 : decode cX2_fairScore 37 = .ok (.aload_n 0, 1) := dc_at daX2_fairScore_0 21 rfl
theorem dX2_fairScore_38 : decode cX2_fairScore 38 = .ok (.getfield 12, 3) := dc_at daX2_fairScore_0 22 rfl
theorem dX2_fairScore_41 : decode cX2_fairScore 41 = .ok (.getfield 53, 3) := dc_at daX2_fairScore_0 23 rfl
def dlX2_fairScore_1 : List (Nat × Jvm.ClassFile.Instr × Nat) := [(44, .iload_n 2, 1), (45, .iaload, 1), (46, .dup2, 1), (47, .iaload, 1), (48, .iload_n 3, 1), (49, .iadd, 1), (50, .iastore, 1), (51, .iload_n 1, 1), (52, .iload_n 3, 1), (53, .iadd, 1), (54, .istore_n 1, 1), (55, .iinc 2 1, 3), (58, .goto (-46), 3), (61, .iload_n 1, 1), (62, .istore_n 2, 1), (63, .iconst 0, 1), (64, .istore_n 3, 1), (65, .iload_n 3, 1), (66, .aload_n 0, 1), (67, .getfield 12, 3), (70, .getfield 50, 3), (73, .if_icmp .ge 28, 3), (76, .iload_n 2, 1), (77, .aload_n 0, 1)]
theorem daX2_fairScore_1 : dlX2_fairScore_1.all (dcK cX2_fairScore) = true := by decide +kernel
theorem dX2_fairScore_44 : decode cX2_fairScore 44 = .ok (.iload_n 2, 1) := dc_at daX2_fairScore_1 0 rfl
theorem dX2_fairScore_45 : decode cX2_fairScore 45 = .ok (.iaload, 1) := dc_at daX2_fairScore_1 1 rfl
theorem dX2_fairScore_46 : decode cX2_fairScore 46 = .ok (.dup2, 1) := dc_at daX2_fairScore_1 2 rfl
theorem dX2_fairScore_47 : decode cX2_fairScore 47 = .ok (.iaload, 1) := dc_at daX2_fairScore_1 3 rfl
theorem dX2_fairScore_48 : decode cX2_fairScore 48 = .ok (.iload_n 3, 1) := dc_at daX2_fairScore_1 4 rfl
theorem dX2_fairScore_49 : decode cX2_fairScore 49 = .ok (.iadd, 1) := dc_at daX2_fairScore_1 5 rfl
theorem dX2_fairScore_50 : decode cX2_fairScore 50 = .ok (.iastore, 1) := dc_at daX2_fairScore_1 6 rfl
theorem dX2_fairScore_51 : decode cX2_fairScore 51 = .ok (.iload_n 1, 1) := dc_at daX2_fairScore_1 7 rfl
theorem dX2_fairScore_52 : decode cX2_fairScore 52 = .ok (.iload_n 3, 1) := dc_at daX2_fairScore_1 8 rfl
theorem dX2_fairScore_53 : decode cX2_fairScore 53 = .ok (.iadd, 1) := dc_at daX2_fairScore_1 9 rfl
theorem dX2_fairScore_54 : decode cX2_fairScore 54 = .ok (.istore_n 1, 1) := dc_at daX2_fairScore_1 10 rfl
theorem dX2_fairScore_55 : decode cX2_fairScore 55 = .ok (.iinc 2 1, 3) := dc_at daX2_fairScore_1 11 rfl
theorem dX2_fairScore_58 : decode cX2_fairScore 58 = .ok (.goto (-46), 3) := dc_at daX2_fairScore_1 12 rfl
theorem dX2_fairScore_61 : decode cX2_fairScore 61 = .ok (.iload_n 1, 1) := dc_at daX2_fairScore_1 13 rfl
theorem dX2_fairScore_62 : decode cX2_fairScore 62 = .ok (.istore_n 2, 1) := dc_at daX2_fairScore_1 14 rfl
theorem dX2_fairScore_63 : decode cX2_fairScore 63 = .ok (.iconst 0, 1) := dc_at daX2_fairScore_1 15 rfl
theorem dX2_fairScore_64 : decode cX2_fairScore 64 = .ok (.istore_n 3, 1) := dc_at daX2_fairScore_1 16 rfl
theorem dX2_fairScore_65 : decode cX2_fairScore 65 = .ok (.iload_n 3, 1) := dc_at daX2_fairScore_1 17 rfl
theorem dX2_fairScore_66 : decode cX2_fairScore 66 = .ok (.aload_n 0, 1) := dc_at daX2_fairScore_1 18 rfl
theorem dX2_fairScore_67 : decode cX2_fairScore 67 = .ok (.getfield 12, 3) := dc_at daX2_fairScore_1 19 rfl
theorem dX2_fairScore_70 : decode cX2_fairScore 70 = .ok (.getfield 50, 3) := dc_at daX2_fairScore_1 20 rfl
theorem dX2_fairScore_73 : decode cX2_fairScore 73 = .ok (.if_icmp .ge 28, 3) := dc_at daX2_fairScore_1 21 rfl
theorem dX2_fairScore_76 : decode cX2_fairScore 76 = .ok (.iload_n 2, 1) := dc_at daX2_fairScore_1 22 rfl
theorem dX2_fairScore_77 : decode cX2_fairScore 77 = .ok (.aload_n 0, 1) := dc_at daX2_fairScore_1 23 rfl
def dlX2_fairScore_2 : List (Nat × Jvm.ClassFile.Instr × Nat) := [(78, .getfield 32, 3), (81, .aload_n 0, 1), (82, .getfield 12, 3), (85, .getfield 53, 3), (88, .iload_n 3, 1), (89, .iaload, 1), (90, .iaload, 1), (91, .invokestatic 71, 3), (94, .istore_n 2, 1), (95, .iinc 3 1, 3), (98, .goto (-33), 3), (101, .iload_n 2, 1), (102, .sipush 2048, 3), (105, .imul, 1), (106, .iload_n 1, 1), (107, .iadd, 1), (108, .ireturn, 1)]
theorem daX2_fairScore_2 : dlX2_fairScore_2.all (dcK cX2_fairScore) = true := by decide +kernel
theorem dX2_fairScore_78 : decode cX2_fairScore 78 = .ok (.getfield 32, 3) := dc_at daX2_fairScore_2 0 rfl
theorem dX2_fairScore_81 : decode cX2_fairScore 81 = .ok (.aload_n 0, 1) := dc_at daX2_fairScore_2 1 rfl
theorem dX2_fairScore_82 : decode cX2_fairScore 82 = .ok (.getfield 12, 3) := dc_at daX2_fairScore_2 2 rfl
theorem dX2_fairScore_85 : decode cX2_fairScore 85 = .ok (.getfield 53, 3) := dc_at daX2_fairScore_2 3 rfl
theorem dX2_fairScore_88 : decode cX2_fairScore 88 = .ok (.iload_n 3, 1) := dc_at daX2_fairScore_2 4 rfl
theorem dX2_fairScore_89 : decode cX2_fairScore 89 = .ok (.iaload, 1) := dc_at daX2_fairScore_2 5 rfl
theorem dX2_fairScore_90 : decode cX2_fairScore 90 = .ok (.iaload, 1) := dc_at daX2_fairScore_2 6 rfl
theorem dX2_fairScore_91 : decode cX2_fairScore 91 = .ok (.invokestatic 71, 3) := dc_at daX2_fairScore_2 7 rfl
theorem dX2_fairScore_94 : decode cX2_fairScore 94 = .ok (.istore_n 2, 1) := dc_at daX2_fairScore_2 8 rfl
theorem dX2_fairScore_95 : decode cX2_fairScore 95 = .ok (.iinc 3 1, 3) := dc_at daX2_fairScore_2 9 rfl
theorem dX2_fairScore_98 : decode cX2_fairScore 98 = .ok (.goto (-33), 3) := dc_at daX2_fairScore_2 10 rfl
theorem dX2_fairScore_101 : decode cX2_fairScore 101 = .ok (.iload_n 2, 1) := dc_at daX2_fairScore_2 11 rfl
theorem dX2_fairScore_102 : decode cX2_fairScore 102 = .ok (.sipush 2048, 3) := dc_at daX2_fairScore_2 12 rfl
theorem dX2_fairScore_105 : decode cX2_fairScore 105 = .ok (.imul, 1) := dc_at daX2_fairScore_2 13 rfl
theorem dX2_fairScore_106 : decode cX2_fairScore 106 = .ok (.iload_n 1, 1) := dc_at daX2_fairScore_2 14 rfl
theorem dX2_fairScore_107 : decode cX2_fairScore 107 = .ok (.iadd, 1) := dc_at daX2_fairScore_2 15 rfl
theorem dX2_fairScore_108 : decode cX2_fairScore 108 = .ok (.ireturn, 1) := dc_at daX2_fairScore_2 16 rfl
def dlX2_fewestIn_0 : List (Nat × Jvm.ClassFile.Instr × Nat) := [(0, .iload_n 0, 1), (1, .sipush 2048, 3), (4, .idiv, 1), (5, .ireturn, 1)]
theorem daX2_fewestIn_0 : dlX2_fewestIn_0.all (dcK cX2_fewestIn) = true := by decide +kernel
theorem dX2_fewestIn_0 : decode cX2_fewestIn 0 = .ok (.iload_n 0, 1) := dc_at daX2_fewestIn_0 0 rfl
theorem dX2_fewestIn_1 : decode cX2_fewestIn 1 = .ok (.sipush 2048, 3) := dc_at daX2_fewestIn_0 1 rfl
theorem dX2_fewestIn_4 : decode cX2_fewestIn 4 = .ok (.idiv, 1) := dc_at daX2_fewestIn_0 2 rfl
theorem dX2_fewestIn_5 : decode cX2_fewestIn 5 = .ok (.ireturn, 1) := dc_at daX2_fewestIn_0 3 rfl
def dlX2_allIn_0 : List (Nat × Jvm.ClassFile.Instr × Nat) := [(0, .iload_n 0, 1), (1, .sipush 2048, 3), (4, .irem, 1), (5, .ireturn, 1)]
theorem daX2_allIn_0 : dlX2_allIn_0.all (dcK cX2_allIn) = true := by decide +kernel
theorem dX2_allIn_0 : decode cX2_allIn 0 = .ok (.iload_n 0, 1) := dc_at daX2_allIn_0 0 rfl
theorem dX2_allIn_1 : decode cX2_allIn 1 = .ok (.sipush 2048, 3) := dc_at daX2_allIn_0 1 rfl
theorem dX2_allIn_4 : decode cX2_allIn 4 = .ok (.irem, 1) := dc_at daX2_allIn_0 2 rfl
theorem dX2_allIn_5 : decode cX2_allIn 5 = .ok (.ireturn, 1) := dc_at daX2_allIn_0 3 rfl
def dlX2_stripsHungOver_0 : List (Nat × Jvm.ClassFile.Instr × Nat) := [(0, .iconst 0, 1), (1, .istore_n 1, 1), (2, .iconst 0, 1), (3, .istore_n 2, 1), (4, .iload_n 2, 1), (5, .aload_n 0, 1), (6, .getfield 41, 3), (9, .if_icmp .ge 20, 3), (12, .iload_n 1, 1), (13, .iconst 1, 1), (14, .aload_n 0, 1), (15, .getfield 35, 3), (18, .iload_n 2, 1), (19, .iaload, 1), (20, .ishl, 1), (21, .ior, 1), (22, .istore_n 1, 1), (23, .iinc 2 1, 3), (26, .goto (-22), 3), (29, .iload_n 1, 1), (30, .ireturn, 1)]
theorem daX2_stripsHungOver_0 : dlX2_stripsHungOver_0.all (dcK cX2_stripsHungOver) = true := by decide +kernel
theorem dX2_stripsHungOver_0 : decode cX2_stripsHungOver 0 = .ok (.iconst 0, 1) := dc_at daX2_stripsHungOver_0 0 rfl
theorem dX2_stripsHungOver_1 : decode cX2_stripsHungOver 1 = .ok (.istore_n 1, 1) := dc_at daX2_stripsHungOver_0 1 rfl
theorem dX2_stripsHungOver_2 : decode cX2_stripsHungOver 2 = .ok (.iconst 0, 1) := dc_at daX2_stripsHungOver_0 2 rfl
theorem dX2_stripsHungOver_3 : decode cX2_stripsHungOver 3 = .ok (.istore_n 2, 1) := dc_at daX2_stripsHungOver_0 3 rfl
theorem dX2_stripsHungOver_4 : decode cX2_stripsHungOver 4 = .ok (.iload_n 2, 1) := dc_at daX2_stripsHungOver_0 4 rfl
theorem dX2_stripsHungOver_5 : decode cX2_stripsHungOver 5 = .ok (.aload_n 0, 1) := dc_at daX2_stripsHungOver_0 5 rfl
theorem dX2_stripsHungOver_6 : decode cX2_stripsHungOver 6 = .ok (.getfield 41, 3) := dc_at daX2_stripsHungOver_0 6 rfl
theorem dX2_stripsHungOver_9 : decode cX2_stripsHungOver 9 = .ok (.if_icmp .ge 20, 3) := dc_at daX2_stripsHungOver_0 7 rfl
theorem dX2_stripsHungOver_12 : decode cX2_stripsHungOver 12 = .ok (.iload_n 1, 1) := dc_at daX2_stripsHungOver_0 8 rfl
theorem dX2_stripsHungOver_13 : decode cX2_stripsHungOver 13 = .ok (.iconst 1, 1) := dc_at daX2_stripsHungOver_0 9 rfl
theorem dX2_stripsHungOver_14 : decode cX2_stripsHungOver 14 = .ok (.aload_n 0, 1) := dc_at daX2_stripsHungOver_0 10 rfl
theorem dX2_stripsHungOver_15 : decode cX2_stripsHungOver 15 = .ok (.getfield 35, 3) := dc_at daX2_stripsHungOver_0 11 rfl
theorem dX2_stripsHungOver_18 : decode cX2_stripsHungOver 18 = .ok (.iload_n 2, 1) := dc_at daX2_stripsHungOver_0 12 rfl
theorem dX2_stripsHungOver_19 : decode cX2_stripsHungOver 19 = .ok (.iaload, 1) := dc_at daX2_stripsHungOver_0 13 rfl
theorem dX2_stripsHungOver_20 : decode cX2_stripsHungOver 20 = .ok (.ishl, 1) := dc_at daX2_stripsHungOver_0 14 rfl
theorem dX2_stripsHungOver_21 : decode cX2_stripsHungOver 21 = .ok (.ior, 1) := dc_at daX2_stripsHungOver_0 15 rfl
theorem dX2_stripsHungOver_22 : decode cX2_stripsHungOver 22 = .ok (.istore_n 1, 1) := dc_at daX2_stripsHungOver_0 16 rfl
theorem dX2_stripsHungOver_23 : decode cX2_stripsHungOver 23 = .ok (.iinc 2 1, 3) := dc_at daX2_stripsHungOver_0 17 rfl
theorem dX2_stripsHungOver_26 : decode cX2_stripsHungOver 26 = .ok (.goto (-22), 3) := dc_at daX2_stripsHungOver_0 18 rfl
theorem dX2_stripsHungOver_29 : decode cX2_stripsHungOver 29 = .ok (.iload_n 1, 1) := dc_at daX2_stripsHungOver_0 19 rfl
theorem dX2_stripsHungOver_30 : decode cX2_stripsHungOver 30 = .ok (.ireturn, 1) := dc_at daX2_stripsHungOver_0 20 rfl
def dlX2_bidsOf_0 : List (Nat × Jvm.ClassFile.Instr × Nat) := [(0, .aload_n 0, 1), (1, .lload_n 2, 1), (2, .invokevirtual 104, 3), (5, .iconst 0, 1), (6, .istore 4, 2), (8, .iconst 0, 1), (9, .istore 5, 2), (11, .iload 5, 2), (13, .aload_n 0, 1), (14, .getfield 12, 3), (17, .getfield 50, 3), (20, .if_icmp .ge 48, 3), (23, .aload_n 0, 1), (24, .getfield 12, 3), (27, .getfield 53, 3), (30, .iload 5, 2), (32, .iaload, 1), (33, .iload_n 1, 1), (34, .if_icmp .ne 28, 3), (37, .iload 4, 2), (39, .aload_n 0, 1), (40, .getfield 12, 3), (43, .getfield 76, 3), (46, .iload_n 1, 1)]
theorem daX2_bidsOf_0 : dlX2_bidsOf_0.all (dcK cX2_bidsOf) = true := by decide +kernel
theorem dX2_bidsOf_0 : decode cX2_bidsOf 0 = .ok (.aload_n 0, 1) := dc_at daX2_bidsOf_0 0 rfl
theorem dX2_bidsOf_1 : decode cX2_bidsOf 1 = .ok (.lload_n 2, 1) := dc_at daX2_bidsOf_0 1 rfl
theorem dX2_bidsOf_2 : decode cX2_bidsOf 2 = .ok (.invokevirtual 104, 3) := dc_at daX2_bidsOf_0 2 rfl
theorem dX2_bidsOf_5 : decode cX2_bidsOf 5 = .ok (.iconst 0, 1) := dc_at daX2_bidsOf_0 3 rfl
theorem dX2_bidsOf_6 : decode cX2_bidsOf 6 = .ok (.istore 4, 2) := dc_at daX2_bidsOf_0 4 rfl
theorem dX2_bidsOf_8 : decode cX2_bidsOf 8 = .ok (.iconst 0, 1) := dc_at daX2_bidsOf_0 5 rfl
theorem dX2_bidsOf_9 : decode cX2_bidsOf 9 = .ok (.istore 5, 2) := dc_at daX2_bidsOf_0 6 rfl
theorem dX2_bidsOf_11 : decode cX2_bidsOf 11 = .ok (.iload 5, 2) := dc_at daX2_bidsOf_0 7 rfl
theorem dX2_bidsOf_13 : decode cX2_bidsOf 13 = .ok (.aload_n 0, 1) := dc_at daX2_bidsOf_0 8 rfl
theorem dX2_bidsOf_14 : decode cX2_bidsOf 14 = .ok (.getfield 12, 3) := dc_at daX2_bidsOf_0 9 rfl
theorem dX2_bidsOf_17 : decode cX2_bidsOf 17 = .ok (.getfield 50, 3) := dc_at daX2_bidsOf_0 10 rfl
theorem dX2_bidsOf_20 : decode cX2_bidsOf 20 = .ok (.if_icmp .ge 48, 3) := dc_at daX2_bidsOf_0 11 rfl
theorem dX2_bidsOf_23 : decode cX2_bidsOf 23 = .ok (.aload_n 0, 1) := dc_at daX2_bidsOf_0 12 rfl
theorem dX2_bidsOf_24 : decode cX2_bidsOf 24 = .ok (.getfield 12, 3) := dc_at daX2_bidsOf_0 13 rfl
theorem dX2_bidsOf_27 : decode cX2_bidsOf 27 = .ok (.getfield 53, 3) := dc_at daX2_bidsOf_0 14 rfl
theorem dX2_bidsOf_30 : decode cX2_bidsOf 30 = .ok (.iload 5, 2) := dc_at daX2_bidsOf_0 15 rfl
theorem dX2_bidsOf_32 : decode cX2_bidsOf 32 = .ok (.iaload, 1) := dc_at daX2_bidsOf_0 16 rfl
theorem dX2_bidsOf_33 : decode cX2_bidsOf 33 = .ok (.iload_n 1, 1) := dc_at daX2_bidsOf_0 17 rfl
theorem dX2_bidsOf_34 : decode cX2_bidsOf 34 = .ok (.if_icmp .ne 28, 3) := dc_at daX2_bidsOf_0 18 rfl
theorem dX2_bidsOf_37 : decode cX2_bidsOf 37 = .ok (.iload 4, 2) := dc_at daX2_bidsOf_0 19 rfl
theorem dX2_bidsOf_39 : decode cX2_bidsOf 39 = .ok (.aload_n 0, 1) := dc_at daX2_bidsOf_0 20 rfl
theorem dX2_bidsOf_40 : decode cX2_bidsOf 40 = .ok (.getfield 12, 3) := dc_at daX2_bidsOf_0 21 rfl
theorem dX2_bidsOf_43 : decode cX2_bidsOf 43 = .ok (.getfield 76, 3) := dc_at daX2_bidsOf_0 22 rfl
theorem dX2_bidsOf_46 : decode cX2_bidsOf 46 = .ok (.iload_n 1, 1) := dc_at daX2_bidsOf_0 23 rfl
def dlX2_bidsOf_1 : List (Nat × Jvm.ClassFile.Instr × Nat) := [(47, .iaload, 1), (48, .aload_n 0, 1), (49, .aload_n 0, 1), (50, .getfield 26, 3), (53, .iload 5, 2), (55, .invokevirtual 120, 3), (58, .imul, 1), (59, .iadd, 1), (60, .istore 4, 2), (62, .iinc 5 1, 3), (65, .goto (-54), 3), (68, .iload 4, 2), (70, .ireturn, 1)]
theorem daX2_bidsOf_1 : dlX2_bidsOf_1.all (dcK cX2_bidsOf) = true := by decide +kernel
theorem dX2_bidsOf_47 : decode cX2_bidsOf 47 = .ok (.iaload, 1) := dc_at daX2_bidsOf_1 0 rfl
theorem dX2_bidsOf_48 : decode cX2_bidsOf 48 = .ok (.aload_n 0, 1) := dc_at daX2_bidsOf_1 1 rfl
theorem dX2_bidsOf_49 : decode cX2_bidsOf 49 = .ok (.aload_n 0, 1) := dc_at daX2_bidsOf_1 2 rfl
theorem dX2_bidsOf_50 : decode cX2_bidsOf 50 = .ok (.getfield 26, 3) := dc_at daX2_bidsOf_1 3 rfl
theorem dX2_bidsOf_53 : decode cX2_bidsOf 53 = .ok (.iload 5, 2) := dc_at daX2_bidsOf_1 4 rfl
theorem dX2_bidsOf_55 : decode cX2_bidsOf 55 = .ok (.invokevirtual 120, 3) := dc_at daX2_bidsOf_1 5 rfl
theorem dX2_bidsOf_58 : decode cX2_bidsOf 58 = .ok (.imul, 1) := dc_at daX2_bidsOf_1 6 rfl
theorem dX2_bidsOf_59 : decode cX2_bidsOf 59 = .ok (.iadd, 1) := dc_at daX2_bidsOf_1 7 rfl
theorem dX2_bidsOf_60 : decode cX2_bidsOf 60 = .ok (.istore 4, 2) := dc_at daX2_bidsOf_1 8 rfl
theorem dX2_bidsOf_62 : decode cX2_bidsOf 62 = .ok (.iinc 5 1, 3) := dc_at daX2_bidsOf_1 9 rfl
theorem dX2_bidsOf_65 : decode cX2_bidsOf 65 = .ok (.goto (-54), 3) := dc_at daX2_bidsOf_1 10 rfl
theorem dX2_bidsOf_68 : decode cX2_bidsOf 68 = .ok (.iload 4, 2) := dc_at daX2_bidsOf_1 11 rfl
theorem dX2_bidsOf_70 : decode cX2_bidsOf 70 = .ok (.ireturn, 1) := dc_at daX2_bidsOf_1 12 rfl
def dlX3_init_0 : List (Nat × Jvm.ClassFile.Instr × Nat) := [(0, .aload_n 0, 1), (1, .invokespecial 3, 3), (4, .aload_n 0, 1), (5, .bipush 16, 2), (7, .newarray .int, 2), (9, .putfield 9, 3), (12, .aload_n 0, 1), (13, .bipush 16, 2), (15, .newarray .int, 2), (17, .putfield 15, 3), (20, .aload_n 0, 1), (21, .bipush 16, 2), (23, .newarray .int, 2), (25, .putfield 18, 3), (28, .aload_n 0, 1), (29, .bipush 16, 2), (31, .newarray .int, 2), (33, .putfield 21, 3), (36, .aload_n 0, 1), (37, .bipush 16, 2), (39, .newarray .int, 2), (41, .putfield 24, 3), (44, .aload_n 0, 1), (45, .bipush 6, 2)]
theorem daX3_init_0 : dlX3_init_0.all (dcK cX3_init) = true := by decide +kernel
theorem dX3_init_0 : decode cX3_init 0 = .ok (.aload_n 0, 1) := dc_at daX3_init_0 0 rfl
theorem dX3_init_1 : decode cX3_init 1 = .ok (.invokespecial 3, 3) := dc_at daX3_init_0 1 rfl
theorem dX3_init_4 : decode cX3_init 4 = .ok (.aload_n 0, 1) := dc_at daX3_init_0 2 rfl
theorem dX3_init_5 : decode cX3_init 5 = .ok (.bipush 16, 2) := dc_at daX3_init_0 3 rfl
theorem dX3_init_7 : decode cX3_init 7 = .ok (.newarray .int, 2) := dc_at daX3_init_0 4 rfl
theorem dX3_init_9 : decode cX3_init 9 = .ok (.putfield 9, 3) := dc_at daX3_init_0 5 rfl
theorem dX3_init_12 : decode cX3_init 12 = .ok (.aload_n 0, 1) := dc_at daX3_init_0 6 rfl
theorem dX3_init_13 : decode cX3_init 13 = .ok (.bipush 16, 2) := dc_at daX3_init_0 7 rfl
theorem dX3_init_15 : decode cX3_init 15 = .ok (.newarray .int, 2) := dc_at daX3_init_0 8 rfl
theorem dX3_init_17 : decode cX3_init 17 = .ok (.putfield 15, 3) := dc_at daX3_init_0 9 rfl
theorem dX3_init_20 : decode cX3_init 20 = .ok (.aload_n 0, 1) := dc_at daX3_init_0 10 rfl
theorem dX3_init_21 : decode cX3_init 21 = .ok (.bipush 16, 2) := dc_at daX3_init_0 11 rfl
theorem dX3_init_23 : decode cX3_init 23 = .ok (.newarray .int, 2) := dc_at daX3_init_0 12 rfl
theorem dX3_init_25 : decode cX3_init 25 = .ok (.putfield 18, 3) := dc_at daX3_init_0 13 rfl
theorem dX3_init_28 : decode cX3_init 28 = .ok (.aload_n 0, 1) := dc_at daX3_init_0 14 rfl
theorem dX3_init_29 : decode cX3_init 29 = .ok (.bipush 16, 2) := dc_at daX3_init_0 15 rfl
theorem dX3_init_31 : decode cX3_init 31 = .ok (.newarray .int, 2) := dc_at daX3_init_0 16 rfl
theorem dX3_init_33 : decode cX3_init 33 = .ok (.putfield 21, 3) := dc_at daX3_init_0 17 rfl
theorem dX3_init_36 : decode cX3_init 36 = .ok (.aload_n 0, 1) := dc_at daX3_init_0 18 rfl
theorem dX3_init_37 : decode cX3_init 37 = .ok (.bipush 16, 2) := dc_at daX3_init_0 19 rfl
theorem dX3_init_39 : decode cX3_init 39 = .ok (.newarray .int, 2) := dc_at daX3_init_0 20 rfl
theorem dX3_init_41 : decode cX3_init 41 = .ok (.putfield 24, 3) := dc_at daX3_init_0 21 rfl
theorem dX3_init_44 : decode cX3_init 44 = .ok (.aload_n 0, 1) := dc_at daX3_init_0 22 rfl
theorem dX3_init_45 : decode cX3_init 45 = .ok (.bipush 6, 2) := dc_at daX3_init_0 23 rfl
def dlX3_init_1 : List (Nat × Jvm.ClassFile.Instr × Nat) := [(47, .newarray .int, 2), (49, .putfield 27, 3), (52, .aload_n 0, 1), (53, .invokevirtual 30, 3), (56, .return_, 1)]
theorem daX3_init_1 : dlX3_init_1.all (dcK cX3_init) = true := by decide +kernel
theorem dX3_init_47 : decode cX3_init 47 = .ok (.newarray .int, 2) := dc_at daX3_init_1 0 rfl
theorem dX3_init_49 : decode cX3_init 49 = .ok (.putfield 27, 3) := dc_at daX3_init_1 1 rfl
theorem dX3_init_52 : decode cX3_init 52 = .ok (.aload_n 0, 1) := dc_at daX3_init_1 2 rfl
theorem dX3_init_53 : decode cX3_init 53 = .ok (.invokevirtual 30, 3) := dc_at daX3_init_1 3 rfl
theorem dX3_init_56 : decode cX3_init 56 = .ok (.return_, 1) := dc_at daX3_init_1 4 rfl
def dlX3_empty_0 : List (Nat × Jvm.ClassFile.Instr × Nat) := [(0, .aload_n 0, 1), (1, .iconst 0, 1), (2, .putfield 33, 3), (5, .aload_n 0, 1), (6, .iconst 0, 1), (7, .putfield 37, 3), (10, .aload_n 0, 1), (11, .iconst 0, 1), (12, .putfield 40, 3), (15, .aload_n 0, 1), (16, .iconst 0, 1), (17, .putfield 43, 3), (20, .aload_n 0, 1), (21, .bipush 6, 2), (23, .putfield 46, 3), (26, .aload_n 0, 1), (27, .bipush 6, 2), (29, .putfield 49, 3), (32, .aload_n 0, 1), (33, .iconst 1, 1), (34, .putfield 52, 3), (37, .aload_n 0, 1), (38, .bipush 60, 2), (40, .putfield 55, 3)]
theorem daX3_empty_0 : dlX3_empty_0.all (dcK cX3_empty) = true := by decide +kernel
theorem dX3_empty_0 : decode cX3_empty 0 = .ok (.aload_n 0, 1) := dc_at daX3_empty_0 0 rfl
theorem dX3_empty_1 : decode cX3_empty 1 = .ok (.iconst 0, 1) := dc_at daX3_empty_0 1 rfl
theorem dX3_empty_2 : decode cX3_empty 2 = .ok (.putfield 33, 3) := dc_at daX3_empty_0 2 rfl
theorem dX3_empty_5 : decode cX3_empty 5 = .ok (.aload_n 0, 1) := dc_at daX3_empty_0 3 rfl
theorem dX3_empty_6 : decode cX3_empty 6 = .ok (.iconst 0, 1) := dc_at daX3_empty_0 4 rfl
theorem dX3_empty_7 : decode cX3_empty 7 = .ok (.putfield 37, 3) := dc_at daX3_empty_0 5 rfl
theorem dX3_empty_10 : decode cX3_empty 10 = .ok (.aload_n 0, 1) := dc_at daX3_empty_0 6 rfl
theorem dX3_empty_11 : decode cX3_empty 11 = .ok (.iconst 0, 1) := dc_at daX3_empty_0 7 rfl
theorem dX3_empty_12 : decode cX3_empty 12 = .ok (.putfield 40, 3) := dc_at daX3_empty_0 8 rfl
theorem dX3_empty_15 : decode cX3_empty 15 = .ok (.aload_n 0, 1) := dc_at daX3_empty_0 9 rfl
theorem dX3_empty_16 : decode cX3_empty 16 = .ok (.iconst 0, 1) := dc_at daX3_empty_0 10 rfl
theorem dX3_empty_17 : decode cX3_empty 17 = .ok (.putfield 43, 3) := dc_at daX3_empty_0 11 rfl
theorem dX3_empty_20 : decode cX3_empty 20 = .ok (.aload_n 0, 1) := dc_at daX3_empty_0 12 rfl
theorem dX3_empty_21 : decode cX3_empty 21 = .ok (.bipush 6, 2) := dc_at daX3_empty_0 13 rfl
theorem dX3_empty_23 : decode cX3_empty 23 = .ok (.putfield 46, 3) := dc_at daX3_empty_0 14 rfl
theorem dX3_empty_26 : decode cX3_empty 26 = .ok (.aload_n 0, 1) := dc_at daX3_empty_0 15 rfl
theorem dX3_empty_27 : decode cX3_empty 27 = .ok (.bipush 6, 2) := dc_at daX3_empty_0 16 rfl
theorem dX3_empty_29 : decode cX3_empty 29 = .ok (.putfield 49, 3) := dc_at daX3_empty_0 17 rfl
theorem dX3_empty_32 : decode cX3_empty 32 = .ok (.aload_n 0, 1) := dc_at daX3_empty_0 18 rfl
theorem dX3_empty_33 : decode cX3_empty 33 = .ok (.iconst 1, 1) := dc_at daX3_empty_0 19 rfl
theorem dX3_empty_34 : decode cX3_empty 34 = .ok (.putfield 52, 3) := dc_at daX3_empty_0 20 rfl
theorem dX3_empty_37 : decode cX3_empty 37 = .ok (.aload_n 0, 1) := dc_at daX3_empty_0 21 rfl
theorem dX3_empty_38 : decode cX3_empty 38 = .ok (.bipush 60, 2) := dc_at daX3_empty_0 22 rfl
theorem dX3_empty_40 : decode cX3_empty 40 = .ok (.putfield 55, 3) := dc_at daX3_empty_0 23 rfl
def dlX3_empty_1 : List (Nat × Jvm.ClassFile.Instr × Nat) := [(43, .aload_n 0, 1), (44, .iconst 0, 1), (45, .putfield 58, 3), (48, .aload_n 0, 1), (49, .iconst 0, 1), (50, .putfield 61, 3), (53, .aload_n 0, 1), (54, .getfield 27, 3), (57, .iconst 1, 1), (58, .invokestatic 64, 3), (61, .return_, 1)]
theorem daX3_empty_1 : dlX3_empty_1.all (dcK cX3_empty) = true := by decide +kernel
theorem dX3_empty_43 : decode cX3_empty 43 = .ok (.aload_n 0, 1) := dc_at daX3_empty_1 0 rfl
theorem dX3_empty_44 : decode cX3_empty 44 = .ok (.iconst 0, 1) := dc_at daX3_empty_1 1 rfl
theorem dX3_empty_45 : decode cX3_empty 45 = .ok (.putfield 58, 3) := dc_at daX3_empty_1 2 rfl
theorem dX3_empty_48 : decode cX3_empty 48 = .ok (.aload_n 0, 1) := dc_at daX3_empty_1 3 rfl
theorem dX3_empty_49 : decode cX3_empty 49 = .ok (.iconst 0, 1) := dc_at daX3_empty_1 4 rfl
theorem dX3_empty_50 : decode cX3_empty 50 = .ok (.putfield 61, 3) := dc_at daX3_empty_1 5 rfl
theorem dX3_empty_53 : decode cX3_empty 53 = .ok (.aload_n 0, 1) := dc_at daX3_empty_1 6 rfl
theorem dX3_empty_54 : decode cX3_empty 54 = .ok (.getfield 27, 3) := dc_at daX3_empty_1 7 rfl
theorem dX3_empty_57 : decode cX3_empty 57 = .ok (.iconst 1, 1) := dc_at daX3_empty_1 8 rfl
theorem dX3_empty_58 : decode cX3_empty 58 = .ok (.invokestatic 64, 3) := dc_at daX3_empty_1 9 rfl
theorem dX3_empty_61 : decode cX3_empty 61 = .ok (.return_, 1) := dc_at daX3_empty_1 10 rfl
def dlX3_become_0 : List (Nat × Jvm.ClassFile.Instr × Nat) := [(0, .aload_n 0, 1), (1, .aload_n 1, 1), (2, .getfield 33, 3), (5, .putfield 33, 3), (8, .aload_n 0, 1), (9, .aload_n 1, 1), (10, .getfield 37, 3), (13, .putfield 37, 3), (16, .aload_n 0, 1), (17, .aload_n 1, 1), (18, .getfield 40, 3), (21, .putfield 40, 3), (24, .aload_n 0, 1), (25, .aload_n 1, 1), (26, .getfield 43, 3), (29, .putfield 43, 3), (32, .aload_n 0, 1), (33, .aload_n 1, 1), (34, .getfield 46, 3), (37, .putfield 46, 3), (40, .aload_n 0, 1), (41, .aload_n 1, 1), (42, .getfield 49, 3), (45, .putfield 49, 3)]
theorem daX3_become_0 : dlX3_become_0.all (dcK cX3_become) = true := by decide +kernel
theorem dX3_become_0 : decode cX3_become 0 = .ok (.aload_n 0, 1) := dc_at daX3_become_0 0 rfl
theorem dX3_become_1 : decode cX3_become 1 = .ok (.aload_n 1, 1) := dc_at daX3_become_0 1 rfl
theorem dX3_become_2 : decode cX3_become 2 = .ok (.getfield 33, 3) := dc_at daX3_become_0 2 rfl
theorem dX3_become_5 : decode cX3_become 5 = .ok (.putfield 33, 3) := dc_at daX3_become_0 3 rfl
theorem dX3_become_8 : decode cX3_become 8 = .ok (.aload_n 0, 1) := dc_at daX3_become_0 4 rfl
theorem dX3_become_9 : decode cX3_become 9 = .ok (.aload_n 1, 1) := dc_at daX3_become_0 5 rfl
theorem dX3_become_10 : decode cX3_become 10 = .ok (.getfield 37, 3) := dc_at daX3_become_0 6 rfl
theorem dX3_become_13 : decode cX3_become 13 = .ok (.putfield 37, 3) := dc_at daX3_become_0 7 rfl
theorem dX3_become_16 : decode cX3_become 16 = .ok (.aload_n 0, 1) := dc_at daX3_become_0 8 rfl
theorem dX3_become_17 : decode cX3_become 17 = .ok (.aload_n 1, 1) := dc_at daX3_become_0 9 rfl
theorem dX3_become_18 : decode cX3_become 18 = .ok (.getfield 40, 3) := dc_at daX3_become_0 10 rfl
theorem dX3_become_21 : decode cX3_become 21 = .ok (.putfield 40, 3) := dc_at daX3_become_0 11 rfl
theorem dX3_become_24 : decode cX3_become 24 = .ok (.aload_n 0, 1) := dc_at daX3_become_0 12 rfl
theorem dX3_become_25 : decode cX3_become 25 = .ok (.aload_n 1, 1) := dc_at daX3_become_0 13 rfl
theorem dX3_become_26 : decode cX3_become 26 = .ok (.getfield 43, 3) := dc_at daX3_become_0 14 rfl
theorem dX3_become_29 : decode cX3_become 29 = .ok (.putfield 43, 3) := dc_at daX3_become_0 15 rfl
theorem dX3_become_32 : decode cX3_become 32 = .ok (.aload_n 0, 1) := dc_at daX3_become_0 16 rfl
theorem dX3_become_33 : decode cX3_become 33 = .ok (.aload_n 1, 1) := dc_at daX3_become_0 17 rfl
theorem dX3_become_34 : decode cX3_become 34 = .ok (.getfield 46, 3) := dc_at daX3_become_0 18 rfl
theorem dX3_become_37 : decode cX3_become 37 = .ok (.putfield 46, 3) := dc_at daX3_become_0 19 rfl
theorem dX3_become_40 : decode cX3_become 40 = .ok (.aload_n 0, 1) := dc_at daX3_become_0 20 rfl
theorem dX3_become_41 : decode cX3_become 41 = .ok (.aload_n 1, 1) := dc_at daX3_become_0 21 rfl
theorem dX3_become_42 : decode cX3_become 42 = .ok (.getfield 49, 3) := dc_at daX3_become_0 22 rfl
theorem dX3_become_45 : decode cX3_become 45 = .ok (.putfield 49, 3) := dc_at daX3_become_0 23 rfl
def dlX3_become_1 : List (Nat × Jvm.ClassFile.Instr × Nat) := [(48, .aload_n 0, 1), (49, .aload_n 1, 1), (50, .getfield 52, 3), (53, .putfield 52, 3), (56, .aload_n 0, 1), (57, .aload_n 1, 1), (58, .getfield 55, 3), (61, .putfield 55, 3), (64, .aload_n 0, 1), (65, .aload_n 1, 1), (66, .getfield 58, 3), (69, .putfield 58, 3), (72, .aload_n 0, 1), (73, .aload_n 1, 1), (74, .getfield 61, 3), (77, .putfield 61, 3), (80, .aload_n 1, 1), (81, .getfield 9, 3), (84, .iconst 0, 1), (85, .aload_n 0, 1), (86, .getfield 9, 3), (89, .iconst 0, 1), (90, .bipush 16, 2), (92, .invokestatic 70, 3)]
theorem daX3_become_1 : dlX3_become_1.all (dcK cX3_become) = true := by decide +kernel
theorem dX3_become_48 : decode cX3_become 48 = .ok (.aload_n 0, 1) := dc_at daX3_become_1 0 rfl
theorem dX3_become_49 : decode cX3_become 49 = .ok (.aload_n 1, 1) := dc_at daX3_become_1 1 rfl
theorem dX3_become_50 : decode cX3_become 50 = .ok (.getfield 52, 3) := dc_at daX3_become_1 2 rfl
theorem dX3_become_53 : decode cX3_become 53 = .ok (.putfield 52, 3) := dc_at daX3_become_1 3 rfl
theorem dX3_become_56 : decode cX3_become 56 = .ok (.aload_n 0, 1) := dc_at daX3_become_1 4 rfl
theorem dX3_become_57 : decode cX3_become 57 = .ok (.aload_n 1, 1) := dc_at daX3_become_1 5 rfl
theorem dX3_become_58 : decode cX3_become 58 = .ok (.getfield 55, 3) := dc_at daX3_become_1 6 rfl
theorem dX3_become_61 : decode cX3_become 61 = .ok (.putfield 55, 3) := dc_at daX3_become_1 7 rfl
theorem dX3_become_64 : decode cX3_become 64 = .ok (.aload_n 0, 1) := dc_at daX3_become_1 8 rfl
theorem dX3_become_65 : decode cX3_become 65 = .ok (.aload_n 1, 1) := dc_at daX3_become_1 9 rfl
theorem dX3_become_66 : decode cX3_become 66 = .ok (.getfield 58, 3) := dc_at daX3_become_1 10 rfl
theorem dX3_become_69 : decode cX3_become 69 = .ok (.putfield 58, 3) := dc_at daX3_become_1 11 rfl
theorem dX3_become_72 : decode cX3_become 72 = .ok (.aload_n 0, 1) := dc_at daX3_become_1 12 rfl
theorem dX3_become_73 : decode cX3_become 73 = .ok (.aload_n 1, 1) := dc_at daX3_become_1 13 rfl
theorem dX3_become_74 : decode cX3_become 74 = .ok (.getfield 61, 3) := dc_at daX3_become_1 14 rfl
theorem dX3_become_77 : decode cX3_become 77 = .ok (.putfield 61, 3) := dc_at daX3_become_1 15 rfl
theorem dX3_become_80 : decode cX3_become 80 = .ok (.aload_n 1, 1) := dc_at daX3_become_1 16 rfl
theorem dX3_become_81 : decode cX3_become 81 = .ok (.getfield 9, 3) := dc_at daX3_become_1 17 rfl
theorem dX3_become_84 : decode cX3_become 84 = .ok (.iconst 0, 1) := dc_at daX3_become_1 18 rfl
theorem dX3_become_85 : decode cX3_become 85 = .ok (.aload_n 0, 1) := dc_at daX3_become_1 19 rfl
theorem dX3_become_86 : decode cX3_become 86 = .ok (.getfield 9, 3) := dc_at daX3_become_1 20 rfl
theorem dX3_become_89 : decode cX3_become 89 = .ok (.iconst 0, 1) := dc_at daX3_become_1 21 rfl
theorem dX3_become_90 : decode cX3_become 90 = .ok (.bipush 16, 2) := dc_at daX3_become_1 22 rfl
theorem dX3_become_92 : decode cX3_become 92 = .ok (.invokestatic 70, 3) := dc_at daX3_become_1 23 rfl
def dlX3_become_2 : List (Nat × Jvm.ClassFile.Instr × Nat) := [(95, .aload_n 1, 1), (96, .getfield 15, 3), (99, .iconst 0, 1), (100, .aload_n 0, 1), (101, .getfield 15, 3), (104, .iconst 0, 1), (105, .bipush 16, 2), (107, .invokestatic 70, 3), (110, .aload_n 1, 1), (111, .getfield 18, 3), (114, .iconst 0, 1), (115, .aload_n 0, 1), (116, .getfield 18, 3), (119, .iconst 0, 1), (120, .bipush 16, 2), (122, .invokestatic 70, 3), (125, .aload_n 1, 1), (126, .getfield 21, 3), (129, .iconst 0, 1), (130, .aload_n 0, 1), (131, .getfield 21, 3), (134, .iconst 0, 1), (135, .bipush 16, 2), (137, .invokestatic 70, 3)]
theorem daX3_become_2 : dlX3_become_2.all (dcK cX3_become) = true := by decide +kernel
theorem dX3_become_95 : decode cX3_become 95 = .ok (.aload_n 1, 1) := dc_at daX3_become_2 0 rfl
theorem dX3_become_96 : decode cX3_become 96 = .ok (.getfield 15, 3) := dc_at daX3_become_2 1 rfl
theorem dX3_become_99 : decode cX3_become 99 = .ok (.iconst 0, 1) := dc_at daX3_become_2 2 rfl
theorem dX3_become_100 : decode cX3_become 100 = .ok (.aload_n 0, 1) := dc_at daX3_become_2 3 rfl
theorem dX3_become_101 : decode cX3_become 101 = .ok (.getfield 15, 3) := dc_at daX3_become_2 4 rfl
theorem dX3_become_104 : decode cX3_become 104 = .ok (.iconst 0, 1) := dc_at daX3_become_2 5 rfl
theorem dX3_become_105 : decode cX3_become 105 = .ok (.bipush 16, 2) := dc_at daX3_become_2 6 rfl
theorem dX3_become_107 : decode cX3_become 107 = .ok (.invokestatic 70, 3) := dc_at daX3_become_2 7 rfl
theorem dX3_become_110 : decode cX3_become 110 = .ok (.aload_n 1, 1) := dc_at daX3_become_2 8 rfl
theorem dX3_become_111 : decode cX3_become 111 = .ok (.getfield 18, 3) := dc_at daX3_become_2 9 rfl
theorem dX3_become_114 : decode cX3_become 114 = .ok (.iconst 0, 1) := dc_at daX3_become_2 10 rfl
theorem dX3_become_115 : decode cX3_become 115 = .ok (.aload_n 0, 1) := dc_at daX3_become_2 11 rfl
theorem dX3_become_116 : decode cX3_become 116 = .ok (.getfield 18, 3) := dc_at daX3_become_2 12 rfl
theorem dX3_become_119 : decode cX3_become 119 = .ok (.iconst 0, 1) := dc_at daX3_become_2 13 rfl
theorem dX3_become_120 : decode cX3_become 120 = .ok (.bipush 16, 2) := dc_at daX3_become_2 14 rfl
theorem dX3_become_122 : decode cX3_become 122 = .ok (.invokestatic 70, 3) := dc_at daX3_become_2 15 rfl
theorem dX3_become_125 : decode cX3_become 125 = .ok (.aload_n 1, 1) := dc_at daX3_become_2 16 rfl
theorem dX3_become_126 : decode cX3_become 126 = .ok (.getfield 21, 3) := dc_at daX3_become_2 17 rfl
theorem dX3_become_129 : decode cX3_become 129 = .ok (.iconst 0, 1) := dc_at daX3_become_2 18 rfl
theorem dX3_become_130 : decode cX3_become 130 = .ok (.aload_n 0, 1) := dc_at daX3_become_2 19 rfl
theorem dX3_become_131 : decode cX3_become 131 = .ok (.getfield 21, 3) := dc_at daX3_become_2 20 rfl
theorem dX3_become_134 : decode cX3_become 134 = .ok (.iconst 0, 1) := dc_at daX3_become_2 21 rfl
theorem dX3_become_135 : decode cX3_become 135 = .ok (.bipush 16, 2) := dc_at daX3_become_2 22 rfl
theorem dX3_become_137 : decode cX3_become 137 = .ok (.invokestatic 70, 3) := dc_at daX3_become_2 23 rfl
def dlX3_become_3 : List (Nat × Jvm.ClassFile.Instr × Nat) := [(140, .aload_n 1, 1), (141, .getfield 24, 3), (144, .iconst 0, 1), (145, .aload_n 0, 1), (146, .getfield 24, 3), (149, .iconst 0, 1), (150, .bipush 16, 2), (152, .invokestatic 70, 3), (155, .aload_n 1, 1), (156, .getfield 27, 3), (159, .iconst 0, 1), (160, .aload_n 0, 1), (161, .getfield 27, 3), (164, .iconst 0, 1), (165, .bipush 6, 2), (167, .invokestatic 70, 3), (170, .return_, 1)]
theorem daX3_become_3 : dlX3_become_3.all (dcK cX3_become) = true := by decide +kernel
theorem dX3_become_140 : decode cX3_become 140 = .ok (.aload_n 1, 1) := dc_at daX3_become_3 0 rfl
theorem dX3_become_141 : decode cX3_become 141 = .ok (.getfield 24, 3) := dc_at daX3_become_3 1 rfl
theorem dX3_become_144 : decode cX3_become 144 = .ok (.iconst 0, 1) := dc_at daX3_become_3 2 rfl
theorem dX3_become_145 : decode cX3_become 145 = .ok (.aload_n 0, 1) := dc_at daX3_become_3 3 rfl
theorem dX3_become_146 : decode cX3_become 146 = .ok (.getfield 24, 3) := dc_at daX3_become_3 4 rfl
theorem dX3_become_149 : decode cX3_become 149 = .ok (.iconst 0, 1) := dc_at daX3_become_3 5 rfl
theorem dX3_become_150 : decode cX3_become 150 = .ok (.bipush 16, 2) := dc_at daX3_become_3 6 rfl
theorem dX3_become_152 : decode cX3_become 152 = .ok (.invokestatic 70, 3) := dc_at daX3_become_3 7 rfl
theorem dX3_become_155 : decode cX3_become 155 = .ok (.aload_n 1, 1) := dc_at daX3_become_3 8 rfl
theorem dX3_become_156 : decode cX3_become 156 = .ok (.getfield 27, 3) := dc_at daX3_become_3 9 rfl
theorem dX3_become_159 : decode cX3_become 159 = .ok (.iconst 0, 1) := dc_at daX3_become_3 10 rfl
theorem dX3_become_160 : decode cX3_become 160 = .ok (.aload_n 0, 1) := dc_at daX3_become_3 11 rfl
theorem dX3_become_161 : decode cX3_become 161 = .ok (.getfield 27, 3) := dc_at daX3_become_3 12 rfl
theorem dX3_become_164 : decode cX3_become 164 = .ok (.iconst 0, 1) := dc_at daX3_become_3 13 rfl
theorem dX3_become_165 : decode cX3_become 165 = .ok (.bipush 6, 2) := dc_at daX3_become_3 14 rfl
theorem dX3_become_167 : decode cX3_become 167 = .ok (.invokestatic 70, 3) := dc_at daX3_become_3 15 rfl
theorem dX3_become_170 : decode cX3_become 170 = .ok (.return_, 1) := dc_at daX3_become_3 16 rfl
def dlX3_addStrip_0 : List (Nat × Jvm.ClassFile.Instr × Nat) := [(0, .aload_n 0, 1), (1, .getfield 33, 3), (4, .bipush 16, 2), (6, .if_icmp .ge 64, 3), (9, .aload_n 0, 1), (10, .getfield 9, 3), (13, .aload_n 0, 1), (14, .getfield 33, 3), (17, .iload_n 1, 1), (18, .iastore, 1), (19, .aload_n 0, 1), (20, .getfield 15, 3), (23, .aload_n 0, 1), (24, .getfield 33, 3), (27, .iload_n 2, 1), (28, .iastore, 1), (29, .aload_n 0, 1), (30, .getfield 18, 3), (33, .aload_n 0, 1), (34, .getfield 33, 3), (37, .iload_n 3, 1), (38, .iastore, 1), (39, .aload_n 0, 1), (40, .getfield 21, 3)]
theorem daX3_addStrip_0 : dlX3_addStrip_0.all (dcK cX3_addStrip) = true := by decide +kernel
theorem dX3_addStrip_0 : decode cX3_addStrip 0 = .ok (.aload_n 0, 1) := dc_at daX3_addStrip_0 0 rfl
theorem dX3_addStrip_1 : decode cX3_addStrip 1 = .ok (.getfield 33, 3) := dc_at daX3_addStrip_0 1 rfl
theorem dX3_addStrip_4 : decode cX3_addStrip 4 = .ok (.bipush 16, 2) := dc_at daX3_addStrip_0 2 rfl
theorem dX3_addStrip_6 : decode cX3_addStrip 6 = .ok (.if_icmp .ge 64, 3) := dc_at daX3_addStrip_0 3 rfl
theorem dX3_addStrip_9 : decode cX3_addStrip 9 = .ok (.aload_n 0, 1) := dc_at daX3_addStrip_0 4 rfl
theorem dX3_addStrip_10 : decode cX3_addStrip 10 = .ok (.getfield 9, 3) := dc_at daX3_addStrip_0 5 rfl
theorem dX3_addStrip_13 : decode cX3_addStrip 13 = .ok (.aload_n 0, 1) := dc_at daX3_addStrip_0 6 rfl
theorem dX3_addStrip_14 : decode cX3_addStrip 14 = .ok (.getfield 33, 3) := dc_at daX3_addStrip_0 7 rfl
theorem dX3_addStrip_17 : decode cX3_addStrip 17 = .ok (.iload_n 1, 1) := dc_at daX3_addStrip_0 8 rfl
theorem dX3_addStrip_18 : decode cX3_addStrip 18 = .ok (.iastore, 1) := dc_at daX3_addStrip_0 9 rfl
theorem dX3_addStrip_19 : decode cX3_addStrip 19 = .ok (.aload_n 0, 1) := dc_at daX3_addStrip_0 10 rfl
theorem dX3_addStrip_20 : decode cX3_addStrip 20 = .ok (.getfield 15, 3) := dc_at daX3_addStrip_0 11 rfl
theorem dX3_addStrip_23 : decode cX3_addStrip 23 = .ok (.aload_n 0, 1) := dc_at daX3_addStrip_0 12 rfl
theorem dX3_addStrip_24 : decode cX3_addStrip 24 = .ok (.getfield 33, 3) := dc_at daX3_addStrip_0 13 rfl
theorem dX3_addStrip_27 : decode cX3_addStrip 27 = .ok (.iload_n 2, 1) := dc_at daX3_addStrip_0 14 rfl
theorem dX3_addStrip_28 : decode cX3_addStrip 28 = .ok (.iastore, 1) := dc_at daX3_addStrip_0 15 rfl
theorem dX3_addStrip_29 : decode cX3_addStrip 29 = .ok (.aload_n 0, 1) := dc_at daX3_addStrip_0 16 rfl
theorem dX3_addStrip_30 : decode cX3_addStrip 30 = .ok (.getfield 18, 3) := dc_at daX3_addStrip_0 17 rfl
theorem dX3_addStrip_33 : decode cX3_addStrip 33 = .ok (.aload_n 0, 1) := dc_at daX3_addStrip_0 18 rfl
theorem dX3_addStrip_34 : decode cX3_addStrip 34 = .ok (.getfield 33, 3) := dc_at daX3_addStrip_0 19 rfl
theorem dX3_addStrip_37 : decode cX3_addStrip 37 = .ok (.iload_n 3, 1) := dc_at daX3_addStrip_0 20 rfl
theorem dX3_addStrip_38 : decode cX3_addStrip 38 = .ok (.iastore, 1) := dc_at daX3_addStrip_0 21 rfl
theorem dX3_addStrip_39 : decode cX3_addStrip 39 = .ok (.aload_n 0, 1) := dc_at daX3_addStrip_0 22 rfl
theorem dX3_addStrip_40 : decode cX3_addStrip 40 = .ok (.getfield 21, 3) := dc_at daX3_addStrip_0 23 rfl
def dlX3_addStrip_1 : List (Nat × Jvm.ClassFile.Instr × Nat) := [(43, .aload_n 0, 1), (44, .getfield 33, 3), (47, .iload 4, 2), (49, .iastore, 1), (50, .aload_n 0, 1), (51, .getfield 24, 3), (54, .aload_n 0, 1), (55, .getfield 33, 3), (58, .iconst 0, 1), (59, .iastore, 1), (60, .aload_n 0, 1), (61, .dup, 1), (62, .getfield 33, 3), (65, .iconst 1, 1), (66, .iadd, 1), (67, .putfield 33, 3), (70, .return_, 1)]
theorem daX3_addStrip_1 : dlX3_addStrip_1.all (dcK cX3_addStrip) = true := by decide +kernel
theorem dX3_addStrip_43 : decode cX3_addStrip 43 = .ok (.aload_n 0, 1) := dc_at daX3_addStrip_1 0 rfl
theorem dX3_addStrip_44 : decode cX3_addStrip 44 = .ok (.getfield 33, 3) := dc_at daX3_addStrip_1 1 rfl
theorem dX3_addStrip_47 : decode cX3_addStrip 47 = .ok (.iload 4, 2) := dc_at daX3_addStrip_1 2 rfl
theorem dX3_addStrip_49 : decode cX3_addStrip 49 = .ok (.iastore, 1) := dc_at daX3_addStrip_1 3 rfl
theorem dX3_addStrip_50 : decode cX3_addStrip 50 = .ok (.aload_n 0, 1) := dc_at daX3_addStrip_1 4 rfl
theorem dX3_addStrip_51 : decode cX3_addStrip 51 = .ok (.getfield 24, 3) := dc_at daX3_addStrip_1 5 rfl
theorem dX3_addStrip_54 : decode cX3_addStrip 54 = .ok (.aload_n 0, 1) := dc_at daX3_addStrip_1 6 rfl
theorem dX3_addStrip_55 : decode cX3_addStrip 55 = .ok (.getfield 33, 3) := dc_at daX3_addStrip_1 7 rfl
theorem dX3_addStrip_58 : decode cX3_addStrip 58 = .ok (.iconst 0, 1) := dc_at daX3_addStrip_1 8 rfl
theorem dX3_addStrip_59 : decode cX3_addStrip 59 = .ok (.iastore, 1) := dc_at daX3_addStrip_1 9 rfl
theorem dX3_addStrip_60 : decode cX3_addStrip 60 = .ok (.aload_n 0, 1) := dc_at daX3_addStrip_1 10 rfl
theorem dX3_addStrip_61 : decode cX3_addStrip 61 = .ok (.dup, 1) := dc_at daX3_addStrip_1 11 rfl
theorem dX3_addStrip_62 : decode cX3_addStrip 62 = .ok (.getfield 33, 3) := dc_at daX3_addStrip_1 12 rfl
theorem dX3_addStrip_65 : decode cX3_addStrip 65 = .ok (.iconst 1, 1) := dc_at daX3_addStrip_1 13 rfl
theorem dX3_addStrip_66 : decode cX3_addStrip 66 = .ok (.iadd, 1) := dc_at daX3_addStrip_1 14 rfl
theorem dX3_addStrip_67 : decode cX3_addStrip 67 = .ok (.putfield 33, 3) := dc_at daX3_addStrip_1 15 rfl
theorem dX3_addStrip_70 : decode cX3_addStrip 70 = .ok (.return_, 1) := dc_at daX3_addStrip_1 16 rfl
def dlX3_hasStrip_0 : List (Nat × Jvm.ClassFile.Instr × Nat) := [(0, .iload_n 1, 1), (1, .ifCond .lt 15, 3), (4, .iload_n 1, 1), (5, .aload_n 0, 1), (6, .getfield 33, 3), (9, .if_icmp .ge 7, 3), (12, .iconst 1, 1), (13, .goto 4, 3), (16, .iconst 0, 1), (17, .ireturn, 1)]
theorem daX3_hasStrip_0 : dlX3_hasStrip_0.all (dcK cX3_hasStrip) = true := by decide +kernel
theorem dX3_hasStrip_0 : decode cX3_hasStrip 0 = .ok (.iload_n 1, 1) := dc_at daX3_hasStrip_0 0 rfl
theorem dX3_hasStrip_1 : decode cX3_hasStrip 1 = .ok (.ifCond .lt 15, 3) := dc_at daX3_hasStrip_0 1 rfl
theorem dX3_hasStrip_4 : decode cX3_hasStrip 4 = .ok (.iload_n 1, 1) := dc_at daX3_hasStrip_0 2 rfl
theorem dX3_hasStrip_5 : decode cX3_hasStrip 5 = .ok (.aload_n 0, 1) := dc_at daX3_hasStrip_0 3 rfl
theorem dX3_hasStrip_6 : decode cX3_hasStrip 6 = .ok (.getfield 33, 3) := dc_at daX3_hasStrip_0 4 rfl
theorem dX3_hasStrip_9 : decode cX3_hasStrip 9 = .ok (.if_icmp .ge 7, 3) := dc_at daX3_hasStrip_0 5 rfl
theorem dX3_hasStrip_12 : decode cX3_hasStrip 12 = .ok (.iconst 1, 1) := dc_at daX3_hasStrip_0 6 rfl
theorem dX3_hasStrip_13 : decode cX3_hasStrip 13 = .ok (.goto 4, 3) := dc_at daX3_hasStrip_0 7 rfl
theorem dX3_hasStrip_16 : decode cX3_hasStrip 16 = .ok (.iconst 0, 1) := dc_at daX3_hasStrip_0 8 rfl
theorem dX3_hasStrip_17 : decode cX3_hasStrip 17 = .ok (.ireturn, 1) := dc_at daX3_hasStrip_0 9 rfl
def dlX3_allStrips_0 : List (Nat × Jvm.ClassFile.Instr × Nat) := [(0, .iconst 1, 1), (1, .aload_n 0, 1), (2, .getfield 33, 3), (5, .ishl, 1), (6, .iconst 1, 1), (7, .isub, 1), (8, .ireturn, 1)]
theorem daX3_allStrips_0 : dlX3_allStrips_0.all (dcK cX3_allStrips) = true := by decide +kernel
theorem dX3_allStrips_0 : decode cX3_allStrips 0 = .ok (.iconst 1, 1) := dc_at daX3_allStrips_0 0 rfl
theorem dX3_allStrips_1 : decode cX3_allStrips 1 = .ok (.aload_n 0, 1) := dc_at daX3_allStrips_0 1 rfl
theorem dX3_allStrips_2 : decode cX3_allStrips 2 = .ok (.getfield 33, 3) := dc_at daX3_allStrips_0 2 rfl
theorem dX3_allStrips_5 : decode cX3_allStrips 5 = .ok (.ishl, 1) := dc_at daX3_allStrips_0 3 rfl
theorem dX3_allStrips_6 : decode cX3_allStrips 6 = .ok (.iconst 1, 1) := dc_at daX3_allStrips_0 4 rfl
theorem dX3_allStrips_7 : decode cX3_allStrips 7 = .ok (.isub, 1) := dc_at daX3_allStrips_0 5 rfl
theorem dX3_allStrips_8 : decode cX3_allStrips 8 = .ok (.ireturn, 1) := dc_at daX3_allStrips_0 6 rfl
def dlX3_areStrips_0 : List (Nat × Jvm.ClassFile.Instr × Nat) := [(0, .iload_n 1, 1), (1, .aload_n 0, 1), (2, .invokevirtual 76, 3), (5, .iconst (-1), 1), (6, .ixor, 1), (7, .iand, 1), (8, .ifCond .ne 7, 3), (11, .iconst 1, 1), (12, .goto 4, 3), (15, .iconst 0, 1), (16, .ireturn, 1)]
theorem daX3_areStrips_0 : dlX3_areStrips_0.all (dcK cX3_areStrips) = true := by decide +kernel
theorem dX3_areStrips_0 : decode cX3_areStrips 0 = .ok (.iload_n 1, 1) := dc_at daX3_areStrips_0 0 rfl
theorem dX3_areStrips_1 : decode cX3_areStrips 1 = .ok (.aload_n 0, 1) := dc_at daX3_areStrips_0 1 rfl
theorem dX3_areStrips_2 : decode cX3_areStrips 2 = .ok (.invokevirtual 76, 3) := dc_at daX3_areStrips_0 2 rfl
theorem dX3_areStrips_5 : decode cX3_areStrips 5 = .ok (.iconst (-1), 1) := dc_at daX3_areStrips_0 3 rfl
theorem dX3_areStrips_6 : decode cX3_areStrips 6 = .ok (.ixor, 1) := dc_at daX3_areStrips_0 4 rfl
theorem dX3_areStrips_7 : decode cX3_areStrips 7 = .ok (.iand, 1) := dc_at daX3_areStrips_0 5 rfl
theorem dX3_areStrips_8 : decode cX3_areStrips 8 = .ok (.ifCond .ne 7, 3) := dc_at daX3_areStrips_0 6 rfl
theorem dX3_areStrips_11 : decode cX3_areStrips 11 = .ok (.iconst 1, 1) := dc_at daX3_areStrips_0 7 rfl
theorem dX3_areStrips_12 : decode cX3_areStrips 12 = .ok (.goto 4, 3) := dc_at daX3_areStrips_0 8 rfl
theorem dX3_areStrips_15 : decode cX3_areStrips 15 = .ok (.iconst 0, 1) := dc_at daX3_areStrips_0 9 rfl
theorem dX3_areStrips_16 : decode cX3_areStrips 16 = .ok (.ireturn, 1) := dc_at daX3_areStrips_0 10 rfl
def dlX3_hangsOver_0 : List (Nat × Jvm.ClassFile.Instr × Nat) := [(0, .aload_n 0, 1), (1, .getfield 33, 3), (4, .ifCond .ne 7, 3), (7, .iconst (-1), 1), (8, .goto 7, 3), (11, .aload_n 0, 1), (12, .getfield 43, 3), (15, .ireturn, 1)]
theorem daX3_hangsOver_0 : dlX3_hangsOver_0.all (dcK cX3_hangsOver) = true := by decide +kernel
theorem dX3_hangsOver_0 : decode cX3_hangsOver 0 = .ok (.aload_n 0, 1) := dc_at daX3_hangsOver_0 0 rfl
theorem dX3_hangsOver_1 : decode cX3_hangsOver 1 = .ok (.getfield 33, 3) := dc_at daX3_hangsOver_0 1 rfl
theorem dX3_hangsOver_4 : decode cX3_hangsOver 4 = .ok (.ifCond .ne 7, 3) := dc_at daX3_hangsOver_0 2 rfl
theorem dX3_hangsOver_7 : decode cX3_hangsOver 7 = .ok (.iconst (-1), 1) := dc_at daX3_hangsOver_0 3 rfl
theorem dX3_hangsOver_8 : decode cX3_hangsOver 8 = .ok (.goto 7, 3) := dc_at daX3_hangsOver_0 4 rfl
theorem dX3_hangsOver_11 : decode cX3_hangsOver 11 = .ok (.aload_n 0, 1) := dc_at daX3_hangsOver_0 5 rfl
theorem dX3_hangsOver_12 : decode cX3_hangsOver 12 = .ok (.getfield 43, 3) := dc_at daX3_hangsOver_0 6 rfl
theorem dX3_hangsOver_15 : decode cX3_hangsOver 15 = .ok (.ireturn, 1) := dc_at daX3_hangsOver_0 7 rfl
def dlX3_sum_0 : List (Nat × Jvm.ClassFile.Instr × Nat) := [(0, .iconst 0, 1), (1, .istore_n 2, 1), (2, .iconst 0, 1), (3, .istore_n 3, 1), (4, .iload_n 3, 1), (5, .aload_n 0, 1), (6, .getfield 33, 3), (9, .if_icmp .ge 15, 3), (12, .iload_n 2, 1), (13, .aload_n 1, 1), (14, .iload_n 3, 1), (15, .iaload, 1), (16, .iadd, 1), (17, .istore_n 2, 1), (18, .iinc 3 1, 3), (21, .goto (-17), 3), (24, .iload_n 2, 1), (25, .ireturn, 1)]
theorem daX3_sum_0 : dlX3_sum_0.all (dcK cX3_sum) = true := by decide +kernel
theorem dX3_sum_0 : decode cX3_sum 0 = .ok (.iconst 0, 1) := dc_at daX3_sum_0 0 rfl
theorem dX3_sum_1 : decode cX3_sum 1 = .ok (.istore_n 2, 1) := dc_at daX3_sum_0 1 rfl
theorem dX3_sum_2 : decode cX3_sum 2 = .ok (.iconst 0, 1) := dc_at daX3_sum_0 2 rfl
theorem dX3_sum_3 : decode cX3_sum 3 = .ok (.istore_n 3, 1) := dc_at daX3_sum_0 3 rfl
theorem dX3_sum_4 : decode cX3_sum 4 = .ok (.iload_n 3, 1) := dc_at daX3_sum_0 4 rfl
theorem dX3_sum_5 : decode cX3_sum 5 = .ok (.aload_n 0, 1) := dc_at daX3_sum_0 5 rfl
theorem dX3_sum_6 : decode cX3_sum 6 = .ok (.getfield 33, 3) := dc_at daX3_sum_0 6 rfl
theorem dX3_sum_9 : decode cX3_sum 9 = .ok (.if_icmp .ge 15, 3) := dc_at daX3_sum_0 7 rfl
theorem dX3_sum_12 : decode cX3_sum 12 = .ok (.iload_n 2, 1) := dc_at daX3_sum_0 8 rfl
theorem dX3_sum_13 : decode cX3_sum 13 = .ok (.aload_n 1, 1) := dc_at daX3_sum_0 9 rfl
theorem dX3_sum_14 : decode cX3_sum 14 = .ok (.iload_n 3, 1) := dc_at daX3_sum_0 10 rfl
theorem dX3_sum_15 : decode cX3_sum 15 = .ok (.iaload, 1) := dc_at daX3_sum_0 11 rfl
theorem dX3_sum_16 : decode cX3_sum 16 = .ok (.iadd, 1) := dc_at daX3_sum_0 12 rfl
theorem dX3_sum_17 : decode cX3_sum 17 = .ok (.istore_n 2, 1) := dc_at daX3_sum_0 13 rfl
theorem dX3_sum_18 : decode cX3_sum 18 = .ok (.iinc 3 1, 3) := dc_at daX3_sum_0 14 rfl
theorem dX3_sum_21 : decode cX3_sum 21 = .ok (.goto (-17), 3) := dc_at daX3_sum_0 15 rfl
theorem dX3_sum_24 : decode cX3_sum 24 = .ok (.iload_n 2, 1) := dc_at daX3_sum_0 16 rfl
theorem dX3_sum_25 : decode cX3_sum 25 = .ok (.ireturn, 1) := dc_at daX3_sum_0 17 rfl
def dlX3_sumOfFarm_0 : List (Nat × Jvm.ClassFile.Instr × Nat) := [(0, .iconst 0, 1), (1, .istore_n 3, 1), (2, .iconst 0, 1), (3, .istore 4, 2), (5, .iload 4, 2), (7, .aload_n 0, 1), (8, .getfield 33, 3), (11, .if_icmp .ge 27, 3), (14, .aload_n 0, 1), (15, .getfield 21, 3), (18, .iload 4, 2), (20, .iaload, 1), (21, .iload_n 2, 1), (22, .if_icmp .ne 10, 3), (25, .iload_n 3, 1), (26, .aload_n 1, 1), (27, .iload 4, 2), (29, .iaload, 1), (30, .iadd, 1), (31, .istore_n 3, 1), (32, .iinc 4 1, 3), (35, .goto (-30), 3), (38, .iload_n 3, 1), (39, .ireturn, 1)]
theorem daX3_sumOfFarm_0 : dlX3_sumOfFarm_0.all (dcK cX3_sumOfFarm) = true := by decide +kernel
theorem dX3_sumOfFarm_0 : decode cX3_sumOfFarm 0 = .ok (.iconst 0, 1) := dc_at daX3_sumOfFarm_0 0 rfl
theorem dX3_sumOfFarm_1 : decode cX3_sumOfFarm 1 = .ok (.istore_n 3, 1) := dc_at daX3_sumOfFarm_0 1 rfl
theorem dX3_sumOfFarm_2 : decode cX3_sumOfFarm 2 = .ok (.iconst 0, 1) := dc_at daX3_sumOfFarm_0 2 rfl
theorem dX3_sumOfFarm_3 : decode cX3_sumOfFarm 3 = .ok (.istore 4, 2) := dc_at daX3_sumOfFarm_0 3 rfl
theorem dX3_sumOfFarm_5 : decode cX3_sumOfFarm 5 = .ok (.iload 4, 2) := dc_at daX3_sumOfFarm_0 4 rfl
theorem dX3_sumOfFarm_7 : decode cX3_sumOfFarm 7 = .ok (.aload_n 0, 1) := dc_at daX3_sumOfFarm_0 5 rfl
theorem dX3_sumOfFarm_8 : decode cX3_sumOfFarm 8 = .ok (.getfield 33, 3) := dc_at daX3_sumOfFarm_0 6 rfl
theorem dX3_sumOfFarm_11 : decode cX3_sumOfFarm 11 = .ok (.if_icmp .ge 27, 3) := dc_at daX3_sumOfFarm_0 7 rfl
theorem dX3_sumOfFarm_14 : decode cX3_sumOfFarm 14 = .ok (.aload_n 0, 1) := dc_at daX3_sumOfFarm_0 8 rfl
theorem dX3_sumOfFarm_15 : decode cX3_sumOfFarm 15 = .ok (.getfield 21, 3) := dc_at daX3_sumOfFarm_0 9 rfl
theorem dX3_sumOfFarm_18 : decode cX3_sumOfFarm 18 = .ok (.iload 4, 2) := dc_at daX3_sumOfFarm_0 10 rfl
theorem dX3_sumOfFarm_20 : decode cX3_sumOfFarm 20 = .ok (.iaload, 1) := dc_at daX3_sumOfFarm_0 11 rfl
theorem dX3_sumOfFarm_21 : decode cX3_sumOfFarm 21 = .ok (.iload_n 2, 1) := dc_at daX3_sumOfFarm_0 12 rfl
theorem dX3_sumOfFarm_22 : decode cX3_sumOfFarm 22 = .ok (.if_icmp .ne 10, 3) := dc_at daX3_sumOfFarm_0 13 rfl
theorem dX3_sumOfFarm_25 : decode cX3_sumOfFarm 25 = .ok (.iload_n 3, 1) := dc_at daX3_sumOfFarm_0 14 rfl
theorem dX3_sumOfFarm_26 : decode cX3_sumOfFarm 26 = .ok (.aload_n 1, 1) := dc_at daX3_sumOfFarm_0 15 rfl
theorem dX3_sumOfFarm_27 : decode cX3_sumOfFarm 27 = .ok (.iload 4, 2) := dc_at daX3_sumOfFarm_0 16 rfl
theorem dX3_sumOfFarm_29 : decode cX3_sumOfFarm 29 = .ok (.iaload, 1) := dc_at daX3_sumOfFarm_0 17 rfl
theorem dX3_sumOfFarm_30 : decode cX3_sumOfFarm 30 = .ok (.iadd, 1) := dc_at daX3_sumOfFarm_0 18 rfl
theorem dX3_sumOfFarm_31 : decode cX3_sumOfFarm 31 = .ok (.istore_n 3, 1) := dc_at daX3_sumOfFarm_0 19 rfl
theorem dX3_sumOfFarm_32 : decode cX3_sumOfFarm 32 = .ok (.iinc 4 1, 3) := dc_at daX3_sumOfFarm_0 20 rfl
theorem dX3_sumOfFarm_35 : decode cX3_sumOfFarm 35 = .ok (.goto (-30), 3) := dc_at daX3_sumOfFarm_0 21 rfl
theorem dX3_sumOfFarm_38 : decode cX3_sumOfFarm 38 = .ok (.iload_n 3, 1) := dc_at daX3_sumOfFarm_0 22 rfl
theorem dX3_sumOfFarm_39 : decode cX3_sumOfFarm 39 = .ok (.ireturn, 1) := dc_at daX3_sumOfFarm_0 23 rfl
def dlX3_stripsOfFarm_0 : List (Nat × Jvm.ClassFile.Instr × Nat) := [(0, .iconst 0, 1), (1, .istore_n 2, 1), (2, .iconst 0, 1), (3, .istore_n 3, 1), (4, .iload_n 3, 1), (5, .aload_n 0, 1), (6, .getfield 33, 3), (9, .if_icmp .ge 25, 3), (12, .aload_n 0, 1), (13, .getfield 21, 3), (16, .iload_n 3, 1), (17, .iaload, 1), (18, .iload_n 1, 1), (19, .if_icmp .ne 9, 3), (22, .iload_n 2, 1), (23, .iconst 1, 1), (24, .iload_n 3, 1), (25, .ishl, 1), (26, .ior, 1), (27, .istore_n 2, 1), (28, .iinc 3 1, 3), (31, .goto (-27), 3), (34, .iload_n 2, 1), (35, .ireturn, 1)]
theorem daX3_stripsOfFarm_0 : dlX3_stripsOfFarm_0.all (dcK cX3_stripsOfFarm) = true := by decide +kernel
theorem dX3_stripsOfFarm_0 : decode cX3_stripsOfFarm 0 = .ok (.iconst 0, 1) := dc_at daX3_stripsOfFarm_0 0 rfl
theorem dX3_stripsOfFarm_1 : decode cX3_stripsOfFarm 1 = .ok (.istore_n 2, 1) := dc_at daX3_stripsOfFarm_0 1 rfl
theorem dX3_stripsOfFarm_2 : decode cX3_stripsOfFarm 2 = .ok (.iconst 0, 1) := dc_at daX3_stripsOfFarm_0 2 rfl
theorem dX3_stripsOfFarm_3 : decode cX3_stripsOfFarm 3 = .ok (.istore_n 3, 1) := dc_at daX3_stripsOfFarm_0 3 rfl
theorem dX3_stripsOfFarm_4 : decode cX3_stripsOfFarm 4 = .ok (.iload_n 3, 1) := dc_at daX3_stripsOfFarm_0 4 rfl
theorem dX3_stripsOfFarm_5 : decode cX3_stripsOfFarm 5 = .ok (.aload_n 0, 1) := dc_at daX3_stripsOfFarm_0 5 rfl
theorem dX3_stripsOfFarm_6 : decode cX3_stripsOfFarm 6 = .ok (.getfield 33, 3) := dc_at daX3_stripsOfFarm_0 6 rfl
theorem dX3_stripsOfFarm_9 : decode cX3_stripsOfFarm 9 = .ok (.if_icmp .ge 25, 3) := dc_at daX3_stripsOfFarm_0 7 rfl
theorem dX3_stripsOfFarm_12 : decode cX3_stripsOfFarm 12 = .ok (.aload_n 0, 1) := dc_at daX3_stripsOfFarm_0 8 rfl
theorem dX3_stripsOfFarm_13 : decode cX3_stripsOfFarm 13 = .ok (.getfield 21, 3) := dc_at daX3_stripsOfFarm_0 9 rfl
theorem dX3_stripsOfFarm_16 : decode cX3_stripsOfFarm 16 = .ok (.iload_n 3, 1) := dc_at daX3_stripsOfFarm_0 10 rfl
theorem dX3_stripsOfFarm_17 : decode cX3_stripsOfFarm 17 = .ok (.iaload, 1) := dc_at daX3_stripsOfFarm_0 11 rfl
theorem dX3_stripsOfFarm_18 : decode cX3_stripsOfFarm 18 = .ok (.iload_n 1, 1) := dc_at daX3_stripsOfFarm_0 12 rfl
theorem dX3_stripsOfFarm_19 : decode cX3_stripsOfFarm 19 = .ok (.if_icmp .ne 9, 3) := dc_at daX3_stripsOfFarm_0 13 rfl
theorem dX3_stripsOfFarm_22 : decode cX3_stripsOfFarm 22 = .ok (.iload_n 2, 1) := dc_at daX3_stripsOfFarm_0 14 rfl
theorem dX3_stripsOfFarm_23 : decode cX3_stripsOfFarm 23 = .ok (.iconst 1, 1) := dc_at daX3_stripsOfFarm_0 15 rfl
theorem dX3_stripsOfFarm_24 : decode cX3_stripsOfFarm 24 = .ok (.iload_n 3, 1) := dc_at daX3_stripsOfFarm_0 16 rfl
theorem dX3_stripsOfFarm_25 : decode cX3_stripsOfFarm 25 = .ok (.ishl, 1) := dc_at daX3_stripsOfFarm_0 17 rfl
theorem dX3_stripsOfFarm_26 : decode cX3_stripsOfFarm 26 = .ok (.ior, 1) := dc_at daX3_stripsOfFarm_0 18 rfl
theorem dX3_stripsOfFarm_27 : decode cX3_stripsOfFarm 27 = .ok (.istore_n 2, 1) := dc_at daX3_stripsOfFarm_0 19 rfl
theorem dX3_stripsOfFarm_28 : decode cX3_stripsOfFarm 28 = .ok (.iinc 3 1, 3) := dc_at daX3_stripsOfFarm_0 20 rfl
theorem dX3_stripsOfFarm_31 : decode cX3_stripsOfFarm 31 = .ok (.goto (-27), 3) := dc_at daX3_stripsOfFarm_0 21 rfl
theorem dX3_stripsOfFarm_34 : decode cX3_stripsOfFarm 34 = .ok (.iload_n 2, 1) := dc_at daX3_stripsOfFarm_0 22 rfl
theorem dX3_stripsOfFarm_35 : decode cX3_stripsOfFarm 35 = .ok (.ireturn, 1) := dc_at daX3_stripsOfFarm_0 23 rfl
def dlX3_unshadedLight_0 : List (Nat × Jvm.ClassFile.Instr × Nat) := [(0, .iconst 0, 1), (1, .aload_n 0, 1), (2, .getfield 49, 3), (5, .aload_n 0, 1), (6, .getfield 52, 3), (9, .iload_n 1, 1), (10, .iload_n 2, 1), (11, .isub, 1), (12, .invokestatic 80, 3), (15, .imul, 1), (16, .isub, 1), (17, .invokestatic 86, 3), (20, .ireturn, 1)]
theorem daX3_unshadedLight_0 : dlX3_unshadedLight_0.all (dcK cX3_unshadedLight) = true := by decide +kernel
theorem dX3_unshadedLight_0 : decode cX3_unshadedLight 0 = .ok (.iconst 0, 1) := dc_at daX3_unshadedLight_0 0 rfl
theorem dX3_unshadedLight_1 : decode cX3_unshadedLight 1 = .ok (.aload_n 0, 1) := dc_at daX3_unshadedLight_0 1 rfl
theorem dX3_unshadedLight_2 : decode cX3_unshadedLight 2 = .ok (.getfield 49, 3) := dc_at daX3_unshadedLight_0 2 rfl
theorem dX3_unshadedLight_5 : decode cX3_unshadedLight 5 = .ok (.aload_n 0, 1) := dc_at daX3_unshadedLight_0 3 rfl
theorem dX3_unshadedLight_6 : decode cX3_unshadedLight 6 = .ok (.getfield 52, 3) := dc_at daX3_unshadedLight_0 4 rfl
theorem dX3_unshadedLight_9 : decode cX3_unshadedLight 9 = .ok (.iload_n 1, 1) := dc_at daX3_unshadedLight_0 5 rfl
theorem dX3_unshadedLight_10 : decode cX3_unshadedLight 10 = .ok (.iload_n 2, 1) := dc_at daX3_unshadedLight_0 6 rfl
theorem dX3_unshadedLight_11 : decode cX3_unshadedLight 11 = .ok (.isub, 1) := dc_at daX3_unshadedLight_0 7 rfl
theorem dX3_unshadedLight_12 : decode cX3_unshadedLight 12 = .ok (.invokestatic 80, 3) := dc_at daX3_unshadedLight_0 8 rfl
theorem dX3_unshadedLight_15 : decode cX3_unshadedLight 15 = .ok (.imul, 1) := dc_at daX3_unshadedLight_0 9 rfl
theorem dX3_unshadedLight_16 : decode cX3_unshadedLight 16 = .ok (.isub, 1) := dc_at daX3_unshadedLight_0 10 rfl
theorem dX3_unshadedLight_17 : decode cX3_unshadedLight 17 = .ok (.invokestatic 86, 3) := dc_at daX3_unshadedLight_0 11 rfl
theorem dX3_unshadedLight_20 : decode cX3_unshadedLight 20 = .ok (.ireturn, 1) := dc_at daX3_unshadedLight_0 12 rfl
def dlX3_isShaded_0 : List (Nat × Jvm.ClassFile.Instr × Nat) := [(0, .iload_n 1, 1), (1, .iload_n 2, 1), (2, .isub, 1), (3, .invokestatic 80, 3), (6, .istore_n 3, 1), (7, .iload_n 1, 1), (8, .iload_n 2, 1), (9, .invokestatic 86, 3), (12, .istore 4, 2), (14, .iload_n 1, 1), (15, .iload_n 2, 1), (16, .invokestatic 90, 3), (19, .iconst 1, 1), (20, .iadd, 1), (21, .istore 5, 2), (23, .iload 5, 2), (25, .iload 4, 2), (27, .if_icmp .ge 35, 3), (30, .aload_n 0, 1), (31, .getfield 18, 3), (34, .iload 5, 2), (36, .iaload, 1), (37, .iload_n 3, 1), (38, .imul, 1)]
theorem daX3_isShaded_0 : dlX3_isShaded_0.all (dcK cX3_isShaded) = true := by decide +kernel
theorem dX3_isShaded_0 : decode cX3_isShaded 0 = .ok (.iload_n 1, 1) := dc_at daX3_isShaded_0 0 rfl
theorem dX3_isShaded_1 : decode cX3_isShaded 1 = .ok (.iload_n 2, 1) := dc_at daX3_isShaded_0 1 rfl
theorem dX3_isShaded_2 : decode cX3_isShaded 2 = .ok (.isub, 1) := dc_at daX3_isShaded_0 2 rfl
theorem dX3_isShaded_3 : decode cX3_isShaded 3 = .ok (.invokestatic 80, 3) := dc_at daX3_isShaded_0 3 rfl
theorem dX3_isShaded_6 : decode cX3_isShaded 6 = .ok (.istore_n 3, 1) := dc_at daX3_isShaded_0 4 rfl
theorem dX3_isShaded_7 : decode cX3_isShaded 7 = .ok (.iload_n 1, 1) := dc_at daX3_isShaded_0 5 rfl
theorem dX3_isShaded_8 : decode cX3_isShaded 8 = .ok (.iload_n 2, 1) := dc_at daX3_isShaded_0 6 rfl
theorem dX3_isShaded_9 : decode cX3_isShaded 9 = .ok (.invokestatic 86, 3) := dc_at daX3_isShaded_0 7 rfl
theorem dX3_isShaded_12 : decode cX3_isShaded 12 = .ok (.istore 4, 2) := dc_at daX3_isShaded_0 8 rfl
theorem dX3_isShaded_14 : decode cX3_isShaded 14 = .ok (.iload_n 1, 1) := dc_at daX3_isShaded_0 9 rfl
theorem dX3_isShaded_15 : decode cX3_isShaded 15 = .ok (.iload_n 2, 1) := dc_at daX3_isShaded_0 10 rfl
theorem dX3_isShaded_16 : decode cX3_isShaded 16 = .ok (.invokestatic 90, 3) := dc_at daX3_isShaded_0 11 rfl
theorem dX3_isShaded_19 : decode cX3_isShaded 19 = .ok (.iconst 1, 1) := dc_at daX3_isShaded_0 12 rfl
theorem dX3_isShaded_20 : decode cX3_isShaded 20 = .ok (.iadd, 1) := dc_at daX3_isShaded_0 13 rfl
theorem dX3_isShaded_21 : decode cX3_isShaded 21 = .ok (.istore 5, 2) := dc_at daX3_isShaded_0 14 rfl
theorem dX3_isShaded_23 : decode cX3_isShaded 23 = .ok (.iload 5, 2) := dc_at daX3_isShaded_0 15 rfl
theorem dX3_isShaded_25 : decode cX3_isShaded 25 = .ok (.iload 4, 2) := dc_at daX3_isShaded_0 16 rfl
theorem dX3_isShaded_27 : decode cX3_isShaded 27 = .ok (.if_icmp .ge 35, 3) := dc_at daX3_isShaded_0 17 rfl
theorem dX3_isShaded_30 : decode cX3_isShaded 30 = .ok (.aload_n 0, 1) := dc_at daX3_isShaded_0 18 rfl
theorem dX3_isShaded_31 : decode cX3_isShaded 31 = .ok (.getfield 18, 3) := dc_at daX3_isShaded_0 19 rfl
theorem dX3_isShaded_34 : decode cX3_isShaded 34 = .ok (.iload 5, 2) := dc_at daX3_isShaded_0 20 rfl
theorem dX3_isShaded_36 : decode cX3_isShaded 36 = .ok (.iaload, 1) := dc_at daX3_isShaded_0 21 rfl
theorem dX3_isShaded_37 : decode cX3_isShaded 37 = .ok (.iload_n 3, 1) := dc_at daX3_isShaded_0 22 rfl
theorem dX3_isShaded_38 : decode cX3_isShaded 38 = .ok (.imul, 1) := dc_at daX3_isShaded_0 23 rfl
def dlX3_isShaded_1 : List (Nat × Jvm.ClassFile.Instr × Nat) := [(39, .aload_n 0, 1), (40, .getfield 46, 3), (43, .iload 5, 2), (45, .iload_n 2, 1), (46, .isub, 1), (47, .invokestatic 80, 3), (50, .imul, 1), (51, .if_icmp .le 5, 3), (54, .iconst 1, 1), (55, .ireturn, 1), (56, .iinc 5 1, 3), (59, .goto (-36), 3), (62, .iconst 0, 1), (63, .ireturn, 1)]
theorem daX3_isShaded_1 : dlX3_isShaded_1.all (dcK cX3_isShaded) = true := by decide +kernel
theorem dX3_isShaded_39 : decode cX3_isShaded 39 = .ok (.aload_n 0, 1) := dc_at daX3_isShaded_1 0 rfl
theorem dX3_isShaded_40 : decode cX3_isShaded 40 = .ok (.getfield 46, 3) := dc_at daX3_isShaded_1 1 rfl
theorem dX3_isShaded_43 : decode cX3_isShaded 43 = .ok (.iload 5, 2) := dc_at daX3_isShaded_1 2 rfl
theorem dX3_isShaded_45 : decode cX3_isShaded 45 = .ok (.iload_n 2, 1) := dc_at daX3_isShaded_1 3 rfl
theorem dX3_isShaded_46 : decode cX3_isShaded 46 = .ok (.isub, 1) := dc_at daX3_isShaded_1 4 rfl
theorem dX3_isShaded_47 : decode cX3_isShaded 47 = .ok (.invokestatic 80, 3) := dc_at daX3_isShaded_1 5 rfl
theorem dX3_isShaded_50 : decode cX3_isShaded 50 = .ok (.imul, 1) := dc_at daX3_isShaded_1 6 rfl
theorem dX3_isShaded_51 : decode cX3_isShaded 51 = .ok (.if_icmp .le 5, 3) := dc_at daX3_isShaded_1 7 rfl
theorem dX3_isShaded_54 : decode cX3_isShaded 54 = .ok (.iconst 1, 1) := dc_at daX3_isShaded_1 8 rfl
theorem dX3_isShaded_55 : decode cX3_isShaded 55 = .ok (.ireturn, 1) := dc_at daX3_isShaded_1 9 rfl
theorem dX3_isShaded_56 : decode cX3_isShaded 56 = .ok (.iinc 5 1, 3) := dc_at daX3_isShaded_1 10 rfl
theorem dX3_isShaded_59 : decode cX3_isShaded 59 = .ok (.goto (-36), 3) := dc_at daX3_isShaded_1 11 rfl
theorem dX3_isShaded_62 : decode cX3_isShaded 62 = .ok (.iconst 0, 1) := dc_at daX3_isShaded_1 12 rfl
theorem dX3_isShaded_63 : decode cX3_isShaded 63 = .ok (.ireturn, 1) := dc_at daX3_isShaded_1 13 rfl
def dlX3_lightOf_0 : List (Nat × Jvm.ClassFile.Instr × Nat) := [(0, .aload_n 0, 1), (1, .iload_n 1, 1), (2, .iload_n 2, 1), (3, .invokevirtual 93, 3), (6, .istore_n 3, 1), (7, .iload_n 3, 1), (8, .ifCond .le 16, 3), (11, .aload_n 0, 1), (12, .iload_n 1, 1), (13, .iload_n 2, 1), (14, .invokevirtual 96, 3), (17, .ifCond .eq 7, 3), (20, .iconst 0, 1), (21, .goto 4, 3), (24, .iload_n 3, 1), (25, .ireturn, 1)]
theorem daX3_lightOf_0 : dlX3_lightOf_0.all (dcK cX3_lightOf) = true := by decide +kernel
theorem dX3_lightOf_0 : decode cX3_lightOf 0 = .ok (.aload_n 0, 1) := dc_at daX3_lightOf_0 0 rfl
theorem dX3_lightOf_1 : decode cX3_lightOf 1 = .ok (.iload_n 1, 1) := dc_at daX3_lightOf_0 1 rfl
theorem dX3_lightOf_2 : decode cX3_lightOf 2 = .ok (.iload_n 2, 1) := dc_at daX3_lightOf_0 2 rfl
theorem dX3_lightOf_3 : decode cX3_lightOf 3 = .ok (.invokevirtual 93, 3) := dc_at daX3_lightOf_0 3 rfl
theorem dX3_lightOf_6 : decode cX3_lightOf 6 = .ok (.istore_n 3, 1) := dc_at daX3_lightOf_0 4 rfl
theorem dX3_lightOf_7 : decode cX3_lightOf 7 = .ok (.iload_n 3, 1) := dc_at daX3_lightOf_0 5 rfl
theorem dX3_lightOf_8 : decode cX3_lightOf 8 = .ok (.ifCond .le 16, 3) := dc_at daX3_lightOf_0 6 rfl
theorem dX3_lightOf_11 : decode cX3_lightOf 11 = .ok (.aload_n 0, 1) := dc_at daX3_lightOf_0 7 rfl
theorem dX3_lightOf_12 : decode cX3_lightOf 12 = .ok (.iload_n 1, 1) := dc_at daX3_lightOf_0 8 rfl
theorem dX3_lightOf_13 : decode cX3_lightOf 13 = .ok (.iload_n 2, 1) := dc_at daX3_lightOf_0 9 rfl
theorem dX3_lightOf_14 : decode cX3_lightOf 14 = .ok (.invokevirtual 96, 3) := dc_at daX3_lightOf_0 10 rfl
theorem dX3_lightOf_17 : decode cX3_lightOf 17 = .ok (.ifCond .eq 7, 3) := dc_at daX3_lightOf_0 11 rfl
theorem dX3_lightOf_20 : decode cX3_lightOf 20 = .ok (.iconst 0, 1) := dc_at daX3_lightOf_0 12 rfl
theorem dX3_lightOf_21 : decode cX3_lightOf 21 = .ok (.goto 4, 3) := dc_at daX3_lightOf_0 13 rfl
theorem dX3_lightOf_24 : decode cX3_lightOf 24 = .ok (.iload_n 3, 1) := dc_at daX3_lightOf_0 14 rfl
theorem dX3_lightOf_25 : decode cX3_lightOf 25 = .ok (.ireturn, 1) := dc_at daX3_lightOf_0 15 rfl
def dlX3_litFrom_0 : List (Nat × Jvm.ClassFile.Instr × Nat) := [(0, .iconst 0, 1), (1, .istore_n 2, 1), (2, .iconst 0, 1), (3, .istore_n 3, 1), (4, .iload_n 3, 1), (5, .aload_n 0, 1), (6, .getfield 33, 3), (9, .if_icmp .ge 24, 3), (12, .aload_n 0, 1), (13, .iload_n 1, 1), (14, .iload_n 3, 1), (15, .invokevirtual 100, 3), (18, .ifCond .le 9, 3), (21, .iload_n 2, 1), (22, .iconst 1, 1), (23, .iload_n 3, 1), (24, .ishl, 1), (25, .ior, 1), (26, .istore_n 2, 1), (27, .iinc 3 1, 3), (30, .goto (-26), 3), (33, .iload_n 2, 1), (34, .ireturn, 1)]
theorem daX3_litFrom_0 : dlX3_litFrom_0.all (dcK cX3_litFrom) = true := by decide +kernel
theorem dX3_litFrom_0 : decode cX3_litFrom 0 = .ok (.iconst 0, 1) := dc_at daX3_litFrom_0 0 rfl
theorem dX3_litFrom_1 : decode cX3_litFrom 1 = .ok (.istore_n 2, 1) := dc_at daX3_litFrom_0 1 rfl
theorem dX3_litFrom_2 : decode cX3_litFrom 2 = .ok (.iconst 0, 1) := dc_at daX3_litFrom_0 2 rfl
theorem dX3_litFrom_3 : decode cX3_litFrom 3 = .ok (.istore_n 3, 1) := dc_at daX3_litFrom_0 3 rfl
theorem dX3_litFrom_4 : decode cX3_litFrom 4 = .ok (.iload_n 3, 1) := dc_at daX3_litFrom_0 4 rfl
theorem dX3_litFrom_5 : decode cX3_litFrom 5 = .ok (.aload_n 0, 1) := dc_at daX3_litFrom_0 5 rfl
theorem dX3_litFrom_6 : decode cX3_litFrom 6 = .ok (.getfield 33, 3) := dc_at daX3_litFrom_0 6 rfl
theorem dX3_litFrom_9 : decode cX3_litFrom 9 = .ok (.if_icmp .ge 24, 3) := dc_at daX3_litFrom_0 7 rfl
theorem dX3_litFrom_12 : decode cX3_litFrom 12 = .ok (.aload_n 0, 1) := dc_at daX3_litFrom_0 8 rfl
theorem dX3_litFrom_13 : decode cX3_litFrom 13 = .ok (.iload_n 1, 1) := dc_at daX3_litFrom_0 9 rfl
theorem dX3_litFrom_14 : decode cX3_litFrom 14 = .ok (.iload_n 3, 1) := dc_at daX3_litFrom_0 10 rfl
theorem dX3_litFrom_15 : decode cX3_litFrom 15 = .ok (.invokevirtual 100, 3) := dc_at daX3_litFrom_0 11 rfl
theorem dX3_litFrom_18 : decode cX3_litFrom 18 = .ok (.ifCond .le 9, 3) := dc_at daX3_litFrom_0 12 rfl
theorem dX3_litFrom_21 : decode cX3_litFrom 21 = .ok (.iload_n 2, 1) := dc_at daX3_litFrom_0 13 rfl
theorem dX3_litFrom_22 : decode cX3_litFrom 22 = .ok (.iconst 1, 1) := dc_at daX3_litFrom_0 14 rfl
theorem dX3_litFrom_23 : decode cX3_litFrom 23 = .ok (.iload_n 3, 1) := dc_at daX3_litFrom_0 15 rfl
theorem dX3_litFrom_24 : decode cX3_litFrom 24 = .ok (.ishl, 1) := dc_at daX3_litFrom_0 16 rfl
theorem dX3_litFrom_25 : decode cX3_litFrom 25 = .ok (.ior, 1) := dc_at daX3_litFrom_0 17 rfl
theorem dX3_litFrom_26 : decode cX3_litFrom 26 = .ok (.istore_n 2, 1) := dc_at daX3_litFrom_0 18 rfl
theorem dX3_litFrom_27 : decode cX3_litFrom 27 = .ok (.iinc 3 1, 3) := dc_at daX3_litFrom_0 19 rfl
theorem dX3_litFrom_30 : decode cX3_litFrom 30 = .ok (.goto (-26), 3) := dc_at daX3_litFrom_0 20 rfl
theorem dX3_litFrom_33 : decode cX3_litFrom 33 = .ok (.iload_n 2, 1) := dc_at daX3_litFrom_0 21 rfl
theorem dX3_litFrom_34 : decode cX3_litFrom 34 = .ok (.ireturn, 1) := dc_at daX3_litFrom_0 22 rfl
def dlX3_shadedFrom_0 : List (Nat × Jvm.ClassFile.Instr × Nat) := [(0, .iconst 0, 1), (1, .istore_n 2, 1), (2, .iconst 0, 1), (3, .istore_n 3, 1), (4, .iload_n 3, 1), (5, .aload_n 0, 1), (6, .getfield 33, 3), (9, .if_icmp .ge 33, 3), (12, .aload_n 0, 1), (13, .iload_n 1, 1), (14, .iload_n 3, 1), (15, .invokevirtual 93, 3), (18, .ifCond .le 18, 3), (21, .aload_n 0, 1), (22, .iload_n 1, 1), (23, .iload_n 3, 1), (24, .invokevirtual 96, 3), (27, .ifCond .eq 9, 3), (30, .iload_n 2, 1), (31, .iconst 1, 1), (32, .iload_n 3, 1), (33, .ishl, 1), (34, .ior, 1), (35, .istore_n 2, 1)]
theorem daX3_shadedFrom_0 : dlX3_shadedFrom_0.all (dcK cX3_shadedFrom) = true := by decide +kernel
theorem dX3_shadedFrom_0 : decode cX3_shadedFrom 0 = .ok (.iconst 0, 1) := dc_at daX3_shadedFrom_0 0 rfl
theorem dX3_shadedFrom_1 : decode cX3_shadedFrom 1 = .ok (.istore_n 2, 1) := dc_at daX3_shadedFrom_0 1 rfl
theorem dX3_shadedFrom_2 : decode cX3_shadedFrom 2 = .ok (.iconst 0, 1) := dc_at daX3_shadedFrom_0 2 rfl
theorem dX3_shadedFrom_3 : decode cX3_shadedFrom 3 = .ok (.istore_n 3, 1) := dc_at daX3_shadedFrom_0 3 rfl
theorem dX3_shadedFrom_4 : decode cX3_shadedFrom 4 = .ok (.iload_n 3, 1) := dc_at daX3_shadedFrom_0 4 rfl
theorem dX3_shadedFrom_5 : decode cX3_shadedFrom 5 = .ok (.aload_n 0, 1) := dc_at daX3_shadedFrom_0 5 rfl
theorem dX3_shadedFrom_6 : decode cX3_shadedFrom 6 = .ok (.getfield 33, 3) := dc_at daX3_shadedFrom_0 6 rfl
theorem dX3_shadedFrom_9 : decode cX3_shadedFrom 9 = .ok (.if_icmp .ge 33, 3) := dc_at daX3_shadedFrom_0 7 rfl
theorem dX3_shadedFrom_12 : decode cX3_shadedFrom 12 = .ok (.aload_n 0, 1) := dc_at daX3_shadedFrom_0 8 rfl
theorem dX3_shadedFrom_13 : decode cX3_shadedFrom 13 = .ok (.iload_n 1, 1) := dc_at daX3_shadedFrom_0 9 rfl
theorem dX3_shadedFrom_14 : decode cX3_shadedFrom 14 = .ok (.iload_n 3, 1) := dc_at daX3_shadedFrom_0 10 rfl
theorem dX3_shadedFrom_15 : decode cX3_shadedFrom 15 = .ok (.invokevirtual 93, 3) := dc_at daX3_shadedFrom_0 11 rfl
theorem dX3_shadedFrom_18 : decode cX3_shadedFrom 18 = .ok (.ifCond .le 18, 3) := dc_at daX3_shadedFrom_0 12 rfl
theorem dX3_shadedFrom_21 : decode cX3_shadedFrom 21 = .ok (.aload_n 0, 1) := dc_at daX3_shadedFrom_0 13 rfl
theorem dX3_shadedFrom_22 : decode cX3_shadedFrom 22 = .ok (.iload_n 1, 1) := dc_at daX3_shadedFrom_0 14 rfl
theorem dX3_shadedFrom_23 : decode cX3_shadedFrom 23 = .ok (.iload_n 3, 1) := dc_at daX3_shadedFrom_0 15 rfl
theorem dX3_shadedFrom_24 : decode cX3_shadedFrom 24 = .ok (.invokevirtual 96, 3) := dc_at daX3_shadedFrom_0 16 rfl
theorem dX3_shadedFrom_27 : decode cX3_shadedFrom 27 = .ok (.ifCond .eq 9, 3) := dc_at daX3_shadedFrom_0 17 rfl
theorem dX3_shadedFrom_30 : decode cX3_shadedFrom 30 = .ok (.iload_n 2, 1) := dc_at daX3_shadedFrom_0 18 rfl
theorem dX3_shadedFrom_31 : decode cX3_shadedFrom 31 = .ok (.iconst 1, 1) := dc_at daX3_shadedFrom_0 19 rfl
theorem dX3_shadedFrom_32 : decode cX3_shadedFrom 32 = .ok (.iload_n 3, 1) := dc_at daX3_shadedFrom_0 20 rfl
theorem dX3_shadedFrom_33 : decode cX3_shadedFrom 33 = .ok (.ishl, 1) := dc_at daX3_shadedFrom_0 21 rfl
theorem dX3_shadedFrom_34 : decode cX3_shadedFrom 34 = .ok (.ior, 1) := dc_at daX3_shadedFrom_0 22 rfl
theorem dX3_shadedFrom_35 : decode cX3_shadedFrom 35 = .ok (.istore_n 2, 1) := dc_at daX3_shadedFrom_0 23 rfl
def dlX3_shadedFrom_1 : List (Nat × Jvm.ClassFile.Instr × Nat) := [(36, .iinc 3 1, 3), (39, .goto (-35), 3), (42, .iload_n 2, 1), (43, .ireturn, 1)]
theorem daX3_shadedFrom_1 : dlX3_shadedFrom_1.all (dcK cX3_shadedFrom) = true := by decide +kernel
theorem dX3_shadedFrom_36 : decode cX3_shadedFrom 36 = .ok (.iinc 3 1, 3) := dc_at daX3_shadedFrom_1 0 rfl
theorem dX3_shadedFrom_39 : decode cX3_shadedFrom 39 = .ok (.goto (-35), 3) := dc_at daX3_shadedFrom_1 1 rfl
theorem dX3_shadedFrom_42 : decode cX3_shadedFrom 42 = .ok (.iload_n 2, 1) := dc_at daX3_shadedFrom_1 2 rfl
theorem dX3_shadedFrom_43 : decode cX3_shadedFrom 43 = .ok (.ireturn, 1) := dc_at daX3_shadedFrom_1 3 rfl
def dlX3_leastHeight_0 : List (Nat × Jvm.ClassFile.Instr × Nat) := [(0, .aload_n 0, 1), (1, .iload_n 1, 1), (2, .iload_n 2, 1), (3, .invokevirtual 93, 3), (6, .ifCond .ne 5, 3), (9, .iconst (-1), 1), (10, .ireturn, 1), (11, .iconst 1, 1), (12, .istore_n 3, 1), (13, .iload_n 1, 1), (14, .iload_n 2, 1), (15, .isub, 1), (16, .invokestatic 80, 3), (19, .istore 4, 2), (21, .iload_n 1, 1), (22, .iload_n 2, 1), (23, .invokestatic 86, 3), (26, .istore 5, 2), (28, .iload_n 1, 1), (29, .iload_n 2, 1), (30, .invokestatic 90, 3), (33, .iconst 1, 1), (34, .iadd, 1), (35, .istore 6, 2)]
theorem daX3_leastHeight_0 : dlX3_leastHeight_0.all (dcK cX3_leastHeight) = true := by decide +kernel
theorem dX3_leastHeight_0 : decode cX3_leastHeight 0 = .ok (.aload_n 0, 1) := dc_at daX3_leastHeight_0 0 rfl
theorem dX3_leastHeight_1 : decode cX3_leastHeight 1 = .ok (.iload_n 1, 1) := dc_at daX3_leastHeight_0 1 rfl
theorem dX3_leastHeight_2 : decode cX3_leastHeight 2 = .ok (.iload_n 2, 1) := dc_at daX3_leastHeight_0 2 rfl
theorem dX3_leastHeight_3 : decode cX3_leastHeight 3 = .ok (.invokevirtual 93, 3) := dc_at daX3_leastHeight_0 3 rfl
theorem dX3_leastHeight_6 : decode cX3_leastHeight 6 = .ok (.ifCond .ne 5, 3) := dc_at daX3_leastHeight_0 4 rfl
theorem dX3_leastHeight_9 : decode cX3_leastHeight 9 = .ok (.iconst (-1), 1) := dc_at daX3_leastHeight_0 5 rfl
theorem dX3_leastHeight_10 : decode cX3_leastHeight 10 = .ok (.ireturn, 1) := dc_at daX3_leastHeight_0 6 rfl
theorem dX3_leastHeight_11 : decode cX3_leastHeight 11 = .ok (.iconst 1, 1) := dc_at daX3_leastHeight_0 7 rfl
theorem dX3_leastHeight_12 : decode cX3_leastHeight 12 = .ok (.istore_n 3, 1) := dc_at daX3_leastHeight_0 8 rfl
theorem dX3_leastHeight_13 : decode cX3_leastHeight 13 = .ok (.iload_n 1, 1) := dc_at daX3_leastHeight_0 9 rfl
theorem dX3_leastHeight_14 : decode cX3_leastHeight 14 = .ok (.iload_n 2, 1) := dc_at daX3_leastHeight_0 10 rfl
theorem dX3_leastHeight_15 : decode cX3_leastHeight 15 = .ok (.isub, 1) := dc_at daX3_leastHeight_0 11 rfl
theorem dX3_leastHeight_16 : decode cX3_leastHeight 16 = .ok (.invokestatic 80, 3) := dc_at daX3_leastHeight_0 12 rfl
theorem dX3_leastHeight_19 : decode cX3_leastHeight 19 = .ok (.istore 4, 2) := dc_at daX3_leastHeight_0 13 rfl
theorem dX3_leastHeight_21 : decode cX3_leastHeight 21 = .ok (.iload_n 1, 1) := dc_at daX3_leastHeight_0 14 rfl
theorem dX3_leastHeight_22 : decode cX3_leastHeight 22 = .ok (.iload_n 2, 1) := dc_at daX3_leastHeight_0 15 rfl
theorem dX3_leastHeight_23 : decode cX3_leastHeight 23 = .ok (.invokestatic 86, 3) := dc_at daX3_leastHeight_0 16 rfl
theorem dX3_leastHeight_26 : decode cX3_leastHeight 26 = .ok (.istore 5, 2) := dc_at daX3_leastHeight_0 17 rfl
theorem dX3_leastHeight_28 : decode cX3_leastHeight 28 = .ok (.iload_n 1, 1) := dc_at daX3_leastHeight_0 18 rfl
theorem dX3_leastHeight_29 : decode cX3_leastHeight 29 = .ok (.iload_n 2, 1) := dc_at daX3_leastHeight_0 19 rfl
theorem dX3_leastHeight_30 : decode cX3_leastHeight 30 = .ok (.invokestatic 90, 3) := dc_at daX3_leastHeight_0 20 rfl
theorem dX3_leastHeight_33 : decode cX3_leastHeight 33 = .ok (.iconst 1, 1) := dc_at daX3_leastHeight_0 21 rfl
theorem dX3_leastHeight_34 : decode cX3_leastHeight 34 = .ok (.iadd, 1) := dc_at daX3_leastHeight_0 22 rfl
theorem dX3_leastHeight_35 : decode cX3_leastHeight 35 = .ok (.istore 6, 2) := dc_at daX3_leastHeight_0 23 rfl
def dlX3_leastHeight_1 : List (Nat × Jvm.ClassFile.Instr × Nat) := [(37, .iload 6, 2), (39, .iload 5, 2), (41, .if_icmp .ge 54, 3), (44, .iload 6, 2), (46, .iload_n 2, 1), (47, .isub, 1), (48, .invokestatic 80, 3), (51, .istore 7, 2), (53, .iload 7, 2), (55, .ifCond .le 24, 3), (58, .aload_n 0, 1), (59, .getfield 18, 3), (62, .iload 6, 2), (64, .iaload, 1), (65, .iload 4, 2), (67, .imul, 1), (68, .iload 7, 2), (70, .iadd, 1), (71, .iconst 1, 1), (72, .isub, 1), (73, .iload 7, 2), (75, .idiv, 1), (76, .goto 4, 3), (79, .iconst 0, 1)]
theorem daX3_leastHeight_1 : dlX3_leastHeight_1.all (dcK cX3_leastHeight) = true := by decide +kernel
theorem dX3_leastHeight_37 : decode cX3_leastHeight 37 = .ok (.iload 6, 2) := dc_at daX3_leastHeight_1 0 rfl
theorem dX3_leastHeight_39 : decode cX3_leastHeight 39 = .ok (.iload 5, 2) := dc_at daX3_leastHeight_1 1 rfl
theorem dX3_leastHeight_41 : decode cX3_leastHeight 41 = .ok (.if_icmp .ge 54, 3) := dc_at daX3_leastHeight_1 2 rfl
theorem dX3_leastHeight_44 : decode cX3_leastHeight 44 = .ok (.iload 6, 2) := dc_at daX3_leastHeight_1 3 rfl
theorem dX3_leastHeight_46 : decode cX3_leastHeight 46 = .ok (.iload_n 2, 1) := dc_at daX3_leastHeight_1 4 rfl
theorem dX3_leastHeight_47 : decode cX3_leastHeight 47 = .ok (.isub, 1) := dc_at daX3_leastHeight_1 5 rfl
theorem dX3_leastHeight_48 : decode cX3_leastHeight 48 = .ok (.invokestatic 80, 3) := dc_at daX3_leastHeight_1 6 rfl
theorem dX3_leastHeight_51 : decode cX3_leastHeight 51 = .ok (.istore 7, 2) := dc_at daX3_leastHeight_1 7 rfl
theorem dX3_leastHeight_53 : decode cX3_leastHeight 53 = .ok (.iload 7, 2) := dc_at daX3_leastHeight_1 8 rfl
theorem dX3_leastHeight_55 : decode cX3_leastHeight 55 = .ok (.ifCond .le 24, 3) := dc_at daX3_leastHeight_1 9 rfl
theorem dX3_leastHeight_58 : decode cX3_leastHeight 58 = .ok (.aload_n 0, 1) := dc_at daX3_leastHeight_1 10 rfl
theorem dX3_leastHeight_59 : decode cX3_leastHeight 59 = .ok (.getfield 18, 3) := dc_at daX3_leastHeight_1 11 rfl
theorem dX3_leastHeight_62 : decode cX3_leastHeight 62 = .ok (.iload 6, 2) := dc_at daX3_leastHeight_1 12 rfl
theorem dX3_leastHeight_64 : decode cX3_leastHeight 64 = .ok (.iaload, 1) := dc_at daX3_leastHeight_1 13 rfl
theorem dX3_leastHeight_65 : decode cX3_leastHeight 65 = .ok (.iload 4, 2) := dc_at daX3_leastHeight_1 14 rfl
theorem dX3_leastHeight_67 : decode cX3_leastHeight 67 = .ok (.imul, 1) := dc_at daX3_leastHeight_1 15 rfl
theorem dX3_leastHeight_68 : decode cX3_leastHeight 68 = .ok (.iload 7, 2) := dc_at daX3_leastHeight_1 16 rfl
theorem dX3_leastHeight_70 : decode cX3_leastHeight 70 = .ok (.iadd, 1) := dc_at daX3_leastHeight_1 17 rfl
theorem dX3_leastHeight_71 : decode cX3_leastHeight 71 = .ok (.iconst 1, 1) := dc_at daX3_leastHeight_1 18 rfl
theorem dX3_leastHeight_72 : decode cX3_leastHeight 72 = .ok (.isub, 1) := dc_at daX3_leastHeight_1 19 rfl
theorem dX3_leastHeight_73 : decode cX3_leastHeight 73 = .ok (.iload 7, 2) := dc_at daX3_leastHeight_1 20 rfl
theorem dX3_leastHeight_75 : decode cX3_leastHeight 75 = .ok (.idiv, 1) := dc_at daX3_leastHeight_1 21 rfl
theorem dX3_leastHeight_76 : decode cX3_leastHeight 76 = .ok (.goto 4, 3) := dc_at daX3_leastHeight_1 22 rfl
theorem dX3_leastHeight_79 : decode cX3_leastHeight 79 = .ok (.iconst 0, 1) := dc_at daX3_leastHeight_1 23 rfl
def dlX3_leastHeight_2 : List (Nat × Jvm.ClassFile.Instr × Nat) := [(80, .istore 8, 2), (82, .iload_n 3, 1), (83, .iload 8, 2), (85, .invokestatic 86, 3), (88, .istore_n 3, 1), (89, .iinc 6 1, 3), (92, .goto (-55), 3), (95, .iload_n 3, 1), (96, .bipush 99, 2), (98, .if_icmp .le 7, 3), (101, .iconst (-1), 1), (102, .goto 4, 3), (105, .iload_n 3, 1), (106, .ireturn, 1)]
theorem daX3_leastHeight_2 : dlX3_leastHeight_2.all (dcK cX3_leastHeight) = true := by decide +kernel
theorem dX3_leastHeight_80 : decode cX3_leastHeight 80 = .ok (.istore 8, 2) := dc_at daX3_leastHeight_2 0 rfl
theorem dX3_leastHeight_82 : decode cX3_leastHeight 82 = .ok (.iload_n 3, 1) := dc_at daX3_leastHeight_2 1 rfl
theorem dX3_leastHeight_83 : decode cX3_leastHeight 83 = .ok (.iload 8, 2) := dc_at daX3_leastHeight_2 2 rfl
theorem dX3_leastHeight_85 : decode cX3_leastHeight 85 = .ok (.invokestatic 86, 3) := dc_at daX3_leastHeight_2 3 rfl
theorem dX3_leastHeight_88 : decode cX3_leastHeight 88 = .ok (.istore_n 3, 1) := dc_at daX3_leastHeight_2 4 rfl
theorem dX3_leastHeight_89 : decode cX3_leastHeight 89 = .ok (.iinc 6 1, 3) := dc_at daX3_leastHeight_2 5 rfl
theorem dX3_leastHeight_92 : decode cX3_leastHeight 92 = .ok (.goto (-55), 3) := dc_at daX3_leastHeight_2 6 rfl
theorem dX3_leastHeight_95 : decode cX3_leastHeight 95 = .ok (.iload_n 3, 1) := dc_at daX3_leastHeight_2 7 rfl
theorem dX3_leastHeight_96 : decode cX3_leastHeight 96 = .ok (.bipush 99, 2) := dc_at daX3_leastHeight_2 8 rfl
theorem dX3_leastHeight_98 : decode cX3_leastHeight 98 = .ok (.if_icmp .le 7, 3) := dc_at daX3_leastHeight_2 9 rfl
theorem dX3_leastHeight_101 : decode cX3_leastHeight 101 = .ok (.iconst (-1), 1) := dc_at daX3_leastHeight_2 10 rfl
theorem dX3_leastHeight_102 : decode cX3_leastHeight 102 = .ok (.goto 4, 3) := dc_at daX3_leastHeight_2 11 rfl
theorem dX3_leastHeight_105 : decode cX3_leastHeight 105 = .ok (.iload_n 3, 1) := dc_at daX3_leastHeight_2 12 rfl
theorem dX3_leastHeight_106 : decode cX3_leastHeight 106 = .ok (.ireturn, 1) := dc_at daX3_leastHeight_2 13 rfl
def dlX3_leastHeightForAll_0 : List (Nat × Jvm.ClassFile.Instr × Nat) := [(0, .iconst 1, 1), (1, .istore_n 3, 1), (2, .iconst 0, 1), (3, .istore 4, 2), (5, .iload 4, 2), (7, .aload_n 0, 1), (8, .getfield 33, 3), (11, .if_icmp .ge 42, 3), (14, .iload_n 2, 1), (15, .iload 4, 2), (17, .ishr, 1), (18, .iconst 1, 1), (19, .iand, 1), (20, .ifCond .eq 27, 3), (23, .aload_n 0, 1), (24, .iload_n 1, 1), (25, .iload 4, 2), (27, .invokevirtual 103, 3), (30, .istore 5, 2), (32, .iload 5, 2), (34, .iconst (-1), 1), (35, .if_icmp .ne 5, 3), (38, .iconst (-1), 1), (39, .ireturn, 1)]
theorem daX3_leastHeightForAll_0 : dlX3_leastHeightForAll_0.all (dcK cX3_leastHeightForAll) = true := by decide +kernel
theorem dX3_leastHeightForAll_0 : decode cX3_leastHeightForAll 0 = .ok (.iconst 1, 1) := dc_at daX3_leastHeightForAll_0 0 rfl
theorem dX3_leastHeightForAll_1 : decode cX3_leastHeightForAll 1 = .ok (.istore_n 3, 1) := dc_at daX3_leastHeightForAll_0 1 rfl
theorem dX3_leastHeightForAll_2 : decode cX3_leastHeightForAll 2 = .ok (.iconst 0, 1) := dc_at daX3_leastHeightForAll_0 2 rfl
theorem dX3_leastHeightForAll_3 : decode cX3_leastHeightForAll 3 = .ok (.istore 4, 2) := dc_at daX3_leastHeightForAll_0 3 rfl
theorem dX3_leastHeightForAll_5 : decode cX3_leastHeightForAll 5 = .ok (.iload 4, 2) := dc_at daX3_leastHeightForAll_0 4 rfl
theorem dX3_leastHeightForAll_7 : decode cX3_leastHeightForAll 7 = .ok (.aload_n 0, 1) := dc_at daX3_leastHeightForAll_0 5 rfl
theorem dX3_leastHeightForAll_8 : decode cX3_leastHeightForAll 8 = .ok (.getfield 33, 3) := dc_at daX3_leastHeightForAll_0 6 rfl
theorem dX3_leastHeightForAll_11 : decode cX3_leastHeightForAll 11 = .ok (.if_icmp .ge 42, 3) := dc_at daX3_leastHeightForAll_0 7 rfl
theorem dX3_leastHeightForAll_14 : decode cX3_leastHeightForAll 14 = .ok (.iload_n 2, 1) := dc_at daX3_leastHeightForAll_0 8 rfl
theorem dX3_leastHeightForAll_15 : decode cX3_leastHeightForAll 15 = .ok (.iload 4, 2) := dc_at daX3_leastHeightForAll_0 9 rfl
theorem dX3_leastHeightForAll_17 : decode cX3_leastHeightForAll 17 = .ok (.ishr, 1) := dc_at daX3_leastHeightForAll_0 10 rfl
theorem dX3_leastHeightForAll_18 : decode cX3_leastHeightForAll 18 = .ok (.iconst 1, 1) := dc_at daX3_leastHeightForAll_0 11 rfl
theorem dX3_leastHeightForAll_19 : decode cX3_leastHeightForAll 19 = .ok (.iand, 1) := dc_at daX3_leastHeightForAll_0 12 rfl
theorem dX3_leastHeightForAll_20 : decode cX3_leastHeightForAll 20 = .ok (.ifCond .eq 27, 3) := dc_at daX3_leastHeightForAll_0 13 rfl
theorem dX3_leastHeightForAll_23 : decode cX3_leastHeightForAll 23 = .ok (.aload_n 0, 1) := dc_at daX3_leastHeightForAll_0 14 rfl
theorem dX3_leastHeightForAll_24 : decode cX3_leastHeightForAll 24 = .ok (.iload_n 1, 1) := dc_at daX3_leastHeightForAll_0 15 rfl
theorem dX3_leastHeightForAll_25 : decode cX3_leastHeightForAll 25 = .ok (.iload 4, 2) := dc_at daX3_leastHeightForAll_0 16 rfl
theorem dX3_leastHeightForAll_27 : decode cX3_leastHeightForAll 27 = .ok (.invokevirtual 103, 3) := dc_at daX3_leastHeightForAll_0 17 rfl
theorem dX3_leastHeightForAll_30 : decode cX3_leastHeightForAll 30 = .ok (.istore 5, 2) := dc_at daX3_leastHeightForAll_0 18 rfl
theorem dX3_leastHeightForAll_32 : decode cX3_leastHeightForAll 32 = .ok (.iload 5, 2) := dc_at daX3_leastHeightForAll_0 19 rfl
theorem dX3_leastHeightForAll_34 : decode cX3_leastHeightForAll 34 = .ok (.iconst (-1), 1) := dc_at daX3_leastHeightForAll_0 20 rfl
theorem dX3_leastHeightForAll_35 : decode cX3_leastHeightForAll 35 = .ok (.if_icmp .ne 5, 3) := dc_at daX3_leastHeightForAll_0 21 rfl
theorem dX3_leastHeightForAll_38 : decode cX3_leastHeightForAll 38 = .ok (.iconst (-1), 1) := dc_at daX3_leastHeightForAll_0 22 rfl
theorem dX3_leastHeightForAll_39 : decode cX3_leastHeightForAll 39 = .ok (.ireturn, 1) := dc_at daX3_leastHeightForAll_0 23 rfl
def dlX3_leastHeightForAll_1 : List (Nat × Jvm.ClassFile.Instr × Nat) := [(40, .iload_n 3, 1), (41, .iload 5, 2), (43, .invokestatic 86, 3), (46, .istore_n 3, 1), (47, .iinc 4 1, 3), (50, .goto (-45), 3), (53, .iload_n 3, 1), (54, .ireturn, 1)]
theorem daX3_leastHeightForAll_1 : dlX3_leastHeightForAll_1.all (dcK cX3_leastHeightForAll) = true := by decide +kernel
theorem dX3_leastHeightForAll_40 : decode cX3_leastHeightForAll 40 = .ok (.iload_n 3, 1) := dc_at daX3_leastHeightForAll_1 0 rfl
theorem dX3_leastHeightForAll_41 : decode cX3_leastHeightForAll 41 = .ok (.iload 5, 2) := dc_at daX3_leastHeightForAll_1 1 rfl
theorem dX3_leastHeightForAll_43 : decode cX3_leastHeightForAll 43 = .ok (.invokestatic 86, 3) := dc_at daX3_leastHeightForAll_1 2 rfl
theorem dX3_leastHeightForAll_46 : decode cX3_leastHeightForAll 46 = .ok (.istore_n 3, 1) := dc_at daX3_leastHeightForAll_1 3 rfl
theorem dX3_leastHeightForAll_47 : decode cX3_leastHeightForAll 47 = .ok (.iinc 4 1, 3) := dc_at daX3_leastHeightForAll_1 4 rfl
theorem dX3_leastHeightForAll_50 : decode cX3_leastHeightForAll 50 = .ok (.goto (-45), 3) := dc_at daX3_leastHeightForAll_1 5 rfl
theorem dX3_leastHeightForAll_53 : decode cX3_leastHeightForAll 53 = .ok (.iload_n 3, 1) := dc_at daX3_leastHeightForAll_1 6 rfl
theorem dX3_leastHeightForAll_54 : decode cX3_leastHeightForAll 54 = .ok (.ireturn, 1) := dc_at daX3_leastHeightForAll_1 7 rfl
def dlX3_target_0 : List (Nat × Jvm.ClassFile.Instr × Nat) := [(0, .iload_n 1, 1), (1, .istore 4, 2), (3, .lload_n 2, 1), (4, .lconst 1, 1), (5, .lcmp, 1), (6, .ifCond .ne 11, 3), (9, .iload_n 1, 1), (10, .iconst 1, 1), (11, .isub, 1), (12, .istore 4, 2), (14, .goto 27, 3), (17, .lload_n 2, 1), (18, .ldc2_w 106, 3), (21, .lcmp, 1), (22, .ifCond .ne 11, 3), (25, .iload_n 1, 1), (26, .iconst 1, 1), (27, .iadd, 1), (28, .istore 4, 2), (30, .goto 11, 3), (33, .lload_n 2, 1), (34, .lconst 0, 1), (35, .lcmp, 1), (36, .ifCond .eq 5, 3)]
theorem daX3_target_0 : dlX3_target_0.all (dcK cX3_target) = true := by decide +kernel
theorem dX3_target_0 : decode cX3_target 0 = .ok (.iload_n 1, 1) := dc_at daX3_target_0 0 rfl
theorem dX3_target_1 : decode cX3_target 1 = .ok (.istore 4, 2) := dc_at daX3_target_0 1 rfl
theorem dX3_target_3 : decode cX3_target 3 = .ok (.lload_n 2, 1) := dc_at daX3_target_0 2 rfl
theorem dX3_target_4 : decode cX3_target 4 = .ok (.lconst 1, 1) := dc_at daX3_target_0 3 rfl
theorem dX3_target_5 : decode cX3_target 5 = .ok (.lcmp, 1) := dc_at daX3_target_0 4 rfl
theorem dX3_target_6 : decode cX3_target 6 = .ok (.ifCond .ne 11, 3) := dc_at daX3_target_0 5 rfl
theorem dX3_target_9 : decode cX3_target 9 = .ok (.iload_n 1, 1) := dc_at daX3_target_0 6 rfl
theorem dX3_target_10 : decode cX3_target 10 = .ok (.iconst 1, 1) := dc_at daX3_target_0 7 rfl
theorem dX3_target_11 : decode cX3_target 11 = .ok (.isub, 1) := dc_at daX3_target_0 8 rfl
theorem dX3_target_12 : decode cX3_target 12 = .ok (.istore 4, 2) := dc_at daX3_target_0 9 rfl
theorem dX3_target_14 : decode cX3_target 14 = .ok (.goto 27, 3) := dc_at daX3_target_0 10 rfl
theorem dX3_target_17 : decode cX3_target 17 = .ok (.lload_n 2, 1) := dc_at daX3_target_0 11 rfl
theorem dX3_target_18 : decode cX3_target 18 = .ok (.ldc2_w 106, 3) := dc_at daX3_target_0 12 rfl
theorem dX3_target_21 : decode cX3_target 21 = .ok (.lcmp, 1) := dc_at daX3_target_0 13 rfl
theorem dX3_target_22 : decode cX3_target 22 = .ok (.ifCond .ne 11, 3) := dc_at daX3_target_0 14 rfl
theorem dX3_target_25 : decode cX3_target 25 = .ok (.iload_n 1, 1) := dc_at daX3_target_0 15 rfl
theorem dX3_target_26 : decode cX3_target 26 = .ok (.iconst 1, 1) := dc_at daX3_target_0 16 rfl
theorem dX3_target_27 : decode cX3_target 27 = .ok (.iadd, 1) := dc_at daX3_target_0 17 rfl
theorem dX3_target_28 : decode cX3_target 28 = .ok (.istore 4, 2) := dc_at daX3_target_0 18 rfl
theorem dX3_target_30 : decode cX3_target 30 = .ok (.goto 11, 3) := dc_at daX3_target_0 19 rfl
theorem dX3_target_33 : decode cX3_target 33 = .ok (.lload_n 2, 1) := dc_at daX3_target_0 20 rfl
theorem dX3_target_34 : decode cX3_target 34 = .ok (.lconst 0, 1) := dc_at daX3_target_0 21 rfl
theorem dX3_target_35 : decode cX3_target 35 = .ok (.lcmp, 1) := dc_at daX3_target_0 22 rfl
theorem dX3_target_36 : decode cX3_target 36 = .ok (.ifCond .eq 5, 3) := dc_at daX3_target_0 23 rfl
def dlX3_target_1 : List (Nat × Jvm.ClassFile.Instr × Nat) := [(39, .iconst (-1), 1), (40, .ireturn, 1), (41, .aload_n 0, 1), (42, .iload 4, 2), (44, .invokevirtual 108, 3), (47, .ifCond .eq 8, 3), (50, .iload 4, 2), (52, .goto 4, 3), (55, .iconst (-1), 1), (56, .ireturn, 1)]
theorem daX3_target_1 : dlX3_target_1.all (dcK cX3_target) = true := by decide +kernel
theorem dX3_target_39 : decode cX3_target 39 = .ok (.iconst (-1), 1) := dc_at daX3_target_1 0 rfl
theorem dX3_target_40 : decode cX3_target 40 = .ok (.ireturn, 1) := dc_at daX3_target_1 1 rfl
theorem dX3_target_41 : decode cX3_target 41 = .ok (.aload_n 0, 1) := dc_at daX3_target_1 2 rfl
theorem dX3_target_42 : decode cX3_target 42 = .ok (.iload 4, 2) := dc_at daX3_target_1 3 rfl
theorem dX3_target_44 : decode cX3_target 44 = .ok (.invokevirtual 108, 3) := dc_at daX3_target_1 4 rfl
theorem dX3_target_47 : decode cX3_target 47 = .ok (.ifCond .eq 8, 3) := dc_at daX3_target_1 5 rfl
theorem dX3_target_50 : decode cX3_target 50 = .ok (.iload 4, 2) := dc_at daX3_target_1 6 rfl
theorem dX3_target_52 : decode cX3_target 52 = .ok (.goto 4, 3) := dc_at daX3_target_1 7 rfl
theorem dX3_target_55 : decode cX3_target 55 = .ok (.iconst (-1), 1) := dc_at daX3_target_1 8 rfl
theorem dX3_target_56 : decode cX3_target 56 = .ok (.ireturn, 1) := dc_at daX3_target_1 9 rfl
def dlX3_whyNot_0 : List (Nat × Jvm.ClassFile.Instr × Nat) := [(0, .aload_n 0, 1), (1, .aload_n 0, 1), (2, .getfield 43, 3), (5, .lload_n 1, 1), (6, .invokevirtual 112, 3), (9, .iconst (-1), 1), (10, .if_icmp .ne 5, 3), (13, .iconst 1, 1), (14, .ireturn, 1), (15, .aload_n 0, 1), (16, .getfield 55, 3), (19, .ifCond .ne 5, 3), (22, .iconst 2, 1), (23, .ireturn, 1), (24, .aload_n 0, 1), (25, .getfield 40, 3), (28, .sipush 9999, 3), (31, .if_icmp .lt 7, 3), (34, .iconst 3, 1), (35, .goto 4, 3), (38, .iconst 0, 1), (39, .ireturn, 1)]
theorem daX3_whyNot_0 : dlX3_whyNot_0.all (dcK cX3_whyNot) = true := by decide +kernel
theorem dX3_whyNot_0 : decode cX3_whyNot 0 = .ok (.aload_n 0, 1) := dc_at daX3_whyNot_0 0 rfl
theorem dX3_whyNot_1 : decode cX3_whyNot 1 = .ok (.aload_n 0, 1) := dc_at daX3_whyNot_0 1 rfl
theorem dX3_whyNot_2 : decode cX3_whyNot 2 = .ok (.getfield 43, 3) := dc_at daX3_whyNot_0 2 rfl
theorem dX3_whyNot_5 : decode cX3_whyNot 5 = .ok (.lload_n 1, 1) := dc_at daX3_whyNot_0 3 rfl
theorem dX3_whyNot_6 : decode cX3_whyNot 6 = .ok (.invokevirtual 112, 3) := dc_at daX3_whyNot_0 4 rfl
theorem dX3_whyNot_9 : decode cX3_whyNot 9 = .ok (.iconst (-1), 1) := dc_at daX3_whyNot_0 5 rfl
theorem dX3_whyNot_10 : decode cX3_whyNot 10 = .ok (.if_icmp .ne 5, 3) := dc_at daX3_whyNot_0 6 rfl
theorem dX3_whyNot_13 : decode cX3_whyNot 13 = .ok (.iconst 1, 1) := dc_at daX3_whyNot_0 7 rfl
theorem dX3_whyNot_14 : decode cX3_whyNot 14 = .ok (.ireturn, 1) := dc_at daX3_whyNot_0 8 rfl
theorem dX3_whyNot_15 : decode cX3_whyNot 15 = .ok (.aload_n 0, 1) := dc_at daX3_whyNot_0 9 rfl
theorem dX3_whyNot_16 : decode cX3_whyNot 16 = .ok (.getfield 55, 3) := dc_at daX3_whyNot_0 10 rfl
theorem dX3_whyNot_19 : decode cX3_whyNot 19 = .ok (.ifCond .ne 5, 3) := dc_at daX3_whyNot_0 11 rfl
theorem dX3_whyNot_22 : decode cX3_whyNot 22 = .ok (.iconst 2, 1) := dc_at daX3_whyNot_0 12 rfl
theorem dX3_whyNot_23 : decode cX3_whyNot 23 = .ok (.ireturn, 1) := dc_at daX3_whyNot_0 13 rfl
theorem dX3_whyNot_24 : decode cX3_whyNot 24 = .ok (.aload_n 0, 1) := dc_at daX3_whyNot_0 14 rfl
theorem dX3_whyNot_25 : decode cX3_whyNot 25 = .ok (.getfield 40, 3) := dc_at daX3_whyNot_0 15 rfl
theorem dX3_whyNot_28 : decode cX3_whyNot 28 = .ok (.sipush 9999, 3) := dc_at daX3_whyNot_0 16 rfl
theorem dX3_whyNot_31 : decode cX3_whyNot 31 = .ok (.if_icmp .lt 7, 3) := dc_at daX3_whyNot_0 17 rfl
theorem dX3_whyNot_34 : decode cX3_whyNot 34 = .ok (.iconst 3, 1) := dc_at daX3_whyNot_0 18 rfl
theorem dX3_whyNot_35 : decode cX3_whyNot 35 = .ok (.goto 4, 3) := dc_at daX3_whyNot_0 19 rfl
theorem dX3_whyNot_38 : decode cX3_whyNot 38 = .ok (.iconst 0, 1) := dc_at daX3_whyNot_0 20 rfl
theorem dX3_whyNot_39 : decode cX3_whyNot 39 = .ok (.ireturn, 1) := dc_at daX3_whyNot_0 21 rfl
def dlX3_pass_0 : List (Nat × Jvm.ClassFile.Instr × Nat) := [(0, .aload_n 0, 1), (1, .iload_n 1, 1), (2, .putfield 43, 3), (5, .aload_n 0, 1), (6, .dup, 1), (7, .getfield 55, 3), (10, .iconst 1, 1), (11, .isub, 1), (12, .putfield 55, 3), (15, .aload_n 0, 1), (16, .dup, 1), (17, .getfield 40, 3), (20, .iconst 1, 1), (21, .iadd, 1), (22, .putfield 40, 3), (25, .iconst 0, 1), (26, .istore_n 3, 1), (27, .iconst 0, 1), (28, .istore 4, 2), (30, .iload_n 2, 1), (31, .ifCond .eq 76, 3), (34, .iload 4, 2), (36, .aload_n 0, 1), (37, .getfield 33, 3)]
theorem daX3_pass_0 : dlX3_pass_0.all (dcK cX3_pass) = true := by decide +kernel
theorem dX3_pass_0 : decode cX3_pass 0 = .ok (.aload_n 0, 1) := dc_at daX3_pass_0 0 rfl
theorem dX3_pass_1 : decode cX3_pass 1 = .ok (.iload_n 1, 1) := dc_at daX3_pass_0 1 rfl
theorem dX3_pass_2 : decode cX3_pass 2 = .ok (.putfield 43, 3) := dc_at daX3_pass_0 2 rfl
theorem dX3_pass_5 : decode cX3_pass 5 = .ok (.aload_n 0, 1) := dc_at daX3_pass_0 3 rfl
theorem dX3_pass_6 : decode cX3_pass 6 = .ok (.dup, 1) := dc_at daX3_pass_0 4 rfl
theorem dX3_pass_7 : decode cX3_pass 7 = .ok (.getfield 55, 3) := dc_at daX3_pass_0 5 rfl
theorem dX3_pass_10 : decode cX3_pass 10 = .ok (.iconst 1, 1) := dc_at daX3_pass_0 6 rfl
theorem dX3_pass_11 : decode cX3_pass 11 = .ok (.isub, 1) := dc_at daX3_pass_0 7 rfl
theorem dX3_pass_12 : decode cX3_pass 12 = .ok (.putfield 55, 3) := dc_at daX3_pass_0 8 rfl
theorem dX3_pass_15 : decode cX3_pass 15 = .ok (.aload_n 0, 1) := dc_at daX3_pass_0 9 rfl
theorem dX3_pass_16 : decode cX3_pass 16 = .ok (.dup, 1) := dc_at daX3_pass_0 10 rfl
theorem dX3_pass_17 : decode cX3_pass 17 = .ok (.getfield 40, 3) := dc_at daX3_pass_0 11 rfl
theorem dX3_pass_20 : decode cX3_pass 20 = .ok (.iconst 1, 1) := dc_at daX3_pass_0 12 rfl
theorem dX3_pass_21 : decode cX3_pass 21 = .ok (.iadd, 1) := dc_at daX3_pass_0 13 rfl
theorem dX3_pass_22 : decode cX3_pass 22 = .ok (.putfield 40, 3) := dc_at daX3_pass_0 14 rfl
theorem dX3_pass_25 : decode cX3_pass 25 = .ok (.iconst 0, 1) := dc_at daX3_pass_0 15 rfl
theorem dX3_pass_26 : decode cX3_pass 26 = .ok (.istore_n 3, 1) := dc_at daX3_pass_0 16 rfl
theorem dX3_pass_27 : decode cX3_pass 27 = .ok (.iconst 0, 1) := dc_at daX3_pass_0 17 rfl
theorem dX3_pass_28 : decode cX3_pass 28 = .ok (.istore 4, 2) := dc_at daX3_pass_0 18 rfl
theorem dX3_pass_30 : decode cX3_pass 30 = .ok (.iload_n 2, 1) := dc_at daX3_pass_0 19 rfl
theorem dX3_pass_31 : decode cX3_pass 31 = .ok (.ifCond .eq 76, 3) := dc_at daX3_pass_0 20 rfl
theorem dX3_pass_34 : decode cX3_pass 34 = .ok (.iload 4, 2) := dc_at daX3_pass_0 21 rfl
theorem dX3_pass_36 : decode cX3_pass 36 = .ok (.aload_n 0, 1) := dc_at daX3_pass_0 22 rfl
theorem dX3_pass_37 : decode cX3_pass 37 = .ok (.getfield 33, 3) := dc_at daX3_pass_0 23 rfl
def dlX3_pass_1 : List (Nat × Jvm.ClassFile.Instr × Nat) := [(40, .if_icmp .ge 67, 3), (43, .aload_n 0, 1), (44, .getfield 15, 3), (47, .iload 4, 2), (49, .iaload, 1), (50, .aload_n 0, 1), (51, .getfield 9, 3), (54, .iload 4, 2), (56, .iaload, 1), (57, .invokestatic 90, 3), (60, .aload_n 0, 1), (61, .iload_n 1, 1), (62, .iload 4, 2), (64, .invokevirtual 100, 3), (67, .invokestatic 90, 3), (70, .istore 5, 2), (72, .aload_n 0, 1), (73, .getfield 9, 3), (76, .iload 4, 2), (78, .dup2, 1), (79, .iaload, 1), (80, .iload 5, 2), (82, .isub, 1), (83, .iastore, 1)]
theorem daX3_pass_1 : dlX3_pass_1.all (dcK cX3_pass) = true := by decide +kernel
theorem dX3_pass_40 : decode cX3_pass 40 = .ok (.if_icmp .ge 67, 3) := dc_at daX3_pass_1 0 rfl
theorem dX3_pass_43 : decode cX3_pass 43 = .ok (.aload_n 0, 1) := dc_at daX3_pass_1 1 rfl
theorem dX3_pass_44 : decode cX3_pass 44 = .ok (.getfield 15, 3) := dc_at daX3_pass_1 2 rfl
theorem dX3_pass_47 : decode cX3_pass 47 = .ok (.iload 4, 2) := dc_at daX3_pass_1 3 rfl
theorem dX3_pass_49 : decode cX3_pass 49 = .ok (.iaload, 1) := dc_at daX3_pass_1 4 rfl
theorem dX3_pass_50 : decode cX3_pass 50 = .ok (.aload_n 0, 1) := dc_at daX3_pass_1 5 rfl
theorem dX3_pass_51 : decode cX3_pass 51 = .ok (.getfield 9, 3) := dc_at daX3_pass_1 6 rfl
theorem dX3_pass_54 : decode cX3_pass 54 = .ok (.iload 4, 2) := dc_at daX3_pass_1 7 rfl
theorem dX3_pass_56 : decode cX3_pass 56 = .ok (.iaload, 1) := dc_at daX3_pass_1 8 rfl
theorem dX3_pass_57 : decode cX3_pass 57 = .ok (.invokestatic 90, 3) := dc_at daX3_pass_1 9 rfl
theorem dX3_pass_60 : decode cX3_pass 60 = .ok (.aload_n 0, 1) := dc_at daX3_pass_1 10 rfl
theorem dX3_pass_61 : decode cX3_pass 61 = .ok (.iload_n 1, 1) := dc_at daX3_pass_1 11 rfl
theorem dX3_pass_62 : decode cX3_pass 62 = .ok (.iload 4, 2) := dc_at daX3_pass_1 12 rfl
theorem dX3_pass_64 : decode cX3_pass 64 = .ok (.invokevirtual 100, 3) := dc_at daX3_pass_1 13 rfl
theorem dX3_pass_67 : decode cX3_pass 67 = .ok (.invokestatic 90, 3) := dc_at daX3_pass_1 14 rfl
theorem dX3_pass_70 : decode cX3_pass 70 = .ok (.istore 5, 2) := dc_at daX3_pass_1 15 rfl
theorem dX3_pass_72 : decode cX3_pass 72 = .ok (.aload_n 0, 1) := dc_at daX3_pass_1 16 rfl
theorem dX3_pass_73 : decode cX3_pass 73 = .ok (.getfield 9, 3) := dc_at daX3_pass_1 17 rfl
theorem dX3_pass_76 : decode cX3_pass 76 = .ok (.iload 4, 2) := dc_at daX3_pass_1 18 rfl
theorem dX3_pass_78 : decode cX3_pass 78 = .ok (.dup2, 1) := dc_at daX3_pass_1 19 rfl
theorem dX3_pass_79 : decode cX3_pass 79 = .ok (.iaload, 1) := dc_at daX3_pass_1 20 rfl
theorem dX3_pass_80 : decode cX3_pass 80 = .ok (.iload 5, 2) := dc_at daX3_pass_1 21 rfl
theorem dX3_pass_82 : decode cX3_pass 82 = .ok (.isub, 1) := dc_at daX3_pass_1 22 rfl
theorem dX3_pass_83 : decode cX3_pass 83 = .ok (.iastore, 1) := dc_at daX3_pass_1 23 rfl
def dlX3_pass_2 : List (Nat × Jvm.ClassFile.Instr × Nat) := [(84, .aload_n 0, 1), (85, .getfield 24, 3), (88, .iload 4, 2), (90, .dup2, 1), (91, .iaload, 1), (92, .iload 5, 2), (94, .iadd, 1), (95, .iastore, 1), (96, .iload_n 3, 1), (97, .iload 5, 2), (99, .iadd, 1), (100, .istore_n 3, 1), (101, .iinc 4 1, 3), (104, .goto (-74), 3), (107, .iload_n 3, 1), (108, .ireturn, 1)]
theorem daX3_pass_2 : dlX3_pass_2.all (dcK cX3_pass) = true := by decide +kernel
theorem dX3_pass_84 : decode cX3_pass 84 = .ok (.aload_n 0, 1) := dc_at daX3_pass_2 0 rfl
theorem dX3_pass_85 : decode cX3_pass 85 = .ok (.getfield 24, 3) := dc_at daX3_pass_2 1 rfl
theorem dX3_pass_88 : decode cX3_pass 88 = .ok (.iload 4, 2) := dc_at daX3_pass_2 2 rfl
theorem dX3_pass_90 : decode cX3_pass 90 = .ok (.dup2, 1) := dc_at daX3_pass_2 3 rfl
theorem dX3_pass_91 : decode cX3_pass 91 = .ok (.iaload, 1) := dc_at daX3_pass_2 4 rfl
theorem dX3_pass_92 : decode cX3_pass 92 = .ok (.iload 5, 2) := dc_at daX3_pass_2 5 rfl
theorem dX3_pass_94 : decode cX3_pass 94 = .ok (.iadd, 1) := dc_at daX3_pass_2 6 rfl
theorem dX3_pass_95 : decode cX3_pass 95 = .ok (.iastore, 1) := dc_at daX3_pass_2 7 rfl
theorem dX3_pass_96 : decode cX3_pass 96 = .ok (.iload_n 3, 1) := dc_at daX3_pass_2 8 rfl
theorem dX3_pass_97 : decode cX3_pass 97 = .ok (.iload 5, 2) := dc_at daX3_pass_2 9 rfl
theorem dX3_pass_99 : decode cX3_pass 99 = .ok (.iadd, 1) := dc_at daX3_pass_2 10 rfl
theorem dX3_pass_100 : decode cX3_pass 100 = .ok (.istore_n 3, 1) := dc_at daX3_pass_2 11 rfl
theorem dX3_pass_101 : decode cX3_pass 101 = .ok (.iinc 4 1, 3) := dc_at daX3_pass_2 12 rfl
theorem dX3_pass_104 : decode cX3_pass 104 = .ok (.goto (-74), 3) := dc_at daX3_pass_2 13 rfl
theorem dX3_pass_107 : decode cX3_pass 107 = .ok (.iload_n 3, 1) := dc_at daX3_pass_2 14 rfl
theorem dX3_pass_108 : decode cX3_pass 108 = .ok (.ireturn, 1) := dc_at daX3_pass_2 15 rfl
def dlX3_passAll_0 : List (Nat × Jvm.ClassFile.Instr × Nat) := [(0, .iconst 0, 1), (1, .istore_n 2, 1), (2, .iload_n 2, 1), (3, .aload_n 1, 1), (4, .getfield 116, 3), (7, .if_icmp .ge 40, 3), (10, .aload_n 1, 1), (11, .iload_n 2, 1), (12, .invokevirtual 121, 3), (15, .lstore_n 3, 1), (16, .aload_n 0, 1), (17, .lload_n 3, 1), (18, .invokevirtual 125, 3), (21, .ifCond .eq 5, 3), (24, .iload_n 2, 1), (25, .ireturn, 1), (26, .aload_n 0, 1), (27, .aload_n 0, 1), (28, .aload_n 0, 1), (29, .getfield 43, 3), (32, .lload_n 3, 1), (33, .invokevirtual 112, 3), (36, .iconst 1, 1), (37, .invokevirtual 129, 3)]
theorem daX3_passAll_0 : dlX3_passAll_0.all (dcK cX3_passAll) = true := by decide +kernel
theorem dX3_passAll_0 : decode cX3_passAll 0 = .ok (.iconst 0, 1) := dc_at daX3_passAll_0 0 rfl
theorem dX3_passAll_1 : decode cX3_passAll 1 = .ok (.istore_n 2, 1) := dc_at daX3_passAll_0 1 rfl
theorem dX3_passAll_2 : decode cX3_passAll 2 = .ok (.iload_n 2, 1) := dc_at daX3_passAll_0 2 rfl
theorem dX3_passAll_3 : decode cX3_passAll 3 = .ok (.aload_n 1, 1) := dc_at daX3_passAll_0 3 rfl
theorem dX3_passAll_4 : decode cX3_passAll 4 = .ok (.getfield 116, 3) := dc_at daX3_passAll_0 4 rfl
theorem dX3_passAll_7 : decode cX3_passAll 7 = .ok (.if_icmp .ge 40, 3) := dc_at daX3_passAll_0 5 rfl
theorem dX3_passAll_10 : decode cX3_passAll 10 = .ok (.aload_n 1, 1) := dc_at daX3_passAll_0 6 rfl
theorem dX3_passAll_11 : decode cX3_passAll 11 = .ok (.iload_n 2, 1) := dc_at daX3_passAll_0 7 rfl
theorem dX3_passAll_12 : decode cX3_passAll 12 = .ok (.invokevirtual 121, 3) := dc_at daX3_passAll_0 8 rfl
theorem dX3_passAll_15 : decode cX3_passAll 15 = .ok (.lstore_n 3, 1) := dc_at daX3_passAll_0 9 rfl
theorem dX3_passAll_16 : decode cX3_passAll 16 = .ok (.aload_n 0, 1) := dc_at daX3_passAll_0 10 rfl
theorem dX3_passAll_17 : decode cX3_passAll 17 = .ok (.lload_n 3, 1) := dc_at daX3_passAll_0 11 rfl
theorem dX3_passAll_18 : decode cX3_passAll 18 = .ok (.invokevirtual 125, 3) := dc_at daX3_passAll_0 12 rfl
theorem dX3_passAll_21 : decode cX3_passAll 21 = .ok (.ifCond .eq 5, 3) := dc_at daX3_passAll_0 13 rfl
theorem dX3_passAll_24 : decode cX3_passAll 24 = .ok (.iload_n 2, 1) := dc_at daX3_passAll_0 14 rfl
theorem dX3_passAll_25 : decode cX3_passAll 25 = .ok (.ireturn, 1) := dc_at daX3_passAll_0 15 rfl
theorem dX3_passAll_26 : decode cX3_passAll 26 = .ok (.aload_n 0, 1) := dc_at daX3_passAll_0 16 rfl
theorem dX3_passAll_27 : decode cX3_passAll 27 = .ok (.aload_n 0, 1) := dc_at daX3_passAll_0 17 rfl
theorem dX3_passAll_28 : decode cX3_passAll 28 = .ok (.aload_n 0, 1) := dc_at daX3_passAll_0 18 rfl
theorem dX3_passAll_29 : decode cX3_passAll 29 = .ok (.getfield 43, 3) := dc_at daX3_passAll_0 19 rfl
theorem dX3_passAll_32 : decode cX3_passAll 32 = .ok (.lload_n 3, 1) := dc_at daX3_passAll_0 20 rfl
theorem dX3_passAll_33 : decode cX3_passAll 33 = .ok (.invokevirtual 112, 3) := dc_at daX3_passAll_0 21 rfl
theorem dX3_passAll_36 : decode cX3_passAll 36 = .ok (.iconst 1, 1) := dc_at daX3_passAll_0 22 rfl
theorem dX3_passAll_37 : decode cX3_passAll 37 = .ok (.invokevirtual 129, 3) := dc_at daX3_passAll_0 23 rfl
def dlX3_passAll_1 : List (Nat × Jvm.ClassFile.Instr × Nat) := [(40, .pop, 1), (41, .iinc 2 1, 3), (44, .goto (-42), 3), (47, .aload_n 1, 1), (48, .getfield 116, 3), (51, .ireturn, 1)]
theorem daX3_passAll_1 : dlX3_passAll_1.all (dcK cX3_passAll) = true := by decide +kernel
theorem dX3_passAll_40 : decode cX3_passAll 40 = .ok (.pop, 1) := dc_at daX3_passAll_1 0 rfl
theorem dX3_passAll_41 : decode cX3_passAll 41 = .ok (.iinc 2 1, 3) := dc_at daX3_passAll_1 1 rfl
theorem dX3_passAll_44 : decode cX3_passAll 44 = .ok (.goto (-42), 3) := dc_at daX3_passAll_1 2 rfl
theorem dX3_passAll_47 : decode cX3_passAll 47 = .ok (.aload_n 1, 1) := dc_at daX3_passAll_1 3 rfl
theorem dX3_passAll_48 : decode cX3_passAll 48 = .ok (.getfield 116, 3) := dc_at daX3_passAll_1 4 rfl
theorem dX3_passAll_51 : decode cX3_passAll 51 = .ok (.ireturn, 1) := dc_at daX3_passAll_1 5 rfl
def dlX4_init_0 : List (Nat × Jvm.ClassFile.Instr × Nat) := [(0, .aload_n 0, 1), (1, .invokespecial 3, 3), (4, .aload_n 0, 1), (5, .iconst 1, 1), (6, .putfield 9, 3), (9, .aload_n 0, 1), (10, .iconst 0, 1), (11, .putfield 15, 3), (14, .aload_n 0, 1), (15, .iconst 0, 1), (16, .putfield 19, 3), (19, .aload_n 0, 1), (20, .bipush 40, 2), (22, .newarray .long, 2), (24, .putfield 22, 3), (27, .return_, 1)]
theorem daX4_init_0 : dlX4_init_0.all (dcK cX4_init) = true := by decide +kernel
theorem dX4_init_0 : decode cX4_init 0 = .ok (.aload_n 0, 1) := dc_at daX4_init_0 0 rfl
theorem dX4_init_1 : decode cX4_init 1 = .ok (.invokespecial 3, 3) := dc_at daX4_init_0 1 rfl
theorem dX4_init_4 : decode cX4_init 4 = .ok (.aload_n 0, 1) := dc_at daX4_init_0 2 rfl
theorem dX4_init_5 : decode cX4_init 5 = .ok (.iconst 1, 1) := dc_at daX4_init_0 3 rfl
theorem dX4_init_6 : decode cX4_init 6 = .ok (.putfield 9, 3) := dc_at daX4_init_0 4 rfl
theorem dX4_init_9 : decode cX4_init 9 = .ok (.aload_n 0, 1) := dc_at daX4_init_0 5 rfl
theorem dX4_init_10 : decode cX4_init 10 = .ok (.iconst 0, 1) := dc_at daX4_init_0 6 rfl
theorem dX4_init_11 : decode cX4_init 11 = .ok (.putfield 15, 3) := dc_at daX4_init_0 7 rfl
theorem dX4_init_14 : decode cX4_init 14 = .ok (.aload_n 0, 1) := dc_at daX4_init_0 8 rfl
theorem dX4_init_15 : decode cX4_init 15 = .ok (.iconst 0, 1) := dc_at daX4_init_0 9 rfl
theorem dX4_init_16 : decode cX4_init 16 = .ok (.putfield 19, 3) := dc_at daX4_init_0 10 rfl
theorem dX4_init_19 : decode cX4_init 19 = .ok (.aload_n 0, 1) := dc_at daX4_init_0 11 rfl
theorem dX4_init_20 : decode cX4_init 20 = .ok (.bipush 40, 2) := dc_at daX4_init_0 12 rfl
theorem dX4_init_22 : decode cX4_init 22 = .ok (.newarray .long, 2) := dc_at daX4_init_0 13 rfl
theorem dX4_init_24 : decode cX4_init 24 = .ok (.putfield 22, 3) := dc_at daX4_init_0 14 rfl
theorem dX4_init_27 : decode cX4_init 27 = .ok (.return_, 1) := dc_at daX4_init_0 15 rfl
def dlX4_renew_0 : List (Nat × Jvm.ClassFile.Instr × Nat) := [(0, .aload_n 0, 1), (1, .iconst 0, 1), (2, .putfield 9, 3), (5, .aload_n 0, 1), (6, .iload_n 1, 1), (7, .putfield 15, 3), (10, .aload_n 0, 1), (11, .iconst 0, 1), (12, .iload_n 2, 1), (13, .bipush 40, 2), (15, .invokestatic 26, 3), (18, .invokestatic 32, 3), (21, .putfield 19, 3), (24, .aload_n 0, 1), (25, .getfield 22, 3), (28, .lconst 0, 1), (29, .invokestatic 35, 3), (32, .return_, 1)]
theorem daX4_renew_0 : dlX4_renew_0.all (dcK cX4_renew) = true := by decide +kernel
theorem dX4_renew_0 : decode cX4_renew 0 = .ok (.aload_n 0, 1) := dc_at daX4_renew_0 0 rfl
theorem dX4_renew_1 : decode cX4_renew 1 = .ok (.iconst 0, 1) := dc_at daX4_renew_0 1 rfl
theorem dX4_renew_2 : decode cX4_renew 2 = .ok (.putfield 9, 3) := dc_at daX4_renew_0 2 rfl
theorem dX4_renew_5 : decode cX4_renew 5 = .ok (.aload_n 0, 1) := dc_at daX4_renew_0 3 rfl
theorem dX4_renew_6 : decode cX4_renew 6 = .ok (.iload_n 1, 1) := dc_at daX4_renew_0 4 rfl
theorem dX4_renew_7 : decode cX4_renew 7 = .ok (.putfield 15, 3) := dc_at daX4_renew_0 5 rfl
theorem dX4_renew_10 : decode cX4_renew 10 = .ok (.aload_n 0, 1) := dc_at daX4_renew_0 6 rfl
theorem dX4_renew_11 : decode cX4_renew 11 = .ok (.iconst 0, 1) := dc_at daX4_renew_0 7 rfl
theorem dX4_renew_12 : decode cX4_renew 12 = .ok (.iload_n 2, 1) := dc_at daX4_renew_0 8 rfl
theorem dX4_renew_13 : decode cX4_renew 13 = .ok (.bipush 40, 2) := dc_at daX4_renew_0 9 rfl
theorem dX4_renew_15 : decode cX4_renew 15 = .ok (.invokestatic 26, 3) := dc_at daX4_renew_0 10 rfl
theorem dX4_renew_18 : decode cX4_renew 18 = .ok (.invokestatic 32, 3) := dc_at daX4_renew_0 11 rfl
theorem dX4_renew_21 : decode cX4_renew 21 = .ok (.putfield 19, 3) := dc_at daX4_renew_0 12 rfl
theorem dX4_renew_24 : decode cX4_renew 24 = .ok (.aload_n 0, 1) := dc_at daX4_renew_0 13 rfl
theorem dX4_renew_25 : decode cX4_renew 25 = .ok (.getfield 22, 3) := dc_at daX4_renew_0 14 rfl
theorem dX4_renew_28 : decode cX4_renew 28 = .ok (.lconst 0, 1) := dc_at daX4_renew_0 15 rfl
theorem dX4_renew_29 : decode cX4_renew 29 = .ok (.invokestatic 35, 3) := dc_at daX4_renew_0 16 rfl
theorem dX4_renew_32 : decode cX4_renew 32 = .ok (.return_, 1) := dc_at daX4_renew_0 17 rfl
def dlX4_valueAt_0 : List (Nat × Jvm.ClassFile.Instr × Nat) := [(0, .iload_n 1, 1), (1, .ifCond .lt 20, 3), (4, .iload_n 1, 1), (5, .aload_n 0, 1), (6, .getfield 19, 3), (9, .if_icmp .ge 12, 3), (12, .aload_n 0, 1), (13, .getfield 22, 3), (16, .iload_n 1, 1), (17, .laload, 1), (18, .goto 6, 3), (21, .ldc2_w 41, 3), (24, .lreturn, 1)]
theorem daX4_valueAt_0 : dlX4_valueAt_0.all (dcK cX4_valueAt) = true := by decide +kernel
theorem dX4_valueAt_0 : decode cX4_valueAt 0 = .ok (.iload_n 1, 1) := dc_at daX4_valueAt_0 0 rfl
theorem dX4_valueAt_1 : decode cX4_valueAt 1 = .ok (.ifCond .lt 20, 3) := dc_at daX4_valueAt_0 1 rfl
theorem dX4_valueAt_4 : decode cX4_valueAt 4 = .ok (.iload_n 1, 1) := dc_at daX4_valueAt_0 2 rfl
theorem dX4_valueAt_5 : decode cX4_valueAt 5 = .ok (.aload_n 0, 1) := dc_at daX4_valueAt_0 3 rfl
theorem dX4_valueAt_6 : decode cX4_valueAt 6 = .ok (.getfield 19, 3) := dc_at daX4_valueAt_0 4 rfl
theorem dX4_valueAt_9 : decode cX4_valueAt 9 = .ok (.if_icmp .ge 12, 3) := dc_at daX4_valueAt_0 5 rfl
theorem dX4_valueAt_12 : decode cX4_valueAt 12 = .ok (.aload_n 0, 1) := dc_at daX4_valueAt_0 6 rfl
theorem dX4_valueAt_13 : decode cX4_valueAt 13 = .ok (.getfield 22, 3) := dc_at daX4_valueAt_0 7 rfl
theorem dX4_valueAt_16 : decode cX4_valueAt 16 = .ok (.iload_n 1, 1) := dc_at daX4_valueAt_0 8 rfl
theorem dX4_valueAt_17 : decode cX4_valueAt 17 = .ok (.laload, 1) := dc_at daX4_valueAt_0 9 rfl
theorem dX4_valueAt_18 : decode cX4_valueAt 18 = .ok (.goto 6, 3) := dc_at daX4_valueAt_0 10 rfl
theorem dX4_valueAt_21 : decode cX4_valueAt 21 = .ok (.ldc2_w 41, 3) := dc_at daX4_valueAt_0 11 rfl
theorem dX4_valueAt_24 : decode cX4_valueAt 24 = .ok (.lreturn, 1) := dc_at daX4_valueAt_0 12 rfl
def dlX4_put_0 : List (Nat × Jvm.ClassFile.Instr × Nat) := [(0, .iload_n 1, 1), (1, .ifCond .lt 11, 3), (4, .iload_n 1, 1), (5, .aload_n 0, 1), (6, .getfield 19, 3), (9, .if_icmp .lt 7, 3), (12, .ldc2_w 43, 3), (15, .lreturn, 1), (16, .aload_n 0, 1), (17, .getfield 22, 3), (20, .iload_n 1, 1), (21, .aload_n 0, 1), (22, .lload_n 2, 1), (23, .invokevirtual 45, 3), (26, .lastore, 1), (27, .aload_n 0, 1), (28, .getfield 22, 3), (31, .iload_n 1, 1), (32, .laload, 1), (33, .lreturn, 1)]
theorem daX4_put_0 : dlX4_put_0.all (dcK cX4_put) = true := by decide +kernel
theorem dX4_put_0 : decode cX4_put 0 = .ok (.iload_n 1, 1) := dc_at daX4_put_0 0 rfl
theorem dX4_put_1 : decode cX4_put 1 = .ok (.ifCond .lt 11, 3) := dc_at daX4_put_0 1 rfl
theorem dX4_put_4 : decode cX4_put 4 = .ok (.iload_n 1, 1) := dc_at daX4_put_0 2 rfl
theorem dX4_put_5 : decode cX4_put 5 = .ok (.aload_n 0, 1) := dc_at daX4_put_0 3 rfl
theorem dX4_put_6 : decode cX4_put 6 = .ok (.getfield 19, 3) := dc_at daX4_put_0 4 rfl
theorem dX4_put_9 : decode cX4_put 9 = .ok (.if_icmp .lt 7, 3) := dc_at daX4_put_0 5 rfl
theorem dX4_put_12 : decode cX4_put 12 = .ok (.ldc2_w 43, 3) := dc_at daX4_put_0 6 rfl
theorem dX4_put_15 : decode cX4_put 15 = .ok (.lreturn, 1) := dc_at daX4_put_0 7 rfl
theorem dX4_put_16 : decode cX4_put 16 = .ok (.aload_n 0, 1) := dc_at daX4_put_0 8 rfl
theorem dX4_put_17 : decode cX4_put 17 = .ok (.getfield 22, 3) := dc_at daX4_put_0 9 rfl
theorem dX4_put_20 : decode cX4_put 20 = .ok (.iload_n 1, 1) := dc_at daX4_put_0 10 rfl
theorem dX4_put_21 : decode cX4_put 21 = .ok (.aload_n 0, 1) := dc_at daX4_put_0 11 rfl
theorem dX4_put_22 : decode cX4_put 22 = .ok (.lload_n 2, 1) := dc_at daX4_put_0 12 rfl
theorem dX4_put_23 : decode cX4_put 23 = .ok (.invokevirtual 45, 3) := dc_at daX4_put_0 13 rfl
theorem dX4_put_26 : decode cX4_put 26 = .ok (.lastore, 1) := dc_at daX4_put_0 14 rfl
theorem dX4_put_27 : decode cX4_put 27 = .ok (.aload_n 0, 1) := dc_at daX4_put_0 15 rfl
theorem dX4_put_28 : decode cX4_put 28 = .ok (.getfield 22, 3) := dc_at daX4_put_0 16 rfl
theorem dX4_put_31 : decode cX4_put 31 = .ok (.iload_n 1, 1) := dc_at daX4_put_0 17 rfl
theorem dX4_put_32 : decode cX4_put 32 = .ok (.laload, 1) := dc_at daX4_put_0 18 rfl
theorem dX4_put_33 : decode cX4_put 33 = .ok (.lreturn, 1) := dc_at daX4_put_0 19 rfl
def dlX4_cut_0 : List (Nat × Jvm.ClassFile.Instr × Nat) := [(0, .aload_n 0, 1), (1, .getfield 15, 3), (4, .tableswitch 42 0 2 #[28, 33, 38], 28), (32, .lload_n 1, 1), (33, .l2i, 1), (34, .i2b, 1), (35, .i2l, 1), (36, .lreturn, 1), (37, .lload_n 1, 1), (38, .l2i, 1), (39, .i2s, 1), (40, .i2l, 1), (41, .lreturn, 1), (42, .lload_n 1, 1), (43, .l2i, 1), (44, .i2l, 1), (45, .lreturn, 1), (46, .lload_n 1, 1), (47, .lreturn, 1)]
theorem daX4_cut_0 : dlX4_cut_0.all (dcK cX4_cut) = true := by decide +kernel
theorem dX4_cut_0 : decode cX4_cut 0 = .ok (.aload_n 0, 1) := dc_at daX4_cut_0 0 rfl
theorem dX4_cut_1 : decode cX4_cut 1 = .ok (.getfield 15, 3) := dc_at daX4_cut_0 1 rfl
theorem dX4_cut_4 : decode cX4_cut 4 = .ok (.tableswitch 42 0 2 #[28, 33, 38], 28) := dc_at daX4_cut_0 2 rfl
theorem dX4_cut_32 : decode cX4_cut 32 = .ok (.lload_n 1, 1) := dc_at daX4_cut_0 3 rfl
theorem dX4_cut_33 : decode cX4_cut 33 = .ok (.l2i, 1) := dc_at daX4_cut_0 4 rfl
theorem dX4_cut_34 : decode cX4_cut 34 = .ok (.i2b, 1) := dc_at daX4_cut_0 5 rfl
theorem dX4_cut_35 : decode cX4_cut 35 = .ok (.i2l, 1) := dc_at daX4_cut_0 6 rfl
theorem dX4_cut_36 : decode cX4_cut 36 = .ok (.lreturn, 1) := dc_at daX4_cut_0 7 rfl
theorem dX4_cut_37 : decode cX4_cut 37 = .ok (.lload_n 1, 1) := dc_at daX4_cut_0 8 rfl
theorem dX4_cut_38 : decode cX4_cut 38 = .ok (.l2i, 1) := dc_at daX4_cut_0 9 rfl
theorem dX4_cut_39 : decode cX4_cut 39 = .ok (.i2s, 1) := dc_at daX4_cut_0 10 rfl
theorem dX4_cut_40 : decode cX4_cut 40 = .ok (.i2l, 1) := dc_at daX4_cut_0 11 rfl
theorem dX4_cut_41 : decode cX4_cut 41 = .ok (.lreturn, 1) := dc_at daX4_cut_0 12 rfl
theorem dX4_cut_42 : decode cX4_cut 42 = .ok (.lload_n 1, 1) := dc_at daX4_cut_0 13 rfl
theorem dX4_cut_43 : decode cX4_cut 43 = .ok (.l2i, 1) := dc_at daX4_cut_0 14 rfl
theorem dX4_cut_44 : decode cX4_cut 44 = .ok (.i2l, 1) := dc_at daX4_cut_0 15 rfl
theorem dX4_cut_45 : decode cX4_cut 45 = .ok (.lreturn, 1) := dc_at daX4_cut_0 16 rfl
theorem dX4_cut_46 : decode cX4_cut 46 = .ok (.lload_n 1, 1) := dc_at daX4_cut_0 17 rfl
theorem dX4_cut_47 : decode cX4_cut 47 = .ok (.lreturn, 1) := dc_at daX4_cut_0 18 rfl
def dlX5_init_0 : List (Nat × Jvm.ClassFile.Instr × Nat) := [(0, .aload_n 0, 1), (1, .invokespecial 3, 3), (4, .aload_n 0, 1), (5, .sipush 256, 3), (8, .newarray .int, 2), (10, .putfield 9, 3), (13, .aload_n 0, 1), (14, .sipush 256, 3), (17, .newarray .int, 2), (19, .putfield 15, 3), (22, .aload_n 0, 1), (23, .bipush 16, 2), (25, .newarray .int, 2), (27, .putfield 18, 3), (30, .aload_n 0, 1), (31, .bipush 16, 2), (33, .newarray .int, 2), (35, .putfield 21, 3), (38, .aload_n 0, 1), (39, .sipush 256, 3), (42, .newarray .int, 2), (44, .putfield 24, 3), (47, .return_, 1)]
theorem daX5_init_0 : dlX5_init_0.all (dcK cX5_init) = true := by decide +kernel
theorem dX5_init_0 : decode cX5_init 0 = .ok (.aload_n 0, 1) := dc_at daX5_init_0 0 rfl
theorem dX5_init_1 : decode cX5_init 1 = .ok (.invokespecial 3, 3) := dc_at daX5_init_0 1 rfl
theorem dX5_init_4 : decode cX5_init 4 = .ok (.aload_n 0, 1) := dc_at daX5_init_0 2 rfl
theorem dX5_init_5 : decode cX5_init 5 = .ok (.sipush 256, 3) := dc_at daX5_init_0 3 rfl
theorem dX5_init_8 : decode cX5_init 8 = .ok (.newarray .int, 2) := dc_at daX5_init_0 4 rfl
theorem dX5_init_10 : decode cX5_init 10 = .ok (.putfield 9, 3) := dc_at daX5_init_0 5 rfl
theorem dX5_init_13 : decode cX5_init 13 = .ok (.aload_n 0, 1) := dc_at daX5_init_0 6 rfl
theorem dX5_init_14 : decode cX5_init 14 = .ok (.sipush 256, 3) := dc_at daX5_init_0 7 rfl
theorem dX5_init_17 : decode cX5_init 17 = .ok (.newarray .int, 2) := dc_at daX5_init_0 8 rfl
theorem dX5_init_19 : decode cX5_init 19 = .ok (.putfield 15, 3) := dc_at daX5_init_0 9 rfl
theorem dX5_init_22 : decode cX5_init 22 = .ok (.aload_n 0, 1) := dc_at daX5_init_0 10 rfl
theorem dX5_init_23 : decode cX5_init 23 = .ok (.bipush 16, 2) := dc_at daX5_init_0 11 rfl
theorem dX5_init_25 : decode cX5_init 25 = .ok (.newarray .int, 2) := dc_at daX5_init_0 12 rfl
theorem dX5_init_27 : decode cX5_init 27 = .ok (.putfield 18, 3) := dc_at daX5_init_0 13 rfl
theorem dX5_init_30 : decode cX5_init 30 = .ok (.aload_n 0, 1) := dc_at daX5_init_0 14 rfl
theorem dX5_init_31 : decode cX5_init 31 = .ok (.bipush 16, 2) := dc_at daX5_init_0 15 rfl
theorem dX5_init_33 : decode cX5_init 33 = .ok (.newarray .int, 2) := dc_at daX5_init_0 16 rfl
theorem dX5_init_35 : decode cX5_init 35 = .ok (.putfield 21, 3) := dc_at daX5_init_0 17 rfl
theorem dX5_init_38 : decode cX5_init 38 = .ok (.aload_n 0, 1) := dc_at daX5_init_0 18 rfl
theorem dX5_init_39 : decode cX5_init 39 = .ok (.sipush 256, 3) := dc_at daX5_init_0 19 rfl
theorem dX5_init_42 : decode cX5_init 42 = .ok (.newarray .int, 2) := dc_at daX5_init_0 20 rfl
theorem dX5_init_44 : decode cX5_init 44 = .ok (.putfield 24, 3) := dc_at daX5_init_0 21 rfl
theorem dX5_init_47 : decode cX5_init 47 = .ok (.return_, 1) := dc_at daX5_init_0 22 rfl
def dlX5_seekAll_0 : List (Nat × Jvm.ClassFile.Instr × Nat) := [(0, .aload_n 1, 1), (1, .aload_n 0, 1), (2, .getfield 9, 3), (5, .iconst (-1), 1), (6, .invokevirtual 27, 3), (9, .aload_n 1, 1), (10, .aload_n 0, 1), (11, .getfield 15, 3), (14, .iconst 1, 1), (15, .invokevirtual 27, 3), (18, .aload_n 0, 1), (19, .getfield 24, 3), (22, .iconst 0, 1), (23, .invokestatic 33, 3), (26, .aload_n 2, 1), (27, .iload_n 3, 1), (28, .invokevirtual 38, 3), (31, .istore 4, 2), (33, .aload_n 2, 1), (34, .iload_n 3, 1), (35, .invokevirtual 44, 3), (38, .istore 5, 2), (40, .iload 5, 2), (42, .iload 4, 2)]
theorem daX5_seekAll_0 : dlX5_seekAll_0.all (dcK cX5_seekAll) = true := by decide +kernel
theorem dX5_seekAll_0 : decode cX5_seekAll 0 = .ok (.aload_n 1, 1) := dc_at daX5_seekAll_0 0 rfl
theorem dX5_seekAll_1 : decode cX5_seekAll 1 = .ok (.aload_n 0, 1) := dc_at daX5_seekAll_0 1 rfl
theorem dX5_seekAll_2 : decode cX5_seekAll 2 = .ok (.getfield 9, 3) := dc_at daX5_seekAll_0 2 rfl
theorem dX5_seekAll_5 : decode cX5_seekAll 5 = .ok (.iconst (-1), 1) := dc_at daX5_seekAll_0 3 rfl
theorem dX5_seekAll_6 : decode cX5_seekAll 6 = .ok (.invokevirtual 27, 3) := dc_at daX5_seekAll_0 4 rfl
theorem dX5_seekAll_9 : decode cX5_seekAll 9 = .ok (.aload_n 1, 1) := dc_at daX5_seekAll_0 5 rfl
theorem dX5_seekAll_10 : decode cX5_seekAll 10 = .ok (.aload_n 0, 1) := dc_at daX5_seekAll_0 6 rfl
theorem dX5_seekAll_11 : decode cX5_seekAll 11 = .ok (.getfield 15, 3) := dc_at daX5_seekAll_0 7 rfl
theorem dX5_seekAll_14 : decode cX5_seekAll 14 = .ok (.iconst 1, 1) := dc_at daX5_seekAll_0 8 rfl
theorem dX5_seekAll_15 : decode cX5_seekAll 15 = .ok (.invokevirtual 27, 3) := dc_at daX5_seekAll_0 9 rfl
theorem dX5_seekAll_18 : decode cX5_seekAll 18 = .ok (.aload_n 0, 1) := dc_at daX5_seekAll_0 10 rfl
theorem dX5_seekAll_19 : decode cX5_seekAll 19 = .ok (.getfield 24, 3) := dc_at daX5_seekAll_0 11 rfl
theorem dX5_seekAll_22 : decode cX5_seekAll 22 = .ok (.iconst 0, 1) := dc_at daX5_seekAll_0 12 rfl
theorem dX5_seekAll_23 : decode cX5_seekAll 23 = .ok (.invokestatic 33, 3) := dc_at daX5_seekAll_0 13 rfl
theorem dX5_seekAll_26 : decode cX5_seekAll 26 = .ok (.aload_n 2, 1) := dc_at daX5_seekAll_0 14 rfl
theorem dX5_seekAll_27 : decode cX5_seekAll 27 = .ok (.iload_n 3, 1) := dc_at daX5_seekAll_0 15 rfl
theorem dX5_seekAll_28 : decode cX5_seekAll 28 = .ok (.invokevirtual 38, 3) := dc_at daX5_seekAll_0 16 rfl
theorem dX5_seekAll_31 : decode cX5_seekAll 31 = .ok (.istore 4, 2) := dc_at daX5_seekAll_0 17 rfl
theorem dX5_seekAll_33 : decode cX5_seekAll 33 = .ok (.aload_n 2, 1) := dc_at daX5_seekAll_0 18 rfl
theorem dX5_seekAll_34 : decode cX5_seekAll 34 = .ok (.iload_n 3, 1) := dc_at daX5_seekAll_0 19 rfl
theorem dX5_seekAll_35 : decode cX5_seekAll 35 = .ok (.invokevirtual 44, 3) := dc_at daX5_seekAll_0 20 rfl
theorem dX5_seekAll_38 : decode cX5_seekAll 38 = .ok (.istore 5, 2) := dc_at daX5_seekAll_0 21 rfl
theorem dX5_seekAll_40 : decode cX5_seekAll 40 = .ok (.iload 5, 2) := dc_at daX5_seekAll_0 22 rfl
theorem dX5_seekAll_42 : decode cX5_seekAll 42 = .ok (.iload 4, 2) := dc_at daX5_seekAll_0 23 rfl
def dlX5_seekAll_1 : List (Nat × Jvm.ClassFile.Instr × Nat) := [(44, .if_icmp .ge 35, 3), (47, .aload_n 2, 1), (48, .getfield 47, 3), (51, .iload 5, 2), (53, .baload, 1), (54, .ifCond .ne 19, 3), (57, .aload_n 1, 1), (58, .aload_n 2, 1), (59, .getfield 51, 3), (62, .iload 5, 2), (64, .laload, 1), (65, .invokevirtual 55, 3), (68, .aload_n 0, 1), (69, .aload_n 1, 1), (70, .invokevirtual 59, 3), (73, .iinc 5 1, 3), (76, .goto (-36), 3), (79, .return_, 1)]
theorem daX5_seekAll_1 : dlX5_seekAll_1.all (dcK cX5_seekAll) = true := by decide +kernel
theorem dX5_seekAll_44 : decode cX5_seekAll 44 = .ok (.if_icmp .ge 35, 3) := dc_at daX5_seekAll_1 0 rfl
theorem dX5_seekAll_47 : decode cX5_seekAll 47 = .ok (.aload_n 2, 1) := dc_at daX5_seekAll_1 1 rfl
theorem dX5_seekAll_48 : decode cX5_seekAll 48 = .ok (.getfield 47, 3) := dc_at daX5_seekAll_1 2 rfl
theorem dX5_seekAll_51 : decode cX5_seekAll 51 = .ok (.iload 5, 2) := dc_at daX5_seekAll_1 3 rfl
theorem dX5_seekAll_53 : decode cX5_seekAll 53 = .ok (.baload, 1) := dc_at daX5_seekAll_1 4 rfl
theorem dX5_seekAll_54 : decode cX5_seekAll 54 = .ok (.ifCond .ne 19, 3) := dc_at daX5_seekAll_1 5 rfl
theorem dX5_seekAll_57 : decode cX5_seekAll 57 = .ok (.aload_n 1, 1) := dc_at daX5_seekAll_1 6 rfl
theorem dX5_seekAll_58 : decode cX5_seekAll 58 = .ok (.aload_n 2, 1) := dc_at daX5_seekAll_1 7 rfl
theorem dX5_seekAll_59 : decode cX5_seekAll 59 = .ok (.getfield 51, 3) := dc_at daX5_seekAll_1 8 rfl
theorem dX5_seekAll_62 : decode cX5_seekAll 62 = .ok (.iload 5, 2) := dc_at daX5_seekAll_1 9 rfl
theorem dX5_seekAll_64 : decode cX5_seekAll 64 = .ok (.laload, 1) := dc_at daX5_seekAll_1 10 rfl
theorem dX5_seekAll_65 : decode cX5_seekAll 65 = .ok (.invokevirtual 55, 3) := dc_at daX5_seekAll_1 11 rfl
theorem dX5_seekAll_68 : decode cX5_seekAll 68 = .ok (.aload_n 0, 1) := dc_at daX5_seekAll_1 12 rfl
theorem dX5_seekAll_69 : decode cX5_seekAll 69 = .ok (.aload_n 1, 1) := dc_at daX5_seekAll_1 13 rfl
theorem dX5_seekAll_70 : decode cX5_seekAll 70 = .ok (.invokevirtual 59, 3) := dc_at daX5_seekAll_1 14 rfl
theorem dX5_seekAll_73 : decode cX5_seekAll 73 = .ok (.iinc 5 1, 3) := dc_at daX5_seekAll_1 15 rfl
theorem dX5_seekAll_76 : decode cX5_seekAll 76 = .ok (.goto (-36), 3) := dc_at daX5_seekAll_1 16 rfl
theorem dX5_seekAll_79 : decode cX5_seekAll 79 = .ok (.return_, 1) := dc_at daX5_seekAll_1 17 rfl
def dlX5_weigh_0 : List (Nat × Jvm.ClassFile.Instr × Nat) := [(0, .aload_n 1, 1), (1, .getfield 63, 3), (4, .getfield 67, 3), (7, .istore_n 2, 1), (8, .iconst 0, 1), (9, .istore_n 3, 1), (10, .iconst 0, 1), (11, .istore 4, 2), (13, .iload 4, 2), (15, .iload_n 2, 1), (16, .if_icmp .ge 66, 3), (19, .aload_n 1, 1), (20, .aload_n 1, 1), (21, .getfield 73, 3), (24, .iload 4, 2), (26, .invokevirtual 76, 3), (29, .istore 5, 2), (31, .aload_n 0, 1), (32, .getfield 18, 3), (35, .iload 4, 2), (37, .aload_n 1, 1), (38, .aload_n 0, 1), (39, .getfield 9, 3), (42, .iload 4, 2)]
theorem daX5_weigh_0 : dlX5_weigh_0.all (dcK cX5_weigh) = true := by decide +kernel
theorem dX5_weigh_0 : decode cX5_weigh 0 = .ok (.aload_n 1, 1) := dc_at daX5_weigh_0 0 rfl
theorem dX5_weigh_1 : decode cX5_weigh 1 = .ok (.getfield 63, 3) := dc_at daX5_weigh_0 1 rfl
theorem dX5_weigh_4 : decode cX5_weigh 4 = .ok (.getfield 67, 3) := dc_at daX5_weigh_0 2 rfl
theorem dX5_weigh_7 : decode cX5_weigh 7 = .ok (.istore_n 2, 1) := dc_at daX5_weigh_0 3 rfl
theorem dX5_weigh_8 : decode cX5_weigh 8 = .ok (.iconst 0, 1) := dc_at daX5_weigh_0 4 rfl
theorem dX5_weigh_9 : decode cX5_weigh 9 = .ok (.istore_n 3, 1) := dc_at daX5_weigh_0 5 rfl
theorem dX5_weigh_10 : decode cX5_weigh 10 = .ok (.iconst 0, 1) := dc_at daX5_weigh_0 6 rfl
theorem dX5_weigh_11 : decode cX5_weigh 11 = .ok (.istore 4, 2) := dc_at daX5_weigh_0 7 rfl
theorem dX5_weigh_13 : decode cX5_weigh 13 = .ok (.iload 4, 2) := dc_at daX5_weigh_0 8 rfl
theorem dX5_weigh_15 : decode cX5_weigh 15 = .ok (.iload_n 2, 1) := dc_at daX5_weigh_0 9 rfl
theorem dX5_weigh_16 : decode cX5_weigh 16 = .ok (.if_icmp .ge 66, 3) := dc_at daX5_weigh_0 10 rfl
theorem dX5_weigh_19 : decode cX5_weigh 19 = .ok (.aload_n 1, 1) := dc_at daX5_weigh_0 11 rfl
theorem dX5_weigh_20 : decode cX5_weigh 20 = .ok (.aload_n 1, 1) := dc_at daX5_weigh_0 12 rfl
theorem dX5_weigh_21 : decode cX5_weigh 21 = .ok (.getfield 73, 3) := dc_at daX5_weigh_0 13 rfl
theorem dX5_weigh_24 : decode cX5_weigh 24 = .ok (.iload 4, 2) := dc_at daX5_weigh_0 14 rfl
theorem dX5_weigh_26 : decode cX5_weigh 26 = .ok (.invokevirtual 76, 3) := dc_at daX5_weigh_0 15 rfl
theorem dX5_weigh_29 : decode cX5_weigh 29 = .ok (.istore 5, 2) := dc_at daX5_weigh_0 16 rfl
theorem dX5_weigh_31 : decode cX5_weigh 31 = .ok (.aload_n 0, 1) := dc_at daX5_weigh_0 17 rfl
theorem dX5_weigh_32 : decode cX5_weigh 32 = .ok (.getfield 18, 3) := dc_at daX5_weigh_0 18 rfl
theorem dX5_weigh_35 : decode cX5_weigh 35 = .ok (.iload 4, 2) := dc_at daX5_weigh_0 19 rfl
theorem dX5_weigh_37 : decode cX5_weigh 37 = .ok (.aload_n 1, 1) := dc_at daX5_weigh_0 20 rfl
theorem dX5_weigh_38 : decode cX5_weigh 38 = .ok (.aload_n 0, 1) := dc_at daX5_weigh_0 21 rfl
theorem dX5_weigh_39 : decode cX5_weigh 39 = .ok (.getfield 9, 3) := dc_at daX5_weigh_0 22 rfl
theorem dX5_weigh_42 : decode cX5_weigh 42 = .ok (.iload 4, 2) := dc_at daX5_weigh_0 23 rfl
def dlX5_weigh_1 : List (Nat × Jvm.ClassFile.Instr × Nat) := [(44, .invokevirtual 76, 3), (47, .iload 5, 2), (49, .isub, 1), (50, .iastore, 1), (51, .aload_n 0, 1), (52, .getfield 21, 3), (55, .iload 4, 2), (57, .aload_n 1, 1), (58, .aload_n 0, 1), (59, .getfield 15, 3), (62, .iload 4, 2), (64, .invokevirtual 76, 3), (67, .iload 5, 2), (69, .isub, 1), (70, .iastore, 1), (71, .iload_n 3, 1), (72, .iload 5, 2), (74, .iadd, 1), (75, .istore_n 3, 1), (76, .iinc 4 1, 3), (79, .goto (-66), 3), (82, .iconst 0, 1), (83, .istore 4, 2), (85, .iload 4, 2)]
theorem daX5_weigh_1 : dlX5_weigh_1.all (dcK cX5_weigh) = true := by decide +kernel
theorem dX5_weigh_44 : decode cX5_weigh 44 = .ok (.invokevirtual 76, 3) := dc_at daX5_weigh_1 0 rfl
theorem dX5_weigh_47 : decode cX5_weigh 47 = .ok (.iload 5, 2) := dc_at daX5_weigh_1 1 rfl
theorem dX5_weigh_49 : decode cX5_weigh 49 = .ok (.isub, 1) := dc_at daX5_weigh_1 2 rfl
theorem dX5_weigh_50 : decode cX5_weigh 50 = .ok (.iastore, 1) := dc_at daX5_weigh_1 3 rfl
theorem dX5_weigh_51 : decode cX5_weigh 51 = .ok (.aload_n 0, 1) := dc_at daX5_weigh_1 4 rfl
theorem dX5_weigh_52 : decode cX5_weigh 52 = .ok (.getfield 21, 3) := dc_at daX5_weigh_1 5 rfl
theorem dX5_weigh_55 : decode cX5_weigh 55 = .ok (.iload 4, 2) := dc_at daX5_weigh_1 6 rfl
theorem dX5_weigh_57 : decode cX5_weigh 57 = .ok (.aload_n 1, 1) := dc_at daX5_weigh_1 7 rfl
theorem dX5_weigh_58 : decode cX5_weigh 58 = .ok (.aload_n 0, 1) := dc_at daX5_weigh_1 8 rfl
theorem dX5_weigh_59 : decode cX5_weigh 59 = .ok (.getfield 15, 3) := dc_at daX5_weigh_1 9 rfl
theorem dX5_weigh_62 : decode cX5_weigh 62 = .ok (.iload 4, 2) := dc_at daX5_weigh_1 10 rfl
theorem dX5_weigh_64 : decode cX5_weigh 64 = .ok (.invokevirtual 76, 3) := dc_at daX5_weigh_1 11 rfl
theorem dX5_weigh_67 : decode cX5_weigh 67 = .ok (.iload 5, 2) := dc_at daX5_weigh_1 12 rfl
