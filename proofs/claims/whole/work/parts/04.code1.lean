/-! The code as rows of blocks: the pc, the instructions, the call or return at its end; printed by a program of ours. -/
def b_60 : mB := [
  (0, [(.iload_n 1, 1, (0, 0, 0), .null), (.iconst (-1), 1, (0, 0, 0), .int (-1)), (.if_icmp .ne (12), 3, (14, 0, 0), .null)], none),
  (5, [(.iload_n 2, 1, (0, 0, 0), .null), (.ifCond .ne (8), 3, (14, 0, 0), .null)], none),
  (9, [(.aload_n 0, 1, (0, 0, 0), .null), (.getfield 21, 3, (3, 3, 0), .null)], some (.ireturn, 1, (0, 0, 0), .null)),
  (14, [(.iload_n 1, 1, (0, 0, 0), .null), (.iconst (0), 1, (0, 0, 0), .int 0), (.aload_n 0, 1, (0, 0, 0), .null), (.getfield 21, 3, (3, 3, 0), .null), (.iconst (1), 1, (0, 0, 0), .int 1), (.isub, 1, (0, 0, 0), .null)], some (.invokestatic 31, 3, (17, 3, 0), .null)),
  (25, [(.ifCond .ne (6), 3, (31, 0, 0), .null)], none),
  (28, [(.bipush (-2), 2, (0, 0, 0), .int (-2))], some (.ireturn, 1, (0, 0, 0), .null)),
  (31, [(.iload_n 2, 1, (0, 0, 0), .null), (.tableswitch (49) (0) (2) #[28, 35, 42], 28, (0, 0, 0), .null)], none),
  (60, [(.aload_n 0, 1, (0, 0, 0), .null), (.getfield 9, 3, (3, 0, 3), .null), (.iload_n 1, 1, (0, 0, 0), .null), (.iaload, 1, (100, 0, 0), .null)], some (.ireturn, 1, (0, 0, 0), .null)),
  (67, [(.aload_n 0, 1, (0, 0, 0), .null), (.getfield 15, 3, (3, 1, 3), .null), (.iload_n 1, 1, (0, 0, 0), .null), (.iaload, 1, (100, 0, 0), .null)], some (.ireturn, 1, (0, 0, 0), .null)),
  (74, [(.aload_n 0, 1, (0, 0, 0), .null), (.getfield 18, 3, (3, 2, 3), .null), (.iload_n 1, 1, (0, 0, 0), .null), (.iaload, 1, (100, 0, 0), .null)], some (.ireturn, 1, (0, 0, 0), .null)),
  (81, [(.bipush (-2), 2, (0, 0, 0), .int (-2))], some (.ireturn, 1, (0, 0, 0), .null))]
def b_61 : mB := [
  (0, [(.aload_n 0, 1, (0, 0, 0), .null), (.getfield 10, 3, (0, 0, 3), .null), (.iload_n 1, 1, (0, 0, 0), .null)], some (.invokevirtual 101, 3, (53, 1, 0), .null)),
  (8, [(.astore_n 3, 1, (0, 0, 0), .null), (.aload_n 0, 1, (0, 0, 0), .null), (.getfield 10, 3, (0, 0, 3), .null), (.iload_n 2, 1, (0, 0, 0), .null)], some (.invokevirtual 111, 3, (59, 1, 0), .null)),
  (17, [(.astore 4, 2, (0, 0, 0), .null), (.aload_n 3, 1, (0, 0, 0), .null), (.ifnull (8), 3, (28, 0, 0), .null)], none),
  (23, [(.aload 4, 2, (0, 0, 0), .null), (.ifnonnull (5), 3, (30, 0, 0), .null)], none),
  (28, [(.iconst (-1), 1, (0, 0, 0), .int (-1))], some (.ireturn, 1, (0, 0, 0), .null)),
  (30, [(.aload_n 0, 1, (0, 0, 0), .null), (.getfield 34, 3, (0, 4, 3), .null), (.aload_n 3, 1, (0, 0, 0), .null), (.aload 4, 2, (0, 0, 0), .null), (.aload 4, 2, (0, 0, 0), .null), (.getfield 120, 3, (3, 3, 0), .null)], some (.invokevirtual 123, 3, (62, 3, 0), .null)),
  (45, [], some (.ireturn, 1, (0, 0, 0), .null))]
def b_62 : mB := [
  (0, [(.aload_n 0, 1, (0, 0, 0), .null), (.aload_n 1, 1, (0, 0, 0), .null)], some (.invokevirtual 76, 3, (63, 1, 0), .null)),
  (5, [(.aload_n 0, 1, (0, 0, 0), .null)], some (.invokevirtual 80, 3, (64, 0, 0), .null)),
  (9, [(.iconst (0), 1, (0, 0, 0), .int 0), (.istore 4, 2, (0, 0, 0), .null)], none),
  (12, [(.iload 4, 2, (0, 0, 0), .null), (.iload_n 3, 1, (0, 0, 0), .null), (.if_icmp .ge (77), 3, (92, 0, 0), .null)], none),
  (18, [(.iload 4, 2, (0, 0, 0), .null), (.aload_n 2, 1, (0, 0, 0), .null), (.getfield 83, 3, (3, 3, 0), .null), (.if_icmp .ge (68), 3, (92, 0, 0), .null)], none),
  (27, [(.aload_n 0, 1, (0, 0, 0), .null), (.aload_n 2, 1, (0, 0, 0), .null), (.getfield 88, 3, (3, 0, 3), .null), (.iload 4, 2, (0, 0, 0), .null), (.iaload, 1, (100, 0, 0), .null), (.aload_n 2, 1, (0, 0, 0), .null), (.getfield 91, 3, (3, 1, 3), .null), (.iload 4, 2, (0, 0, 0), .null), (.iaload, 1, (100, 0, 0), .null), (.aload_n 2, 1, (0, 0, 0), .null), (.getfield 94, 3, (3, 2, 3), .null), (.iload 4, 2, (0, 0, 0), .null), (.iaload, 1, (100, 0, 0), .null)], some (.invokevirtual 97, 3, (67, 3, 0), .null)),
  (52, [(.ifCond .ne (6), 3, (58, 0, 0), .null)], none),
  (55, [(.iload 4, 2, (0, 0, 0), .null)], some (.ireturn, 1, (0, 0, 0), .null)),
  (58, [(.aload_n 2, 1, (0, 0, 0), .null), (.getfield 88, 3, (3, 0, 3), .null), (.iload 4, 2, (0, 0, 0), .null), (.iaload, 1, (100, 0, 0), .null), (.ifCond .ne (17), 3, (82, 0, 0), .null)], none),
  (68, [(.aload_n 0, 1, (0, 0, 0), .null), (.getfield 70, 3, (7, 12, 0), .null), (.iconst (-1), 1, (0, 0, 0), .int (-1)), (.if_icmp .ne (9), 3, (82, 0, 0), .null)], none),
  (76, [(.aload_n 0, 1, (0, 0, 0), .null), (.iload 4, 2, (0, 0, 0), .null), (.putfield 70, 3, (7, 12, 0), .null)], none),
  (82, [(.aload_n 0, 1, (0, 0, 0), .null)], some (.invokevirtual 80, 3, (64, 0, 0), .null)),
  (86, [(.iinc 4 (1), 3, (0, 0, 0), .int 1), (.goto (-77), 3, (12, 0, 0), .null)], none),
  (92, [(.iload_n 3, 1, (0, 0, 0), .null), (.aload_n 2, 1, (0, 0, 0), .null), (.getfield 83, 3, (3, 3, 0), .null), (.invokestatic 101, 3, (3, 0, 0), .null)], some (.ireturn, 1, (0, 0, 0), .null))]
def b_63 : mB := [
  (0, [(.aload_n 0, 1, (0, 0, 0), .null), (.aload_n 1, 1, (0, 0, 0), .null), (.putfield 21, 3, (7, 3, 3), .null), (.aload_n 1, 1, (0, 0, 0), .null), (.getfield 25, 3, (2, 3, 3), .null), (.iconst (0), 1, (0, 0, 0), .int 0), (.aload_n 0, 1, (0, 0, 0), .null), (.getfield 9, 3, (7, 0, 3), .null), (.iconst (0), 1, (0, 0, 0), .int 0), (.bipush (6), 2, (0, 0, 0), .int 6), (.invokestatic 26, 3, (5, 0, 0), .null), (.aload_n 0, 1, (0, 0, 0), .null), (.getfield 15, 3, (7, 2, 3), .null), (.iconst (-1), 1, (0, 0, 0), .int (-1))], some (.invokestatic 32, 3, (4, 2, 0), .null)),
  (28, [(.aload_n 0, 1, (0, 0, 0), .null), (.iconst (0), 1, (0, 0, 0), .int 0), (.putfield 38, 3, (7, 4, 0), .null), (.aload_n 0, 1, (0, 0, 0), .null), (.iconst (0), 1, (0, 0, 0), .int 0), (.putfield 42, 3, (7, 1, 0), .null), (.aload_n 0, 1, (0, 0, 0), .null), (.iconst (0), 1, (0, 0, 0), .int 0), (.putfield 45, 3, (7, 5, 0), .null), (.aload_n 0, 1, (0, 0, 0), .null), (.aload_n 1, 1, (0, 0, 0), .null), (.getfield 48, 3, (2, 8, 0), .null), (.putfield 51, 3, (7, 6, 0), .null), (.aload_n 0, 1, (0, 0, 0), .null), (.iconst (0), 1, (0, 0, 0), .int 0), (.putfield 54, 3, (7, 7, 1), .null), (.aload_n 0, 1, (0, 0, 0), .null), (.iconst (0), 1, (0, 0, 0), .int 0), (.putfield 58, 3, (7, 8, 0), .null), (.aload_n 0, 1, (0, 0, 0), .null), (.iconst (0), 1, (0, 0, 0), .int 0), (.putfield 61, 3, (7, 9, 0), .null), (.aload_n 0, 1, (0, 0, 0), .null), (.iconst (-1), 1, (0, 0, 0), .int (-1)), (.putfield 64, 3, (7, 10, 0), .null), (.aload_n 0, 1, (0, 0, 0), .null), (.iconst (0), 1, (0, 0, 0), .int 0), (.putfield 67, 3, (7, 11, 0), .null), (.aload_n 0, 1, (0, 0, 0), .null), (.iconst (-1), 1, (0, 0, 0), .int (-1)), (.putfield 70, 3, (7, 12, 0), .null), (.aload_n 0, 1, (0, 0, 0), .null), (.iconst (0), 1, (0, 0, 0), .int 0), (.putfield 73, 3, (7, 13, 0), .null)], some (.return_, 1, (0, 0, 0), .null))]
def b_64 : mB := [
  (0, [(.iconst (0), 1, (0, 0, 0), .int 0), (.istore_n 1, 1, (0, 0, 0), .null)], none),
  (2, [(.iload_n 1, 1, (0, 0, 0), .null), (.bipush (6), 2, (0, 0, 0), .int 6), (.if_icmp .ge (30), 3, (35, 0, 0), .null)], none),
  (8, [(.aload_n 0, 1, (0, 0, 0), .null), (.getfield 9, 3, (7, 0, 3), .null), (.iload_n 1, 1, (0, 0, 0), .null), (.iaload, 1, (100, 0, 0), .null), (.ifCond .ne (15), 3, (29, 0, 0), .null)], none),
  (17, [(.aload_n 0, 1, (0, 0, 0), .null), (.dup, 1, (0, 0, 0), .null), (.getfield 73, 3, (7, 13, 0), .null), (.iconst (1), 1, (0, 0, 0), .int 1), (.iload_n 1, 1, (0, 0, 0), .null), (.ishl, 1, (0, 0, 0), .null), (.ior, 1, (0, 0, 0), .null), (.putfield 73, 3, (7, 13, 0), .null)], none),
  (29, [(.iinc 1 (1), 3, (0, 0, 0), .int 1), (.goto (-30), 3, (2, 0, 0), .null)], none),
  (35, [(.iconst (0), 1, (0, 0, 0), .int 0), (.istore_n 1, 1, (0, 0, 0), .null)], none),
  (37, [(.iload_n 1, 1, (0, 0, 0), .null), (.aload_n 0, 1, (0, 0, 0), .null), (.getfield 21, 3, (7, 3, 3), .null), (.getfield 107, 3, (2, 7, 0), .null), (.if_icmp .ge (36), 3, (81, 0, 0), .null)], none),
  (48, [(.aload_n 0, 1, (0, 0, 0), .null), (.iload_n 1, 1, (0, 0, 0), .null)], some (.invokevirtual 110, 3, (65, 1, 0), .null)),
  (53, [], some (.invokestatic 114, 3, (66, 1, 0), .null)),
  (56, [(.istore_n 2, 1, (0, 0, 0), .null), (.iload_n 2, 1, (0, 0, 0), .null), (.aload_n 0, 1, (0, 0, 0), .null), (.getfield 67, 3, (7, 11, 0), .null), (.if_icmp .le (13), 3, (75, 0, 0), .null)], none),
  (65, [(.aload_n 0, 1, (0, 0, 0), .null), (.iload_n 2, 1, (0, 0, 0), .null), (.putfield 67, 3, (7, 11, 0), .null), (.aload_n 0, 1, (0, 0, 0), .null), (.iload_n 1, 1, (0, 0, 0), .null), (.putfield 64, 3, (7, 10, 0), .null)], none),
  (75, [(.iinc 1 (1), 3, (0, 0, 0), .int 1), (.goto (-41), 3, (37, 0, 0), .null)], none),
  (81, [], some (.return_, 1, (0, 0, 0), .null))]
def b_65 : mB := [
  (0, [(.iconst (0), 1, (0, 0, 0), .int 0), (.istore_n 2, 1, (0, 0, 0), .null), (.iconst (0), 1, (0, 0, 0), .int 0), (.istore_n 3, 1, (0, 0, 0), .null)], none),
  (4, [(.iload_n 3, 1, (0, 0, 0), .null), (.aload_n 0, 1, (0, 0, 0), .null), (.getfield 21, 3, (7, 3, 3), .null), (.getfield 155, 3, (2, 6, 0), .null), (.if_icmp .ge (30), 3, (42, 0, 0), .null)], none),
  (15, [(.aload_n 0, 1, (0, 0, 0), .null), (.getfield 15, 3, (7, 2, 3), .null), (.iload_n 1, 1, (0, 0, 0), .null), (.bipush (8), 2, (0, 0, 0), .int 8), (.imul, 1, (0, 0, 0), .null), (.iload_n 3, 1, (0, 0, 0), .null), (.iadd, 1, (0, 0, 0), .null), (.iaload, 1, (100, 0, 0), .null), (.iconst (-1), 1, (0, 0, 0), .int (-1)), (.if_icmp .eq (9), 3, (36, 0, 0), .null)], none),
  (30, [(.iload_n 2, 1, (0, 0, 0), .null), (.iconst (1), 1, (0, 0, 0), .int 1), (.iload_n 3, 1, (0, 0, 0), .null), (.ishl, 1, (0, 0, 0), .null), (.ior, 1, (0, 0, 0), .null), (.istore_n 2, 1, (0, 0, 0), .null)], none),
  (36, [(.iinc 3 (1), 3, (0, 0, 0), .int 1), (.goto (-35), 3, (4, 0, 0), .null)], none),
  (42, [(.iload_n 2, 1, (0, 0, 0), .null)], some (.ireturn, 1, (0, 0, 0), .null))]
def b_66 : mB := [
  (0, [(.iload_n 0, 1, (0, 0, 0), .null), (.iload_n 0, 1, (0, 0, 0), .null), (.iconst (1), 1, (0, 0, 0), .int 1), (.iushr, 1, (0, 0, 0), .null), (.ldc_w 265, 3, (0, 0, 0), .int 1431655765), (.iand, 1, (0, 0, 0), .null), (.isub, 1, (0, 0, 0), .null), (.istore_n 0, 1, (0, 0, 0), .null), (.iload_n 0, 1, (0, 0, 0), .null), (.ldc_w 266, 3, (0, 0, 0), .int 858993459), (.iand, 1, (0, 0, 0), .null), (.iload_n 0, 1, (0, 0, 0), .null), (.iconst (2), 1, (0, 0, 0), .int 2), (.iushr, 1, (0, 0, 0), .null), (.ldc_w 266, 3, (0, 0, 0), .int 858993459), (.iand, 1, (0, 0, 0), .null), (.iadd, 1, (0, 0, 0), .null), (.istore_n 0, 1, (0, 0, 0), .null), (.iload_n 0, 1, (0, 0, 0), .null), (.iload_n 0, 1, (0, 0, 0), .null), (.iconst (4), 1, (0, 0, 0), .int 4), (.iushr, 1, (0, 0, 0), .null), (.iadd, 1, (0, 0, 0), .null), (.ldc_w 267, 3, (0, 0, 0), .int 252645135), (.iand, 1, (0, 0, 0), .null), (.istore_n 0, 1, (0, 0, 0), .null), (.iload_n 0, 1, (0, 0, 0), .null), (.iload_n 0, 1, (0, 0, 0), .null), (.bipush (8), 2, (0, 0, 0), .int 8), (.iushr, 1, (0, 0, 0), .null), (.iadd, 1, (0, 0, 0), .null), (.istore_n 0, 1, (0, 0, 0), .null), (.iload_n 0, 1, (0, 0, 0), .null), (.iload_n 0, 1, (0, 0, 0), .null), (.bipush (16), 2, (0, 0, 0), .int 16), (.iushr, 1, (0, 0, 0), .null), (.iadd, 1, (0, 0, 0), .null), (.istore_n 0, 1, (0, 0, 0), .null), (.iload_n 0, 1, (0, 0, 0), .null), (.bipush (63), 2, (0, 0, 0), .int 63), (.iand, 1, (0, 0, 0), .null)], some (.ireturn, 1, (0, 0, 0), .null))]
def b_67 : mB := [
  (0, [(.iload_n 1, 1, (0, 0, 0), .null), (.tableswitch (75) (0) (5) #[39, 45, 51, 57, 64, 69], 39, (0, 0, 0), .null)], none),
  (40, [(.aload_n 0, 1, (0, 0, 0), .null), (.iload_n 2, 1, (0, 0, 0), .null)], some (.invokevirtual 135, 3, (68, 1, 0), .null)),
  (45, [], some (.ireturn, 1, (0, 0, 0), .null)),
  (46, [(.aload_n 0, 1, (0, 0, 0), .null), (.iload_n 2, 1, (0, 0, 0), .null)], some (.invokevirtual 138, 3, (72, 1, 0), .null)),
  (51, [], some (.ireturn, 1, (0, 0, 0), .null)),
  (52, [(.aload_n 0, 1, (0, 0, 0), .null), (.iload_n 2, 1, (0, 0, 0), .null)], some (.invokevirtual 141, 3, (73, 1, 0), .null)),
  (57, [], some (.ireturn, 1, (0, 0, 0), .null)),
  (58, [(.aload_n 0, 1, (0, 0, 0), .null), (.iload_n 2, 1, (0, 0, 0), .null), (.iload_n 3, 1, (0, 0, 0), .null)], some (.invokevirtual 144, 3, (74, 2, 0), .null)),
  (64, [], some (.ireturn, 1, (0, 0, 0), .null)),
  (65, [(.aload_n 0, 1, (0, 0, 0), .null)], some (.invokevirtual 148, 3, (75, 0, 0), .null)),
  (69, [], some (.ireturn, 1, (0, 0, 0), .null)),
  (70, [(.aload_n 0, 1, (0, 0, 0), .null)], some (.invokevirtual 152, 3, (76, 0, 0), .null)),
  (74, [(.iconst (1), 1, (0, 0, 0), .int 1)], some (.ireturn, 1, (0, 0, 0), .null)),
  (76, [(.iconst (0), 1, (0, 0, 0), .int 0)], some (.ireturn, 1, (0, 0, 0), .null))]
def b_68 : mB := [
  (0, [(.aload_n 0, 1, (0, 0, 0), .null), (.getfield 21, 3, (7, 3, 3), .null), (.iload_n 1, 1, (0, 0, 0), .null)], some (.invokevirtual 132, 3, (56, 1, 0), .null)),
  (8, [(.ifCond .eq (14), 3, (22, 0, 0), .null)], none),
  (11, [(.aload_n 0, 1, (0, 0, 0), .null)], some (.invokevirtual 167, 3, (69, 0, 0), .null)),
  (15, [(.iload_n 1, 1, (0, 0, 0), .null)], some (.invokestatic 158, 3, (71, 2, 0), .null)),
  (19, [(.ifCond .ne (5), 3, (24, 0, 0), .null)], none),
  (22, [(.iconst (0), 1, (0, 0, 0), .int 0)], some (.ireturn, 1, (0, 0, 0), .null)),
  (24, [(.aload_n 0, 1, (0, 0, 0), .null), (.dup, 1, (0, 0, 0), .null), (.getfield 42, 3, (7, 1, 0), .null), (.iconst (1), 1, (0, 0, 0), .int 1), (.iload_n 1, 1, (0, 0, 0), .null), (.ishl, 1, (0, 0, 0), .null), (.ior, 1, (0, 0, 0), .null), (.putfield 42, 3, (7, 1, 0), .null), (.aload_n 0, 1, (0, 0, 0), .null), (.dup, 1, (0, 0, 0), .null), (.getfield 51, 3, (7, 6, 0), .null), (.aload_n 0, 1, (0, 0, 0), .null), (.getfield 21, 3, (7, 3, 3), .null), (.getfield 161, 3, (2, 0, 3), .null), (.iload_n 1, 1, (0, 0, 0), .null), (.iaload, 1, (100, 0, 0), .null), (.isub, 1, (0, 0, 0), .null), (.putfield 51, 3, (7, 6, 0), .null), (.aload_n 0, 1, (0, 0, 0), .null), (.getfield 9, 3, (7, 0, 3), .null), (.aload_n 0, 1, (0, 0, 0), .null), (.getfield 21, 3, (7, 3, 3), .null), (.getfield 164, 3, (2, 1, 3), .null), (.iload_n 1, 1, (0, 0, 0), .null), (.iaload, 1, (100, 0, 0), .null), (.dup2, 1, (0, 0, 0), .null), (.iaload, 1, (100, 0, 0), .null), (.iconst (1), 1, (0, 0, 0), .int 1), (.isub, 1, (0, 0, 0), .null), (.iastore, 1, (100, 0, 0), .null), (.iconst (1), 1, (0, 0, 0), .int 1)], some (.ireturn, 1, (0, 0, 0), .null))]
def b_69 : mB := [
  (0, [(.aload_n 0, 1, (0, 0, 0), .null), (.getfield 54, 3, (7, 7, 1), .null), (.ifCond .eq (7), 3, (11, 0, 0), .null)], none),
  (7, [(.iconst (0), 1, (0, 0, 0), .int 0), (.goto (19), 3, (27, 0, 0), .null)], none),
  (11, [(.aload_n 0, 1, (0, 0, 0), .null), (.getfield 21, 3, (7, 3, 3), .null), (.aload_n 0, 1, (0, 0, 0), .null), (.getfield 42, 3, (7, 1, 0), .null), (.aload_n 0, 1, (0, 0, 0), .null), (.getfield 45, 3, (7, 5, 0), .null), (.ior, 1, (0, 0, 0), .null)], some (.invokevirtual 119, 3, (70, 1, 0), .null)),
  (27, [(.istore_n 1, 1, (0, 0, 0), .null), (.iconst (0), 1, (0, 0, 0), .int 0), (.istore_n 2, 1, (0, 0, 0), .null), (.iconst (0), 1, (0, 0, 0), .int 0), (.istore_n 3, 1, (0, 0, 0), .null)], none),
  (32, [(.iload_n 3, 1, (0, 0, 0), .null), (.aload_n 0, 1, (0, 0, 0), .null), (.getfield 21, 3, (7, 3, 3), .null), (.getfield 155, 3, (2, 6, 0), .null), (.if_icmp .ge (56), 3, (96, 0, 0), .null)], none),
  (43, [(.iload_n 1, 1, (0, 0, 0), .null), (.iload_n 3, 1, (0, 0, 0), .null)], some (.invokestatic 158, 3, (71, 2, 0), .null)),
  (48, [(.ifCond .eq (42), 3, (90, 0, 0), .null)], none),
  (51, [(.aload_n 0, 1, (0, 0, 0), .null), (.getfield 21, 3, (7, 3, 3), .null), (.getfield 161, 3, (2, 0, 3), .null), (.iload_n 3, 1, (0, 0, 0), .null), (.iaload, 1, (100, 0, 0), .null), (.aload_n 0, 1, (0, 0, 0), .null), (.getfield 51, 3, (7, 6, 0), .null), (.if_icmp .gt (26), 3, (90, 0, 0), .null)], none),
  (67, [(.aload_n 0, 1, (0, 0, 0), .null), (.getfield 9, 3, (7, 0, 3), .null), (.aload_n 0, 1, (0, 0, 0), .null), (.getfield 21, 3, (7, 3, 3), .null), (.getfield 164, 3, (2, 1, 3), .null), (.iload_n 3, 1, (0, 0, 0), .null), (.iaload, 1, (100, 0, 0), .null), (.iaload, 1, (100, 0, 0), .null), (.ifCond .le (9), 3, (90, 0, 0), .null)], none),
  (84, [(.iload_n 2, 1, (0, 0, 0), .null), (.iconst (1), 1, (0, 0, 0), .int 1), (.iload_n 3, 1, (0, 0, 0), .null), (.ishl, 1, (0, 0, 0), .null), (.ior, 1, (0, 0, 0), .null), (.istore_n 2, 1, (0, 0, 0), .null)], none),
  (90, [(.iinc 3 (1), 3, (0, 0, 0), .int 1), (.goto (-61), 3, (32, 0, 0), .null)], none),
  (96, [(.iload_n 2, 1, (0, 0, 0), .null)], some (.ireturn, 1, (0, 0, 0), .null))]
def b_70 : mB := [
  (0, [(.iconst (0), 1, (0, 0, 0), .int 0), (.istore_n 2, 1, (0, 0, 0), .null), (.iconst (0), 1, (0, 0, 0), .int 0), (.istore_n 3, 1, (0, 0, 0), .null)], none),
  (4, [(.iload_n 3, 1, (0, 0, 0), .null), (.aload_n 0, 1, (0, 0, 0), .null), (.getfield 39, 3, (2, 6, 0), .null), (.if_icmp .ge (36), 3, (45, 0, 0), .null)], none),
  (12, [(.iload_n 1, 1, (0, 0, 0), .null), (.iload_n 3, 1, (0, 0, 0), .null), (.ishr, 1, (0, 0, 0), .null), (.iconst (1), 1, (0, 0, 0), .int 1), (.iand, 1, (0, 0, 0), .null), (.ifCond .ne (22), 3, (39, 0, 0), .null)], none),
  (20, [(.aload_n 0, 1, (0, 0, 0), .null), (.getfield 18, 3, (2, 2, 3), .null), (.iload_n 3, 1, (0, 0, 0), .null), (.iaload, 1, (100, 0, 0), .null), (.iload_n 1, 1, (0, 0, 0), .null), (.iconst (-1), 1, (0, 0, 0), .int (-1)), (.ixor, 1, (0, 0, 0), .null), (.iand, 1, (0, 0, 0), .null), (.ifCond .ne (9), 3, (39, 0, 0), .null)], none),
  (33, [(.iload_n 2, 1, (0, 0, 0), .null), (.iconst (1), 1, (0, 0, 0), .int 1), (.iload_n 3, 1, (0, 0, 0), .null), (.ishl, 1, (0, 0, 0), .null), (.ior, 1, (0, 0, 0), .null), (.istore_n 2, 1, (0, 0, 0), .null)], none),
  (39, [(.iinc 3 (1), 3, (0, 0, 0), .int 1), (.goto (-38), 3, (4, 0, 0), .null)], none),
  (45, [(.iload_n 2, 1, (0, 0, 0), .null)], some (.ireturn, 1, (0, 0, 0), .null))]
def b_71 : mB := [
  (0, [(.iload_n 0, 1, (0, 0, 0), .null), (.iload_n 1, 1, (0, 0, 0), .null), (.ishr, 1, (0, 0, 0), .null), (.iconst (1), 1, (0, 0, 0), .int 1), (.iand, 1, (0, 0, 0), .null), (.ifCond .eq (7), 3, (12, 0, 0), .null)], none),
  (8, [(.iconst (1), 1, (0, 0, 0), .int 1), (.goto (4), 3, (13, 0, 0), .null)], none),
  (12, [(.iconst (0), 1, (0, 0, 0), .int 0)], none),
  (13, [], some (.ireturn, 1, (0, 0, 0), .null))]
def b_72 : mB := [
  (0, [(.aload_n 0, 1, (0, 0, 0), .null), (.getfield 21, 3, (7, 3, 3), .null), (.iload_n 1, 1, (0, 0, 0), .null)], some (.invokevirtual 132, 3, (56, 1, 0), .null)),
  (8, [(.ifCond .eq (26), 3, (34, 0, 0), .null)], none),
  (11, [(.aload_n 0, 1, (0, 0, 0), .null), (.getfield 21, 3, (7, 3, 3), .null), (.aload_n 0, 1, (0, 0, 0), .null), (.getfield 42, 3, (7, 1, 0), .null), (.aload_n 0, 1, (0, 0, 0), .null), (.getfield 45, 3, (7, 5, 0), .null), (.ior, 1, (0, 0, 0), .null)], some (.invokevirtual 119, 3, (70, 1, 0), .null)),
  (27, [(.iload_n 1, 1, (0, 0, 0), .null)], some (.invokestatic 158, 3, (71, 2, 0), .null)),
  (31, [(.ifCond .ne (5), 3, (36, 0, 0), .null)], none),
  (34, [(.iconst (0), 1, (0, 0, 0), .int 0)], some (.ireturn, 1, (0, 0, 0), .null)),
  (36, [(.aload_n 0, 1, (0, 0, 0), .null), (.dup, 1, (0, 0, 0), .null), (.getfield 45, 3, (7, 5, 0), .null), (.iconst (1), 1, (0, 0, 0), .int 1), (.iload_n 1, 1, (0, 0, 0), .null), (.ishl, 1, (0, 0, 0), .null), (.ior, 1, (0, 0, 0), .null), (.putfield 45, 3, (7, 5, 0), .null), (.iconst (1), 1, (0, 0, 0), .int 1)], some (.ireturn, 1, (0, 0, 0), .null))]
def b_73 : mB := [
  (0, [(.iload_n 1, 1, (0, 0, 0), .null), (.iconst (0), 1, (0, 0, 0), .int 0), (.iconst (5), 1, (0, 0, 0), .int 5)], some (.invokestatic 125, 3, (17, 3, 0), .null)),
  (6, [(.ifCond .ne (5), 3, (11, 0, 0), .null)], none),
  (9, [(.iconst (0), 1, (0, 0, 0), .int 0)], some (.ireturn, 1, (0, 0, 0), .null)),
  (11, [(.aload_n 0, 1, (0, 0, 0), .null), (.getfield 9, 3, (7, 0, 3), .null), (.iload_n 1, 1, (0, 0, 0), .null), (.bipush (9), 2, (0, 0, 0), .int 9), (.aload_n 0, 1, (0, 0, 0), .null), (.getfield 9, 3, (7, 0, 3), .null), (.iload_n 1, 1, (0, 0, 0), .null), (.iaload, 1, (100, 0, 0), .null), (.iconst (2), 1, (0, 0, 0), .int 2), (.iadd, 1, (0, 0, 0), .null), (.invokestatic 101, 3, (3, 0, 0), .null), (.iastore, 1, (100, 0, 0), .null), (.aload_n 0, 1, (0, 0, 0), .null), (.dup, 1, (0, 0, 0), .null), (.getfield 58, 3, (7, 8, 0), .null), (.iconst (1), 1, (0, 0, 0), .int 1), (.iadd, 1, (0, 0, 0), .null), (.putfield 58, 3, (7, 8, 0), .null), (.iconst (1), 1, (0, 0, 0), .int 1)], some (.ireturn, 1, (0, 0, 0), .null))]
def b_74 : mB := [
  (0, [(.aload_n 0, 1, (0, 0, 0), .null), (.getfield 54, 3, (7, 7, 1), .null), (.ifCond .ne (36), 3, (40, 0, 0), .null)], none),
  (7, [(.aload_n 0, 1, (0, 0, 0), .null), (.getfield 21, 3, (7, 3, 3), .null), (.iload_n 1, 1, (0, 0, 0), .null)], some (.invokevirtual 132, 3, (56, 1, 0), .null)),
  (15, [(.ifCond .eq (25), 3, (40, 0, 0), .null)], none),
  (18, [(.aload_n 0, 1, (0, 0, 0), .null), (.getfield 21, 3, (7, 3, 3), .null), (.iload_n 2, 1, (0, 0, 0), .null)], some (.invokevirtual 128, 3, (57, 1, 0), .null)),
  (26, [(.ifCond .eq (14), 3, (40, 0, 0), .null)], none),
  (29, [(.aload_n 0, 1, (0, 0, 0), .null), (.getfield 42, 3, (7, 1, 0), .null), (.iload_n 1, 1, (0, 0, 0), .null)], some (.invokestatic 158, 3, (71, 2, 0), .null)),
  (37, [(.ifCond .ne (5), 3, (42, 0, 0), .null)], none),
  (40, [(.iconst (0), 1, (0, 0, 0), .int 0)], some (.ireturn, 1, (0, 0, 0), .null)),
  (42, [(.aload_n 0, 1, (0, 0, 0), .null), (.getfield 15, 3, (7, 2, 3), .null), (.iload_n 2, 1, (0, 0, 0), .null), (.bipush (8), 2, (0, 0, 0), .int 8), (.imul, 1, (0, 0, 0), .null), (.iload_n 1, 1, (0, 0, 0), .null), (.iadd, 1, (0, 0, 0), .null), (.iconst (0), 1, (0, 0, 0), .int 0), (.iastore, 1, (100, 0, 0), .null), (.iconst (1), 1, (0, 0, 0), .int 1)], some (.ireturn, 1, (0, 0, 0), .null))]
def b_75 : mB := [
  (0, [(.aload_n 0, 1, (0, 0, 0), .null), (.getfield 54, 3, (7, 7, 1), .null), (.ifCond .eq (5), 3, (9, 0, 0), .null)], none),
  (7, [(.iconst (0), 1, (0, 0, 0), .int 0)], some (.ireturn, 1, (0, 0, 0), .null)),
  (9, [(.aload_n 0, 1, (0, 0, 0), .null), (.iconst (1), 1, (0, 0, 0), .int 1), (.putfield 54, 3, (7, 7, 1), .null), (.iconst (1), 1, (0, 0, 0), .int 1)], some (.ireturn, 1, (0, 0, 0), .null))]
def b_76 : mB := [
  (0, [(.iconst (0), 1, (0, 0, 0), .int 0), (.istore_n 1, 1, (0, 0, 0), .null)], none),
  (2, [(.iload_n 1, 1, (0, 0, 0), .null), (.aload_n 0, 1, (0, 0, 0), .null), (.getfield 21, 3, (7, 3, 3), .null), (.getfield 155, 3, (2, 6, 0), .null), (.if_icmp .ge (14), 3, (24, 0, 0), .null)], none),
  (13, [(.aload_n 0, 1, (0, 0, 0), .null), (.iload_n 1, 1, (0, 0, 0), .null)], some (.invokevirtual 171, 3, (77, 1, 0), .null)),
  (18, [(.iinc 1 (1), 3, (0, 0, 0), .int 1), (.goto (-19), 3, (2, 0, 0), .null)], none),
  (24, [(.aload_n 0, 1, (0, 0, 0), .null)], some (.invokevirtual 175, 3, (79, 0, 0), .null)),
  (28, [], some (.return_, 1, (0, 0, 0), .null))]
def b_77 : mB := [
  (0, [(.aload_n 0, 1, (0, 0, 0), .null), (.iload_n 1, 1, (0, 0, 0), .null)], some (.invokevirtual 178, 3, (78, 1, 0), .null)),
  (5, [(.istore_n 2, 1, (0, 0, 0), .null), (.iconst (0), 1, (0, 0, 0), .int 0), (.istore_n 3, 1, (0, 0, 0), .null)], none),
  (8, [(.iload_n 3, 1, (0, 0, 0), .null), (.aload_n 0, 1, (0, 0, 0), .null), (.getfield 21, 3, (7, 3, 3), .null), (.getfield 107, 3, (2, 7, 0), .null), (.if_icmp .ge (98), 3, (114, 0, 0), .null)], none),
  (19, [(.iload_n 3, 1, (0, 0, 0), .null), (.bipush (8), 2, (0, 0, 0), .int 8), (.imul, 1, (0, 0, 0), .null), (.iload_n 1, 1, (0, 0, 0), .null), (.iadd, 1, (0, 0, 0), .null), (.istore 4, 2, (0, 0, 0), .null), (.iload_n 2, 1, (0, 0, 0), .null), (.iload_n 3, 1, (0, 0, 0), .null)], some (.invokestatic 158, 3, (71, 2, 0), .null)),
  (32, [(.ifCond .eq (54), 3, (86, 0, 0), .null)], none),
  (35, [(.aload_n 0, 1, (0, 0, 0), .null), (.getfield 15, 3, (7, 2, 3), .null), (.iload 4, 2, (0, 0, 0), .null), (.dup2, 1, (0, 0, 0), .null), (.iaload, 1, (100, 0, 0), .null), (.iconst (1), 1, (0, 0, 0), .int 1), (.iadd, 1, (0, 0, 0), .null), (.iastore, 1, (100, 0, 0), .null), (.aload_n 0, 1, (0, 0, 0), .null), (.getfield 15, 3, (7, 2, 3), .null), (.iload 4, 2, (0, 0, 0), .null), (.iaload, 1, (100, 0, 0), .null), (.aload_n 0, 1, (0, 0, 0), .null), (.getfield 21, 3, (7, 3, 3), .null), (.getfield 181, 3, (2, 4, 3), .null), (.iload_n 3, 1, (0, 0, 0), .null), (.iaload, 1, (100, 0, 0), .null), (.if_icmp .lt (46), 3, (108, 0, 0), .null)], none),
  (65, [(.aload_n 0, 1, (0, 0, 0), .null), (.getfield 15, 3, (7, 2, 3), .null), (.iload 4, 2, (0, 0, 0), .null), (.iconst (-1), 1, (0, 0, 0), .int (-1)), (.iastore, 1, (100, 0, 0), .null), (.aload_n 0, 1, (0, 0, 0), .null), (.dup, 1, (0, 0, 0), .null), (.getfield 61, 3, (7, 9, 0), .null), (.iconst (1), 1, (0, 0, 0), .int 1), (.iadd, 1, (0, 0, 0), .null), (.putfield 61, 3, (7, 9, 0), .null), (.goto (25), 3, (108, 0, 0), .null)], none),
  (86, [(.aload_n 0, 1, (0, 0, 0), .null), (.getfield 21, 3, (7, 3, 3), .null), (.getfield 184, 3, (2, 5, 3), .null), (.iload_n 3, 1, (0, 0, 0), .null), (.iaload, 1, (100, 0, 0), .null), (.iload_n 2, 1, (0, 0, 0), .null), (.iand, 1, (0, 0, 0), .null), (.ifCond .eq (11), 3, (108, 0, 0), .null)], none),
  (100, [(.aload_n 0, 1, (0, 0, 0), .null), (.getfield 15, 3, (7, 2, 3), .null), (.iload 4, 2, (0, 0, 0), .null), (.iconst (0), 1, (0, 0, 0), .int 0), (.iastore, 1, (100, 0, 0), .null)], none),
  (108, [(.iinc 3 (1), 3, (0, 0, 0), .int 1), (.goto (-103), 3, (8, 0, 0), .null)], none),
  (114, [], some (.return_, 1, (0, 0, 0), .null))]
def b_78 : mB := [
  (0, [(.iconst (0), 1, (0, 0, 0), .int 0), (.istore_n 2, 1, (0, 0, 0), .null), (.iconst (0), 1, (0, 0, 0), .int 0), (.istore_n 3, 1, (0, 0, 0), .null)], none),
  (4, [(.iload_n 3, 1, (0, 0, 0), .null), (.aload_n 0, 1, (0, 0, 0), .null), (.getfield 21, 3, (7, 3, 3), .null), (.getfield 107, 3, (2, 7, 0), .null), (.if_icmp .ge (30), 3, (42, 0, 0), .null)], none),
  (15, [(.aload_n 0, 1, (0, 0, 0), .null), (.getfield 15, 3, (7, 2, 3), .null), (.iload_n 3, 1, (0, 0, 0), .null), (.bipush (8), 2, (0, 0, 0), .int 8), (.imul, 1, (0, 0, 0), .null), (.iload_n 1, 1, (0, 0, 0), .null), (.iadd, 1, (0, 0, 0), .null), (.iaload, 1, (100, 0, 0), .null), (.iconst (-1), 1, (0, 0, 0), .int (-1)), (.if_icmp .eq (9), 3, (36, 0, 0), .null)], none),
  (30, [(.iload_n 2, 1, (0, 0, 0), .null), (.iconst (1), 1, (0, 0, 0), .int 1), (.iload_n 3, 1, (0, 0, 0), .null), (.ishl, 1, (0, 0, 0), .null), (.ior, 1, (0, 0, 0), .null), (.istore_n 2, 1, (0, 0, 0), .null)], none),
  (36, [(.iinc 3 (1), 3, (0, 0, 0), .int 1), (.goto (-35), 3, (4, 0, 0), .null)], none),
  (42, [(.iload_n 2, 1, (0, 0, 0), .null)], some (.ireturn, 1, (0, 0, 0), .null))]
def b_79 : mB := [
  (0, [(.aload_n 0, 1, (0, 0, 0), .null), (.iconst (0), 1, (0, 0, 0), .int 0), (.putfield 54, 3, (7, 7, 1), .null), (.aload_n 0, 1, (0, 0, 0), .null), (.aload_n 0, 1, (0, 0, 0), .null), (.getfield 21, 3, (7, 3, 3), .null), (.getfield 48, 3, (2, 8, 0), .null), (.putfield 51, 3, (7, 6, 0), .null), (.aload_n 0, 1, (0, 0, 0), .null), (.dup, 1, (0, 0, 0), .null), (.getfield 38, 3, (7, 4, 0), .null), (.iconst (1), 1, (0, 0, 0), .int 1), (.iadd, 1, (0, 0, 0), .null), (.putfield 38, 3, (7, 4, 0), .null)], some (.return_, 1, (0, 0, 0), .null))]
def b_80 : mB := [
  (0, [(.aload_n 0, 1, (0, 0, 0), .null), (.getfield 10, 3, (0, 0, 3), .null), (.iload_n 1, 1, (0, 0, 0), .null)], some (.invokevirtual 101, 3, (53, 1, 0), .null)),
  (8, [(.astore 5, 2, (0, 0, 0), .null), (.aload_n 0, 1, (0, 0, 0), .null), (.getfield 10, 3, (0, 0, 3), .null), (.iload_n 2, 1, (0, 0, 0), .null)], some (.invokevirtual 111, 3, (59, 1, 0), .null)),
  (18, [(.astore 6, 2, (0, 0, 0), .null), (.aload 5, 2, (0, 0, 0), .null), (.ifnull (21), 3, (43, 0, 0), .null)], none),
  (25, [(.aload 6, 2, (0, 0, 0), .null), (.ifnull (16), 3, (43, 0, 0), .null)], none),
  (30, [(.iload_n 3, 1, (0, 0, 0), .null), (.iconst (0), 1, (0, 0, 0), .int 0), (.aload 6, 2, (0, 0, 0), .null), (.getfield 120, 3, (3, 3, 0), .null)], some (.invokestatic 74, 3, (17, 3, 0), .null)),
  (40, [(.ifCond .ne (6), 3, (46, 0, 0), .null)], none),
  (43, [(.bipush (-2), 2, (0, 0, 0), .int (-2))], some (.ireturn, 1, (0, 0, 0), .null)),
  (46, [(.aload_n 0, 1, (0, 0, 0), .null), (.getfield 34, 3, (0, 4, 3), .null), (.aload 5, 2, (0, 0, 0), .null), (.aload 6, 2, (0, 0, 0), .null), (.iload_n 3, 1, (0, 0, 0), .null)], some (.invokevirtual 123, 3, (62, 3, 0), .null)),
  (58, [(.iload_n 3, 1, (0, 0, 0), .null), (.if_icmp .ge (8), 3, (67, 0, 0), .null)], none),
  (62, [(.bipush (-2), 2, (0, 0, 0), .int (-2)), (.goto (12), 3, (76, 0, 0), .null)], none),
  (67, [(.aload_n 0, 1, (0, 0, 0), .null), (.getfield 34, 3, (0, 4, 3), .null), (.iload 4, 2, (0, 0, 0), .null)], some (.invokevirtual 127, 3, (81, 1, 0), .null)),
  (76, [], some (.ireturn, 1, (0, 0, 0), .null))]
def b_81 : mB := [
  (0, [(.iload_n 1, 1, (0, 0, 0), .null), (.tableswitch (89) (0) (5) #[39, 44, 49, 54, 59, 72], 39, (0, 0, 0), .null)], none),
  (40, [(.aload_n 0, 1, (0, 0, 0), .null), (.getfield 38, 3, (7, 4, 0), .null)], some (.ireturn, 1, (0, 0, 0), .null)),
  (45, [(.aload_n 0, 1, (0, 0, 0), .null), (.getfield 42, 3, (7, 1, 0), .null)], some (.ireturn, 1, (0, 0, 0), .null)),
  (50, [(.aload_n 0, 1, (0, 0, 0), .null), (.getfield 45, 3, (7, 5, 0), .null)], some (.ireturn, 1, (0, 0, 0), .null)),
  (55, [(.aload_n 0, 1, (0, 0, 0), .null), (.getfield 51, 3, (7, 6, 0), .null)], some (.ireturn, 1, (0, 0, 0), .null)),
  (60, [(.aload_n 0, 1, (0, 0, 0), .null), (.getfield 54, 3, (7, 7, 1), .null), (.ifCond .eq (7), 3, (71, 0, 0), .null)], none),
  (67, [(.iconst (1), 1, (0, 0, 0), .int 1), (.goto (4), 3, (72, 0, 0), .null)], none),
  (71, [(.iconst (0), 1, (0, 0, 0), .int 0)], none),
  (72, [], some (.ireturn, 1, (0, 0, 0), .null)),
  (73, [(.aload_n 0, 1, (0, 0, 0), .null), (.getfield 21, 3, (7, 3, 3), .null), (.aload_n 0, 1, (0, 0, 0), .null), (.getfield 42, 3, (7, 1, 0), .null), (.aload_n 0, 1, (0, 0, 0), .null), (.getfield 45, 3, (7, 5, 0), .null), (.ior, 1, (0, 0, 0), .null)], some (.invokevirtual 119, 3, (70, 1, 0), .null)),
  (89, [], some (.ireturn, 1, (0, 0, 0), .null)),
  (90, [(.aload_n 0, 1, (0, 0, 0), .null), (.iload_n 1, 1, (0, 0, 0), .null)], some (.invokevirtual 122, 3, (82, 1, 0), .null)),
  (95, [], some (.ireturn, 1, (0, 0, 0), .null))]
def b_82 : mB := [
  (0, [(.iload_n 1, 1, (0, 0, 0), .null), (.bipush (10), 2, (0, 0, 0), .int 10), (.bipush (15), 2, (0, 0, 0), .int 15)], some (.invokestatic 125, 3, (17, 3, 0), .null)),
  (8, [(.ifCond .eq (13), 3, (21, 0, 0), .null)], none),
  (11, [(.aload_n 0, 1, (0, 0, 0), .null), (.getfield 9, 3, (7, 0, 3), .null), (.iload_n 1, 1, (0, 0, 0), .null), (.bipush (10), 2, (0, 0, 0), .int 10), (.isub, 1, (0, 0, 0), .null), (.iaload, 1, (100, 0, 0), .null)], some (.ireturn, 1, (0, 0, 0), .null)),
  (21, [(.iload_n 1, 1, (0, 0, 0), .null), (.bipush (20), 2, (0, 0, 0), .int 20), (.if_icmp .lt (26), 3, (50, 0, 0), .null)], none),
  (27, [(.aload_n 0, 1, (0, 0, 0), .null), (.getfield 21, 3, (7, 3, 3), .null), (.iload_n 1, 1, (0, 0, 0), .null), (.bipush (20), 2, (0, 0, 0), .int 20), (.isub, 1, (0, 0, 0), .null)], some (.invokevirtual 128, 3, (57, 1, 0), .null)),
  (38, [(.ifCond .eq (12), 3, (50, 0, 0), .null)], none),
  (41, [(.aload_n 0, 1, (0, 0, 0), .null), (.iload_n 1, 1, (0, 0, 0), .null), (.bipush (20), 2, (0, 0, 0), .int 20), (.isub, 1, (0, 0, 0), .null)], some (.invokevirtual 110, 3, (65, 1, 0), .null)),
  (49, [], some (.ireturn, 1, (0, 0, 0), .null)),
  (50, [(.iload_n 1, 1, (0, 0, 0), .null), (.bipush (100), 2, (0, 0, 0), .int 100), (.if_icmp .ge (6), 3, (59, 0, 0), .null)], none),
  (56, [(.bipush (-2), 2, (0, 0, 0), .int (-2))], some (.ireturn, 1, (0, 0, 0), .null)),
  (59, [(.iload_n 1, 1, (0, 0, 0), .null), (.bipush (100), 2, (0, 0, 0), .int 100), (.isub, 1, (0, 0, 0), .null), (.bipush (8), 2, (0, 0, 0), .int 8), (.idiv, 1, (0, 0, 0), .null), (.istore_n 2, 1, (0, 0, 0), .null), (.iload_n 1, 1, (0, 0, 0), .null), (.bipush (100), 2, (0, 0, 0), .int 100), (.isub, 1, (0, 0, 0), .null), (.bipush (8), 2, (0, 0, 0), .int 8), (.irem, 1, (0, 0, 0), .null), (.istore_n 3, 1, (0, 0, 0), .null), (.aload_n 0, 1, (0, 0, 0), .null), (.getfield 21, 3, (7, 3, 3), .null), (.iload_n 2, 1, (0, 0, 0), .null)], some (.invokevirtual 128, 3, (57, 1, 0), .null)),
  (83, [(.ifCond .eq (14), 3, (97, 0, 0), .null)], none),
  (86, [(.aload_n 0, 1, (0, 0, 0), .null), (.getfield 21, 3, (7, 3, 3), .null), (.iload_n 3, 1, (0, 0, 0), .null)], some (.invokevirtual 132, 3, (56, 1, 0), .null)),
  (94, [(.ifCond .ne (6), 3, (100, 0, 0), .null)], none),
  (97, [(.bipush (-2), 2, (0, 0, 0), .int (-2))], some (.ireturn, 1, (0, 0, 0), .null)),
  (100, [(.aload_n 0, 1, (0, 0, 0), .null), (.getfield 15, 3, (7, 2, 3), .null), (.iload_n 2, 1, (0, 0, 0), .null), (.bipush (8), 2, (0, 0, 0), .int 8), (.imul, 1, (0, 0, 0), .null), (.iload_n 3, 1, (0, 0, 0), .null), (.iadd, 1, (0, 0, 0), .null), (.iaload, 1, (100, 0, 0), .null)], some (.ireturn, 1, (0, 0, 0), .null))]
def b_83 : mB := [
  (0, [(.aload_n 0, 1, (0, 0, 0), .null), (.getfield 10, 3, (0, 0, 3), .null), (.iload_n 1, 1, (0, 0, 0), .null)], some (.invokevirtual 101, 3, (53, 1, 0), .null)),
  (8, [(.astore 4, 2, (0, 0, 0), .null), (.aload 4, 2, (0, 0, 0), .null), (.ifnull (13), 3, (25, 0, 0), .null)], none),
  (15, [(.iload_n 2, 1, (0, 0, 0), .null), (.iconst (0), 1, (0, 0, 0), .int 0), (.bipush (20), 2, (0, 0, 0), .int 20)], some (.invokestatic 74, 3, (17, 3, 0), .null)),
  (22, [(.ifCond .ne (5), 3, (27, 0, 0), .null)], none),
  (25, [(.iconst (-1), 1, (0, 0, 0), .int (-1))], some (.ireturn, 1, (0, 0, 0), .null)),
  (27, [(.aload_n 0, 1, (0, 0, 0), .null), (.getfield 41, 3, (0, 5, 3), .null), (.aload 4, 2, (0, 0, 0), .null), (.iload_n 2, 1, (0, 0, 0), .null), (.iconst (0), 1, (0, 0, 0), .int 0)], some (.invokevirtual 128, 3, (84, 3, 0), .null)),
  (38, [(.aload_n 0, 1, (0, 0, 0), .null), (.getfield 41, 3, (0, 5, 3), .null), (.getfield 132, 3, (8, 0, 3), .null), (.aload_n 0, 1, (0, 0, 0), .null), (.getfield 41, 3, (0, 5, 3), .null), (.getfield 135, 3, (8, 3, 0), .null), (.iload_n 3, 1, (0, 0, 0), .null)], some (.invokestatic 137, 3, (88, 3, 0), .null)),
  (56, [], some (.ireturn, 1, (0, 0, 0), .null))]
def b_84 : mB := [
  (0, [(.aload_n 0, 1, (0, 0, 0), .null), (.getfield 24, 3, (8, 4, 3), .null), (.aload_n 1, 1, (0, 0, 0), .null)], some (.invokevirtual 28, 3, (63, 1, 0), .null)),
  (8, [(.iconst (0), 1, (0, 0, 0), .int 0), (.istore 4, 2, (0, 0, 0), .null)], none),
  (11, [(.iload 4, 2, (0, 0, 0), .null), (.iload_n 3, 1, (0, 0, 0), .null), (.if_icmp .ge (30), 3, (44, 0, 0), .null)], none),
  (17, [(.iload 4, 2, (0, 0, 0), .null), (.iconst (4), 1, (0, 0, 0), .int 4), (.if_icmp .ge (24), 3, (44, 0, 0), .null)], none),
  (23, [(.aload_n 0, 1, (0, 0, 0), .null), (.getfield 24, 3, (8, 4, 3), .null), (.aload_n 0, 1, (0, 0, 0), .null), (.getfield 15, 3, (8, 1, 3), .null), (.iload 4, 2, (0, 0, 0), .null), (.iaload, 1, (100, 0, 0), .null)], some (.invokevirtual 32, 3, (73, 1, 0), .null)),
  (37, [(.pop, 1, (0, 0, 0), .null), (.iinc 4 (1), 3, (0, 0, 0), .int 1), (.goto (-30), 3, (11, 0, 0), .null)], none),
  (44, [(.aload_n 0, 1, (0, 0, 0), .null), (.iconst (0), 1, (0, 0, 0), .int 0), (.putfield 36, 3, (8, 3, 0), .null), (.aload_n 0, 1, (0, 0, 0), .null), (.iconst (0), 1, (0, 0, 0), .int 0), (.putfield 40, 3, (8, 5, 0), .null), (.iconst (1), 1, (0, 0, 0), .int 1), (.istore 4, 2, (0, 0, 0), .null), (.iconst (1), 1, (0, 0, 0), .int 1), (.istore 5, 2, (0, 0, 0), .null)], none),
  (60, [(.iload 5, 2, (0, 0, 0), .null), (.iload_n 2, 1, (0, 0, 0), .null), (.if_icmp .gt (32), 3, (95, 0, 0), .null)], none),
  (66, [(.iload 4, 2, (0, 0, 0), .null), (.ifCond .eq (27), 3, (95, 0, 0), .null)], none),
  (71, [(.aload_n 0, 1, (0, 0, 0), .null), (.aload_n 1, 1, (0, 0, 0), .null)], some (.invokevirtual 43, 3, (85, 1, 0), .null)),
  (76, [(.istore 4, 2, (0, 0, 0), .null), (.iload 4, 2, (0, 0, 0), .null), (.ifCond .eq (9), 3, (89, 0, 0), .null)], none),
  (83, [(.aload_n 0, 1, (0, 0, 0), .null), (.iload 5, 2, (0, 0, 0), .null), (.putfield 40, 3, (8, 5, 0), .null)], none),
  (89, [(.iinc 5 (1), 3, (0, 0, 0), .int 1), (.goto (-32), 3, (60, 0, 0), .null)], none),
  (95, [], some (.return_, 1, (0, 0, 0), .null))]
def b_85 : mB := [
  (0, [(.aload_n 0, 1, (0, 0, 0), .null), (.getfield 36, 3, (8, 3, 0), .null), (.istore_n 2, 1, (0, 0, 0), .null), (.aload_n 0, 1, (0, 0, 0), .null), (.aload_n 1, 1, (0, 0, 0), .null)], some (.invokevirtual 47, 3, (86, 1, 0), .null)),
  (10, [(.istore_n 3, 1, (0, 0, 0), .null), (.iconst (0), 1, (0, 0, 0), .int 0), (.istore 4, 2, (0, 0, 0), .null)], none),
  (14, [(.iload 4, 2, (0, 0, 0), .null), (.bipush (8), 2, (0, 0, 0), .int 8), (.if_icmp .ge (58), 3, (76, 0, 0), .null)], none),
  (21, [(.iload_n 3, 1, (0, 0, 0), .null), (.iconst (-1), 1, (0, 0, 0), .int (-1)), (.if_icmp .eq (53), 3, (76, 0, 0), .null)], none),
  (26, [(.aload_n 0, 1, (0, 0, 0), .null), (.getfield 36, 3, (8, 3, 0), .null), (.bipush (8), 2, (0, 0, 0), .int 8), (.if_icmp .ge (44), 3, (76, 0, 0), .null)], none),
  (35, [(.aload_n 0, 1, (0, 0, 0), .null), (.getfield 24, 3, (8, 4, 3), .null), (.iload_n 3, 1, (0, 0, 0), .null)], some (.invokevirtual 51, 3, (68, 1, 0), .null)),
  (43, [(.pop, 1, (0, 0, 0), .null), (.aload_n 0, 1, (0, 0, 0), .null), (.getfield 9, 3, (8, 0, 3), .null), (.aload_n 0, 1, (0, 0, 0), .null), (.getfield 36, 3, (8, 3, 0), .null), (.iload_n 3, 1, (0, 0, 0), .null), (.iastore, 1, (100, 0, 0), .null), (.aload_n 0, 1, (0, 0, 0), .null), (.dup, 1, (0, 0, 0), .null), (.getfield 36, 3, (8, 3, 0), .null), (.iconst (1), 1, (0, 0, 0), .int 1), (.iadd, 1, (0, 0, 0), .null), (.putfield 36, 3, (8, 3, 0), .null), (.aload_n 0, 1, (0, 0, 0), .null), (.aload_n 1, 1, (0, 0, 0), .null)], some (.invokevirtual 47, 3, (86, 1, 0), .null)),
  (69, [(.istore_n 3, 1, (0, 0, 0), .null), (.iinc 4 (1), 3, (0, 0, 0), .int 1), (.goto (-59), 3, (14, 0, 0), .null)], none),
  (76, [(.aload_n 0, 1, (0, 0, 0), .null), (.getfield 24, 3, (8, 4, 3), .null)], some (.invokevirtual 54, 3, (79, 0, 0), .null)),
  (83, [(.aload_n 0, 1, (0, 0, 0), .null), (.getfield 36, 3, (8, 3, 0), .null), (.iload_n 2, 1, (0, 0, 0), .null), (.if_icmp .le (7), 3, (95, 0, 0), .null)], none),
  (91, [(.iconst (1), 1, (0, 0, 0), .int 1), (.goto (4), 3, (96, 0, 0), .null)], none),
  (95, [(.iconst (0), 1, (0, 0, 0), .int 0)], none),
  (96, [], some (.ireturn, 1, (0, 0, 0), .null))]
def b_86 : mB := [
  (0, [(.aload_n 0, 1, (0, 0, 0), .null), (.getfield 24, 3, (8, 4, 3), .null)], some (.invokevirtual 57, 3, (69, 0, 0), .null)),
  (7, [(.istore_n 2, 1, (0, 0, 0), .null), (.iconst (-1), 1, (0, 0, 0), .int (-1)), (.istore_n 3, 1, (0, 0, 0), .null), (.iconst (0), 1, (0, 0, 0), .int 0), (.istore 4, 2, (0, 0, 0), .null)], none),
  (13, [(.iload 4, 2, (0, 0, 0), .null), (.aload_n 1, 1, (0, 0, 0), .null), (.getfield 61, 3, (2, 6, 0), .null), (.if_icmp .ge (37), 3, (56, 0, 0), .null)], none),
  (22, [(.iload_n 2, 1, (0, 0, 0), .null), (.iload 4, 2, (0, 0, 0), .null)], some (.invokestatic 66, 3, (71, 2, 0), .null)),
  (28, [(.ifCond .eq (22), 3, (50, 0, 0), .null)], none),
  (31, [(.iload_n 3, 1, (0, 0, 0), .null), (.iconst (-1), 1, (0, 0, 0), .int (-1)), (.if_icmp .eq (14), 3, (47, 0, 0), .null)], none),
  (36, [(.aload_n 0, 1, (0, 0, 0), .null), (.aload_n 1, 1, (0, 0, 0), .null), (.iload 4, 2, (0, 0, 0), .null), (.iload_n 3, 1, (0, 0, 0), .null)], some (.invokevirtual 70, 3, (87, 3, 0), .null)),
  (44, [(.ifCond .eq (6), 3, (50, 0, 0), .null)], none),
  (47, [(.iload 4, 2, (0, 0, 0), .null), (.istore_n 3, 1, (0, 0, 0), .null)], none),
  (50, [(.iinc 4 (1), 3, (0, 0, 0), .int 1), (.goto (-40), 3, (13, 0, 0), .null)], none),
  (56, [(.iload_n 3, 1, (0, 0, 0), .null)], some (.ireturn, 1, (0, 0, 0), .null))]
def b_87 : mB := [
  (0, [(.aload_n 0, 1, (0, 0, 0), .null), (.getfield 24, 3, (8, 4, 3), .null), (.getfield 74, 3, (7, 0, 3), .null), (.aload_n 1, 1, (0, 0, 0), .null), (.getfield 77, 3, (2, 1, 3), .null), (.iload_n 2, 1, (0, 0, 0), .null), (.iaload, 1, (100, 0, 0), .null), (.iaload, 1, (100, 0, 0), .null), (.istore 4, 2, (0, 0, 0), .null), (.aload_n 0, 1, (0, 0, 0), .null), (.getfield 24, 3, (8, 4, 3), .null), (.getfield 74, 3, (7, 0, 3), .null), (.aload_n 1, 1, (0, 0, 0), .null), (.getfield 77, 3, (2, 1, 3), .null), (.iload_n 3, 1, (0, 0, 0), .null), (.iaload, 1, (100, 0, 0), .null), (.iaload, 1, (100, 0, 0), .null), (.istore 5, 2, (0, 0, 0), .null), (.iload 4, 2, (0, 0, 0), .null), (.iload 5, 2, (0, 0, 0), .null), (.if_icmp .gt (25), 3, (61, 0, 0), .null)], none),
  (39, [(.iload 4, 2, (0, 0, 0), .null), (.iload 5, 2, (0, 0, 0), .null), (.if_icmp .ne (22), 3, (65, 0, 0), .null)], none),
  (46, [(.aload_n 1, 1, (0, 0, 0), .null), (.getfield 80, 3, (2, 0, 3), .null), (.iload_n 2, 1, (0, 0, 0), .null), (.iaload, 1, (100, 0, 0), .null), (.aload_n 1, 1, (0, 0, 0), .null), (.getfield 80, 3, (2, 0, 3), .null), (.iload_n 3, 1, (0, 0, 0), .null), (.iaload, 1, (100, 0, 0), .null), (.if_icmp .ge (7), 3, (65, 0, 0), .null)], none),
  (61, [(.iconst (1), 1, (0, 0, 0), .int 1), (.goto (4), 3, (66, 0, 0), .null)], none),
  (65, [(.iconst (0), 1, (0, 0, 0), .int 0)], none),
  (66, [], some (.ireturn, 1, (0, 0, 0), .null))]
def b_88 : mB := [
  (0, [(.iload_n 2, 1, (0, 0, 0), .null), (.iconst (-1), 1, (0, 0, 0), .int (-1)), (.if_icmp .ne (5), 3, (7, 0, 0), .null)], none),
  (5, [(.iload_n 1, 1, (0, 0, 0), .null)], some (.ireturn, 1, (0, 0, 0), .null)),
  (7, [(.iload_n 2, 1, (0, 0, 0), .null), (.ifCond .lt (20), 3, (28, 0, 0), .null)], none),
  (11, [(.iload_n 2, 1, (0, 0, 0), .null), (.iload_n 1, 1, (0, 0, 0), .null), (.if_icmp .ge (15), 3, (28, 0, 0), .null)], none),
  (16, [(.iload_n 2, 1, (0, 0, 0), .null), (.aload_n 0, 1, (0, 0, 0), .null), (.arraylength, 1, (100, 0, 0), .null), (.if_icmp .ge (9), 3, (28, 0, 0), .null)], none),
  (22, [(.aload_n 0, 1, (0, 0, 0), .null), (.iload_n 2, 1, (0, 0, 0), .null), (.iaload, 1, (100, 0, 0), .null), (.goto (4), 3, (29, 0, 0), .null)], none),
  (28, [(.iconst (-1), 1, (0, 0, 0), .int (-1))], none),
  (29, [], some (.ireturn, 1, (0, 0, 0), .null))]
def b_89 : mB := [
  (0, [(.aload_n 0, 1, (0, 0, 0), .null), (.getfield 10, 3, (0, 0, 3), .null), (.iload_n 1, 1, (0, 0, 0), .null)], some (.invokevirtual 101, 3, (53, 1, 0), .null)),
  (8, [(.astore 5, 2, (0, 0, 0), .null), (.aload 5, 2, (0, 0, 0), .null), (.ifnull (22), 3, (34, 0, 0), .null)], none),
  (15, [(.aload 5, 2, (0, 0, 0), .null), (.iload_n 2, 1, (0, 0, 0), .null)], some (.invokevirtual 141, 3, (56, 1, 0), .null)),
  (21, [(.ifCond .eq (13), 3, (34, 0, 0), .null)], none),
  (24, [(.iload_n 3, 1, (0, 0, 0), .null), (.iconst (0), 1, (0, 0, 0), .int 0), (.bipush (20), 2, (0, 0, 0), .int 20)], some (.invokestatic 74, 3, (17, 3, 0), .null)),
  (31, [(.ifCond .ne (5), 3, (36, 0, 0), .null)], none),
  (34, [(.iconst (-1), 1, (0, 0, 0), .int (-1))], some (.ireturn, 1, (0, 0, 0), .null)),
  (36, [(.aload_n 0, 1, (0, 0, 0), .null), (.getfield 41, 3, (0, 5, 3), .null), (.aload 5, 2, (0, 0, 0), .null), (.iload_n 2, 1, (0, 0, 0), .null), (.iload_n 3, 1, (0, 0, 0), .null)], some (.invokevirtual 145, 3, (90, 3, 0), .null)),
  (47, [(.istore 6, 2, (0, 0, 0), .null), (.iload 6, 2, (0, 0, 0), .null), (.iconst (-1), 1, (0, 0, 0), .int (-1)), (.if_icmp .ne (7), 3, (59, 0, 0), .null)], none),
  (55, [(.iconst (-1), 1, (0, 0, 0), .int (-1)), (.goto (17), 3, (73, 0, 0), .null)], none),
  (59, [(.aload_n 0, 1, (0, 0, 0), .null), (.getfield 41, 3, (0, 5, 3), .null), (.getfield 149, 3, (8, 1, 3), .null), (.iload 6, 2, (0, 0, 0), .null), (.iload 4, 2, (0, 0, 0), .null)], some (.invokestatic 137, 3, (88, 3, 0), .null)),
  (73, [], some (.ireturn, 1, (0, 0, 0), .null))]
def b_90 : mB := [
  (0, [(.iconst (0), 1, (0, 0, 0), .int 0), (.istore 4, 2, (0, 0, 0), .null)], none),
  (3, [(.iload 4, 2, (0, 0, 0), .null), (.iconst (4), 1, (0, 0, 0), .int 4), (.if_icmp .gt (75), 3, (81, 0, 0), .null)], none),
  (9, [(.aload_n 0, 1, (0, 0, 0), .null), (.getfield 15, 3, (8, 1, 3), .null), (.iconst (0), 1, (0, 0, 0), .int 0)], some (.invokestatic 89, 3, (4, 2, 0), .null)),
  (17, [(.iconst (1), 1, (0, 0, 0), .int 1), (.istore 5, 2, (0, 0, 0), .null), (.iconst (0), 1, (0, 0, 0), .int 0), (.istore 6, 2, (0, 0, 0), .null)], none),
  (23, [(.iload 6, 2, (0, 0, 0), .null), (.sipush (1000), 3, (0, 0, 0), .int 1000), (.if_icmp .ge (47), 3, (75, 0, 0), .null)], none),
  (31, [(.iload 5, 2, (0, 0, 0), .null), (.ifCond .eq (42), 3, (75, 0, 0), .null)], none),
  (36, [(.aload_n 0, 1, (0, 0, 0), .null), (.aload_n 1, 1, (0, 0, 0), .null), (.iload_n 3, 1, (0, 0, 0), .null), (.iload 4, 2, (0, 0, 0), .null)], some (.invokevirtual 95, 3, (84, 3, 0), .null)),
  (44, [(.aload_n 0, 1, (0, 0, 0), .null), (.getfield 24, 3, (8, 4, 3), .null), (.getfield 99, 3, (7, 1, 0), .null), (.iload_n 2, 1, (0, 0, 0), .null)], some (.invokestatic 66, 3, (71, 2, 0), .null)),
  (55, [(.ifCond .eq (6), 3, (61, 0, 0), .null)], none),
  (58, [(.iload 4, 2, (0, 0, 0), .null)], some (.ireturn, 1, (0, 0, 0), .null)),
  (61, [(.aload_n 0, 1, (0, 0, 0), .null), (.iload 4, 2, (0, 0, 0), .null)], some (.invokevirtual 102, 3, (91, 1, 0), .null)),
  (67, [(.istore 5, 2, (0, 0, 0), .null), (.iinc 6 (1), 3, (0, 0, 0), .int 1), (.goto (-49), 3, (23, 0, 0), .null)], none),
  (75, [(.iinc 4 (1), 3, (0, 0, 0), .int 1), (.goto (-75), 3, (3, 0, 0), .null)], none),
  (81, [(.iconst (-1), 1, (0, 0, 0), .int (-1))], some (.ireturn, 1, (0, 0, 0), .null))]
def b_91 : mB := [
  (0, [(.iload_n 1, 1, (0, 0, 0), .null), (.iconst (4), 1, (0, 0, 0), .int 4), (.invokestatic 83, 3, (3, 0, 0), .null), (.iconst (1), 1, (0, 0, 0), .int 1), (.isub, 1, (0, 0, 0), .null), (.istore_n 2, 1, (0, 0, 0), .null)], none),
  (8, [(.iload_n 2, 1, (0, 0, 0), .null), (.ifCond .lt (19), 3, (28, 0, 0), .null)], none),
  (12, [(.aload_n 0, 1, (0, 0, 0), .null), (.getfield 15, 3, (8, 1, 3), .null), (.iload_n 2, 1, (0, 0, 0), .null), (.iaload, 1, (100, 0, 0), .null), (.iconst (5), 1, (0, 0, 0), .int 5), (.if_icmp .ne (9), 3, (28, 0, 0), .null)], none),
  (22, [(.iinc 2 (-1), 3, (0, 0, 0), .int (-1)), (.goto (-17), 3, (8, 0, 0), .null)], none),
  (28, [(.iload_n 2, 1, (0, 0, 0), .null), (.ifCond .ge (5), 3, (34, 0, 0), .null)], none),
  (32, [(.iconst (0), 1, (0, 0, 0), .int 0)], some (.ireturn, 1, (0, 0, 0), .null)),
  (34, [(.aload_n 0, 1, (0, 0, 0), .null), (.getfield 15, 3, (8, 1, 3), .null), (.iload_n 2, 1, (0, 0, 0), .null), (.iaload, 1, (100, 0, 0), .null), (.iconst (1), 1, (0, 0, 0), .int 1), (.iadd, 1, (0, 0, 0), .null), (.istore_n 3, 1, (0, 0, 0), .null), (.iload_n 2, 1, (0, 0, 0), .null), (.istore 4, 2, (0, 0, 0), .null)], none),
  (46, [(.iload 4, 2, (0, 0, 0), .null), (.iload_n 1, 1, (0, 0, 0), .null), (.if_icmp .ge (23), 3, (72, 0, 0), .null)], none),
  (52, [(.iload 4, 2, (0, 0, 0), .null), (.iconst (4), 1, (0, 0, 0), .int 4), (.if_icmp .ge (17), 3, (72, 0, 0), .null)], none),
  (58, [(.aload_n 0, 1, (0, 0, 0), .null), (.getfield 15, 3, (8, 1, 3), .null), (.iload 4, 2, (0, 0, 0), .null), (.iload_n 3, 1, (0, 0, 0), .null), (.iastore, 1, (100, 0, 0), .null), (.iinc 4 (1), 3, (0, 0, 0), .int 1), (.goto (-23), 3, (46, 0, 0), .null)], none),
  (72, [(.iconst (1), 1, (0, 0, 0), .int 1)], some (.ireturn, 1, (0, 0, 0), .null))]
def b_92 : mB := [
  (0, [(.aload_n 0, 1, (0, 0, 0), .null), (.getfield 10, 3, (0, 0, 3), .null), (.iload_n 1, 1, (0, 0, 0), .null)], some (.invokevirtual 101, 3, (53, 1, 0), .null)),
  (8, [(.astore 4, 2, (0, 0, 0), .null), (.aload 4, 2, (0, 0, 0), .null), (.ifnull (13), 3, (25, 0, 0), .null)], none),
  (15, [(.iload_n 2, 1, (0, 0, 0), .null), (.iconst (0), 1, (0, 0, 0), .int 0), (.bipush (72), 2, (0, 0, 0), .int 72)], some (.invokestatic 74, 3, (17, 3, 0), .null)),
  (22, [(.ifCond .ne (5), 3, (27, 0, 0), .null)], none),
  (25, [(.iconst (-1), 1, (0, 0, 0), .int (-1))], some (.ireturn, 1, (0, 0, 0), .null)),
  (27, [(.aload_n 0, 1, (0, 0, 0), .null), (.getfield 48, 3, (0, 6, 3), .null), (.aload 4, 2, (0, 0, 0), .null), (.iload_n 2, 1, (0, 0, 0), .null)], some (.invokevirtual 152, 3, (93, 2, 0), .null)),
  (37, [(.istore 5, 2, (0, 0, 0), .null), (.iload_n 3, 1, (0, 0, 0), .null), (.ifCond .eq (8), 3, (48, 0, 0), .null)], none),
  (43, [(.iload 5, 2, (0, 0, 0), .null), (.goto (8), 3, (53, 0, 0), .null)], none),
  (48, [(.iload 5, 2, (0, 0, 0), .null)], some (.invokestatic 156, 3, (66, 1, 0), .null)),
  (53, [], some (.ireturn, 1, (0, 0, 0), .null))]
def b_93 : mB := [
  (0, [(.iconst (0), 1, (0, 0, 0), .int 0), (.istore_n 3, 1, (0, 0, 0), .null), (.iconst (1), 1, (0, 0, 0), .int 1), (.istore 4, 2, (0, 0, 0), .null)], none),
  (5, [(.iload 4, 2, (0, 0, 0), .null), (.aload_n 1, 1, (0, 0, 0), .null)], some (.invokevirtual 38, 3, (94, 0, 0), .null)),
  (11, [(.if_icmp .gt (43), 3, (54, 0, 0), .null)], none),
  (14, [(.iload 4, 2, (0, 0, 0), .null)], some (.invokestatic 42, 3, (66, 1, 0), .null)),
  (19, [(.iload_n 3, 1, (0, 0, 0), .null)], some (.invokestatic 42, 3, (66, 1, 0), .null)),
  (23, [(.if_icmp .le (25), 3, (48, 0, 0), .null)], none),
  (26, [(.aload_n 1, 1, (0, 0, 0), .null), (.iload 4, 2, (0, 0, 0), .null)], some (.invokevirtual 48, 3, (95, 1, 0), .null)),
  (32, [(.iload_n 2, 1, (0, 0, 0), .null), (.if_icmp .gt (15), 3, (48, 0, 0), .null)], none),
  (36, [(.aload_n 1, 1, (0, 0, 0), .null), (.iload 4, 2, (0, 0, 0), .null)], some (.invokestatic 51, 3, (96, 2, 0), .null)),
  (42, [(.ifCond .eq (6), 3, (48, 0, 0), .null)], none),
  (45, [(.iload 4, 2, (0, 0, 0), .null), (.istore_n 3, 1, (0, 0, 0), .null)], none),
  (48, [(.iinc 4 (1), 3, (0, 0, 0), .int 1), (.goto (-46), 3, (5, 0, 0), .null)], none),
  (54, [(.iload_n 3, 1, (0, 0, 0), .null)], some (.ireturn, 1, (0, 0, 0), .null))]
def b_94 : mB := [
  (0, [(.iconst (1), 1, (0, 0, 0), .int 1), (.aload_n 0, 1, (0, 0, 0), .null), (.getfield 39, 3, (2, 6, 0), .null), (.ishl, 1, (0, 0, 0), .null), (.iconst (1), 1, (0, 0, 0), .int 1), (.isub, 1, (0, 0, 0), .null)], some (.ireturn, 1, (0, 0, 0), .null))]
def b_95 : mB := [
  (0, [(.iconst (0), 1, (0, 0, 0), .int 0), (.istore_n 2, 1, (0, 0, 0), .null), (.iconst (0), 1, (0, 0, 0), .int 0), (.istore_n 3, 1, (0, 0, 0), .null)], none),
  (4, [(.iload_n 3, 1, (0, 0, 0), .null), (.aload_n 0, 1, (0, 0, 0), .null), (.getfield 39, 3, (2, 6, 0), .null), (.if_icmp .ge (26), 3, (35, 0, 0), .null)], none),
  (12, [(.iload_n 1, 1, (0, 0, 0), .null), (.iload_n 3, 1, (0, 0, 0), .null)], some (.invokestatic 70, 3, (71, 2, 0), .null)),
  (17, [(.ifCond .eq (12), 3, (29, 0, 0), .null)], none),
  (20, [(.iload_n 2, 1, (0, 0, 0), .null), (.aload_n 0, 1, (0, 0, 0), .null), (.getfield 9, 3, (2, 0, 3), .null), (.iload_n 3, 1, (0, 0, 0), .null), (.iaload, 1, (100, 0, 0), .null), (.iadd, 1, (0, 0, 0), .null), (.istore_n 2, 1, (0, 0, 0), .null)], none),
  (29, [(.iinc 3 (1), 3, (0, 0, 0), .int 1), (.goto (-28), 3, (4, 0, 0), .null)], none),
  (35, [(.iload_n 2, 1, (0, 0, 0), .null)], some (.ireturn, 1, (0, 0, 0), .null))]
def b_96 : mB := [
  (0, [(.iconst (0), 1, (0, 0, 0), .int 0), (.istore_n 2, 1, (0, 0, 0), .null)], none),
  (2, [(.iload_n 2, 1, (0, 0, 0), .null), (.aload_n 0, 1, (0, 0, 0), .null), (.getfield 25, 3, (2, 6, 0), .null), (.if_icmp .ge (32), 3, (39, 0, 0), .null)], none),
  (10, [(.iload_n 1, 1, (0, 0, 0), .null), (.iload_n 2, 1, (0, 0, 0), .null)], some (.invokestatic 31, 3, (71, 2, 0), .null)),
  (15, [(.ifCond .eq (18), 3, (33, 0, 0), .null)], none),
  (18, [(.aload_n 0, 1, (0, 0, 0), .null), (.getfield 35, 3, (2, 2, 3), .null), (.iload_n 2, 1, (0, 0, 0), .null), (.iaload, 1, (100, 0, 0), .null), (.iload_n 1, 1, (0, 0, 0), .null), (.iconst (-1), 1, (0, 0, 0), .int (-1)), (.ixor, 1, (0, 0, 0), .null), (.iand, 1, (0, 0, 0), .null), (.ifCond .eq (5), 3, (33, 0, 0), .null)], none),
  (31, [(.iconst (0), 1, (0, 0, 0), .int 0)], some (.ireturn, 1, (0, 0, 0), .null)),
  (33, [(.iinc 2 (1), 3, (0, 0, 0), .int 1), (.goto (-34), 3, (2, 0, 0), .null)], none),
  (39, [(.iconst (1), 1, (0, 0, 0), .int 1)], some (.ireturn, 1, (0, 0, 0), .null))]
def b_97 : mB := [
  (0, [(.aload_n 0, 1, (0, 0, 0), .null), (.getfield 10, 3, (0, 0, 3), .null), (.iload_n 1, 1, (0, 0, 0), .null)], some (.invokevirtual 101, 3, (53, 1, 0), .null)),
  (8, [(.astore 4, 2, (0, 0, 0), .null), (.aload 4, 2, (0, 0, 0), .null), (.ifnull (22), 3, (34, 0, 0), .null)], none),
  (15, [(.aload 4, 2, (0, 0, 0), .null), (.iload_n 2, 1, (0, 0, 0), .null)], some (.invokevirtual 161, 3, (57, 1, 0), .null)),
  (21, [(.ifCond .eq (13), 3, (34, 0, 0), .null)], none),
  (24, [(.iload_n 3, 1, (0, 0, 0), .null), (.iconst (0), 1, (0, 0, 0), .int 0), (.bipush (9), 2, (0, 0, 0), .int 9)], some (.invokestatic 74, 3, (17, 3, 0), .null)),
  (31, [(.ifCond .ne (5), 3, (36, 0, 0), .null)], none),
  (34, [(.iconst (-1), 1, (0, 0, 0), .int (-1))], some (.ireturn, 1, (0, 0, 0), .null)),
  (36, [(.aload 4, 2, (0, 0, 0), .null), (.iconst (1), 1, (0, 0, 0), .int 1), (.iload_n 2, 1, (0, 0, 0), .null), (.ishl, 1, (0, 0, 0), .null), (.iload_n 3, 1, (0, 0, 0), .null), (.aload 4, 2, (0, 0, 0), .null)], some (.invokevirtual 164, 3, (98, 0, 0), .null)),
  (47, [], some (.invokevirtual 168, 3, (99, 3, 0), .null)),
  (50, [], some (.ireturn, 1, (0, 0, 0), .null))]
def b_98 : mB := [
  (0, [(.iconst (1), 1, (0, 0, 0), .int 1), (.aload_n 0, 1, (0, 0, 0), .null), (.getfield 43, 3, (2, 7, 0), .null), (.ishl, 1, (0, 0, 0), .null), (.iconst (1), 1, (0, 0, 0), .int 1), (.isub, 1, (0, 0, 0), .null)], some (.ireturn, 1, (0, 0, 0), .null))]
def b_99 : mB := [
  (0, [(.iload_n 1, 1, (0, 0, 0), .null), (.istore 4, 2, (0, 0, 0), .null), (.iconst (0), 1, (0, 0, 0), .int 0), (.istore 5, 2, (0, 0, 0), .null)], none),
  (6, [(.iload 5, 2, (0, 0, 0), .null), (.iload_n 2, 1, (0, 0, 0), .null), (.if_icmp .ge (59), 3, (68, 0, 0), .null)], none),
  (12, [(.iload 4, 2, (0, 0, 0), .null), (.istore 6, 2, (0, 0, 0), .null), (.iconst (0), 1, (0, 0, 0), .int 0), (.istore 7, 2, (0, 0, 0), .null)], none),
  (19, [(.iload 7, 2, (0, 0, 0), .null), (.aload_n 0, 1, (0, 0, 0), .null), (.getfield 43, 3, (2, 7, 0), .null), (.if_icmp .ge (31), 3, (56, 0, 0), .null)], none),
  (28, [(.aload_n 0, 1, (0, 0, 0), .null), (.getfield 27, 3, (2, 5, 3), .null), (.iload 7, 2, (0, 0, 0), .null), (.iaload, 1, (100, 0, 0), .null), (.iload 4, 2, (0, 0, 0), .null), (.iand, 1, (0, 0, 0), .null), (.ifCond .eq (12), 3, (50, 0, 0), .null)], none),
  (41, [(.iload 6, 2, (0, 0, 0), .null), (.iconst (1), 1, (0, 0, 0), .int 1), (.iload 7, 2, (0, 0, 0), .null), (.ishl, 1, (0, 0, 0), .null), (.ior, 1, (0, 0, 0), .null), (.istore 6, 2, (0, 0, 0), .null)], none),
  (50, [(.iinc 7 (1), 3, (0, 0, 0), .int 1), (.goto (-34), 3, (19, 0, 0), .null)], none),
  (56, [(.iload 6, 2, (0, 0, 0), .null), (.iload_n 3, 1, (0, 0, 0), .null), (.iand, 1, (0, 0, 0), .null), (.istore 4, 2, (0, 0, 0), .null), (.iinc 5 (1), 3, (0, 0, 0), .int 1), (.goto (-59), 3, (6, 0, 0), .null)], none),
  (68, [(.iload 4, 2, (0, 0, 0), .null)], some (.ireturn, 1, (0, 0, 0), .null))]
def b_100 : mB := [
  (0, [(.aload_n 0, 1, (0, 0, 0), .null), (.getfield 10, 3, (0, 0, 3), .null), (.iload_n 1, 1, (0, 0, 0), .null)], some (.invokevirtual 101, 3, (53, 1, 0), .null)),
  (8, [(.astore 4, 2, (0, 0, 0), .null), (.aload 4, 2, (0, 0, 0), .null), (.ifnull (13), 3, (25, 0, 0), .null)], none),
  (15, [(.iload_n 2, 1, (0, 0, 0), .null), (.iconst (0), 1, (0, 0, 0), .int 0), (.bipush (9), 2, (0, 0, 0), .int 9)], some (.invokestatic 74, 3, (17, 3, 0), .null)),
  (22, [(.ifCond .ne (5), 3, (27, 0, 0), .null)], none),
  (25, [(.iconst (-1), 1, (0, 0, 0), .int (-1))], some (.ireturn, 1, (0, 0, 0), .null)),
  (27, [(.aload 4, 2, (0, 0, 0), .null), (.iload_n 2, 1, (0, 0, 0), .null)], some (.invokevirtual 172, 3, (101, 1, 0), .null)),
  (33, [(.istore 5, 2, (0, 0, 0), .null), (.iload_n 3, 1, (0, 0, 0), .null), (.ifCond .eq (8), 3, (44, 0, 0), .null)], none),
  (39, [(.iload 5, 2, (0, 0, 0), .null), (.goto (8), 3, (49, 0, 0), .null)], none),
  (44, [(.iload 5, 2, (0, 0, 0), .null)], some (.invokestatic 156, 3, (66, 1, 0), .null)),
  (49, [], some (.ireturn, 1, (0, 0, 0), .null))]
def b_101 : mB := [
  (0, [(.aload_n 0, 1, (0, 0, 0), .null)], some (.invokevirtual 100, 3, (98, 0, 0), .null)),
  (4, [(.istore_n 2, 1, (0, 0, 0), .null), (.iload_n 2, 1, (0, 0, 0), .null), (.istore_n 3, 1, (0, 0, 0), .null), (.iconst (0), 1, (0, 0, 0), .int 0), (.istore 4, 2, (0, 0, 0), .null)], none),
  (10, [(.iload 4, 2, (0, 0, 0), .null), (.iload_n 2, 1, (0, 0, 0), .null), (.if_icmp .ge (36), 3, (49, 0, 0), .null)], none),
  (16, [(.iload 4, 2, (0, 0, 0), .null)], some (.invokestatic 80, 3, (66, 1, 0), .null)),
  (21, [(.iload_n 3, 1, (0, 0, 0), .null)], some (.invokestatic 80, 3, (66, 1, 0), .null)),
  (25, [(.if_icmp .ge (18), 3, (43, 0, 0), .null)], none),
  (28, [(.aload_n 0, 1, (0, 0, 0), .null), (.iload 4, 2, (0, 0, 0), .null), (.iload_n 1, 1, (0, 0, 0), .null), (.iload_n 2, 1, (0, 0, 0), .null)], some (.invokevirtual 103, 3, (99, 3, 0), .null)),
  (36, [(.iload_n 2, 1, (0, 0, 0), .null), (.if_icmp .ne (6), 3, (43, 0, 0), .null)], none),
  (40, [(.iload 4, 2, (0, 0, 0), .null), (.istore_n 3, 1, (0, 0, 0), .null)], none),
  (43, [(.iinc 4 (1), 3, (0, 0, 0), .int 1), (.goto (-36), 3, (10, 0, 0), .null)], none),
  (49, [(.iload_n 3, 1, (0, 0, 0), .null)], some (.ireturn, 1, (0, 0, 0), .null))]
def b_102 : mB := [
  (0, [(.aload_n 0, 1, (0, 0, 0), .null), (.getfield 10, 3, (0, 0, 3), .null), (.iload_n 1, 1, (0, 0, 0), .null)], some (.invokevirtual 101, 3, (53, 1, 0), .null)),
  (8, [(.astore 4, 2, (0, 0, 0), .null), (.aload 4, 2, (0, 0, 0), .null), (.ifnull (13), 3, (25, 0, 0), .null)], none),
  (15, [(.iload_n 2, 1, (0, 0, 0), .null), (.iconst (0), 1, (0, 0, 0), .int 0), (.bipush (72), 2, (0, 0, 0), .int 72)], some (.invokestatic 74, 3, (17, 3, 0), .null)),
  (22, [(.ifCond .ne (6), 3, (28, 0, 0), .null)], none),
  (25, [(.bipush (-2), 2, (0, 0, 0), .int (-2))], some (.ireturn, 1, (0, 0, 0), .null)),
  (28, [(.aload_n 0, 1, (0, 0, 0), .null), (.getfield 48, 3, (0, 6, 3), .null), (.aload 4, 2, (0, 0, 0), .null), (.iload_n 2, 1, (0, 0, 0), .null)], some (.invokevirtual 175, 3, (103, 2, 0), .null)),
  (38, [(.istore 5, 2, (0, 0, 0), .null), (.iload_n 3, 1, (0, 0, 0), .null), (.ifCond .eq (6), 3, (47, 0, 0), .null)], none),
  (44, [(.iload 5, 2, (0, 0, 0), .null)], some (.ireturn, 1, (0, 0, 0), .null)),
  (47, [(.iload 5, 2, (0, 0, 0), .null), (.iconst (-1), 1, (0, 0, 0), .int (-1)), (.if_icmp .ne (7), 3, (57, 0, 0), .null)], none),
  (53, [(.iconst (0), 1, (0, 0, 0), .int 0), (.goto (4), 3, (58, 0, 0), .null)], none),
  (57, [(.iconst (1), 1, (0, 0, 0), .int 1)], none),
  (58, [], some (.ireturn, 1, (0, 0, 0), .null))]
def b_103 : mB := [
  (0, [(.iconst (-1), 1, (0, 0, 0), .int (-1)), (.istore_n 3, 1, (0, 0, 0), .null), (.aload_n 1, 1, (0, 0, 0), .null)], some (.invokevirtual 38, 3, (94, 0, 0), .null)),
  (6, [(.istore 4, 2, (0, 0, 0), .null)], none),
  (8, [(.iload 4, 2, (0, 0, 0), .null), (.ifCond .lt (42), 3, (52, 0, 0), .null)], none),
  (13, [(.aload_n 0, 1, (0, 0, 0), .null), (.aload_n 1, 1, (0, 0, 0), .null), (.iload 4, 2, (0, 0, 0), .null), (.iload_n 2, 1, (0, 0, 0), .null), (.aload_n 1, 1, (0, 0, 0), .null), (.iload 4, 2, (0, 0, 0), .null)], some (.invokevirtual 48, 3, (95, 1, 0), .null)),
  (24, [(.isub, 1, (0, 0, 0), .null)], some (.invokevirtual 55, 3, (104, 3, 0), .null)),
  (28, [(.istore_n 3, 1, (0, 0, 0), .null), (.aload_n 0, 1, (0, 0, 0), .null), (.getfield 18, 3, (9, 5, 3), .null), (.iload 4, 2, (0, 0, 0), .null), (.iload_n 3, 1, (0, 0, 0), .null), (.iconst (-1), 1, (0, 0, 0), .int (-1)), (.if_icmp .eq (7), 3, (44, 0, 0), .null)], none),
  (40, [(.iconst (1), 1, (0, 0, 0), .int 1), (.goto (4), 3, (45, 0, 0), .null)], none),
  (44, [(.iconst (0), 1, (0, 0, 0), .int 0)], none),
  (45, [(.bastore, 1, (102, 0, 0), .null), (.iinc 4 (-1), 3, (0, 0, 0), .int (-1)), (.goto (-41), 3, (8, 0, 0), .null)], none),
  (52, [(.iload_n 3, 1, (0, 0, 0), .null)], some (.ireturn, 1, (0, 0, 0), .null))]
def b_104 : mB := [
  (0, [(.aload_n 1, 1, (0, 0, 0), .null), (.iload_n 2, 1, (0, 0, 0), .null)], some (.invokevirtual 59, 3, (70, 1, 0), .null)),
  (5, [(.istore 4, 2, (0, 0, 0), .null), (.iconst (0), 1, (0, 0, 0), .int 0), (.istore 5, 2, (0, 0, 0), .null)], none),
  (10, [(.iload 5, 2, (0, 0, 0), .null), (.aload_n 1, 1, (0, 0, 0), .null), (.getfield 25, 3, (2, 6, 0), .null), (.if_icmp .ge (47), 3, (63, 0, 0), .null)], none),
  (19, [(.iload 4, 2, (0, 0, 0), .null), (.iload 5, 2, (0, 0, 0), .null)], some (.invokestatic 31, 3, (71, 2, 0), .null)),
  (26, [(.ifCond .eq (31), 3, (57, 0, 0), .null)], none),
  (29, [(.aload_n 1, 1, (0, 0, 0), .null), (.getfield 62, 3, (2, 0, 3), .null), (.iload 5, 2, (0, 0, 0), .null), (.iaload, 1, (100, 0, 0), .null), (.iload_n 3, 1, (0, 0, 0), .null), (.if_icmp .gt (20), 3, (57, 0, 0), .null)], none),
  (40, [(.aload_n 0, 1, (0, 0, 0), .null), (.getfield 18, 3, (9, 5, 3), .null), (.iload_n 2, 1, (0, 0, 0), .null), (.iconst (1), 1, (0, 0, 0), .int 1), (.iload 5, 2, (0, 0, 0), .null), (.ishl, 1, (0, 0, 0), .null), (.ior, 1, (0, 0, 0), .null), (.baload, 1, (102, 0, 0), .null), (.ifCond .ne (6), 3, (57, 0, 0), .null)], none),
  (54, [(.iload 5, 2, (0, 0, 0), .null)], some (.ireturn, 1, (0, 0, 0), .null)),
  (57, [(.iinc 5 (1), 3, (0, 0, 0), .int 1), (.goto (-50), 3, (10, 0, 0), .null)], none),
  (63, [(.iconst (-1), 1, (0, 0, 0), .int (-1))], some (.ireturn, 1, (0, 0, 0), .null))]
def b_105 : mB := [
  (0, [(.aload_n 0, 1, (0, 0, 0), .null), (.getfield 10, 3, (0, 0, 3), .null), (.iload_n 1, 1, (0, 0, 0), .null)], some (.invokevirtual 101, 3, (53, 1, 0), .null)),
  (8, [(.astore 6, 2, (0, 0, 0), .null), (.aload 6, 2, (0, 0, 0), .null), (.ifnull (37), 3, (49, 0, 0), .null)], none),
  (15, [(.iload_n 2, 1, (0, 0, 0), .null), (.iconst (0), 1, (0, 0, 0), .int 0), (.aload 6, 2, (0, 0, 0), .null)], some (.invokevirtual 178, 3, (94, 0, 0), .null)),
  (22, [], some (.invokestatic 74, 3, (17, 3, 0), .null)),
  (25, [(.ifCond .eq (24), 3, (49, 0, 0), .null)], none),
  (28, [(.iload_n 3, 1, (0, 0, 0), .null), (.iconst (1), 1, (0, 0, 0), .int 1), (.bipush (9), 2, (0, 0, 0), .int 9)], some (.invokestatic 74, 3, (17, 3, 0), .null)),
  (35, [(.ifCond .eq (14), 3, (49, 0, 0), .null)], none),
  (38, [(.iload 4, 2, (0, 0, 0), .null), (.iconst (0), 1, (0, 0, 0), .int 0), (.bipush (10), 2, (0, 0, 0), .int 10)], some (.invokestatic 74, 3, (17, 3, 0), .null)),
  (46, [(.ifCond .ne (7), 3, (53, 0, 0), .null)], none),
  (49, [(.ldc2_w 181, 3, (0, 0, 0), .long (-1))], some (.lreturn, 1, (0, 0, 0), .null)),
  (53, [(.aload 6, 2, (0, 0, 0), .null), (.iload_n 2, 1, (0, 0, 0), .null)], some (.invokevirtual 183, 3, (106, 1, 0), .null)),
  (59, [(.istore 7, 2, (0, 0, 0), .null), (.lconst 0, 1, (0, 0, 0), .long 0), (.lstore 8, 2, (0, 0, 0), .null), (.iload 7, 2, (0, 0, 0), .null), (.istore 10, 2, (0, 0, 0), .null)], none),
  (68, [(.iload 10, 2, (0, 0, 0), .null), (.iload_n 3, 1, (0, 0, 0), .null), (.if_icmp .gt (43), 3, (114, 0, 0), .null)], none),
  (74, [(.lload 8, 2, (0, 0, 0), .null), (.iload_n 3, 1, (0, 0, 0), .null), (.iload 10, 2, (0, 0, 0), .null)], some (.invokestatic 186, 3, (107, 2, 0), .null)),
  (82, [(.bipush (10), 2, (0, 0, 0), .int 10), (.iload 4, 2, (0, 0, 0), .null), (.isub, 1, (0, 0, 0), .null), (.i2l, 1, (0, 0, 0), .null), (.iload 10, 2, (0, 0, 0), .null)], some (.invokestatic 190, 3, (108, 2, 0), .null)),
  (93, [(.lmul, 1, (0, 0, 0), .null), (.iload 4, 2, (0, 0, 0), .null), (.i2l, 1, (0, 0, 0), .null), (.iload_n 3, 1, (0, 0, 0), .null), (.iload 10, 2, (0, 0, 0), .null), (.isub, 1, (0, 0, 0), .null)], some (.invokestatic 190, 3, (108, 2, 0), .null)),
  (104, [(.lmul, 1, (0, 0, 0), .null), (.ladd, 1, (0, 0, 0), .null), (.lstore 8, 2, (0, 0, 0), .null), (.iinc 10 (1), 3, (0, 0, 0), .int 1), (.goto (-43), 3, (68, 0, 0), .null)], none),
  (114, [(.lload 8, 2, (0, 0, 0), .null), (.ldc2_w 194, 3, (0, 0, 0), .long (10)), (.iload_n 3, 1, (0, 0, 0), .null)], some (.invokestatic 190, 3, (108, 2, 0), .null)),
  (123, [(.iload 5, 2, (0, 0, 0), .null)], some (.invokestatic 196, 3, (109, 3, 0), .null)),
  (128, [], some (.lreturn, 1, (0, 0, 0), .null))]
def b_106 : mB := [
  (0, [(.aload_n 0, 1, (0, 0, 0), .null), (.getfield 46, 3, (2, 8, 0), .null), (.iconst (1), 1, (0, 0, 0), .int 1), (.if_icmp .ge (7), 3, (12, 0, 0), .null)], none),
  (8, [(.iconst (-1), 1, (0, 0, 0), .int (-1)), (.goto (20), 3, (29, 0, 0), .null)], none),
  (12, [(.aload_n 0, 1, (0, 0, 0), .null), (.iload_n 1, 1, (0, 0, 0), .null)], some (.invokevirtual 74, 3, (95, 1, 0), .null)),
  (17, [(.aload_n 0, 1, (0, 0, 0), .null), (.getfield 46, 3, (2, 8, 0), .null), (.iadd, 1, (0, 0, 0), .null), (.iconst (1), 1, (0, 0, 0), .int 1), (.isub, 1, (0, 0, 0), .null), (.aload_n 0, 1, (0, 0, 0), .null), (.getfield 46, 3, (2, 8, 0), .null), (.idiv, 1, (0, 0, 0), .null)], none),
  (29, [], some (.ireturn, 1, (0, 0, 0), .null))]
def b_107 : mB := [
  (0, [(.lconst 1, 1, (0, 0, 0), .long 1), (.lstore_n 2, 1, (0, 0, 0), .null), (.iconst (1), 1, (0, 0, 0), .int 1), (.istore 4, 2, (0, 0, 0), .null)], none),
  (5, [(.iload 4, 2, (0, 0, 0), .null), (.iload_n 1, 1, (0, 0, 0), .null), (.if_icmp .gt (23), 3, (31, 0, 0), .null)], none),
  (11, [(.lload_n 2, 1, (0, 0, 0), .null), (.iload_n 0, 1, (0, 0, 0), .null), (.iload_n 1, 1, (0, 0, 0), .null), (.isub, 1, (0, 0, 0), .null), (.iload 4, 2, (0, 0, 0), .null), (.iadd, 1, (0, 0, 0), .null), (.i2l, 1, (0, 0, 0), .null), (.lmul, 1, (0, 0, 0), .null), (.iload 4, 2, (0, 0, 0), .null), (.i2l, 1, (0, 0, 0), .null), (.ldiv, 1, (0, 0, 0), .null), (.lstore_n 2, 1, (0, 0, 0), .null), (.iinc 4 (1), 3, (0, 0, 0), .int 1), (.goto (-23), 3, (5, 0, 0), .null)], none),
  (31, [(.lload_n 2, 1, (0, 0, 0), .null)], some (.lreturn, 1, (0, 0, 0), .null))]
def b_108 : mB := [
  (0, [(.lconst 1, 1, (0, 0, 0), .long 1), (.lstore_n 3, 1, (0, 0, 0), .null), (.iconst (0), 1, (0, 0, 0), .int 0), (.istore 5, 2, (0, 0, 0), .null)], none),
  (5, [(.iload 5, 2, (0, 0, 0), .null), (.iload_n 2, 1, (0, 0, 0), .null), (.if_icmp .ge (13), 3, (21, 0, 0), .null)], none),
  (11, [(.lload_n 3, 1, (0, 0, 0), .null), (.lload_n 0, 1, (0, 0, 0), .null), (.lmul, 1, (0, 0, 0), .null), (.lstore_n 3, 1, (0, 0, 0), .null), (.iinc 5 (1), 3, (0, 0, 0), .int 1), (.goto (-13), 3, (5, 0, 0), .null)], none),
  (21, [(.lload_n 3, 1, (0, 0, 0), .null)], some (.lreturn, 1, (0, 0, 0), .null))]
def b_109 : mB := [
  (0, [(.lload_n 2, 1, (0, 0, 0), .null), (.lstore 5, 2, (0, 0, 0), .null), (.lload_n 0, 1, (0, 0, 0), .null), (.lstore 7, 2, (0, 0, 0), .null), (.iconst (0), 1, (0, 0, 0), .int 0), (.istore 9, 2, (0, 0, 0), .null)], none),
  (9, [(.iload 9, 2, (0, 0, 0), .null), (.bipush (100), 2, (0, 0, 0), .int 100), (.if_icmp .ge (31), 3, (44, 0, 0), .null)], none),
  (16, [(.lload 7, 2, (0, 0, 0), .null), (.lconst 0, 1, (0, 0, 0), .long 0), (.lcmp, 1, (0, 0, 0), .null), (.ifCond .eq (24), 3, (44, 0, 0), .null)], none),
  (23, [(.lload 5, 2, (0, 0, 0), .null), (.lload 7, 2, (0, 0, 0), .null), (.lrem, 1, (0, 0, 0), .null), (.lstore 10, 2, (0, 0, 0), .null), (.lload 7, 2, (0, 0, 0), .null), (.lstore 5, 2, (0, 0, 0), .null), (.lload 10, 2, (0, 0, 0), .null), (.lstore 7, 2, (0, 0, 0), .null), (.iinc 9 (1), 3, (0, 0, 0), .int 1), (.goto (-32), 3, (9, 0, 0), .null)], none),
  (44, [(.lload 5, 2, (0, 0, 0), .null), (.lconst 0, 1, (0, 0, 0), .long 0), (.lcmp, 1, (0, 0, 0), .null), (.ifCond .ne (7), 3, (55, 0, 0), .null)], none),
  (51, [(.ldc2_w 181, 3, (0, 0, 0), .long (-1))], some (.lreturn, 1, (0, 0, 0), .null)),
  (55, [(.iload 4, 2, (0, 0, 0), .null), (.ifCond .eq (10), 3, (67, 0, 0), .null)], none),
  (60, [(.lload_n 2, 1, (0, 0, 0), .null), (.lload 5, 2, (0, 0, 0), .null), (.ldiv, 1, (0, 0, 0), .null), (.goto (7), 3, (71, 0, 0), .null)], none),
  (67, [(.lload_n 0, 1, (0, 0, 0), .null), (.lload 5, 2, (0, 0, 0), .null), (.ldiv, 1, (0, 0, 0), .null)], none),
  (71, [], some (.lreturn, 1, (0, 0, 0), .null))]
def b_110 : mB := [
  (0, [(.aload_n 0, 1, (0, 0, 0), .null), (.getfield 10, 3, (0, 0, 3), .null), (.iload_n 1, 1, (0, 0, 0), .null)], some (.invokevirtual 200, 3, (111, 1, 0), .null)),
  (8, [(.astore 4, 2, (0, 0, 0), .null), (.aload 4, 2, (0, 0, 0), .null), (.ifnonnull (8), 3, (20, 0, 0), .null)], none),
  (15, [(.bipush (-2), 2, (0, 0, 0), .int (-2)), (.goto (10), 3, (27, 0, 0), .null)], none),
  (20, [(.aload 4, 2, (0, 0, 0), .null), (.iload_n 2, 1, (0, 0, 0), .null), (.iload_n 3, 1, (0, 0, 0), .null)], some (.invokevirtual 204, 3, (112, 2, 0), .null)),
  (27, [], some (.ireturn, 1, (0, 0, 0), .null))]
def b_111 : mB := [
  (0, [(.iload_n 1, 1, (0, 0, 0), .null), (.iconst (0), 1, (0, 0, 0), .int 0), (.aload_n 0, 1, (0, 0, 0), .null), (.getfield 15, 3, (1, 1, 3), .null), (.iconst (2), 1, (0, 0, 0), .int 2), (.iaload, 1, (100, 0, 0), .null), (.iconst (1), 1, (0, 0, 0), .int 1), (.isub, 1, (0, 0, 0), .null)], some (.invokestatic 46, 3, (17, 3, 0), .null)),
  (13, [(.ifCond .eq (12), 3, (25, 0, 0), .null)], none),
  (16, [(.aload_n 0, 1, (0, 0, 0), .null), (.getfield 32, 3, (1, 4, 3), .null), (.iload_n 1, 1, (0, 0, 0), .null), (.aaload, 1, (204, 0, 0), .null), (.goto (4), 3, (26, 0, 0), .null)], none),
  (25, [(.aconst_null, 1, (0, 0, 0), .null)], none),
  (26, [], some (.areturn, 1, (0, 0, 0), .null))]
def b_112 : mB := [
  (0, [(.iload_n 1, 1, (0, 0, 0), .null), (.iconst (-1), 1, (0, 0, 0), .int (-1)), (.if_icmp .ne (12), 3, (14, 0, 0), .null)], none),
  (5, [(.iload_n 2, 1, (0, 0, 0), .null), (.ifCond .ne (8), 3, (14, 0, 0), .null)], none),
  (9, [(.aload_n 0, 1, (0, 0, 0), .null), (.getfield 18, 3, (4, 2, 0), .null)], some (.ireturn, 1, (0, 0, 0), .null)),
  (14, [(.iload_n 1, 1, (0, 0, 0), .null), (.iconst (0), 1, (0, 0, 0), .int 0), (.aload_n 0, 1, (0, 0, 0), .null), (.getfield 18, 3, (4, 2, 0), .null), (.iconst (1), 1, (0, 0, 0), .int 1), (.isub, 1, (0, 0, 0), .null)], some (.invokestatic 28, 3, (17, 3, 0), .null)),
  (25, [(.ifCond .ne (6), 3, (31, 0, 0), .null)], none),
  (28, [(.bipush (-2), 2, (0, 0, 0), .int (-2))], some (.ireturn, 1, (0, 0, 0), .null)),
  (31, [(.iload_n 2, 1, (0, 0, 0), .null), (.lookupswitch (45) #[(0, 28), (1, 38)], 28, (0, 0, 0), .null)], none),
  (60, [(.aload_n 0, 1, (0, 0, 0), .null), (.getfield 9, 3, (4, 0, 3), .null), (.iload_n 1, 1, (0, 0, 0), .null), (.iaload, 1, (100, 0, 0), .null), (.bipush (12), 2, (0, 0, 0), .int 12), (.isub, 1, (0, 0, 0), .null)], some (.ireturn, 1, (0, 0, 0), .null)),
  (70, [(.aload_n 0, 1, (0, 0, 0), .null), (.getfield 15, 3, (4, 1, 3), .null), (.iload_n 1, 1, (0, 0, 0), .null), (.iaload, 1, (100, 0, 0), .null)], some (.ireturn, 1, (0, 0, 0), .null)),
  (77, [(.bipush (-2), 2, (0, 0, 0), .int (-2))], some (.ireturn, 1, (0, 0, 0), .null))]
def b_113 : mB := [
  (0, [(.aload_n 0, 1, (0, 0, 0), .null), (.iload_n 1, 1, (0, 0, 0), .null), (.iload_n 2, 1, (0, 0, 0), .null)], some (.invokevirtual 207, 3, (114, 2, 0), .null)),
  (6, [(.ifCond .ne (6), 3, (12, 0, 0), .null)], none),
  (9, [(.bipush (-2), 2, (0, 0, 0), .int (-2))], some (.ireturn, 1, (0, 0, 0), .null)),
  (12, [(.iload_n 3, 1, (0, 0, 0), .null), (.tableswitch (51) (0) (2) #[27, 35, 43], 27, (0, 0, 0), .null)], none),
  (40, [(.aload_n 0, 1, (0, 0, 0), .null), (.getfield 62, 3, (0, 8, 3), .null), (.getfield 211, 3, (11, 1, 0), .null)], some (.ireturn, 1, (0, 0, 0), .null)),
  (48, [(.aload_n 0, 1, (0, 0, 0), .null), (.getfield 62, 3, (0, 8, 3), .null)], some (.invokevirtual 212, 3, (118, 0, 0), .null)),
  (55, [], some (.ireturn, 1, (0, 0, 0), .null)),
  (56, [(.aload_n 0, 1, (0, 0, 0), .null), (.getfield 62, 3, (0, 8, 3), .null)], some (.invokevirtual 215, 3, (119, 0, 0), .null)),
  (63, [], some (.ireturn, 1, (0, 0, 0), .null)),
  (64, [(.iload_n 3, 1, (0, 0, 0), .null), (.bipush (10), 2, (0, 0, 0), .int 10), (.if_icmp .lt (32), 3, (99, 0, 0), .null)], none),
  (70, [(.iload_n 3, 1, (0, 0, 0), .null), (.bipush (10), 2, (0, 0, 0), .int 10), (.isub, 1, (0, 0, 0), .null), (.aload_n 0, 1, (0, 0, 0), .null), (.getfield 62, 3, (0, 8, 3), .null), (.getfield 211, 3, (11, 1, 0), .null), (.if_icmp .ge (18), 3, (99, 0, 0), .null)], none),
  (84, [(.aload_n 0, 1, (0, 0, 0), .null), (.getfield 62, 3, (0, 8, 3), .null), (.getfield 218, 3, (11, 0, 3), .null), (.iload_n 3, 1, (0, 0, 0), .null), (.bipush (10), 2, (0, 0, 0), .int 10), (.isub, 1, (0, 0, 0), .null), (.iaload, 1, (100, 0, 0), .null), (.goto (5), 3, (101, 0, 0), .null)], none),
  (99, [(.bipush (-2), 2, (0, 0, 0), .int (-2))], none),
  (101, [], some (.ireturn, 1, (0, 0, 0), .null))]
def b_114 : mB := [
  (0, [(.aload_n 0, 1, (0, 0, 0), .null), (.getfield 10, 3, (0, 0, 3), .null), (.iload_n 1, 1, (0, 0, 0), .null)], some (.invokevirtual 101, 3, (53, 1, 0), .null)),
  (8, [(.astore_n 3, 1, (0, 0, 0), .null), (.aload_n 0, 1, (0, 0, 0), .null), (.getfield 10, 3, (0, 0, 3), .null), (.iload_n 2, 1, (0, 0, 0), .null)], some (.invokevirtual 200, 3, (111, 1, 0), .null)),
  (17, [(.astore 4, 2, (0, 0, 0), .null), (.aload_n 3, 1, (0, 0, 0), .null), (.ifnull (25), 3, (45, 0, 0), .null)], none),
  (23, [(.aload 4, 2, (0, 0, 0), .null), (.ifnull (20), 3, (45, 0, 0), .null)], none),
  (28, [(.aload_n 0, 1, (0, 0, 0), .null), (.getfield 62, 3, (0, 8, 3), .null), (.aload_n 3, 1, (0, 0, 0), .null), (.aload 4, 2, (0, 0, 0), .null)], some (.invokevirtual 332, 3, (115, 2, 0), .null)),
  (38, [(.ifCond .eq (7), 3, (45, 0, 0), .null)], none),
  (41, [(.iconst (1), 1, (0, 0, 0), .int 1), (.goto (4), 3, (46, 0, 0), .null)], none),
  (45, [(.iconst (0), 1, (0, 0, 0), .int 0)], none),
  (46, [], some (.ireturn, 1, (0, 0, 0), .null))]
def b_115 : mB := [
  (0, [(.aload_n 0, 1, (0, 0, 0), .null), (.iconst (0), 1, (0, 0, 0), .int 0), (.putfield 18, 3, (11, 1, 0), .null), (.aload_n 0, 1, (0, 0, 0), .null), (.aload_n 1, 1, (0, 0, 0), .null), (.getfield 22, 3, (2, 7, 0), .null), (.putfield 27, 3, (11, 3, 0), .null), (.aload_n 2, 1, (0, 0, 0), .null), (.aload_n 1, 1, (0, 0, 0), .null)], some (.invokevirtual 28, 3, (116, 1, 0), .null)),
  (18, [(.ifCond .eq (5), 3, (23, 0, 0), .null)], none),
  (21, [(.iconst (0), 1, (0, 0, 0), .int 0)], some (.ireturn, 1, (0, 0, 0), .null)),
  (23, [(.iconst (0), 1, (0, 0, 0), .int 0), (.istore_n 3, 1, (0, 0, 0), .null)], none),
  (25, [(.iload_n 3, 1, (0, 0, 0), .null), (.aload_n 0, 1, (0, 0, 0), .null), (.getfield 27, 3, (11, 3, 0), .null), (.if_icmp .ge (98), 3, (128, 0, 0), .null)], none),
  (33, [(.iconst (1), 1, (0, 0, 0), .int 1), (.iload_n 3, 1, (0, 0, 0), .null), (.ishl, 1, (0, 0, 0), .null), (.istore 4, 2, (0, 0, 0), .null), (.iconst (0), 1, (0, 0, 0), .int 0), (.istore 5, 2, (0, 0, 0), .null)], none),
  (41, [(.iload 5, 2, (0, 0, 0), .null), (.bipush (9), 2, (0, 0, 0), .int 9), (.if_icmp .gt (77), 3, (122, 0, 0), .null)], none),
  (48, [(.aload_n 2, 1, (0, 0, 0), .null), (.iload 4, 2, (0, 0, 0), .null)], some (.invokevirtual 34, 3, (117, 1, 0), .null)),
  (54, [(.ifCond .eq (49), 3, (103, 0, 0), .null)], none),
  (57, [(.aload_n 0, 1, (0, 0, 0), .null), (.getfield 18, 3, (11, 1, 0), .null), (.bipush (60), 2, (0, 0, 0), .int 60), (.if_icmp .ge (40), 3, (103, 0, 0), .null)], none),
  (66, [(.aload_n 0, 1, (0, 0, 0), .null), (.getfield 9, 3, (11, 0, 3), .null), (.aload_n 0, 1, (0, 0, 0), .null), (.getfield 18, 3, (11, 1, 0), .null), (.bipush (10), 2, (0, 0, 0), .int 10), (.iload_n 3, 1, (0, 0, 0), .null), (.imul, 1, (0, 0, 0), .null), (.iload 5, 2, (0, 0, 0), .null), (.iadd, 1, (0, 0, 0), .null), (.iastore, 1, (100, 0, 0), .null), (.aload_n 0, 1, (0, 0, 0), .null), (.getfield 15, 3, (11, 2, 3), .null), (.aload_n 0, 1, (0, 0, 0), .null), (.getfield 18, 3, (11, 1, 0), .null), (.iload 4, 2, (0, 0, 0), .null), (.iastore, 1, (100, 0, 0), .null), (.aload_n 0, 1, (0, 0, 0), .null), (.dup, 1, (0, 0, 0), .null), (.getfield 18, 3, (11, 1, 0), .null), (.iconst (1), 1, (0, 0, 0), .int 1), (.iadd, 1, (0, 0, 0), .null), (.putfield 18, 3, (11, 1, 0), .null)], none),
  (103, [(.aload_n 1, 1, (0, 0, 0), .null), (.iload 4, 2, (0, 0, 0), .null), (.iconst (1), 1, (0, 0, 0), .int 1), (.aload_n 1, 1, (0, 0, 0), .null)], some (.invokevirtual 38, 3, (98, 0, 0), .null)),
  (111, [], some (.invokevirtual 42, 3, (99, 3, 0), .null)),
  (114, [(.istore 4, 2, (0, 0, 0), .null), (.iinc 5 (1), 3, (0, 0, 0), .int 1), (.goto (-78), 3, (41, 0, 0), .null)], none),
  (122, [(.iinc 3 (1), 3, (0, 0, 0), .int 1), (.goto (-100), 3, (25, 0, 0), .null)], none),
  (128, [(.iconst (1), 1, (0, 0, 0), .int 1)], some (.ireturn, 1, (0, 0, 0), .null))]
def b_116 : mB := [
  (0, [(.iconst (0), 1, (0, 0, 0), .int 0), (.istore_n 2, 1, (0, 0, 0), .null)], none),
  (2, [(.iload_n 2, 1, (0, 0, 0), .null), (.aload_n 0, 1, (0, 0, 0), .null), (.getfield 18, 3, (4, 2, 0), .null), (.if_icmp .ge (24), 3, (31, 0, 0), .null)], none),
  (10, [(.aload_n 1, 1, (0, 0, 0), .null), (.aload_n 0, 1, (0, 0, 0), .null), (.getfield 15, 3, (4, 1, 3), .null), (.iload_n 2, 1, (0, 0, 0), .null), (.iaload, 1, (100, 0, 0), .null)], some (.invokevirtual 32, 3, (57, 1, 0), .null)),
  (20, [(.ifCond .ne (5), 3, (25, 0, 0), .null)], none),
  (23, [(.iconst (1), 1, (0, 0, 0), .int 1)], some (.ireturn, 1, (0, 0, 0), .null)),
  (25, [(.iinc 2 (1), 3, (0, 0, 0), .int 1), (.goto (-26), 3, (2, 0, 0), .null)], none),
  (31, [(.iconst (0), 1, (0, 0, 0), .int 0)], some (.ireturn, 1, (0, 0, 0), .null))]
def b_117 : mB := [
  (0, [(.iconst (0), 1, (0, 0, 0), .int 0), (.istore_n 2, 1, (0, 0, 0), .null)], none),
  (2, [(.iload_n 2, 1, (0, 0, 0), .null), (.aload_n 0, 1, (0, 0, 0), .null), (.getfield 18, 3, (4, 2, 0), .null), (.if_icmp .ge (40), 3, (47, 0, 0), .null)], none),
  (10, [(.iload_n 1, 1, (0, 0, 0), .null), (.aload_n 0, 1, (0, 0, 0), .null), (.getfield 15, 3, (4, 1, 3), .null), (.iload_n 2, 1, (0, 0, 0), .null), (.iaload, 1, (100, 0, 0), .null)], some (.invokestatic 38, 3, (71, 2, 0), .null)),
  (20, [(.aload_n 0, 1, (0, 0, 0), .null), (.getfield 9, 3, (4, 0, 3), .null), (.iload_n 2, 1, (0, 0, 0), .null), (.iaload, 1, (100, 0, 0), .null), (.bipush (12), 2, (0, 0, 0), .int 12), (.if_icmp .ne (7), 3, (35, 0, 0), .null)], none),
  (31, [(.iconst (1), 1, (0, 0, 0), .int 1), (.goto (4), 3, (36, 0, 0), .null)], none),
  (35, [(.iconst (0), 1, (0, 0, 0), .int 0)], none),
  (36, [(.if_icmp .eq (5), 3, (41, 0, 0), .null)], none),
  (39, [(.iconst (0), 1, (0, 0, 0), .int 0)], some (.ireturn, 1, (0, 0, 0), .null)),
  (41, [(.iinc 2 (1), 3, (0, 0, 0), .int 1), (.goto (-42), 3, (2, 0, 0), .null)], none),
  (47, [(.iconst (1), 1, (0, 0, 0), .int 1)], some (.ireturn, 1, (0, 0, 0), .null))]
def b_118 : mB := [
  (0, [(.aload_n 0, 1, (0, 0, 0), .null), (.getfield 18, 3, (11, 1, 0), .null), (.ifCond .eq (29), 3, (33, 0, 0), .null)], none),
  (7, [(.aload_n 0, 1, (0, 0, 0), .null), (.getfield 9, 3, (11, 0, 3), .null), (.iconst (0), 1, (0, 0, 0), .int 0), (.iaload, 1, (100, 0, 0), .null), (.bipush (10), 2, (0, 0, 0), .int 10), (.idiv, 1, (0, 0, 0), .null), (.aload_n 0, 1, (0, 0, 0), .null), (.getfield 9, 3, (11, 0, 3), .null), (.aload_n 0, 1, (0, 0, 0), .null), (.getfield 18, 3, (11, 1, 0), .null), (.iconst (1), 1, (0, 0, 0), .int 1), (.isub, 1, (0, 0, 0), .null), (.iaload, 1, (100, 0, 0), .null), (.bipush (10), 2, (0, 0, 0), .int 10), (.idiv, 1, (0, 0, 0), .null), (.if_icmp .eq (5), 3, (35, 0, 0), .null)], none),
  (33, [(.iconst (-1), 1, (0, 0, 0), .int (-1))], some (.ireturn, 1, (0, 0, 0), .null)),
  (35, [(.aload_n 0, 1, (0, 0, 0), .null), (.getfield 9, 3, (11, 0, 3), .null), (.iconst (0), 1, (0, 0, 0), .int 0), (.iaload, 1, (100, 0, 0), .null), (.bipush (10), 2, (0, 0, 0), .int 10), (.idiv, 1, (0, 0, 0), .null)], some (.ireturn, 1, (0, 0, 0), .null))]
def b_119 : mB := [
  (0, [(.iconst (-1), 1, (0, 0, 0), .int (-1)), (.istore_n 1, 1, (0, 0, 0), .null), (.bipush (61), 2, (0, 0, 0), .int 61), (.istore_n 2, 1, (0, 0, 0), .null), (.iconst (0), 1, (0, 0, 0), .int 0), (.istore_n 3, 1, (0, 0, 0), .null)], none),
  (7, [(.iload_n 3, 1, (0, 0, 0), .null), (.aload_n 0, 1, (0, 0, 0), .null), (.getfield 27, 3, (11, 3, 0), .null), (.if_icmp .ge (47), 3, (59, 0, 0), .null)], none),
  (15, [(.aload_n 0, 1, (0, 0, 0), .null), (.getfield 18, 3, (11, 1, 0), .null), (.ifCond .le (40), 3, (59, 0, 0), .null)], none),
  (22, [(.aload_n 0, 1, (0, 0, 0), .null), (.iload_n 3, 1, (0, 0, 0), .null)], some (.invokevirtual 46, 3, (120, 1, 0), .null)),
  (27, [(.aload_n 0, 1, (0, 0, 0), .null), (.getfield 18, 3, (11, 1, 0), .null), (.aload_n 0, 1, (0, 0, 0), .null), (.iload_n 3, 1, (0, 0, 0), .null)], some (.invokevirtual 46, 3, (120, 1, 0), .null)),
  (36, [(.isub, 1, (0, 0, 0), .null), (.invokestatic 50, 3, (2, 0, 0), .null), (.istore 4, 2, (0, 0, 0), .null), (.iload 4, 2, (0, 0, 0), .null), (.iload_n 2, 1, (0, 0, 0), .null), (.if_icmp .ge (8), 3, (53, 0, 0), .null)], none),
  (48, [(.iload_n 3, 1, (0, 0, 0), .null), (.istore_n 1, 1, (0, 0, 0), .null), (.iload 4, 2, (0, 0, 0), .null), (.istore_n 2, 1, (0, 0, 0), .null)], none),
  (53, [(.iinc 3 (1), 3, (0, 0, 0), .int 1), (.goto (-49), 3, (7, 0, 0), .null)], none),
  (59, [(.iload_n 1, 1, (0, 0, 0), .null)], some (.ireturn, 1, (0, 0, 0), .null))]
