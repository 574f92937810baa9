/-! The code as rows of blocks: the pc, the instructions, the call or return at its end; printed by a program of ours. -/
def b_120 : mB := [
  (0, [(.iconst (0), 1, (0, 0, 0), .int 0), (.istore_n 2, 1, (0, 0, 0), .null), (.iconst (0), 1, (0, 0, 0), .int 0), (.istore_n 3, 1, (0, 0, 0), .null)], none),
  (4, [(.iload_n 3, 1, (0, 0, 0), .null), (.aload_n 0, 1, (0, 0, 0), .null), (.getfield 18, 3, (11, 1, 0), .null), (.if_icmp .ge (25), 3, (34, 0, 0), .null)], none),
  (12, [(.aload_n 0, 1, (0, 0, 0), .null), (.getfield 15, 3, (11, 2, 3), .null), (.iload_n 3, 1, (0, 0, 0), .null), (.iaload, 1, (100, 0, 0), .null), (.iload_n 1, 1, (0, 0, 0), .null)], some (.invokestatic 56, 3, (71, 2, 0), .null)),
  (22, [(.ifCond .eq (6), 3, (28, 0, 0), .null)], none),
  (25, [(.iinc 2 (1), 3, (0, 0, 0), .int 1)], none),
  (28, [(.iinc 3 (1), 3, (0, 0, 0), .int 1), (.goto (-27), 3, (4, 0, 0), .null)], none),
  (34, [(.iload_n 2, 1, (0, 0, 0), .null)], some (.ireturn, 1, (0, 0, 0), .null))]
def b_121 : mB := [
  (0, [(.aload_n 0, 1, (0, 0, 0), .null), (.getfield 10, 3, (0, 0, 3), .null), (.iload_n 1, 1, (0, 0, 0), .null)], some (.invokevirtual 101, 3, (53, 1, 0), .null)),
  (8, [(.astore 5, 2, (0, 0, 0), .null), (.aload 5, 2, (0, 0, 0), .null), (.ifnull (13), 3, (25, 0, 0), .null)], none),
  (15, [(.iload_n 3, 1, (0, 0, 0), .null), (.iconst (0), 1, (0, 0, 0), .int 0), (.bipush (60), 2, (0, 0, 0), .int 60)], some (.invokestatic 74, 3, (17, 3, 0), .null)),
  (22, [(.ifCond .ne (6), 3, (28, 0, 0), .null)], none),
  (25, [(.bipush (-2), 2, (0, 0, 0), .int (-2))], some (.ireturn, 1, (0, 0, 0), .null)),
  (28, [(.aload_n 0, 1, (0, 0, 0), .null), (.getfield 34, 3, (0, 4, 3), .null), (.aload 5, 2, (0, 0, 0), .null), (.iload_n 2, 1, (0, 0, 0), .null), (.iload_n 3, 1, (0, 0, 0), .null)], some (.invokevirtual 221, 3, (122, 3, 0), .null)),
  (39, [(.aload_n 0, 1, (0, 0, 0), .null), (.getfield 34, 3, (0, 4, 3), .null), (.iload 4, 2, (0, 0, 0), .null)], some (.invokevirtual 127, 3, (81, 1, 0), .null)),
  (48, [], some (.ireturn, 1, (0, 0, 0), .null))]
def b_122 : mB := [
  (0, [(.aload_n 0, 1, (0, 0, 0), .null), (.aload_n 1, 1, (0, 0, 0), .null)], some (.invokevirtual 76, 3, (63, 1, 0), .null)),
  (5, [(.aload_n 0, 1, (0, 0, 0), .null), (.iload_n 2, 1, (0, 0, 0), .null), (.putfield 187, 3, (7, 14, 0), .null), (.iconst (0), 1, (0, 0, 0), .int 0), (.istore 4, 2, (0, 0, 0), .null)], none),
  (13, [(.iload 4, 2, (0, 0, 0), .null), (.iload_n 3, 1, (0, 0, 0), .null), (.if_icmp .ge (19), 3, (35, 0, 0), .null)], none),
  (19, [(.aload_n 0, 1, (0, 0, 0), .null), (.aload_n 0, 1, (0, 0, 0), .null), (.bipush (8), 2, (0, 0, 0), .int 8)], some (.invokevirtual 190, 3, (123, 1, 0), .null)),
  (26, [], some (.invokevirtual 193, 3, (124, 1, 0), .null)),
  (29, [(.iinc 4 (1), 3, (0, 0, 0), .int 1), (.goto (-19), 3, (13, 0, 0), .null)], none),
  (35, [], some (.return_, 1, (0, 0, 0), .null))]
def b_123 : mB := [
  (0, [(.aload_n 0, 1, (0, 0, 0), .null), (.aload_n 0, 1, (0, 0, 0), .null), (.getfield 187, 3, (7, 14, 0), .null), (.ldc 196, 2, (0, 0, 0), .int 1103515245), (.imul, 1, (0, 0, 0), .null), (.sipush (12345), 3, (0, 0, 0), .int 12345), (.iadd, 1, (0, 0, 0), .null), (.putfield 187, 3, (7, 14, 0), .null), (.iload_n 1, 1, (0, 0, 0), .null), (.iconst (1), 1, (0, 0, 0), .int 1), (.if_icmp .ge (7), 3, (24, 0, 0), .null)], none),
  (20, [(.iconst (0), 1, (0, 0, 0), .int 0), (.goto (12), 3, (33, 0, 0), .null)], none),
  (24, [(.aload_n 0, 1, (0, 0, 0), .null), (.getfield 187, 3, (7, 14, 0), .null), (.bipush (16), 2, (0, 0, 0), .int 16), (.iushr, 1, (0, 0, 0), .null), (.iload_n 1, 1, (0, 0, 0), .null), (.irem, 1, (0, 0, 0), .null)], none),
  (33, [], some (.ireturn, 1, (0, 0, 0), .null))]
def b_124 : mB := [
  (0, [(.aload_n 0, 1, (0, 0, 0), .null), (.getfield 21, 3, (7, 3, 3), .null), (.getfield 155, 3, (2, 6, 0), .null), (.ifCond .ne (7), 3, (14, 0, 0), .null)], none),
  (10, [(.iconst (1), 1, (0, 0, 0), .int 1), (.goto (4), 3, (15, 0, 0), .null)], none),
  (14, [(.iconst (0), 1, (0, 0, 0), .int 0)], none),
  (15, [(.istore_n 2, 1, (0, 0, 0), .null), (.iload_n 1, 1, (0, 0, 0), .null), (.tableswitch (151) (0) (6) #[43, 43, 43, 77, 93, 93, 140], 43, (0, 0, 0), .null)], none),
  (60, [(.iload_n 2, 1, (0, 0, 0), .null), (.ifCond .ne (115), 3, (176, 0, 0), .null)], none),
  (64, [(.aload_n 0, 1, (0, 0, 0), .null), (.iload_n 1, 1, (0, 0, 0), .null), (.iconst (2), 1, (0, 0, 0), .int 2), (.if_icmp .ne (7), 3, (74, 0, 0), .null)], none),
  (70, [(.iconst (1), 1, (0, 0, 0), .int 1), (.goto (4), 3, (75, 0, 0), .null)], none),
  (74, [(.iconst (0), 1, (0, 0, 0), .int 0)], none),
  (75, [(.aload_n 0, 1, (0, 0, 0), .null), (.aload_n 0, 1, (0, 0, 0), .null), (.getfield 21, 3, (7, 3, 3), .null), (.getfield 155, 3, (2, 6, 0), .null)], some (.invokevirtual 190, 3, (123, 1, 0), .null)),
  (86, [(.iconst (-1), 1, (0, 0, 0), .int (-1))], some (.invokevirtual 97, 3, (67, 3, 0), .null)),
  (90, [(.pop, 1, (0, 0, 0), .null), (.goto (85), 3, (176, 0, 0), .null)], none),
  (94, [(.aload_n 0, 1, (0, 0, 0), .null), (.iconst (2), 1, (0, 0, 0), .int 2), (.aload_n 0, 1, (0, 0, 0), .null), (.bipush (6), 2, (0, 0, 0), .int 6)], some (.invokevirtual 190, 3, (123, 1, 0), .null)),
  (102, [(.iconst (-1), 1, (0, 0, 0), .int (-1))], some (.invokevirtual 97, 3, (67, 3, 0), .null)),
  (106, [(.pop, 1, (0, 0, 0), .null), (.goto (69), 3, (176, 0, 0), .null)], none),
  (110, [(.iload_n 2, 1, (0, 0, 0), .null), (.ifCond .ne (65), 3, (176, 0, 0), .null)], none),
  (114, [(.aload_n 0, 1, (0, 0, 0), .null), (.getfield 21, 3, (7, 3, 3), .null), (.getfield 107, 3, (2, 7, 0), .null), (.ifCond .le (55), 3, (176, 0, 0), .null)], none),
  (124, [(.aload_n 0, 1, (0, 0, 0), .null), (.aload_n 0, 1, (0, 0, 0), .null), (.getfield 21, 3, (7, 3, 3), .null), (.getfield 155, 3, (2, 6, 0), .null)], some (.invokevirtual 190, 3, (123, 1, 0), .null)),
  (135, [(.istore_n 3, 1, (0, 0, 0), .null), (.aload_n 0, 1, (0, 0, 0), .null), (.iconst (3), 1, (0, 0, 0), .int 3), (.iload_n 3, 1, (0, 0, 0), .null), (.aload_n 0, 1, (0, 0, 0), .null), (.aload_n 0, 1, (0, 0, 0), .null), (.getfield 21, 3, (7, 3, 3), .null), (.getfield 107, 3, (2, 7, 0), .null)], some (.invokevirtual 190, 3, (123, 1, 0), .null)),
  (150, [], some (.invokevirtual 97, 3, (67, 3, 0), .null)),
  (153, [(.pop, 1, (0, 0, 0), .null), (.goto (22), 3, (176, 0, 0), .null)], none),
  (157, [(.aload_n 0, 1, (0, 0, 0), .null), (.iconst (4), 1, (0, 0, 0), .int 4), (.iconst (-1), 1, (0, 0, 0), .int (-1)), (.iconst (-1), 1, (0, 0, 0), .int (-1))], some (.invokevirtual 97, 3, (67, 3, 0), .null)),
  (164, [(.pop, 1, (0, 0, 0), .null), (.goto (11), 3, (176, 0, 0), .null)], none),
  (168, [(.aload_n 0, 1, (0, 0, 0), .null), (.iconst (5), 1, (0, 0, 0), .int 5), (.iconst (-1), 1, (0, 0, 0), .int (-1)), (.iconst (-1), 1, (0, 0, 0), .int (-1))], some (.invokevirtual 97, 3, (67, 3, 0), .null)),
  (175, [(.pop, 1, (0, 0, 0), .null)], none),
  (176, [], some (.return_, 1, (0, 0, 0), .null))]
def b_125 : mB := [
  (0, [(.aload_n 0, 1, (0, 0, 0), .null), (.getfield 10, 3, (0, 0, 3), .null), (.iload_n 1, 1, (0, 0, 0), .null)], some (.invokevirtual 101, 3, (53, 1, 0), .null)),
  (8, [(.astore_n 3, 1, (0, 0, 0), .null), (.aload_n 3, 1, (0, 0, 0), .null), (.ifnonnull (6), 3, (16, 0, 0), .null)], none),
  (13, [(.bipush (-2), 2, (0, 0, 0), .int (-2))], some (.ireturn, 1, (0, 0, 0), .null)),
  (16, [(.iload_n 2, 1, (0, 0, 0), .null), (.tableswitch (119) (0) (7) #[47, 56, 65, 70, 79, 96, 105, 114], 47, (0, 0, 0), .null)], none),
  (64, [(.aload_n 0, 1, (0, 0, 0), .null), (.getfield 41, 3, (0, 5, 3), .null), (.aload_n 3, 1, (0, 0, 0), .null)], some (.invokevirtual 224, 3, (126, 1, 0), .null)),
  (72, [], some (.ireturn, 1, (0, 0, 0), .null)),
  (73, [(.aload_n 0, 1, (0, 0, 0), .null), (.getfield 41, 3, (0, 5, 3), .null), (.aload_n 3, 1, (0, 0, 0), .null)], some (.invokevirtual 228, 3, (127, 1, 0), .null)),
  (81, [], some (.ireturn, 1, (0, 0, 0), .null)),
  (82, [(.aload_n 3, 1, (0, 0, 0), .null)], some (.invokevirtual 231, 3, (128, 0, 0), .null)),
  (86, [], some (.ireturn, 1, (0, 0, 0), .null)),
  (87, [(.aload_n 3, 1, (0, 0, 0), .null), (.aload_n 3, 1, (0, 0, 0), .null)], some (.invokevirtual 231, 3, (128, 0, 0), .null)),
  (92, [], some (.invokevirtual 234, 3, (129, 1, 0), .null)),
  (95, [], some (.ireturn, 1, (0, 0, 0), .null)),
  (96, [(.aload_n 0, 1, (0, 0, 0), .null), (.getfield 48, 3, (0, 6, 3), .null), (.aload_n 3, 1, (0, 0, 0), .null), (.aload_n 3, 1, (0, 0, 0), .null)], some (.invokevirtual 178, 3, (94, 0, 0), .null)),
  (105, [(.aload_n 3, 1, (0, 0, 0), .null), (.getfield 237, 3, (2, 8, 0), .null)], some (.invokevirtual 240, 3, (131, 3, 0), .null)),
  (112, [], some (.ireturn, 1, (0, 0, 0), .null)),
  (113, [(.aload_n 0, 1, (0, 0, 0), .null), (.getfield 48, 3, (0, 6, 3), .null), (.aload_n 3, 1, (0, 0, 0), .null)], some (.invokevirtual 243, 3, (133, 1, 0), .null)),
  (121, [], some (.ireturn, 1, (0, 0, 0), .null)),
  (122, [(.aload_n 3, 1, (0, 0, 0), .null), (.aload_n 3, 1, (0, 0, 0), .null)], some (.invokevirtual 246, 3, (134, 0, 0), .null)),
  (127, [], some (.invokevirtual 249, 3, (135, 1, 0), .null)),
  (130, [], some (.ireturn, 1, (0, 0, 0), .null)),
  (131, [(.aload_n 3, 1, (0, 0, 0), .null)], some (.invokevirtual 246, 3, (134, 0, 0), .null)),
  (135, [], some (.ireturn, 1, (0, 0, 0), .null)),
  (136, [(.iload_n 2, 1, (0, 0, 0), .null), (.bipush (10), 2, (0, 0, 0), .int 10), (.if_icmp .lt (25), 3, (164, 0, 0), .null)], none),
  (142, [(.aload_n 3, 1, (0, 0, 0), .null), (.iload_n 2, 1, (0, 0, 0), .null), (.bipush (10), 2, (0, 0, 0), .int 10), (.isub, 1, (0, 0, 0), .null)], some (.invokevirtual 141, 3, (56, 1, 0), .null)),
  (150, [(.ifCond .eq (14), 3, (164, 0, 0), .null)], none),
  (153, [(.aload_n 3, 1, (0, 0, 0), .null), (.iload_n 2, 1, (0, 0, 0), .null), (.bipush (10), 2, (0, 0, 0), .int 10), (.isub, 1, (0, 0, 0), .null)], some (.invokevirtual 252, 3, (136, 1, 0), .null)),
  (161, [(.goto (5), 3, (166, 0, 0), .null)], none),
  (164, [(.bipush (-2), 2, (0, 0, 0), .int (-2))], none),
  (166, [], some (.ireturn, 1, (0, 0, 0), .null))]
def b_126 : mB := [
  (0, [(.aload_n 0, 1, (0, 0, 0), .null), (.aload_n 1, 1, (0, 0, 0), .null), (.bipush (99), 2, (0, 0, 0), .int 99), (.iconst (0), 1, (0, 0, 0), .int 0)], some (.invokevirtual 95, 3, (84, 3, 0), .null)),
  (8, [(.aload_n 0, 1, (0, 0, 0), .null), (.getfield 36, 3, (8, 3, 0), .null), (.aload_n 1, 1, (0, 0, 0), .null), (.getfield 61, 3, (2, 6, 0), .null), (.if_icmp .ne (10), 3, (26, 0, 0), .null)], none),
  (19, [(.aload_n 0, 1, (0, 0, 0), .null), (.getfield 40, 3, (8, 5, 0), .null), (.goto (4), 3, (27, 0, 0), .null)], none),
  (26, [(.iconst (-1), 1, (0, 0, 0), .int (-1))], none),
  (27, [], some (.ireturn, 1, (0, 0, 0), .null))]
def b_127 : mB := [
  (0, [(.aload_n 0, 1, (0, 0, 0), .null), (.aload_n 1, 1, (0, 0, 0), .null), (.bipush (99), 2, (0, 0, 0), .int 99), (.iconst (0), 1, (0, 0, 0), .int 0)], some (.invokevirtual 95, 3, (84, 3, 0), .null)),
  (8, [(.aload_n 1, 1, (0, 0, 0), .null)], some (.invokevirtual 111, 3, (94, 0, 0), .null)),
  (12, [(.aload_n 0, 1, (0, 0, 0), .null), (.getfield 24, 3, (8, 4, 3), .null), (.getfield 99, 3, (7, 1, 0), .null), (.iconst (-1), 1, (0, 0, 0), .int (-1)), (.ixor, 1, (0, 0, 0), .null), (.iand, 1, (0, 0, 0), .null)], some (.ireturn, 1, (0, 0, 0), .null))]
def b_128 : mB := [
  (0, [(.iconst (-1), 1, (0, 0, 0), .int (-1)), (.istore_n 1, 1, (0, 0, 0), .null), (.iconst (0), 1, (0, 0, 0), .int 0), (.istore_n 2, 1, (0, 0, 0), .null)], none),
  (4, [(.iload_n 2, 1, (0, 0, 0), .null), (.aload_n 0, 1, (0, 0, 0), .null), (.getfield 39, 3, (2, 6, 0), .null), (.if_icmp .ge (29), 3, (38, 0, 0), .null)], none),
  (12, [(.iload_n 1, 1, (0, 0, 0), .null), (.iconst (-1), 1, (0, 0, 0), .int (-1)), (.if_icmp .eq (16), 3, (30, 0, 0), .null)], none),
  (17, [(.aload_n 0, 1, (0, 0, 0), .null), (.iload_n 2, 1, (0, 0, 0), .null)], some (.invokevirtual 85, 3, (129, 1, 0), .null)),
  (22, [(.aload_n 0, 1, (0, 0, 0), .null), (.iload_n 1, 1, (0, 0, 0), .null)], some (.invokevirtual 85, 3, (129, 1, 0), .null)),
  (27, [(.if_icmp .le (5), 3, (32, 0, 0), .null)], none),
  (30, [(.iload_n 2, 1, (0, 0, 0), .null), (.istore_n 1, 1, (0, 0, 0), .null)], none),
  (32, [(.iinc 2 (1), 3, (0, 0, 0), .int 1), (.goto (-31), 3, (4, 0, 0), .null)], none),
  (38, [(.iload_n 1, 1, (0, 0, 0), .null)], some (.ireturn, 1, (0, 0, 0), .null))]
def b_129 : mB := [
  (0, [(.aload_n 0, 1, (0, 0, 0), .null), (.iload_n 1, 1, (0, 0, 0), .null)], some (.invokevirtual 59, 3, (56, 1, 0), .null)),
  (5, [(.ifCond .eq (16), 3, (21, 0, 0), .null)], none),
  (8, [(.aload_n 0, 1, (0, 0, 0), .null), (.iload_n 1, 1, (0, 0, 0), .null)], some (.invokevirtual 77, 3, (130, 1, 0), .null)),
  (13, [], some (.invokestatic 80, 3, (66, 1, 0), .null)),
  (16, [(.iconst (1), 1, (0, 0, 0), .int 1), (.isub, 1, (0, 0, 0), .null), (.goto (4), 3, (22, 0, 0), .null)], none),
  (21, [(.iconst (-1), 1, (0, 0, 0), .int (-1))], none),
  (22, [], some (.ireturn, 1, (0, 0, 0), .null))]
def b_130 : mB := [
  (0, [(.iconst (1), 1, (0, 0, 0), .int 1), (.iload_n 1, 1, (0, 0, 0), .null), (.ishl, 1, (0, 0, 0), .null), (.istore_n 2, 1, (0, 0, 0), .null), (.iload_n 1, 1, (0, 0, 0), .null), (.iconst (1), 1, (0, 0, 0), .int 1), (.iadd, 1, (0, 0, 0), .null), (.istore_n 3, 1, (0, 0, 0), .null)], none),
  (8, [(.iload_n 3, 1, (0, 0, 0), .null), (.aload_n 0, 1, (0, 0, 0), .null), (.getfield 39, 3, (2, 6, 0), .null), (.if_icmp .ge (26), 3, (39, 0, 0), .null)], none),
  (16, [(.aload_n 0, 1, (0, 0, 0), .null), (.getfield 18, 3, (2, 2, 3), .null), (.iload_n 3, 1, (0, 0, 0), .null), (.iaload, 1, (100, 0, 0), .null), (.iload_n 2, 1, (0, 0, 0), .null), (.iand, 1, (0, 0, 0), .null), (.ifCond .eq (9), 3, (33, 0, 0), .null)], none),
  (27, [(.iload_n 2, 1, (0, 0, 0), .null), (.iconst (1), 1, (0, 0, 0), .int 1), (.iload_n 3, 1, (0, 0, 0), .null), (.ishl, 1, (0, 0, 0), .null), (.ior, 1, (0, 0, 0), .null), (.istore_n 2, 1, (0, 0, 0), .null)], none),
  (33, [(.iinc 3 (1), 3, (0, 0, 0), .int 1), (.goto (-28), 3, (8, 0, 0), .null)], none),
  (39, [(.iload_n 2, 1, (0, 0, 0), .null)], some (.ireturn, 1, (0, 0, 0), .null))]
def b_131 : mB := [
  (0, [(.iconst (0), 1, (0, 0, 0), .int 0), (.istore 4, 2, (0, 0, 0), .null)], none),
  (3, [(.iload 4, 2, (0, 0, 0), .null), (.aload_n 1, 1, (0, 0, 0), .null), (.getfield 25, 3, (2, 6, 0), .null), (.if_icmp .ge (31), 3, (40, 0, 0), .null)], none),
  (12, [(.iload_n 2, 1, (0, 0, 0), .null), (.iload 4, 2, (0, 0, 0), .null)], some (.invokestatic 31, 3, (71, 2, 0), .null)),
  (18, [(.ifCond .eq (16), 3, (34, 0, 0), .null)], none),
  (21, [(.aload_n 1, 1, (0, 0, 0), .null), (.getfield 62, 3, (2, 0, 3), .null), (.iload 4, 2, (0, 0, 0), .null), (.iaload, 1, (100, 0, 0), .null), (.iload_n 3, 1, (0, 0, 0), .null), (.if_icmp .le (5), 3, (34, 0, 0), .null)], none),
  (32, [(.iconst (-1), 1, (0, 0, 0), .int (-1))], some (.ireturn, 1, (0, 0, 0), .null)),
  (34, [(.iinc 4 (1), 3, (0, 0, 0), .int 1), (.goto (-34), 3, (3, 0, 0), .null)], none),
  (40, [(.aload_n 0, 1, (0, 0, 0), .null), (.getfield 15, 3, (9, 4, 3), .null), (.iconst (0), 1, (0, 0, 0), .int 0), (.iload_n 3, 1, (0, 0, 0), .null), (.iastore, 1, (100, 0, 0), .null), (.iconst (1), 1, (0, 0, 0), .int 1), (.istore 4, 2, (0, 0, 0), .null)], none),
  (50, [(.iload 4, 2, (0, 0, 0), .null), (.iload_n 2, 1, (0, 0, 0), .null), (.if_icmp .gt (33), 3, (86, 0, 0), .null)], none),
  (56, [(.iload 4, 2, (0, 0, 0), .null), (.iload_n 2, 1, (0, 0, 0), .null), (.iconst (-1), 1, (0, 0, 0), .int (-1)), (.ixor, 1, (0, 0, 0), .null), (.iand, 1, (0, 0, 0), .null), (.ifCond .ne (18), 3, (80, 0, 0), .null)], none),
  (65, [(.aload_n 0, 1, (0, 0, 0), .null), (.getfield 15, 3, (9, 4, 3), .null), (.iload 4, 2, (0, 0, 0), .null), (.aload_n 0, 1, (0, 0, 0), .null), (.aload_n 1, 1, (0, 0, 0), .null), (.iload 4, 2, (0, 0, 0), .null), (.iload_n 3, 1, (0, 0, 0), .null)], some (.invokevirtual 65, 3, (132, 3, 0), .null)),
  (79, [(.iastore, 1, (100, 0, 0), .null)], none),
  (80, [(.iinc 4 (1), 3, (0, 0, 0), .int 1), (.goto (-33), 3, (50, 0, 0), .null)], none),
  (86, [(.aload_n 0, 1, (0, 0, 0), .null), (.getfield 15, 3, (9, 4, 3), .null), (.iload_n 2, 1, (0, 0, 0), .null), (.iaload, 1, (100, 0, 0), .null), (.bipush (16), 2, (0, 0, 0), .int 16), (.idiv, 1, (0, 0, 0), .null)], some (.ireturn, 1, (0, 0, 0), .null))]
def b_132 : mB := [
  (0, [(.sipush (1584), 3, (0, 0, 0), .int 1584), (.istore 4, 2, (0, 0, 0), .null), (.iconst (0), 1, (0, 0, 0), .int 0), (.istore 5, 2, (0, 0, 0), .null)], none),
  (8, [(.iload 5, 2, (0, 0, 0), .null), (.aload_n 1, 1, (0, 0, 0), .null), (.getfield 25, 3, (2, 6, 0), .null), (.if_icmp .ge (121), 3, (135, 0, 0), .null)], none),
  (17, [(.iload_n 2, 1, (0, 0, 0), .null), (.iconst (1), 1, (0, 0, 0), .int 1), (.iload 5, 2, (0, 0, 0), .null), (.ishl, 1, (0, 0, 0), .null), (.iconst (-1), 1, (0, 0, 0), .int (-1)), (.ixor, 1, (0, 0, 0), .null), (.iand, 1, (0, 0, 0), .null), (.istore 6, 2, (0, 0, 0), .null), (.iload 6, 2, (0, 0, 0), .null), (.iload_n 2, 1, (0, 0, 0), .null), (.if_icmp .eq (99), 3, (129, 0, 0), .null)], none),
  (33, [(.aload_n 1, 1, (0, 0, 0), .null), (.getfield 35, 3, (2, 2, 3), .null), (.iload 5, 2, (0, 0, 0), .null), (.iaload, 1, (100, 0, 0), .null), (.iload 6, 2, (0, 0, 0), .null), (.iconst (-1), 1, (0, 0, 0), .int (-1)), (.ixor, 1, (0, 0, 0), .null), (.iand, 1, (0, 0, 0), .null), (.ifCond .ne (84), 3, (129, 0, 0), .null)], none),
  (48, [(.aload_n 0, 1, (0, 0, 0), .null), (.getfield 15, 3, (9, 4, 3), .null), (.iload 6, 2, (0, 0, 0), .null), (.iaload, 1, (100, 0, 0), .null), (.istore 7, 2, (0, 0, 0), .null), (.iload 7, 2, (0, 0, 0), .null), (.bipush (16), 2, (0, 0, 0), .int 16), (.irem, 1, (0, 0, 0), .null), (.aload_n 1, 1, (0, 0, 0), .null), (.getfield 62, 3, (2, 0, 3), .null), (.iload 5, 2, (0, 0, 0), .null), (.iaload, 1, (100, 0, 0), .null), (.iadd, 1, (0, 0, 0), .null), (.iload_n 3, 1, (0, 0, 0), .null), (.if_icmp .gt (7), 3, (78, 0, 0), .null)], none),
  (74, [(.iconst (1), 1, (0, 0, 0), .int 1), (.goto (4), 3, (79, 0, 0), .null)], none),
  (78, [(.iconst (0), 1, (0, 0, 0), .int 0)], none),
  (79, [(.istore 8, 2, (0, 0, 0), .null), (.iload 8, 2, (0, 0, 0), .null), (.ifCond .eq (16), 3, (99, 0, 0), .null)], none),
  (86, [(.iload 7, 2, (0, 0, 0), .null), (.aload_n 1, 1, (0, 0, 0), .null), (.getfield 62, 3, (2, 0, 3), .null), (.iload 5, 2, (0, 0, 0), .null), (.iaload, 1, (100, 0, 0), .null), (.iadd, 1, (0, 0, 0), .null), (.goto (22), 3, (118, 0, 0), .null)], none),
  (99, [(.iload 7, 2, (0, 0, 0), .null), (.bipush (16), 2, (0, 0, 0), .int 16), (.idiv, 1, (0, 0, 0), .null), (.bipush (16), 2, (0, 0, 0), .int 16), (.imul, 1, (0, 0, 0), .null), (.bipush (16), 2, (0, 0, 0), .int 16), (.iadd, 1, (0, 0, 0), .null), (.aload_n 1, 1, (0, 0, 0), .null), (.getfield 62, 3, (2, 0, 3), .null), (.iload 5, 2, (0, 0, 0), .null), (.iaload, 1, (100, 0, 0), .null), (.iadd, 1, (0, 0, 0), .null)], none),
  (118, [(.istore 9, 2, (0, 0, 0), .null), (.iload 4, 2, (0, 0, 0), .null), (.iload 9, 2, (0, 0, 0), .null), (.invokestatic 68, 3, (3, 0, 0), .null), (.istore 4, 2, (0, 0, 0), .null)], none),
  (129, [(.iinc 5 (1), 3, (0, 0, 0), .int 1), (.goto (-124), 3, (8, 0, 0), .null)], none),
  (135, [(.iload 4, 2, (0, 0, 0), .null)], some (.ireturn, 1, (0, 0, 0), .null))]
def b_133 : mB := [
  (0, [(.aload_n 0, 1, (0, 0, 0), .null), (.getfield 15, 3, (9, 4, 3), .null), (.iconst (0), 1, (0, 0, 0), .int 0), (.iconst (1), 1, (0, 0, 0), .int 1), (.iastore, 1, (100, 0, 0), .null), (.iconst (1), 1, (0, 0, 0), .int 1), (.istore_n 2, 1, (0, 0, 0), .null)], none),
  (9, [(.iload_n 2, 1, (0, 0, 0), .null), (.aload_n 1, 1, (0, 0, 0), .null)], some (.invokevirtual 38, 3, (94, 0, 0), .null)),
  (14, [(.if_icmp .gt (77), 3, (91, 0, 0), .null)], none),
  (17, [(.iconst (0), 1, (0, 0, 0), .int 0), (.istore_n 3, 1, (0, 0, 0), .null), (.iconst (0), 1, (0, 0, 0), .int 0), (.istore 4, 2, (0, 0, 0), .null)], none),
  (22, [(.iload 4, 2, (0, 0, 0), .null), (.aload_n 1, 1, (0, 0, 0), .null), (.getfield 25, 3, (2, 6, 0), .null), (.if_icmp .ge (50), 3, (78, 0, 0), .null)], none),
  (31, [(.iload_n 2, 1, (0, 0, 0), .null), (.iconst (1), 1, (0, 0, 0), .int 1), (.iload 4, 2, (0, 0, 0), .null), (.ishl, 1, (0, 0, 0), .null), (.iconst (-1), 1, (0, 0, 0), .int (-1)), (.ixor, 1, (0, 0, 0), .null), (.iand, 1, (0, 0, 0), .null), (.istore 5, 2, (0, 0, 0), .null), (.iload 5, 2, (0, 0, 0), .null), (.iload_n 2, 1, (0, 0, 0), .null), (.if_icmp .eq (28), 3, (72, 0, 0), .null)], none),
  (47, [(.aload_n 1, 1, (0, 0, 0), .null), (.getfield 35, 3, (2, 2, 3), .null), (.iload 4, 2, (0, 0, 0), .null), (.iaload, 1, (100, 0, 0), .null), (.iload 5, 2, (0, 0, 0), .null), (.iconst (-1), 1, (0, 0, 0), .int (-1)), (.ixor, 1, (0, 0, 0), .null), (.iand, 1, (0, 0, 0), .null), (.ifCond .ne (13), 3, (72, 0, 0), .null)], none),
  (62, [(.iload_n 3, 1, (0, 0, 0), .null), (.aload_n 0, 1, (0, 0, 0), .null), (.getfield 15, 3, (9, 4, 3), .null), (.iload 5, 2, (0, 0, 0), .null), (.iaload, 1, (100, 0, 0), .null), (.iadd, 1, (0, 0, 0), .null), (.istore_n 3, 1, (0, 0, 0), .null)], none),
  (72, [(.iinc 4 (1), 3, (0, 0, 0), .int 1), (.goto (-53), 3, (22, 0, 0), .null)], none),
  (78, [(.aload_n 0, 1, (0, 0, 0), .null), (.getfield 15, 3, (9, 4, 3), .null), (.iload_n 2, 1, (0, 0, 0), .null), (.iload_n 3, 1, (0, 0, 0), .null), (.iastore, 1, (100, 0, 0), .null), (.iinc 2 (1), 3, (0, 0, 0), .int 1), (.goto (-79), 3, (9, 0, 0), .null)], none),
  (91, [(.aload_n 0, 1, (0, 0, 0), .null), (.getfield 15, 3, (9, 4, 3), .null), (.aload_n 1, 1, (0, 0, 0), .null)], some (.invokevirtual 38, 3, (94, 0, 0), .null)),
  (99, [(.iaload, 1, (100, 0, 0), .null)], some (.ireturn, 1, (0, 0, 0), .null))]
def b_134 : mB := [
  (0, [(.iconst (0), 1, (0, 0, 0), .int 0), (.istore_n 1, 1, (0, 0, 0), .null), (.aload_n 0, 1, (0, 0, 0), .null), (.iconst (0), 1, (0, 0, 0), .int 0)], some (.invokevirtual 97, 3, (135, 1, 0), .null)),
  (7, [(.istore_n 2, 1, (0, 0, 0), .null), (.iconst (1), 1, (0, 0, 0), .int 1), (.istore_n 3, 1, (0, 0, 0), .null)], none),
  (10, [(.iload_n 3, 1, (0, 0, 0), .null), (.iconst (1), 1, (0, 0, 0), .int 1), (.aload_n 0, 1, (0, 0, 0), .null), (.getfield 39, 3, (2, 6, 0), .null), (.iconst (1), 1, (0, 0, 0), .int 1), (.isub, 1, (0, 0, 0), .null), (.ishl, 1, (0, 0, 0), .null), (.if_icmp .ge (35), 3, (54, 0, 0), .null)], none),
  (22, [(.aload_n 0, 1, (0, 0, 0), .null), (.getfield 39, 3, (2, 6, 0), .null), (.iconst (1), 1, (0, 0, 0), .int 1), (.if_icmp .le (27), 3, (54, 0, 0), .null)], none),
  (30, [(.aload_n 0, 1, (0, 0, 0), .null), (.iload_n 3, 1, (0, 0, 0), .null)], some (.invokevirtual 97, 3, (135, 1, 0), .null)),
  (35, [(.istore 4, 2, (0, 0, 0), .null), (.iload 4, 2, (0, 0, 0), .null), (.iload_n 2, 1, (0, 0, 0), .null), (.if_icmp .ge (8), 3, (48, 0, 0), .null)], none),
  (43, [(.iload_n 3, 1, (0, 0, 0), .null), (.istore_n 1, 1, (0, 0, 0), .null), (.iload 4, 2, (0, 0, 0), .null), (.istore_n 2, 1, (0, 0, 0), .null)], none),
  (48, [(.iinc 3 (1), 3, (0, 0, 0), .int 1), (.goto (-41), 3, (10, 0, 0), .null)], none),
  (54, [(.iload_n 1, 1, (0, 0, 0), .null)], some (.ireturn, 1, (0, 0, 0), .null))]
def b_135 : mB := [
  (0, [(.aload_n 0, 1, (0, 0, 0), .null), (.aload_n 0, 1, (0, 0, 0), .null)], some (.invokevirtual 88, 3, (94, 0, 0), .null)),
  (5, [], some (.invokevirtual 74, 3, (95, 1, 0), .null)),
  (8, [(.iconst (2), 1, (0, 0, 0), .int 2), (.aload_n 0, 1, (0, 0, 0), .null), (.iload_n 1, 1, (0, 0, 0), .null)], some (.invokevirtual 74, 3, (95, 1, 0), .null)),
  (14, [(.imul, 1, (0, 0, 0), .null), (.isub, 1, (0, 0, 0), .null), (.invokestatic 92, 3, (4, 0, 0), .null)], some (.ireturn, 1, (0, 0, 0), .null))]
def b_136 : mB := [
  (0, [(.aload_n 0, 1, (0, 0, 0), .null), (.iload_n 1, 1, (0, 0, 0), .null)], some (.invokevirtual 59, 3, (56, 1, 0), .null)),
  (5, [(.ifCond .eq (12), 3, (17, 0, 0), .null)], none),
  (8, [(.aload_n 0, 1, (0, 0, 0), .null), (.getfield 18, 3, (2, 2, 3), .null), (.iload_n 1, 1, (0, 0, 0), .null), (.iaload, 1, (100, 0, 0), .null), (.goto (4), 3, (18, 0, 0), .null)], none),
  (17, [(.iconst (0), 1, (0, 0, 0), .int 0)], none),
  (18, [(.istore_n 2, 1, (0, 0, 0), .null), (.iload_n 1, 1, (0, 0, 0), .null), (.iconst (1), 1, (0, 0, 0), .int 1), (.isub, 1, (0, 0, 0), .null), (.istore_n 3, 1, (0, 0, 0), .null)], none),
  (23, [(.iload_n 3, 1, (0, 0, 0), .null), (.ifCond .lt (26), 3, (50, 0, 0), .null)], none),
  (27, [(.iload_n 2, 1, (0, 0, 0), .null), (.iload_n 3, 1, (0, 0, 0), .null)], some (.invokestatic 70, 3, (71, 2, 0), .null)),
  (32, [(.ifCond .eq (12), 3, (44, 0, 0), .null)], none),
  (35, [(.iload_n 2, 1, (0, 0, 0), .null), (.aload_n 0, 1, (0, 0, 0), .null), (.getfield 18, 3, (2, 2, 3), .null), (.iload_n 3, 1, (0, 0, 0), .null), (.iaload, 1, (100, 0, 0), .null), (.ior, 1, (0, 0, 0), .null), (.istore_n 2, 1, (0, 0, 0), .null)], none),
  (44, [(.iinc 3 (-1), 3, (0, 0, 0), .int (-1)), (.goto (-24), 3, (23, 0, 0), .null)], none),
  (50, [(.iload_n 2, 1, (0, 0, 0), .null)], some (.ireturn, 1, (0, 0, 0), .null))]
def b_137 : mB := [
  (0, [(.aload_n 0, 1, (0, 0, 0), .null), (.getfield 10, 3, (0, 0, 3), .null), (.iload_n 1, 1, (0, 0, 0), .null)], some (.invokevirtual 101, 3, (53, 1, 0), .null)),
  (8, [(.astore 4, 2, (0, 0, 0), .null), (.aload 4, 2, (0, 0, 0), .null), (.ifnull (12), 3, (24, 0, 0), .null)], none),
  (15, [(.iload_n 2, 1, (0, 0, 0), .null), (.iconst (1), 1, (0, 0, 0), .int 1), (.iconst (4), 1, (0, 0, 0), .int 4)], some (.invokestatic 74, 3, (17, 3, 0), .null)),
  (21, [(.ifCond .ne (5), 3, (26, 0, 0), .null)], none),
  (24, [(.iconst (-1), 1, (0, 0, 0), .int (-1))], some (.ireturn, 1, (0, 0, 0), .null)),
  (26, [(.aload_n 0, 1, (0, 0, 0), .null), (.getfield 55, 3, (0, 7, 3), .null), (.aload 4, 2, (0, 0, 0), .null), (.iload_n 2, 1, (0, 0, 0), .null)], some (.invokevirtual 255, 3, (138, 2, 0), .null)),
  (36, [(.istore 5, 2, (0, 0, 0), .null), (.iload_n 3, 1, (0, 0, 0), .null), (.iconst (-1), 1, (0, 0, 0), .int (-1)), (.if_icmp .ne (6), 3, (46, 0, 0), .null)], none),
  (43, [(.iload 5, 2, (0, 0, 0), .null)], some (.ireturn, 1, (0, 0, 0), .null)),
  (46, [(.iload_n 3, 1, (0, 0, 0), .null), (.iconst (0), 1, (0, 0, 0), .int 0), (.iload_n 2, 1, (0, 0, 0), .null), (.iconst (1), 1, (0, 0, 0), .int 1), (.isub, 1, (0, 0, 0), .null)], some (.invokestatic 74, 3, (17, 3, 0), .null)),
  (54, [(.ifCond .eq (15), 3, (69, 0, 0), .null)], none),
  (57, [(.aload_n 0, 1, (0, 0, 0), .null), (.getfield 55, 3, (0, 7, 3), .null), (.getfield 258, 3, (10, 0, 3), .null), (.iload_n 3, 1, (0, 0, 0), .null), (.iaload, 1, (100, 0, 0), .null), (.goto (4), 3, (70, 0, 0), .null)], none),
  (69, [(.iconst (-1), 1, (0, 0, 0), .int (-1))], none),
  (70, [], some (.ireturn, 1, (0, 0, 0), .null))]
def b_138 : mB := [
  (0, [(.aload_n 0, 1, (0, 0, 0), .null), (.getfield 15, 3, (10, 1, 3), .null), (.iconst (0), 1, (0, 0, 0), .int 0)], some (.invokestatic 18, 3, (4, 2, 0), .null)),
  (8, [(.iconst (-1), 1, (0, 0, 0), .int (-1)), (.istore_n 3, 1, (0, 0, 0), .null), (.iconst (1), 1, (0, 0, 0), .int 1), (.istore 4, 2, (0, 0, 0), .null), (.iconst (0), 1, (0, 0, 0), .int 0), (.istore 5, 2, (0, 0, 0), .null)], none),
  (16, [(.iload 5, 2, (0, 0, 0), .null), (.sipush (1000), 3, (0, 0, 0), .int 1000), (.if_icmp .ge (61), 3, (82, 0, 0), .null)], none),
  (24, [(.iload 4, 2, (0, 0, 0), .null), (.ifCond .eq (56), 3, (82, 0, 0), .null)], none),
  (29, [(.aload_n 0, 1, (0, 0, 0), .null), (.aload_n 1, 1, (0, 0, 0), .null), (.iload_n 2, 1, (0, 0, 0), .null)], some (.invokevirtual 24, 3, (139, 2, 0), .null)),
  (35, [(.istore 6, 2, (0, 0, 0), .null), (.iload_n 3, 1, (0, 0, 0), .null), (.iconst (-1), 1, (0, 0, 0), .int (-1)), (.if_icmp .eq (9), 3, (48, 0, 0), .null)], none),
  (42, [(.iload 6, 2, (0, 0, 0), .null), (.iload_n 3, 1, (0, 0, 0), .null), (.if_icmp .ge (20), 3, (65, 0, 0), .null)], none),
  (48, [(.iload 6, 2, (0, 0, 0), .null), (.istore_n 3, 1, (0, 0, 0), .null), (.aload_n 0, 1, (0, 0, 0), .null), (.getfield 15, 3, (10, 1, 3), .null), (.iconst (0), 1, (0, 0, 0), .int 0), (.aload_n 0, 1, (0, 0, 0), .null), (.getfield 9, 3, (10, 0, 3), .null), (.iconst (0), 1, (0, 0, 0), .int 0), (.iconst (4), 1, (0, 0, 0), .int 4), (.invokestatic 28, 3, (5, 0, 0), .null)], none),
  (65, [(.aload_n 0, 1, (0, 0, 0), .null), (.aload_n 1, 1, (0, 0, 0), .null), (.getfield 34, 3, (2, 6, 0), .null), (.iload_n 2, 1, (0, 0, 0), .null)], some (.invokevirtual 40, 3, (140, 2, 0), .null)),
  (74, [(.istore 4, 2, (0, 0, 0), .null), (.iinc 5 (1), 3, (0, 0, 0), .int 1), (.goto (-63), 3, (16, 0, 0), .null)], none),
  (82, [(.iload_n 3, 1, (0, 0, 0), .null)], some (.ireturn, 1, (0, 0, 0), .null))]
def b_139 : mB := [
  (0, [(.iconst (0), 1, (0, 0, 0), .int 0), (.istore_n 3, 1, (0, 0, 0), .null), (.iconst (0), 1, (0, 0, 0), .int 0), (.istore 4, 2, (0, 0, 0), .null)], none),
  (5, [(.iload 4, 2, (0, 0, 0), .null), (.iload_n 2, 1, (0, 0, 0), .null), (.if_icmp .ge (93), 3, (101, 0, 0), .null)], none),
  (11, [(.iload 4, 2, (0, 0, 0), .null), (.iconst (4), 1, (0, 0, 0), .int 4), (.if_icmp .ge (87), 3, (101, 0, 0), .null)], none),
  (17, [(.iload 4, 2, (0, 0, 0), .null), (.iconst (1), 1, (0, 0, 0), .int 1), (.iadd, 1, (0, 0, 0), .null), (.iload_n 2, 1, (0, 0, 0), .null), (.if_icmp .ge (23), 3, (45, 0, 0), .null)], none),
  (25, [(.iload 4, 2, (0, 0, 0), .null), (.iconst (1), 1, (0, 0, 0), .int 1), (.iadd, 1, (0, 0, 0), .null), (.iconst (4), 1, (0, 0, 0), .int 4), (.if_icmp .ge (15), 3, (45, 0, 0), .null)], none),
  (33, [(.aload_n 0, 1, (0, 0, 0), .null), (.getfield 15, 3, (10, 1, 3), .null), (.iload 4, 2, (0, 0, 0), .null), (.iconst (1), 1, (0, 0, 0), .int 1), (.iadd, 1, (0, 0, 0), .null), (.iaload, 1, (100, 0, 0), .null), (.goto (7), 3, (49, 0, 0), .null)], none),
  (45, [(.aload_n 1, 1, (0, 0, 0), .null), (.getfield 34, 3, (2, 6, 0), .null)], none),
  (49, [(.istore 5, 2, (0, 0, 0), .null), (.iconst (0), 1, (0, 0, 0), .int 0), (.istore 6, 2, (0, 0, 0), .null), (.aload_n 0, 1, (0, 0, 0), .null), (.getfield 15, 3, (10, 1, 3), .null), (.iload 4, 2, (0, 0, 0), .null), (.iaload, 1, (100, 0, 0), .null), (.istore 7, 2, (0, 0, 0), .null)], none),
  (63, [(.iload 7, 2, (0, 0, 0), .null), (.iload 5, 2, (0, 0, 0), .null), (.if_icmp .ge (21), 3, (88, 0, 0), .null)], none),
  (70, [(.iload 6, 2, (0, 0, 0), .null), (.aload_n 1, 1, (0, 0, 0), .null), (.getfield 44, 3, (2, 0, 3), .null), (.iload 7, 2, (0, 0, 0), .null), (.iaload, 1, (100, 0, 0), .null), (.iadd, 1, (0, 0, 0), .null), (.istore 6, 2, (0, 0, 0), .null), (.iinc 7 (1), 3, (0, 0, 0), .int 1), (.goto (-22), 3, (63, 0, 0), .null)], none),
  (88, [(.iload_n 3, 1, (0, 0, 0), .null), (.iload 6, 2, (0, 0, 0), .null), (.invokestatic 47, 3, (2, 0, 0), .null), (.istore_n 3, 1, (0, 0, 0), .null), (.iinc 4 (1), 3, (0, 0, 0), .int 1), (.goto (-93), 3, (5, 0, 0), .null)], none),
  (101, [(.iload_n 3, 1, (0, 0, 0), .null)], some (.ireturn, 1, (0, 0, 0), .null))]
def b_140 : mB := [
  (0, [(.iload_n 2, 1, (0, 0, 0), .null), (.iconst (4), 1, (0, 0, 0), .int 4), (.invokestatic 53, 3, (3, 0, 0), .null), (.iconst (1), 1, (0, 0, 0), .int 1), (.isub, 1, (0, 0, 0), .null), (.istore_n 3, 1, (0, 0, 0), .null)], none),
  (8, [(.iload_n 3, 1, (0, 0, 0), .null), (.iconst (1), 1, (0, 0, 0), .int 1), (.if_icmp .lt (19), 3, (29, 0, 0), .null)], none),
  (13, [(.aload_n 0, 1, (0, 0, 0), .null), (.getfield 15, 3, (10, 1, 3), .null), (.iload_n 3, 1, (0, 0, 0), .null), (.iaload, 1, (100, 0, 0), .null), (.iload_n 1, 1, (0, 0, 0), .null), (.if_icmp .ne (9), 3, (29, 0, 0), .null)], none),
  (23, [(.iinc 3 (-1), 3, (0, 0, 0), .int (-1)), (.goto (-18), 3, (8, 0, 0), .null)], none),
  (29, [(.iload_n 3, 1, (0, 0, 0), .null), (.iconst (1), 1, (0, 0, 0), .int 1), (.if_icmp .ge (5), 3, (36, 0, 0), .null)], none),
  (34, [(.iconst (0), 1, (0, 0, 0), .int 0)], some (.ireturn, 1, (0, 0, 0), .null)),
  (36, [(.aload_n 0, 1, (0, 0, 0), .null), (.getfield 15, 3, (10, 1, 3), .null), (.iload_n 3, 1, (0, 0, 0), .null), (.iaload, 1, (100, 0, 0), .null), (.iconst (1), 1, (0, 0, 0), .int 1), (.iadd, 1, (0, 0, 0), .null), (.istore 4, 2, (0, 0, 0), .null), (.iload_n 3, 1, (0, 0, 0), .null), (.istore 5, 2, (0, 0, 0), .null)], none),
  (49, [(.iload 5, 2, (0, 0, 0), .null), (.iload_n 2, 1, (0, 0, 0), .null), (.if_icmp .ge (24), 3, (76, 0, 0), .null)], none),
  (55, [(.iload 5, 2, (0, 0, 0), .null), (.iconst (4), 1, (0, 0, 0), .int 4), (.if_icmp .ge (18), 3, (76, 0, 0), .null)], none),
  (61, [(.aload_n 0, 1, (0, 0, 0), .null), (.getfield 15, 3, (10, 1, 3), .null), (.iload 5, 2, (0, 0, 0), .null), (.iload 4, 2, (0, 0, 0), .null), (.iastore, 1, (100, 0, 0), .null), (.iinc 5 (1), 3, (0, 0, 0), .int 1), (.goto (-24), 3, (49, 0, 0), .null)], none),
  (76, [(.iconst (1), 1, (0, 0, 0), .int 1)], some (.ireturn, 1, (0, 0, 0), .null))]
def b_141 : mB := [
  (0, [(.aload_n 0, 1, (0, 0, 0), .null), (.getfield 10, 3, (0, 0, 3), .null), (.iload_n 1, 1, (0, 0, 0), .null)], some (.invokevirtual 101, 3, (53, 1, 0), .null)),
  (8, [(.astore 5, 2, (0, 0, 0), .null), (.aload 5, 2, (0, 0, 0), .null), (.ifnull (22), 3, (34, 0, 0), .null)], none),
  (15, [(.iload_n 2, 1, (0, 0, 0), .null), (.iconst (0), 1, (0, 0, 0), .int 0), (.bipush (20), 2, (0, 0, 0), .int 20)], some (.invokestatic 74, 3, (17, 3, 0), .null)),
  (22, [(.ifCond .eq (12), 3, (34, 0, 0), .null)], none),
  (25, [(.iload_n 3, 1, (0, 0, 0), .null), (.iconst (0), 1, (0, 0, 0), .int 0), (.iconst (3), 1, (0, 0, 0), .int 3)], some (.invokestatic 74, 3, (17, 3, 0), .null)),
  (31, [(.ifCond .ne (5), 3, (36, 0, 0), .null)], none),
  (34, [(.iconst (-1), 1, (0, 0, 0), .int (-1))], some (.ireturn, 1, (0, 0, 0), .null)),
  (36, [(.aload_n 0, 1, (0, 0, 0), .null), (.getfield 41, 3, (0, 5, 3), .null), (.aload 5, 2, (0, 0, 0), .null), (.iload_n 2, 1, (0, 0, 0), .null), (.iload_n 3, 1, (0, 0, 0), .null)], some (.invokevirtual 261, 3, (142, 3, 0), .null)),
  (47, [(.istore 6, 2, (0, 0, 0), .null), (.iload 4, 2, (0, 0, 0), .null), (.iconst (-1), 1, (0, 0, 0), .int (-1)), (.if_icmp .ne (6), 3, (58, 0, 0), .null)], none),
  (55, [(.iload 6, 2, (0, 0, 0), .null)], some (.ireturn, 1, (0, 0, 0), .null)),
  (58, [(.iload 4, 2, (0, 0, 0), .null), (.iconst (0), 1, (0, 0, 0), .int 0), (.iload_n 3, 1, (0, 0, 0), .null), (.iconst (1), 1, (0, 0, 0), .int 1), (.isub, 1, (0, 0, 0), .null)], some (.invokestatic 74, 3, (17, 3, 0), .null)),
  (67, [(.ifCond .eq (16), 3, (83, 0, 0), .null)], none),
  (70, [(.aload_n 0, 1, (0, 0, 0), .null), (.getfield 41, 3, (0, 5, 3), .null), (.getfield 264, 3, (8, 2, 3), .null), (.iload 4, 2, (0, 0, 0), .null), (.iaload, 1, (100, 0, 0), .null), (.goto (4), 3, (84, 0, 0), .null)], none),
  (83, [(.iconst (-1), 1, (0, 0, 0), .int (-1))], none),
  (84, [], some (.ireturn, 1, (0, 0, 0), .null))]
def b_142 : mB := [
  (0, [(.iconst (-1), 1, (0, 0, 0), .int (-1)), (.istore 4, 2, (0, 0, 0), .null), (.aload_n 0, 1, (0, 0, 0), .null), (.getfield 15, 3, (8, 1, 3), .null), (.iconst (0), 1, (0, 0, 0), .int 0)], some (.invokestatic 89, 3, (4, 2, 0), .null)),
  (11, [(.iconst (1), 1, (0, 0, 0), .int 1), (.istore 5, 2, (0, 0, 0), .null), (.iconst (0), 1, (0, 0, 0), .int 0), (.istore 6, 2, (0, 0, 0), .null)], none),
  (17, [(.iload 6, 2, (0, 0, 0), .null), (.sipush (1000), 3, (0, 0, 0), .int 1000), (.if_icmp .ge (57), 3, (79, 0, 0), .null)], none),
  (25, [(.iload 5, 2, (0, 0, 0), .null), (.ifCond .eq (52), 3, (79, 0, 0), .null)], none),
  (30, [(.aload_n 0, 1, (0, 0, 0), .null), (.aload_n 1, 1, (0, 0, 0), .null), (.iload_n 2, 1, (0, 0, 0), .null), (.iload_n 3, 1, (0, 0, 0), .null)], some (.invokevirtual 95, 3, (84, 3, 0), .null)),
  (37, [(.aload_n 0, 1, (0, 0, 0), .null), (.getfield 36, 3, (8, 3, 0), .null), (.iload 4, 2, (0, 0, 0), .null), (.if_icmp .le (23), 3, (66, 0, 0), .null)], none),
  (46, [(.aload_n 0, 1, (0, 0, 0), .null), (.getfield 36, 3, (8, 3, 0), .null), (.istore 4, 2, (0, 0, 0), .null), (.aload_n 0, 1, (0, 0, 0), .null), (.getfield 15, 3, (8, 1, 3), .null), (.iconst (0), 1, (0, 0, 0), .int 0), (.aload_n 0, 1, (0, 0, 0), .null), (.getfield 18, 3, (8, 2, 3), .null), (.iconst (0), 1, (0, 0, 0), .int 0), (.iconst (4), 1, (0, 0, 0), .int 4), (.invokestatic 105, 3, (5, 0, 0), .null)], none),
  (66, [(.aload_n 0, 1, (0, 0, 0), .null), (.iload_n 3, 1, (0, 0, 0), .null)], some (.invokevirtual 102, 3, (91, 1, 0), .null)),
  (71, [(.istore 5, 2, (0, 0, 0), .null), (.iinc 6 (1), 3, (0, 0, 0), .int 1), (.goto (-59), 3, (17, 0, 0), .null)], none),
  (79, [(.iload 4, 2, (0, 0, 0), .null)], some (.ireturn, 1, (0, 0, 0), .null))]
def b_143 : mB := [
  (0, [(.aload_n 0, 1, (0, 0, 0), .null), (.getfield 10, 3, (0, 0, 3), .null), (.iload_n 1, 1, (0, 0, 0), .null)], some (.invokevirtual 101, 3, (53, 1, 0), .null)),
  (8, [(.astore 4, 2, (0, 0, 0), .null), (.aload 4, 2, (0, 0, 0), .null), (.ifnull (22), 3, (34, 0, 0), .null)], none),
  (15, [(.iload_n 2, 1, (0, 0, 0), .null), (.iconst (0), 1, (0, 0, 0), .int 0), (.iconst (5), 1, (0, 0, 0), .int 5)], some (.invokestatic 74, 3, (17, 3, 0), .null)),
  (21, [(.ifCond .eq (13), 3, (34, 0, 0), .null)], none),
  (24, [(.iload_n 3, 1, (0, 0, 0), .null), (.iconst (0), 1, (0, 0, 0), .int 0), (.bipush (20), 2, (0, 0, 0), .int 20)], some (.invokestatic 74, 3, (17, 3, 0), .null)),
  (31, [(.ifCond .ne (6), 3, (37, 0, 0), .null)], none),
  (34, [(.bipush (-99), 2, (0, 0, 0), .int (-99))], some (.ireturn, 1, (0, 0, 0), .null)),
  (37, [(.aload_n 0, 1, (0, 0, 0), .null), (.getfield 41, 3, (0, 5, 3), .null), (.aload 4, 2, (0, 0, 0), .null), (.iload_n 2, 1, (0, 0, 0), .null), (.iload_n 3, 1, (0, 0, 0), .null)], some (.invokevirtual 267, 3, (144, 3, 0), .null)),
  (48, [], some (.ireturn, 1, (0, 0, 0), .null))]
def b_144 : mB := [
  (0, [(.aload_n 0, 1, (0, 0, 0), .null), (.aload_n 1, 1, (0, 0, 0), .null), (.iload_n 3, 1, (0, 0, 0), .null), (.iconst (0), 1, (0, 0, 0), .int 0)], some (.invokevirtual 95, 3, (84, 3, 0), .null)),
  (7, [(.aload_n 0, 1, (0, 0, 0), .null), (.getfield 36, 3, (8, 3, 0), .null), (.istore 4, 2, (0, 0, 0), .null), (.aload_n 0, 1, (0, 0, 0), .null), (.getfield 15, 3, (8, 1, 3), .null), (.iconst (0), 1, (0, 0, 0), .int 0), (.iload_n 2, 1, (0, 0, 0), .null), (.iastore, 1, (100, 0, 0), .null), (.aload_n 0, 1, (0, 0, 0), .null), (.aload_n 1, 1, (0, 0, 0), .null), (.iload_n 3, 1, (0, 0, 0), .null), (.iconst (1), 1, (0, 0, 0), .int 1)], some (.invokevirtual 95, 3, (84, 3, 0), .null)),
  (27, [(.aload_n 0, 1, (0, 0, 0), .null), (.getfield 36, 3, (8, 3, 0), .null), (.iload 4, 2, (0, 0, 0), .null), (.isub, 1, (0, 0, 0), .null)], some (.ireturn, 1, (0, 0, 0), .null))]
def b_145 : mB := [
  (0, [(.aload_n 0, 1, (0, 0, 0), .null), (.getfield 10, 3, (0, 0, 3), .null), (.iload_n 1, 1, (0, 0, 0), .null)], some (.invokevirtual 101, 3, (53, 1, 0), .null)),
  (8, [(.astore_n 3, 1, (0, 0, 0), .null), (.aload_n 3, 1, (0, 0, 0), .null), (.ifnonnull (5), 3, (15, 0, 0), .null)], none),
  (13, [(.iconst (-1), 1, (0, 0, 0), .int (-1))], some (.ireturn, 1, (0, 0, 0), .null)),
  (15, [(.aload_n 0, 1, (0, 0, 0), .null), (.getfield 48, 3, (0, 6, 3), .null), (.aload_n 3, 1, (0, 0, 0), .null)], some (.invokevirtual 270, 3, (146, 1, 0), .null)),
  (23, [(.aload_n 0, 1, (0, 0, 0), .null), (.getfield 48, 3, (0, 6, 3), .null), (.getfield 274, 3, (9, 0, 3), .null), (.aload_n 0, 1, (0, 0, 0), .null), (.getfield 48, 3, (0, 6, 3), .null), (.getfield 277, 3, (9, 1, 0), .null), (.iload_n 2, 1, (0, 0, 0), .null)], some (.invokestatic 137, 3, (88, 3, 0), .null)),
  (41, [], some (.ireturn, 1, (0, 0, 0), .null))]
def b_146 : mB := [
  (0, [(.aload_n 0, 1, (0, 0, 0), .null), (.iconst (0), 1, (0, 0, 0), .int 0), (.putfield 74, 3, (9, 1, 0), .null), (.aload_n 1, 1, (0, 0, 0), .null), (.getfield 25, 3, (2, 6, 0), .null), (.iconst (1), 1, (0, 0, 0), .int 1), (.isub, 1, (0, 0, 0), .null), (.istore_n 2, 1, (0, 0, 0), .null)], none),
  (12, [(.iload_n 2, 1, (0, 0, 0), .null), (.ifCond .lt (87), 3, (100, 0, 0), .null)], none),
  (16, [(.aload_n 0, 1, (0, 0, 0), .null), (.getfield 22, 3, (9, 6, 3), .null), (.iload_n 2, 1, (0, 0, 0), .null), (.iconst (1), 1, (0, 0, 0), .int 1), (.iastore, 1, (100, 0, 0), .null), (.iload_n 2, 1, (0, 0, 0), .null), (.iconst (1), 1, (0, 0, 0), .int 1), (.iadd, 1, (0, 0, 0), .null), (.istore_n 3, 1, (0, 0, 0), .null)], none),
  (27, [(.iload_n 3, 1, (0, 0, 0), .null), (.aload_n 1, 1, (0, 0, 0), .null), (.getfield 25, 3, (2, 6, 0), .null), (.if_icmp .ge (45), 3, (77, 0, 0), .null)], none),
  (35, [(.aload_n 1, 1, (0, 0, 0), .null), (.getfield 35, 3, (2, 2, 3), .null), (.iload_n 3, 1, (0, 0, 0), .null), (.iaload, 1, (100, 0, 0), .null), (.iload_n 2, 1, (0, 0, 0), .null)], some (.invokestatic 31, 3, (71, 2, 0), .null)),
  (45, [(.ifCond .eq (26), 3, (71, 0, 0), .null)], none),
  (48, [(.aload_n 0, 1, (0, 0, 0), .null), (.getfield 22, 3, (9, 6, 3), .null), (.iload_n 2, 1, (0, 0, 0), .null), (.aload_n 0, 1, (0, 0, 0), .null), (.getfield 22, 3, (9, 6, 3), .null), (.iload_n 2, 1, (0, 0, 0), .null), (.iaload, 1, (100, 0, 0), .null), (.aload_n 0, 1, (0, 0, 0), .null), (.getfield 22, 3, (9, 6, 3), .null), (.iload_n 3, 1, (0, 0, 0), .null), (.iaload, 1, (100, 0, 0), .null), (.iconst (1), 1, (0, 0, 0), .int 1), (.iadd, 1, (0, 0, 0), .null), (.invokestatic 77, 3, (2, 0, 0), .null), (.iastore, 1, (100, 0, 0), .null)], none),
  (71, [(.iinc 3 (1), 3, (0, 0, 0), .int 1), (.goto (-47), 3, (27, 0, 0), .null)], none),
  (77, [(.aload_n 0, 1, (0, 0, 0), .null), (.aload_n 0, 1, (0, 0, 0), .null), (.getfield 74, 3, (9, 1, 0), .null), (.aload_n 0, 1, (0, 0, 0), .null), (.getfield 22, 3, (9, 6, 3), .null), (.iload_n 2, 1, (0, 0, 0), .null), (.iaload, 1, (100, 0, 0), .null), (.invokestatic 77, 3, (2, 0, 0), .null), (.putfield 74, 3, (9, 1, 0), .null), (.iinc 2 (-1), 3, (0, 0, 0), .int (-1)), (.goto (-85), 3, (12, 0, 0), .null)], none),
  (100, [(.aload_n 0, 1, (0, 0, 0), .null), (.aload_n 1, 1, (0, 0, 0), .null)], some (.invokevirtual 80, 3, (147, 1, 0), .null)),
  (105, [], some (.return_, 1, (0, 0, 0), .null))]
def b_147 : mB := [
  (0, [(.iconst (0), 1, (0, 0, 0), .int 0), (.istore_n 2, 1, (0, 0, 0), .null), (.iconst (0), 1, (0, 0, 0), .int 0), (.istore_n 3, 1, (0, 0, 0), .null)], none),
  (4, [(.iload_n 3, 1, (0, 0, 0), .null), (.aload_n 1, 1, (0, 0, 0), .null), (.getfield 25, 3, (2, 6, 0), .null), (.if_icmp .ge (78), 3, (87, 0, 0), .null)], none),
  (12, [(.iload_n 2, 1, (0, 0, 0), .null), (.aload_n 0, 1, (0, 0, 0), .null), (.getfield 74, 3, (9, 1, 0), .null), (.if_icmp .ge (70), 3, (87, 0, 0), .null)], none),
  (20, [(.iload_n 2, 1, (0, 0, 0), .null), (.ifCond .eq (23), 3, (44, 0, 0), .null)], none),
  (24, [(.aload_n 1, 1, (0, 0, 0), .null), (.getfield 35, 3, (2, 2, 3), .null), (.iload_n 3, 1, (0, 0, 0), .null), (.iaload, 1, (100, 0, 0), .null), (.aload_n 0, 1, (0, 0, 0), .null), (.getfield 9, 3, (9, 0, 3), .null), (.iload_n 2, 1, (0, 0, 0), .null), (.iconst (1), 1, (0, 0, 0), .int 1), (.isub, 1, (0, 0, 0), .null), (.iaload, 1, (100, 0, 0), .null)], some (.invokestatic 31, 3, (71, 2, 0), .null)),
  (41, [(.ifCond .eq (7), 3, (48, 0, 0), .null)], none),
  (44, [(.iconst (1), 1, (0, 0, 0), .int 1), (.goto (4), 3, (49, 0, 0), .null)], none),
  (48, [(.iconst (0), 1, (0, 0, 0), .int 0)], none),
  (49, [(.istore 4, 2, (0, 0, 0), .null), (.iload 4, 2, (0, 0, 0), .null), (.ifCond .eq (28), 3, (81, 0, 0), .null)], none),
  (56, [(.aload_n 0, 1, (0, 0, 0), .null), (.getfield 22, 3, (9, 6, 3), .null), (.iload_n 3, 1, (0, 0, 0), .null), (.iaload, 1, (100, 0, 0), .null), (.aload_n 0, 1, (0, 0, 0), .null), (.getfield 74, 3, (9, 1, 0), .null), (.iload_n 2, 1, (0, 0, 0), .null), (.isub, 1, (0, 0, 0), .null), (.if_icmp .ne (13), 3, (81, 0, 0), .null)], none),
  (71, [(.aload_n 0, 1, (0, 0, 0), .null), (.getfield 9, 3, (9, 0, 3), .null), (.iload_n 2, 1, (0, 0, 0), .null), (.iload_n 3, 1, (0, 0, 0), .null), (.iastore, 1, (100, 0, 0), .null), (.iinc 2 (1), 3, (0, 0, 0), .int 1)], none),
  (81, [(.iinc 3 (1), 3, (0, 0, 0), .int 1), (.goto (-80), 3, (4, 0, 0), .null)], none),
  (87, [], some (.return_, 1, (0, 0, 0), .null))]
def b_148 : mB := [
  (0, [(.aload_n 0, 1, (0, 0, 0), .null), (.getfield 10, 3, (0, 0, 3), .null), (.iload_n 1, 1, (0, 0, 0), .null)], some (.invokevirtual 101, 3, (53, 1, 0), .null)),
  (8, [(.astore_n 3, 1, (0, 0, 0), .null), (.aload_n 3, 1, (0, 0, 0), .null), (.ifnull (13), 3, (23, 0, 0), .null)], none),
  (13, [(.iload_n 2, 1, (0, 0, 0), .null), (.iconst (1), 1, (0, 0, 0), .int 1), (.bipush (20), 2, (0, 0, 0), .int 20)], some (.invokestatic 74, 3, (17, 3, 0), .null)),
  (20, [(.ifCond .ne (5), 3, (25, 0, 0), .null)], none),
  (23, [(.iconst (-1), 1, (0, 0, 0), .int (-1))], some (.ireturn, 1, (0, 0, 0), .null)),
  (25, [(.iconst (1), 1, (0, 0, 0), .int 1), (.istore 4, 2, (0, 0, 0), .null)], none),
  (28, [(.iload 4, 2, (0, 0, 0), .null), (.bipush (12), 2, (0, 0, 0), .int 12), (.if_icmp .gt (40), 3, (72, 0, 0), .null)], none),
  (35, [(.aload_n 0, 1, (0, 0, 0), .null), (.getfield 48, 3, (0, 6, 3), .null), (.aload_n 3, 1, (0, 0, 0), .null), (.aload_n 3, 1, (0, 0, 0), .null)], some (.invokevirtual 178, 3, (94, 0, 0), .null)),
  (44, [(.iload 4, 2, (0, 0, 0), .null)], some (.invokevirtual 240, 3, (131, 3, 0), .null)),
  (49, [(.istore 5, 2, (0, 0, 0), .null), (.iload 5, 2, (0, 0, 0), .null), (.iconst (-1), 1, (0, 0, 0), .int (-1)), (.if_icmp .eq (12), 3, (66, 0, 0), .null)], none),
  (57, [(.iload 5, 2, (0, 0, 0), .null), (.iload_n 2, 1, (0, 0, 0), .null), (.if_icmp .gt (6), 3, (66, 0, 0), .null)], none),
  (63, [(.iload 4, 2, (0, 0, 0), .null)], some (.ireturn, 1, (0, 0, 0), .null)),
  (66, [(.iinc 4 (1), 3, (0, 0, 0), .int 1), (.goto (-41), 3, (28, 0, 0), .null)], none),
  (72, [(.iconst (-1), 1, (0, 0, 0), .int (-1))], some (.ireturn, 1, (0, 0, 0), .null))]
def b_149 : mB := [
  (0, [(.aload_n 0, 1, (0, 0, 0), .null), (.getfield 10, 3, (0, 0, 3), .null), (.iload_n 1, 1, (0, 0, 0), .null)], some (.invokevirtual 101, 3, (53, 1, 0), .null)),
  (8, [(.astore_n 3, 1, (0, 0, 0), .null), (.aload_n 3, 1, (0, 0, 0), .null), (.ifnonnull (6), 3, (16, 0, 0), .null)], none),
  (13, [(.bipush (-2), 2, (0, 0, 0), .int (-2))], some (.ireturn, 1, (0, 0, 0), .null)),
  (16, [(.aload_n 0, 1, (0, 0, 0), .null), (.getfield 48, 3, (0, 6, 3), .null), (.aload_n 3, 1, (0, 0, 0), .null)], some (.invokevirtual 280, 3, (150, 1, 0), .null)),
  (24, [(.iload_n 2, 1, (0, 0, 0), .null), (.ifCond .eq (13), 3, (38, 0, 0), .null)], none),
  (28, [(.aload_n 0, 1, (0, 0, 0), .null), (.getfield 48, 3, (0, 6, 3), .null), (.getfield 283, 3, (9, 3, 0), .null), (.goto (10), 3, (45, 0, 0), .null)], none),
  (38, [(.aload_n 0, 1, (0, 0, 0), .null), (.getfield 48, 3, (0, 6, 3), .null), (.getfield 286, 3, (9, 2, 0), .null)], none),
  (45, [], some (.ireturn, 1, (0, 0, 0), .null))]
def b_150 : mB := [
  (0, [(.aload_n 0, 1, (0, 0, 0), .null), (.iconst (-1), 1, (0, 0, 0), .int (-1)), (.putfield 84, 3, (9, 2, 0), .null), (.aload_n 0, 1, (0, 0, 0), .null), (.iconst (-1), 1, (0, 0, 0), .int (-1)), (.putfield 87, 3, (9, 3, 0), .null), (.iconst (0), 1, (0, 0, 0), .int 0), (.istore_n 2, 1, (0, 0, 0), .null)], none),
  (12, [(.iload_n 2, 1, (0, 0, 0), .null), (.aload_n 1, 1, (0, 0, 0), .null), (.getfield 25, 3, (2, 6, 0), .null), (.if_icmp .ge (70), 3, (87, 0, 0), .null)], none),
  (20, [(.aload_n 0, 1, (0, 0, 0), .null), (.aload_n 1, 1, (0, 0, 0), .null), (.aload_n 1, 1, (0, 0, 0), .null)], some (.invokevirtual 38, 3, (94, 0, 0), .null)),
  (26, [(.aload_n 1, 1, (0, 0, 0), .null), (.iload_n 2, 1, (0, 0, 0), .null)], some (.invokevirtual 90, 3, (130, 1, 0), .null)),
  (31, [(.iconst (-1), 1, (0, 0, 0), .int (-1)), (.ixor, 1, (0, 0, 0), .null), (.iand, 1, (0, 0, 0), .null), (.aload_n 1, 1, (0, 0, 0), .null), (.getfield 93, 3, (2, 8, 0), .null)], some (.invokevirtual 96, 3, (131, 3, 0), .null)),
  (41, [(.istore_n 3, 1, (0, 0, 0), .null), (.aload_n 0, 1, (0, 0, 0), .null), (.getfield 84, 3, (9, 2, 0), .null), (.iconst (-1), 1, (0, 0, 0), .int (-1)), (.if_icmp .eq (24), 3, (71, 0, 0), .null)], none),
  (50, [(.iload_n 3, 1, (0, 0, 0), .null), (.iconst (-1), 1, (0, 0, 0), .int (-1)), (.if_icmp .eq (29), 3, (81, 0, 0), .null)], none),
  (55, [(.aload_n 0, 1, (0, 0, 0), .null), (.getfield 87, 3, (9, 3, 0), .null), (.iconst (-1), 1, (0, 0, 0), .int (-1)), (.if_icmp .eq (11), 3, (71, 0, 0), .null)], none),
  (63, [(.iload_n 3, 1, (0, 0, 0), .null), (.aload_n 0, 1, (0, 0, 0), .null), (.getfield 87, 3, (9, 3, 0), .null), (.if_icmp .ge (13), 3, (81, 0, 0), .null)], none),
  (71, [(.aload_n 0, 1, (0, 0, 0), .null), (.iload_n 2, 1, (0, 0, 0), .null), (.putfield 84, 3, (9, 2, 0), .null), (.aload_n 0, 1, (0, 0, 0), .null), (.iload_n 3, 1, (0, 0, 0), .null), (.putfield 87, 3, (9, 3, 0), .null)], none),
  (81, [(.iinc 2 (1), 3, (0, 0, 0), .int 1), (.goto (-72), 3, (12, 0, 0), .null)], none),
  (87, [], some (.return_, 1, (0, 0, 0), .null))]
def b_151 : mB := [
  (0, [(.aload_n 0, 1, (0, 0, 0), .null), (.getfield 10, 3, (0, 0, 3), .null), (.iload_n 1, 1, (0, 0, 0), .null)], some (.invokevirtual 101, 3, (53, 1, 0), .null)),
  (8, [(.astore 4, 2, (0, 0, 0), .null), (.aload 4, 2, (0, 0, 0), .null), (.ifnull (20), 3, (32, 0, 0), .null)], none),
  (15, [(.aload 4, 2, (0, 0, 0), .null), (.getfield 289, 3, (2, 6, 0), .null), (.ifCond .eq (12), 3, (32, 0, 0), .null)], none),
  (23, [(.iload_n 2, 1, (0, 0, 0), .null), (.iconst (0), 1, (0, 0, 0), .int 0), (.iconst (5), 1, (0, 0, 0), .int 5)], some (.invokestatic 74, 3, (17, 3, 0), .null)),
  (29, [(.ifCond .ne (7), 3, (36, 0, 0), .null)], none),
  (32, [(.ldc2_w 181, 3, (0, 0, 0), .long (-1))], some (.lreturn, 1, (0, 0, 0), .null)),
  (36, [(.aload 4, 2, (0, 0, 0), .null), (.aload 4, 2, (0, 0, 0), .null), (.iload_n 2, 1, (0, 0, 0), .null)], some (.invokevirtual 292, 3, (152, 1, 0), .null)),
  (44, [], some (.invokevirtual 295, 3, (95, 1, 0), .null)),
  (47, [(.istore 5, 2, (0, 0, 0), .null), (.iload 5, 2, (0, 0, 0), .null), (.i2l, 1, (0, 0, 0), .null), (.aload 4, 2, (0, 0, 0), .null), (.aload 4, 2, (0, 0, 0), .null)], some (.invokevirtual 178, 3, (94, 0, 0), .null)),
  (59, [], some (.invokevirtual 295, 3, (95, 1, 0), .null)),
  (62, [(.i2l, 1, (0, 0, 0), .null), (.iload_n 3, 1, (0, 0, 0), .null)], some (.invokestatic 196, 3, (109, 3, 0), .null)),
  (67, [], some (.lreturn, 1, (0, 0, 0), .null))]
def b_152 : mB := [
  (0, [(.iconst (0), 1, (0, 0, 0), .int 0), (.istore_n 2, 1, (0, 0, 0), .null), (.iconst (0), 1, (0, 0, 0), .int 0), (.istore_n 3, 1, (0, 0, 0), .null)], none),
  (4, [(.iload_n 3, 1, (0, 0, 0), .null), (.aload_n 0, 1, (0, 0, 0), .null), (.getfield 39, 3, (2, 6, 0), .null), (.if_icmp .ge (25), 3, (34, 0, 0), .null)], none),
  (12, [(.aload_n 0, 1, (0, 0, 0), .null), (.getfield 15, 3, (2, 1, 3), .null), (.iload_n 3, 1, (0, 0, 0), .null), (.iaload, 1, (100, 0, 0), .null), (.iload_n 1, 1, (0, 0, 0), .null), (.if_icmp .ne (9), 3, (28, 0, 0), .null)], none),
  (22, [(.iload_n 2, 1, (0, 0, 0), .null), (.iconst (1), 1, (0, 0, 0), .int 1), (.iload_n 3, 1, (0, 0, 0), .null), (.ishl, 1, (0, 0, 0), .null), (.ior, 1, (0, 0, 0), .null), (.istore_n 2, 1, (0, 0, 0), .null)], none),
  (28, [(.iinc 3 (1), 3, (0, 0, 0), .int 1), (.goto (-27), 3, (4, 0, 0), .null)], none),
  (34, [(.iload_n 2, 1, (0, 0, 0), .null)], some (.ireturn, 1, (0, 0, 0), .null))]
def b_153 : mB := [
  (0, [(.aload_n 0, 1, (0, 0, 0), .null), (.getfield 10, 3, (0, 0, 3), .null), (.iload_n 1, 1, (0, 0, 0), .null)], some (.invokevirtual 101, 3, (53, 1, 0), .null)),
  (8, [(.astore 4, 2, (0, 0, 0), .null), (.aload 4, 2, (0, 0, 0), .null), (.ifnull (12), 3, (24, 0, 0), .null)], none),
  (15, [(.aload 4, 2, (0, 0, 0), .null), (.iload_n 2, 1, (0, 0, 0), .null)], some (.invokevirtual 161, 3, (57, 1, 0), .null)),
  (21, [(.ifCond .ne (6), 3, (27, 0, 0), .null)], none),
  (24, [(.bipush (-2), 2, (0, 0, 0), .int (-2))], some (.ireturn, 1, (0, 0, 0), .null)),
  (27, [(.iload_n 3, 1, (0, 0, 0), .null), (.iconst (-1), 1, (0, 0, 0), .int (-1)), (.if_icmp .ne (14), 3, (43, 0, 0), .null)], none),
  (32, [(.aload_n 0, 1, (0, 0, 0), .null), (.getfield 34, 3, (0, 4, 3), .null), (.aload 4, 2, (0, 0, 0), .null), (.iload_n 2, 1, (0, 0, 0), .null)], some (.invokevirtual 298, 3, (154, 2, 0), .null)),
  (42, [], some (.ireturn, 1, (0, 0, 0), .null)),
  (43, [(.iload_n 3, 1, (0, 0, 0), .null), (.iconst (0), 1, (0, 0, 0), .int 0), (.bipush (20), 2, (0, 0, 0), .int 20)], some (.invokestatic 74, 3, (17, 3, 0), .null)),
  (50, [(.ifCond .eq (17), 3, (67, 0, 0), .null)], none),
  (53, [(.aload_n 0, 1, (0, 0, 0), .null), (.getfield 34, 3, (0, 4, 3), .null), (.aload 4, 2, (0, 0, 0), .null), (.iload_n 2, 1, (0, 0, 0), .null), (.iload_n 3, 1, (0, 0, 0), .null)], some (.invokevirtual 301, 3, (156, 3, 0), .null)),
  (64, [(.goto (5), 3, (69, 0, 0), .null)], none),
  (67, [(.bipush (-2), 2, (0, 0, 0), .int (-2))], none),
  (69, [], some (.ireturn, 1, (0, 0, 0), .null))]
def b_154 : mB := [
  (0, [(.aload_n 0, 1, (0, 0, 0), .null), (.aload_n 1, 1, (0, 0, 0), .null), (.iload_n 2, 1, (0, 0, 0), .null)], some (.invokevirtual 197, 3, (155, 2, 0), .null)),
  (6, [(.iconst (1), 1, (0, 0, 0), .int 1), (.istore_n 3, 1, (0, 0, 0), .null)], none),
  (8, [(.iload_n 3, 1, (0, 0, 0), .null), (.bipush (99), 2, (0, 0, 0), .int 99), (.if_icmp .gt (24), 3, (35, 0, 0), .null)], none),
  (14, [(.aload_n 0, 1, (0, 0, 0), .null), (.iconst (0), 1, (0, 0, 0), .int 0)], some (.invokevirtual 171, 3, (77, 1, 0), .null)),
  (19, [(.aload_n 0, 1, (0, 0, 0), .null), (.iconst (0), 1, (0, 0, 0), .int 0)], some (.invokevirtual 178, 3, (78, 1, 0), .null)),
  (24, [(.ifCond .ne (5), 3, (29, 0, 0), .null)], none),
  (27, [(.iload_n 3, 1, (0, 0, 0), .null)], some (.ireturn, 1, (0, 0, 0), .null)),
  (29, [(.iinc 3 (1), 3, (0, 0, 0), .int 1), (.goto (-24), 3, (8, 0, 0), .null)], none),
  (35, [(.iconst (-1), 1, (0, 0, 0), .int (-1))], some (.ireturn, 1, (0, 0, 0), .null))]
def b_155 : mB := [
  (0, [(.aload_n 0, 1, (0, 0, 0), .null), (.aload_n 1, 1, (0, 0, 0), .null)], some (.invokevirtual 76, 3, (63, 1, 0), .null)),
  (5, [(.aload_n 0, 1, (0, 0, 0), .null), (.getfield 21, 3, (7, 3, 3), .null), (.iload_n 2, 1, (0, 0, 0), .null)], some (.invokevirtual 128, 3, (57, 1, 0), .null)),
  (13, [(.ifCond .eq (13), 3, (26, 0, 0), .null)], none),
  (16, [(.aload_n 0, 1, (0, 0, 0), .null), (.getfield 15, 3, (7, 2, 3), .null), (.iload_n 2, 1, (0, 0, 0), .null), (.bipush (8), 2, (0, 0, 0), .int 8), (.imul, 1, (0, 0, 0), .null), (.iconst (0), 1, (0, 0, 0), .int 0), (.iastore, 1, (100, 0, 0), .null)], none),
  (26, [], some (.return_, 1, (0, 0, 0), .null))]
def b_156 : mB := [
  (0, [(.aload_n 0, 1, (0, 0, 0), .null), (.aload_n 1, 1, (0, 0, 0), .null), (.iload_n 2, 1, (0, 0, 0), .null)], some (.invokevirtual 197, 3, (155, 2, 0), .null)),
  (6, [(.iconst (0), 1, (0, 0, 0), .int 0), (.istore 4, 2, (0, 0, 0), .null)], none),
  (9, [(.iload 4, 2, (0, 0, 0), .null), (.iload_n 3, 1, (0, 0, 0), .null), (.if_icmp .ge (14), 3, (26, 0, 0), .null)], none),
  (15, [(.aload_n 0, 1, (0, 0, 0), .null), (.iconst (0), 1, (0, 0, 0), .int 0)], some (.invokevirtual 171, 3, (77, 1, 0), .null)),
  (20, [(.iinc 4 (1), 3, (0, 0, 0), .int 1), (.goto (-14), 3, (9, 0, 0), .null)], none),
  (26, [(.aload_n 0, 1, (0, 0, 0), .null), (.iconst (0), 1, (0, 0, 0), .int 0)], some (.invokevirtual 178, 3, (78, 1, 0), .null)),
  (31, [], some (.ireturn, 1, (0, 0, 0), .null))]
def b_157 : mB := [
  (0, [(.aload_n 0, 1, (0, 0, 0), .null), (.getfield 10, 3, (0, 0, 3), .null), (.iload_n 1, 1, (0, 0, 0), .null)], some (.invokevirtual 101, 3, (53, 1, 0), .null)),
  (8, [(.astore 4, 2, (0, 0, 0), .null), (.aload 4, 2, (0, 0, 0), .null), (.ifnull (21), 3, (33, 0, 0), .null)], none),
  (15, [(.aload 4, 2, (0, 0, 0), .null), (.iload_n 2, 1, (0, 0, 0), .null)], some (.invokevirtual 161, 3, (57, 1, 0), .null)),
  (21, [(.ifCond .eq (12), 3, (33, 0, 0), .null)], none),
  (24, [(.aload 4, 2, (0, 0, 0), .null), (.iload_n 3, 1, (0, 0, 0), .null)], some (.invokevirtual 161, 3, (57, 1, 0), .null)),
  (30, [(.ifCond .ne (5), 3, (35, 0, 0), .null)], none),
  (33, [(.iconst (-1), 1, (0, 0, 0), .int (-1))], some (.ireturn, 1, (0, 0, 0), .null)),
  (35, [(.aload 4, 2, (0, 0, 0), .null), (.iconst (1), 1, (0, 0, 0), .int 1), (.iload_n 2, 1, (0, 0, 0), .null), (.ishl, 1, (0, 0, 0), .null), (.iconst (1), 1, (0, 0, 0), .int 1), (.iload_n 3, 1, (0, 0, 0), .null), (.ishl, 1, (0, 0, 0), .null)], some (.invokevirtual 304, 3, (158, 2, 0), .null)),
  (46, [], some (.ireturn, 1, (0, 0, 0), .null))]
def b_158 : mB := [
  (0, [(.iload_n 1, 1, (0, 0, 0), .null), (.istore_n 3, 1, (0, 0, 0), .null), (.iconst (0), 1, (0, 0, 0), .int 0), (.istore 4, 2, (0, 0, 0), .null)], none),
  (5, [(.iload 4, 2, (0, 0, 0), .null), (.bipush (6), 2, (0, 0, 0), .int 6), (.if_icmp .gt (31), 3, (40, 0, 0), .null)], none),
  (12, [(.iload_n 2, 1, (0, 0, 0), .null), (.iload_n 3, 1, (0, 0, 0), .null), (.iconst (-1), 1, (0, 0, 0), .int (-1)), (.ixor, 1, (0, 0, 0), .null), (.iand, 1, (0, 0, 0), .null), (.ifCond .ne (6), 3, (23, 0, 0), .null)], none),
  (20, [(.iload 4, 2, (0, 0, 0), .null)], some (.ireturn, 1, (0, 0, 0), .null)),
  (23, [(.aload_n 0, 1, (0, 0, 0), .null), (.iload_n 3, 1, (0, 0, 0), .null), (.iconst (1), 1, (0, 0, 0), .int 1), (.aload_n 0, 1, (0, 0, 0), .null)], some (.invokevirtual 100, 3, (98, 0, 0), .null)),
  (30, [], some (.invokevirtual 103, 3, (99, 3, 0), .null)),
  (33, [(.istore_n 3, 1, (0, 0, 0), .null), (.iinc 4 (1), 3, (0, 0, 0), .int 1), (.goto (-32), 3, (5, 0, 0), .null)], none),
  (40, [(.iconst (-1), 1, (0, 0, 0), .int (-1))], some (.ireturn, 1, (0, 0, 0), .null))]
def b_159 : mB := [
  (0, [(.aload_n 0, 1, (0, 0, 0), .null), (.getfield 10, 3, (0, 0, 3), .null), (.iload_n 1, 1, (0, 0, 0), .null)], some (.invokevirtual 101, 3, (53, 1, 0), .null)),
  (8, [(.astore_n 3, 1, (0, 0, 0), .null), (.aload_n 3, 1, (0, 0, 0), .null), (.ifnonnull (5), 3, (15, 0, 0), .null)], none),
  (13, [(.iconst (-1), 1, (0, 0, 0), .int (-1))], some (.ireturn, 1, (0, 0, 0), .null)),
  (15, [(.aload_n 3, 1, (0, 0, 0), .null)], some (.invokevirtual 307, 3, (160, 0, 0), .null)),
  (19, [(.istore 4, 2, (0, 0, 0), .null), (.iload_n 2, 1, (0, 0, 0), .null), (.ifCond .eq (9), 3, (31, 0, 0), .null)], none),
  (25, [(.iload 4, 2, (0, 0, 0), .null), (.iconst (-1), 1, (0, 0, 0), .int (-1)), (.if_icmp .ne (6), 3, (34, 0, 0), .null)], none),
  (31, [(.iload 4, 2, (0, 0, 0), .null)], some (.ireturn, 1, (0, 0, 0), .null)),
  (34, [(.aload_n 3, 1, (0, 0, 0), .null), (.iconst (1), 1, (0, 0, 0), .int 1), (.iload 4, 2, (0, 0, 0), .null), (.ishl, 1, (0, 0, 0), .null), (.aload_n 3, 1, (0, 0, 0), .null)], some (.invokevirtual 164, 3, (98, 0, 0), .null)),
  (43, [], some (.invokevirtual 304, 3, (158, 2, 0), .null)),
  (46, [], some (.ireturn, 1, (0, 0, 0), .null))]
def b_160 : mB := [
  (0, [(.iconst (-1), 1, (0, 0, 0), .int (-1)), (.istore_n 1, 1, (0, 0, 0), .null), (.bipush (7), 2, (0, 0, 0), .int 7), (.istore_n 2, 1, (0, 0, 0), .null), (.iconst (0), 1, (0, 0, 0), .int 0), (.istore_n 3, 1, (0, 0, 0), .null)], none),
  (7, [(.iload_n 3, 1, (0, 0, 0), .null), (.aload_n 0, 1, (0, 0, 0), .null), (.getfield 43, 3, (2, 7, 0), .null), (.if_icmp .ge (39), 3, (51, 0, 0), .null)], none),
  (15, [(.aload_n 0, 1, (0, 0, 0), .null), (.iconst (1), 1, (0, 0, 0), .int 1), (.iload_n 3, 1, (0, 0, 0), .null), (.ishl, 1, (0, 0, 0), .null), (.aload_n 0, 1, (0, 0, 0), .null)], some (.invokevirtual 100, 3, (98, 0, 0), .null)),
  (23, [], some (.invokevirtual 107, 3, (158, 2, 0), .null)),
  (26, [(.istore 4, 2, (0, 0, 0), .null), (.iload 4, 2, (0, 0, 0), .null), (.iconst (-1), 1, (0, 0, 0), .int (-1)), (.if_icmp .eq (14), 3, (45, 0, 0), .null)], none),
  (34, [(.iload 4, 2, (0, 0, 0), .null), (.iload_n 2, 1, (0, 0, 0), .null), (.if_icmp .ge (8), 3, (45, 0, 0), .null)], none),
  (40, [(.iload_n 3, 1, (0, 0, 0), .null), (.istore_n 1, 1, (0, 0, 0), .null), (.iload 4, 2, (0, 0, 0), .null), (.istore_n 2, 1, (0, 0, 0), .null)], none),
  (45, [(.iinc 3 (1), 3, (0, 0, 0), .int 1), (.goto (-41), 3, (7, 0, 0), .null)], none),
  (51, [(.iload_n 1, 1, (0, 0, 0), .null)], some (.ireturn, 1, (0, 0, 0), .null))]
def b_161 : mB := [
  (0, [(.aload_n 0, 1, (0, 0, 0), .null), (.getfield 10, 3, (0, 0, 3), .null), (.iload_n 1, 1, (0, 0, 0), .null)], some (.invokevirtual 101, 3, (53, 1, 0), .null)),
  (8, [(.astore 4, 2, (0, 0, 0), .null), (.aload 4, 2, (0, 0, 0), .null), (.ifnull (12), 3, (24, 0, 0), .null)], none),
  (15, [(.aload 4, 2, (0, 0, 0), .null), (.iload_n 2, 1, (0, 0, 0), .null)], some (.invokevirtual 161, 3, (57, 1, 0), .null)),
  (21, [(.ifCond .ne (5), 3, (26, 0, 0), .null)], none),
  (24, [(.iconst (-1), 1, (0, 0, 0), .int (-1))], some (.ireturn, 1, (0, 0, 0), .null)),
  (26, [(.aload 4, 2, (0, 0, 0), .null), (.iload_n 2, 1, (0, 0, 0), .null)], some (.invokevirtual 310, 3, (162, 1, 0), .null)),
  (32, [(.istore 5, 2, (0, 0, 0), .null), (.iload_n 3, 1, (0, 0, 0), .null), (.ifCond .eq (9), 3, (44, 0, 0), .null)], none),
  (38, [(.iload 5, 2, (0, 0, 0), .null), (.iconst (-1), 1, (0, 0, 0), .int (-1)), (.if_icmp .ne (6), 3, (47, 0, 0), .null)], none),
  (44, [(.iload 5, 2, (0, 0, 0), .null)], some (.ireturn, 1, (0, 0, 0), .null)),
  (47, [(.aload 4, 2, (0, 0, 0), .null), (.iload_n 2, 1, (0, 0, 0), .null), (.iload 5, 2, (0, 0, 0), .null)], some (.invokevirtual 313, 3, (163, 2, 0), .null)),
  (55, [], some (.ireturn, 1, (0, 0, 0), .null))]
def b_162 : mB := [
  (0, [(.iconst (-1), 1, (0, 0, 0), .int (-1)), (.istore_n 2, 1, (0, 0, 0), .null), (.bipush (7), 2, (0, 0, 0), .int 7), (.istore_n 3, 1, (0, 0, 0), .null), (.iconst (0), 1, (0, 0, 0), .int 0), (.istore 4, 2, (0, 0, 0), .null)], none),
  (8, [(.iload 4, 2, (0, 0, 0), .null), (.aload_n 0, 1, (0, 0, 0), .null), (.getfield 43, 3, (2, 7, 0), .null), (.if_icmp .ge (37), 3, (51, 0, 0), .null)], none),
  (17, [(.iload 4, 2, (0, 0, 0), .null), (.iload_n 1, 1, (0, 0, 0), .null), (.if_icmp .eq (25), 3, (45, 0, 0), .null)], none),
  (23, [(.aload_n 0, 1, (0, 0, 0), .null), (.iload_n 1, 1, (0, 0, 0), .null), (.iload 4, 2, (0, 0, 0), .null)], some (.invokevirtual 111, 3, (163, 2, 0), .null)),
  (30, [(.iload_n 3, 1, (0, 0, 0), .null), (.if_icmp .ge (14), 3, (45, 0, 0), .null)], none),
  (34, [(.iload 4, 2, (0, 0, 0), .null), (.istore_n 2, 1, (0, 0, 0), .null), (.aload_n 0, 1, (0, 0, 0), .null), (.iload_n 1, 1, (0, 0, 0), .null), (.iload 4, 2, (0, 0, 0), .null)], some (.invokevirtual 111, 3, (163, 2, 0), .null)),
  (44, [(.istore_n 3, 1, (0, 0, 0), .null)], none),
  (45, [(.iinc 4 (1), 3, (0, 0, 0), .int 1), (.goto (-40), 3, (8, 0, 0), .null)], none),
  (51, [(.iload_n 2, 1, (0, 0, 0), .null)], some (.ireturn, 1, (0, 0, 0), .null))]
def b_163 : mB := [
  (0, [(.aload_n 0, 1, (0, 0, 0), .null)], some (.invokevirtual 100, 3, (98, 0, 0), .null)),
  (4, [(.iconst (1), 1, (0, 0, 0), .int 1), (.iload_n 2, 1, (0, 0, 0), .null), (.ishl, 1, (0, 0, 0), .null), (.iconst (-1), 1, (0, 0, 0), .int (-1)), (.ixor, 1, (0, 0, 0), .null), (.iand, 1, (0, 0, 0), .null), (.istore_n 3, 1, (0, 0, 0), .null), (.aload_n 0, 1, (0, 0, 0), .null), (.iconst (1), 1, (0, 0, 0), .int 1), (.iload_n 1, 1, (0, 0, 0), .null), (.ishl, 1, (0, 0, 0), .null), (.bipush (9), 2, (0, 0, 0), .int 9), (.iload_n 3, 1, (0, 0, 0), .null)], some (.invokevirtual 103, 3, (99, 3, 0), .null)),
  (21, [], some (.invokestatic 80, 3, (66, 1, 0), .null)),
  (24, [(.iconst (1), 1, (0, 0, 0), .int 1), (.isub, 1, (0, 0, 0), .null)], some (.ireturn, 1, (0, 0, 0), .null))]
def b_164 : mB := [
  (0, [(.aload_n 0, 1, (0, 0, 0), .null), (.getfield 10, 3, (0, 0, 3), .null), (.iload_n 1, 1, (0, 0, 0), .null)], some (.invokevirtual 101, 3, (53, 1, 0), .null)),
  (8, [(.astore 5, 2, (0, 0, 0), .null), (.aload 5, 2, (0, 0, 0), .null), (.ifnull (26), 3, (38, 0, 0), .null)], none),
  (15, [(.iload_n 2, 1, (0, 0, 0), .null), (.iconst (0), 1, (0, 0, 0), .int 0), (.aload 5, 2, (0, 0, 0), .null)], some (.invokevirtual 178, 3, (94, 0, 0), .null)),
  (22, [], some (.invokestatic 74, 3, (17, 3, 0), .null)),
  (25, [(.ifCond .eq (13), 3, (38, 0, 0), .null)], none),
  (28, [(.iload_n 3, 1, (0, 0, 0), .null), (.iconst (0), 1, (0, 0, 0), .int 0), (.bipush (9), 2, (0, 0, 0), .int 9)], some (.invokestatic 74, 3, (17, 3, 0), .null)),
  (35, [(.ifCond .ne (7), 3, (42, 0, 0), .null)], none),
  (38, [(.ldc2_w 181, 3, (0, 0, 0), .long (-1))], some (.lreturn, 1, (0, 0, 0), .null)),
  (42, [(.ldc2_w 194, 3, (0, 0, 0), .long (10)), (.aload 5, 2, (0, 0, 0), .null), (.iload_n 2, 1, (0, 0, 0), .null)], some (.invokevirtual 183, 3, (106, 1, 0), .null)),
  (51, [(.i2l, 1, (0, 0, 0), .null), (.lmul, 1, (0, 0, 0), .null), (.bipush (10), 2, (0, 0, 0), .int 10), (.iload_n 3, 1, (0, 0, 0), .null), (.isub, 1, (0, 0, 0), .null), (.i2l, 1, (0, 0, 0), .null), (.iload 4, 2, (0, 0, 0), .null)], some (.invokestatic 196, 3, (109, 3, 0), .null)),
  (63, [], some (.lreturn, 1, (0, 0, 0), .null))]
def b_165 : mB := [
  (0, [(.aload_n 0, 1, (0, 0, 0), .null), (.getfield 10, 3, (0, 0, 3), .null), (.iload_n 1, 1, (0, 0, 0), .null)], some (.invokevirtual 101, 3, (53, 1, 0), .null)),
  (8, [(.astore 4, 2, (0, 0, 0), .null), (.aload_n 0, 1, (0, 0, 0), .null), (.getfield 10, 3, (0, 0, 3), .null), (.iload_n 2, 1, (0, 0, 0), .null)], some (.invokevirtual 111, 3, (59, 1, 0), .null)),
  (18, [(.astore 5, 2, (0, 0, 0), .null), (.aload 4, 2, (0, 0, 0), .null), (.ifnull (8), 3, (30, 0, 0), .null)], none),
  (25, [(.aload 5, 2, (0, 0, 0), .null), (.ifnonnull (6), 3, (33, 0, 0), .null)], none),
  (30, [(.bipush (-2), 2, (0, 0, 0), .int (-2))], some (.ireturn, 1, (0, 0, 0), .null)),
  (33, [(.aload_n 0, 1, (0, 0, 0), .null), (.getfield 34, 3, (0, 4, 3), .null), (.aload 4, 2, (0, 0, 0), .null), (.aload 5, 2, (0, 0, 0), .null), (.aload 5, 2, (0, 0, 0), .null), (.getfield 120, 3, (3, 3, 0), .null)], some (.invokevirtual 123, 3, (62, 3, 0), .null)),
  (49, [(.pop, 1, (0, 0, 0), .null), (.aload_n 0, 1, (0, 0, 0), .null), (.getfield 34, 3, (0, 4, 3), .null), (.iload_n 3, 1, (0, 0, 0), .null)], some (.invokevirtual 316, 3, (166, 1, 0), .null)),
  (58, [], some (.ireturn, 1, (0, 0, 0), .null))]
def b_166 : mB := [
  (0, [(.iload_n 1, 1, (0, 0, 0), .null), (.tableswitch (60) (0) (4) #[35, 40, 45, 50, 55], 35, (0, 0, 0), .null)], none),
  (36, [(.aload_n 0, 1, (0, 0, 0), .null), (.getfield 58, 3, (7, 8, 0), .null)], some (.ireturn, 1, (0, 0, 0), .null)),
  (41, [(.aload_n 0, 1, (0, 0, 0), .null), (.getfield 61, 3, (7, 9, 0), .null)], some (.ireturn, 1, (0, 0, 0), .null)),
  (46, [(.aload_n 0, 1, (0, 0, 0), .null), (.getfield 64, 3, (7, 10, 0), .null)], some (.ireturn, 1, (0, 0, 0), .null)),
  (51, [(.aload_n 0, 1, (0, 0, 0), .null), (.getfield 70, 3, (7, 12, 0), .null)], some (.ireturn, 1, (0, 0, 0), .null)),
  (56, [(.aload_n 0, 1, (0, 0, 0), .null), (.getfield 73, 3, (7, 13, 0), .null)], some (.ireturn, 1, (0, 0, 0), .null)),
  (61, [(.bipush (-2), 2, (0, 0, 0), .int (-2))], some (.ireturn, 1, (0, 0, 0), .null))]
def b_167 : mB := [
  (0, [(.aload_n 0, 1, (0, 0, 0), .null), (.iload_n 1, 1, (0, 0, 0), .null), (.iload_n 2, 1, (0, 0, 0), .null)], some (.invokevirtual 207, 3, (114, 2, 0), .null)),
  (6, [(.ifCond .eq (13), 3, (19, 0, 0), .null)], none),
  (9, [(.aload_n 0, 1, (0, 0, 0), .null), (.getfield 62, 3, (0, 8, 3), .null), (.getfield 211, 3, (11, 1, 0), .null), (.ifCond .ne (7), 3, (23, 0, 0), .null)], none),
  (19, [(.ldc2_w 181, 3, (0, 0, 0), .long (-1))], some (.lreturn, 1, (0, 0, 0), .null)),
  (23, [(.aload_n 0, 1, (0, 0, 0), .null), (.getfield 10, 3, (0, 0, 3), .null), (.iload_n 1, 1, (0, 0, 0), .null)], some (.invokevirtual 101, 3, (53, 1, 0), .null)),
  (31, [(.astore 5, 2, (0, 0, 0), .null), (.aload 5, 2, (0, 0, 0), .null), (.ifnull (12), 3, (47, 0, 0), .null)], none),
  (38, [(.aload 5, 2, (0, 0, 0), .null), (.iload_n 3, 1, (0, 0, 0), .null)], some (.invokevirtual 161, 3, (57, 1, 0), .null)),
  (44, [(.ifCond .ne (7), 3, (51, 0, 0), .null)], none),
  (47, [(.ldc2_w 181, 3, (0, 0, 0), .long (-1))], some (.lreturn, 1, (0, 0, 0), .null)),
  (51, [(.aload_n 0, 1, (0, 0, 0), .null), (.getfield 62, 3, (0, 8, 3), .null), (.iload_n 3, 1, (0, 0, 0), .null)], some (.invokevirtual 319, 3, (120, 1, 0), .null)),
  (59, [(.i2l, 1, (0, 0, 0), .null), (.aload_n 0, 1, (0, 0, 0), .null), (.getfield 62, 3, (0, 8, 3), .null), (.getfield 211, 3, (11, 1, 0), .null), (.i2l, 1, (0, 0, 0), .null), (.iload 4, 2, (0, 0, 0), .null)], some (.invokestatic 196, 3, (109, 3, 0), .null)),
  (73, [], some (.lreturn, 1, (0, 0, 0), .null))]
def b_168 : mB := [
  (0, [(.aload_n 0, 1, (0, 0, 0), .null), (.iload_n 1, 1, (0, 0, 0), .null), (.iload_n 2, 1, (0, 0, 0), .null)], some (.invokevirtual 207, 3, (114, 2, 0), .null)),
  (6, [(.ifCond .eq (13), 3, (19, 0, 0), .null)], none),
  (9, [(.aload_n 0, 1, (0, 0, 0), .null), (.getfield 62, 3, (0, 8, 3), .null), (.getfield 211, 3, (11, 1, 0), .null), (.ifCond .ne (5), 3, (21, 0, 0), .null)], none),
  (19, [(.iconst (-1), 1, (0, 0, 0), .int (-1))], some (.ireturn, 1, (0, 0, 0), .null)),
  (21, [(.iload_n 3, 1, (0, 0, 0), .null), (.ifCond .eq (13), 3, (35, 0, 0), .null)], none),
  (25, [(.aload_n 0, 1, (0, 0, 0), .null), (.getfield 62, 3, (0, 8, 3), .null)], some (.invokevirtual 322, 3, (169, 0, 0), .null)),
  (32, [(.goto (10), 3, (42, 0, 0), .null)], none),
  (35, [(.aload_n 0, 1, (0, 0, 0), .null), (.getfield 62, 3, (0, 8, 3), .null)], some (.invokevirtual 325, 3, (170, 0, 0), .null)),
  (42, [], some (.ireturn, 1, (0, 0, 0), .null))]
def b_169 : mB := [
  (0, [(.iconst (0), 1, (0, 0, 0), .int 0), (.istore_n 1, 1, (0, 0, 0), .null), (.iconst (0), 1, (0, 0, 0), .int 0), (.istore_n 2, 1, (0, 0, 0), .null)], none),
  (4, [(.iload_n 2, 1, (0, 0, 0), .null), (.aload_n 0, 1, (0, 0, 0), .null), (.getfield 18, 3, (11, 1, 0), .null), (.if_icmp .ge (23), 3, (32, 0, 0), .null)], none),
  (12, [(.iload_n 1, 1, (0, 0, 0), .null), (.aload_n 0, 1, (0, 0, 0), .null), (.getfield 9, 3, (11, 0, 3), .null), (.iload_n 2, 1, (0, 0, 0), .null), (.iaload, 1, (100, 0, 0), .null), (.bipush (10), 2, (0, 0, 0), .int 10), (.irem, 1, (0, 0, 0), .null), (.invokestatic 50, 3, (2, 0, 0), .null), (.istore_n 1, 1, (0, 0, 0), .null), (.iinc 2 (1), 3, (0, 0, 0), .int 1), (.goto (-25), 3, (4, 0, 0), .null)], none),
  (32, [(.iload_n 1, 1, (0, 0, 0), .null)], some (.ireturn, 1, (0, 0, 0), .null))]
def b_170 : mB := [
  (0, [(.bipush (9), 2, (0, 0, 0), .int 9), (.istore_n 1, 1, (0, 0, 0), .null), (.iconst (0), 1, (0, 0, 0), .int 0), (.istore_n 2, 1, (0, 0, 0), .null)], none),
  (5, [(.iload_n 2, 1, (0, 0, 0), .null), (.aload_n 0, 1, (0, 0, 0), .null), (.getfield 18, 3, (11, 1, 0), .null), (.if_icmp .ge (23), 3, (33, 0, 0), .null)], none),
  (13, [(.iload_n 1, 1, (0, 0, 0), .null), (.aload_n 0, 1, (0, 0, 0), .null), (.getfield 9, 3, (11, 0, 3), .null), (.iload_n 2, 1, (0, 0, 0), .null), (.iaload, 1, (100, 0, 0), .null), (.bipush (10), 2, (0, 0, 0), .int 10), (.irem, 1, (0, 0, 0), .null), (.invokestatic 60, 3, (3, 0, 0), .null), (.istore_n 1, 1, (0, 0, 0), .null), (.iinc 2 (1), 3, (0, 0, 0), .int 1), (.goto (-25), 3, (5, 0, 0), .null)], none),
  (33, [(.iload_n 1, 1, (0, 0, 0), .null)], some (.ireturn, 1, (0, 0, 0), .null))]
def b_171 : mB := [
  (0, [(.iload_n 1, 1, (0, 0, 0), .null), (.iconst (0), 1, (0, 0, 0), .int 0), (.iconst (2), 1, (0, 0, 0), .int 2)], some (.invokestatic 74, 3, (17, 3, 0), .null)),
  (6, [(.ifCond .eq (15), 3, (21, 0, 0), .null)], none),
  (9, [(.aload_n 0, 1, (0, 0, 0), .null), (.getfield 10, 3, (0, 0, 3), .null), (.getfield 84, 3, (1, 1, 3), .null), (.iload_n 1, 1, (0, 0, 0), .null), (.iaload, 1, (100, 0, 0), .null), (.goto (5), 3, (23, 0, 0), .null)], none),
  (21, [(.bipush (-2), 2, (0, 0, 0), .int (-2))], none),
  (23, [], some (.ireturn, 1, (0, 0, 0), .null))]
def b_172 : mB := [
  (0, [(.iload_n 1, 1, (0, 0, 0), .null), (.iconst (0), 1, (0, 0, 0), .int 0), (.iconst (2), 1, (0, 0, 0), .int 2)], some (.invokestatic 74, 3, (17, 3, 0), .null)),
  (6, [(.ifCond .ne (5), 3, (11, 0, 0), .null)], none),
  (9, [(.iconst (0), 1, (0, 0, 0), .int 0)], some (.ireturn, 1, (0, 0, 0), .null)),
  (11, [(.aload_n 0, 1, (0, 0, 0), .null), (.getfield 16, 3, (0, 1, 3), .null), (.iload_n 1, 1, (0, 0, 0), .null), (.aaload, 1, (201, 0, 0), .null), (.aload_n 0, 1, (0, 0, 0), .null), (.getfield 10, 3, (0, 0, 3), .null)], some (.invokevirtual 328, 3, (173, 1, 0), .null)),
  (24, [(.aload_n 0, 1, (0, 0, 0), .null), (.getfield 20, 3, (0, 2, 3), .null), (.iload_n 1, 1, (0, 0, 0), .null), (.iconst (1), 1, (0, 0, 0), .int 1), (.bastore, 1, (102, 0, 0), .null), (.iconst (1), 1, (0, 0, 0), .int 1)], some (.ireturn, 1, (0, 0, 0), .null))]
def b_173 : mB := [
  (0, [(.aload_n 1, 1, (0, 0, 0), .null), (.getfield 9, 3, (1, 0, 3), .null), (.iconst (0), 1, (0, 0, 0), .int 0), (.aload_n 0, 1, (0, 0, 0), .null), (.getfield 9, 3, (1, 0, 3), .null), (.iconst (0), 1, (0, 0, 0), .int 0), (.sipush (600), 3, (0, 0, 0), .int 600), (.invokestatic 80, 3, (5, 0, 0), .null), (.aload_n 1, 1, (0, 0, 0), .null), (.getfield 15, 3, (1, 1, 3), .null), (.iconst (0), 1, (0, 0, 0), .int 0), (.aload_n 0, 1, (0, 0, 0), .null), (.getfield 15, 3, (1, 1, 3), .null), (.iconst (0), 1, (0, 0, 0), .int 0), (.iconst (3), 1, (0, 0, 0), .int 3), (.invokestatic 80, 3, (5, 0, 0), .null), (.iconst (0), 1, (0, 0, 0), .int 0), (.istore_n 2, 1, (0, 0, 0), .null)], none),
  (32, [(.iload_n 2, 1, (0, 0, 0), .null), (.iconst (2), 1, (0, 0, 0), .int 2), (.if_icmp .ge (54), 3, (88, 0, 0), .null)], none),
  (37, [(.aload_n 0, 1, (0, 0, 0), .null), (.getfield 20, 3, (1, 2, 3), .null), (.iload_n 2, 1, (0, 0, 0), .null), (.aaload, 1, (202, 0, 0), .null), (.aload_n 1, 1, (0, 0, 0), .null), (.getfield 20, 3, (1, 2, 3), .null), (.iload_n 2, 1, (0, 0, 0), .null), (.aaload, 1, (202, 0, 0), .null)], some (.invokevirtual 56, 3, (48, 1, 0), .null)),
  (52, [(.aload_n 0, 1, (0, 0, 0), .null), (.getfield 26, 3, (1, 3, 3), .null), (.iload_n 2, 1, (0, 0, 0), .null), (.aaload, 1, (203, 0, 0), .null), (.aload_n 1, 1, (0, 0, 0), .null), (.getfield 26, 3, (1, 3, 3), .null), (.iload_n 2, 1, (0, 0, 0), .null), (.aaload, 1, (203, 0, 0), .null)], some (.invokevirtual 64, 3, (49, 1, 0), .null)),
  (67, [(.aload_n 0, 1, (0, 0, 0), .null), (.getfield 32, 3, (1, 4, 3), .null), (.iload_n 2, 1, (0, 0, 0), .null), (.aaload, 1, (204, 0, 0), .null), (.aload_n 1, 1, (0, 0, 0), .null), (.getfield 32, 3, (1, 4, 3), .null), (.iload_n 2, 1, (0, 0, 0), .null), (.aaload, 1, (204, 0, 0), .null)], some (.invokevirtual 71, 3, (50, 1, 0), .null)),
  (82, [(.iinc 2 (1), 3, (0, 0, 0), .int 1), (.goto (-53), 3, (32, 0, 0), .null)], none),
  (88, [(.aload_n 0, 1, (0, 0, 0), .null), (.aload_n 1, 1, (0, 0, 0), .null), (.getfield 43, 3, (1, 5, 0), .null), (.putfield 43, 3, (1, 5, 0), .null), (.aload_n 0, 1, (0, 0, 0), .null), (.aload_n 1, 1, (0, 0, 0), .null), (.getfield 86, 3, (1, 6, 0), .null), (.putfield 86, 3, (1, 6, 0), .null), (.aload_n 0, 1, (0, 0, 0), .null), (.aload_n 1, 1, (0, 0, 0), .null), (.getfield 36, 3, (1, 7, 0), .null), (.putfield 36, 3, (1, 7, 0), .null)], some (.return_, 1, (0, 0, 0), .null))]
def b_174 : mB := [
  (0, [(.iload_n 1, 1, (0, 0, 0), .null), (.iconst (0), 1, (0, 0, 0), .int 0), (.iconst (2), 1, (0, 0, 0), .int 2)], some (.invokestatic 74, 3, (17, 3, 0), .null)),
  (6, [(.ifCond .eq (12), 3, (18, 0, 0), .null)], none),
  (9, [(.aload_n 0, 1, (0, 0, 0), .null), (.getfield 20, 3, (0, 2, 3), .null), (.iload_n 1, 1, (0, 0, 0), .null), (.baload, 1, (102, 0, 0), .null), (.ifCond .ne (5), 3, (20, 0, 0), .null)], none),
  (18, [(.iconst (0), 1, (0, 0, 0), .int 0)], some (.ireturn, 1, (0, 0, 0), .null)),
  (20, [(.aload_n 0, 1, (0, 0, 0), .null), (.getfield 10, 3, (0, 0, 3), .null), (.aload_n 0, 1, (0, 0, 0), .null), (.getfield 16, 3, (0, 1, 3), .null), (.iload_n 1, 1, (0, 0, 0), .null), (.aaload, 1, (201, 0, 0), .null)], some (.invokevirtual 328, 3, (173, 1, 0), .null)),
  (33, [(.iconst (1), 1, (0, 0, 0), .int 1)], some (.ireturn, 1, (0, 0, 0), .null))]
def b_175 : mB := [
  (0, [(.aload_n 0, 1, (0, 0, 0), .null), (.invokespecial 1, 3, (1, 0, 0), .null), (.aload_n 0, 1, (0, 0, 0), .null), (.sipush (2400), 3, (0, 0, 0), .int 2400), (.newarray .byte, 2, (101, 0, 0), .null), (.putfield 7, 3, (12, 1, 3), .null), (.aload_n 0, 1, (0, 0, 0), .null), (.iconst (4), 1, (0, 0, 0), .int 4), (.newarray .int, 2, (100, 0, 0), .null), (.putfield 13, 3, (12, 2, 3), .null), (.aload_n 0, 1, (0, 0, 0), .null), (.iconst (4), 1, (0, 0, 0), .int 4), (.newarray .int, 2, (100, 0, 0), .null), (.putfield 17, 3, (12, 3, 3), .null), (.aload_n 0, 1, (0, 0, 0), .null), (.iconst (4), 1, (0, 0, 0), .int 4), (.newarray .int, 2, (100, 0, 0), .null), (.putfield 20, 3, (12, 4, 3), .null), (.aload_n 0, 1, (0, 0, 0), .null), (.bipush (12), 2, (0, 0, 0), .int 12), (.newarray .int, 2, (100, 0, 0), .null), (.putfield 23, 3, (12, 5, 3), .null), (.aload_n 0, 1, (0, 0, 0), .null), (.sipush (360), 3, (0, 0, 0), .int 360), (.newarray .int, 2, (100, 0, 0), .null), (.putfield 26, 3, (12, 6, 3), .null), (.aload_n 0, 1, (0, 0, 0), .null), (.sipush (968), 3, (0, 0, 0), .int 968), (.newarray .int, 2, (100, 0, 0), .null), (.putfield 29, 3, (12, 7, 3), .null), (.aload_n 0, 1, (0, 0, 0), .null), (.sipush (136), 3, (0, 0, 0), .int 136), (.newarray .int, 2, (100, 0, 0), .null), (.putfield 32, 3, (12, 8, 3), .null), (.aload_n 0, 1, (0, 0, 0), .null), (.bipush (121), 2, (0, 0, 0), .int 121), (.newarray .int, 2, (100, 0, 0), .null), (.putfield 35, 3, (12, 18, 3), .null), (.aload_n 0, 1, (0, 0, 0), .null), (.iconst (3), 1, (0, 0, 0), .int 3), (.newarray .int, 2, (100, 0, 0), .null), (.putfield 38, 3, (12, 19, 3), .null), (.aload_n 0, 1, (0, 0, 0), .null), (.bipush (6), 2, (0, 0, 0), .int 6), (.newarray .int, 2, (100, 0, 0), .null), (.putfield 41, 3, (12, 32, 3), .null), (.aload_n 0, 1, (0, 0, 0), .null), (.bipush (48), 2, (0, 0, 0), .int 48), (.newarray .int, 2, (100, 0, 0), .null), (.putfield 44, 3, (12, 33, 3), .null), (.aload_n 0, 1, (0, 0, 0), .null), (.bipush (48), 2, (0, 0, 0), .int 48), (.newarray .int, 2, (100, 0, 0), .null), (.putfield 47, 3, (12, 34, 3), .null), (.aload_n 0, 1, (0, 0, 0), .null), (.bipush (8), 2, (0, 0, 0), .int 8), (.newarray .int, 2, (100, 0, 0), .null), (.putfield 50, 3, (12, 36, 3), .null), (.aload_n 0, 1, (0, 0, 0), .null), (.iconst (4), 1, (0, 0, 0), .int 4), (.newarray .int, 2, (100, 0, 0), .null), (.putfield 53, 3, (12, 38, 3), .null), (.aload_n 0, 1, (0, 0, 0), .null), (.iconst (4), 1, (0, 0, 0), .int 4), (.newarray .int, 2, (100, 0, 0), .null), (.putfield 56, 3, (12, 39, 3), .null), (.aload_n 0, 1, (0, 0, 0), .null), (.sipush (256), 3, (0, 0, 0), .int 256), (.newarray .boolean, 2, (102, 0, 0), .null), (.putfield 59, 3, (12, 40, 3), .null), (.aload_n 0, 1, (0, 0, 0), .null), (.bipush (60), 2, (0, 0, 0), .int 60), (.newarray .int, 2, (100, 0, 0), .null), (.putfield 63, 3, (12, 42, 3), .null), (.aload_n 0, 1, (0, 0, 0), .null), (.sipush (256), 3, (0, 0, 0), .int 256), (.newarray .int, 2, (100, 0, 0), .null), (.putfield 66, 3, (12, 45, 3), .null), (.aload_n 0, 1, (0, 0, 0), .null), (.sipush (256), 3, (0, 0, 0), .int 256), (.newarray .int, 2, (100, 0, 0), .null), (.putfield 69, 3, (12, 46, 3), .null), (.aload_n 0, 1, (0, 0, 0), .null), (.iconst (5), 1, (0, 0, 0), .int 5), (.newarray .int, 2, (100, 0, 0), .null), (.putfield 72, 3, (12, 47, 3), .null), (.aload_n 0, 1, (0, 0, 0), .null), (.iconst (5), 1, (0, 0, 0), .int 5), (.newarray .int, 2, (100, 0, 0), .null), (.putfield 75, 3, (12, 48, 3), .null), (.aload_n 0, 1, (0, 0, 0), .null), (.bipush (8), 2, (0, 0, 0), .int 8), (.newarray .int, 2, (100, 0, 0), .null), (.putfield 78, 3, (12, 49, 3), .null), (.aload_n 0, 1, (0, 0, 0), .null), (.iconst (3), 1, (0, 0, 0), .int 3), (.newarray .boolean, 2, (102, 0, 0), .null), (.putfield 81, 3, (12, 50, 3), .null), (.aload_n 0, 1, (0, 0, 0), .null), (.getfield 20, 3, (12, 4, 3), .null), (.iconst (0), 1, (0, 0, 0), .int 0), (.iconst (-1), 1, (0, 0, 0), .int (-1)), (.iastore, 1, (100, 0, 0), .null)], some (.return_, 1, (0, 0, 0), .null))]
def b_176 : mB := [
  (0, [(.aload_n 0, 1, (0, 0, 0), .null), (.iconst (0), 1, (0, 0, 0), .int 0), (.putfield 84, 3, (12, 0, 0), .null), (.aload_n 0, 1, (0, 0, 0), .null), (.getfield 13, 3, (12, 2, 3), .null), (.iconst (0), 1, (0, 0, 0), .int 0), (.iaload, 1, (100, 0, 0), .null), (.bipush (20), 2, (0, 0, 0), .int 20), (.iadd, 1, (0, 0, 0), .null), (.sipush (600), 3, (0, 0, 0), .int 600), (.if_icmp .le (5), 3, (22, 0, 0), .null)], none),
  (20, [(.iconst (-1), 1, (0, 0, 0), .int (-1))], some (.ireturn, 1, (0, 0, 0), .null)),
  (22, [(.aload_n 0, 1, (0, 0, 0), .null), (.iload_n 1, 1, (0, 0, 0), .null)], some (.invokevirtual 100, 3, (177, 1, 0), .null)),
  (27, [(.aload_n 0, 1, (0, 0, 0), .null), (.iload_n 2, 1, (0, 0, 0), .null)], some (.invokevirtual 100, 3, (177, 1, 0), .null)),
  (32, [(.aload_n 0, 1, (0, 0, 0), .null), (.iload_n 3, 1, (0, 0, 0), .null)], some (.invokevirtual 100, 3, (177, 1, 0), .null)),
  (37, [(.aload_n 0, 1, (0, 0, 0), .null), (.iload 4, 2, (0, 0, 0), .null)], some (.invokevirtual 100, 3, (177, 1, 0), .null)),
  (43, [(.aload_n 0, 1, (0, 0, 0), .null), (.iload 5, 2, (0, 0, 0), .null)], some (.invokevirtual 100, 3, (177, 1, 0), .null)),
  (49, [(.aload_n 0, 1, (0, 0, 0), .null), (.getfield 13, 3, (12, 2, 3), .null), (.iconst (0), 1, (0, 0, 0), .int 0), (.iaload, 1, (100, 0, 0), .null)], some (.ireturn, 1, (0, 0, 0), .null))]
def b_177 : mB := [
  (0, [(.bipush (24), 2, (0, 0, 0), .int 24), (.istore_n 2, 1, (0, 0, 0), .null)], none),
  (3, [(.iload_n 2, 1, (0, 0, 0), .null), (.ifCond .lt (34), 3, (38, 0, 0), .null)], none),
  (7, [(.aload_n 0, 1, (0, 0, 0), .null), (.getfield 7, 3, (12, 1, 3), .null), (.aload_n 0, 1, (0, 0, 0), .null), (.getfield 13, 3, (12, 2, 3), .null), (.iconst (0), 1, (0, 0, 0), .int 0), (.iaload, 1, (100, 0, 0), .null), (.iload_n 1, 1, (0, 0, 0), .null), (.iload_n 2, 1, (0, 0, 0), .null), (.ishr, 1, (0, 0, 0), .null), (.i2b, 1, (0, 0, 0), .null), (.bastore, 1, (101, 0, 0), .null), (.aload_n 0, 1, (0, 0, 0), .null), (.getfield 13, 3, (12, 2, 3), .null), (.iconst (0), 1, (0, 0, 0), .int 0), (.dup2, 1, (0, 0, 0), .null), (.iaload, 1, (100, 0, 0), .null), (.iconst (1), 1, (0, 0, 0), .int 1), (.iadd, 1, (0, 0, 0), .null), (.iastore, 1, (100, 0, 0), .null), (.iinc 2 (-8), 3, (0, 0, 0), .int (-8)), (.goto (-32), 3, (3, 0, 0), .null)], none),
  (38, [], some (.return_, 1, (0, 0, 0), .null))]
def b_178 : mB := [
  (0, [(.aload_n 0, 1, (0, 0, 0), .null), (.iconst (0), 1, (0, 0, 0), .int 0), (.putfield 84, 3, (12, 0, 0), .null), (.iload_n 1, 1, (0, 0, 0), .null), (.iconst (0), 1, (0, 0, 0), .int 0), (.aload_n 0, 1, (0, 0, 0), .null), (.getfield 13, 3, (12, 2, 3), .null), (.iconst (0), 1, (0, 0, 0), .int 0), (.iaload, 1, (100, 0, 0), .null)], some (.invokestatic 96, 3, (179, 3, 0), .null)),
  (16, [(.ifCond .ne (5), 3, (21, 0, 0), .null)], none),
  (19, [(.iconst (-1), 1, (0, 0, 0), .int (-1))], some (.ireturn, 1, (0, 0, 0), .null)),
  (21, [(.aload_n 0, 1, (0, 0, 0), .null), (.getfield 13, 3, (12, 2, 3), .null), (.iconst (0), 1, (0, 0, 0), .int 0), (.iload_n 1, 1, (0, 0, 0), .null), (.iastore, 1, (100, 0, 0), .null), (.iload_n 1, 1, (0, 0, 0), .null)], some (.ireturn, 1, (0, 0, 0), .null))]
def b_179 : mB := [
  (0, [(.iload_n 0, 1, (0, 0, 0), .null), (.iload_n 1, 1, (0, 0, 0), .null), (.if_icmp .lt (12), 3, (14, 0, 0), .null)], none),
  (5, [(.iload_n 0, 1, (0, 0, 0), .null), (.iload_n 2, 1, (0, 0, 0), .null), (.if_icmp .gt (7), 3, (14, 0, 0), .null)], none),
  (10, [(.iconst (1), 1, (0, 0, 0), .int 1), (.goto (4), 3, (15, 0, 0), .null)], none),
  (14, [(.iconst (0), 1, (0, 0, 0), .int 0)], none),
  (15, [], some (.ireturn, 1, (0, 0, 0), .null))]
