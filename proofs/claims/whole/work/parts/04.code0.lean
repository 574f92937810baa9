/-! The code as rows of blocks: the pc, the instructions, the call or return at its end; printed by a program of ours. -/
def b_0 : mB := [
  (0, [(.aload_n 0, 1, (0, 0, 0), .null), (.invokespecial 1, 3, (1, 0, 0), .null), (.aload_n 0, 1, (0, 0, 0), .null), (.new 7, 3, (1, 8, 0), .null), (.dup, 1, (0, 0, 0), .null)], some (.invokespecial 9, 3, (1, 0, 0), .null)),
  (12, [(.putfield 10, 3, (0, 0, 3), .null)], none),
  (15, [(.aload_n 0, 1, (0, 0, 0), .null), (.iconst (3), 1, (0, 0, 0), .int 3), (.anewarray 7, 3, (201, 0, 0), .null), (.putfield 16, 3, (0, 1, 3), .null)], none),
  (23, [(.aload_n 0, 1, (0, 0, 0), .null), (.iconst (3), 1, (0, 0, 0), .int 3), (.newarray .boolean, 2, (102, 0, 0), .null), (.putfield 20, 3, (0, 2, 3), .null)], none),
  (30, [(.aload_n 0, 1, (0, 0, 0), .null), (.new 24, 3, (5, 11, 0), .null), (.dup, 1, (0, 0, 0), .null)], some (.invokespecial 26, 3, (7, 0, 0), .null)),
  (38, [(.putfield 27, 3, (0, 3, 3), .null)], none),
  (41, [(.aload_n 0, 1, (0, 0, 0), .null), (.new 31, 3, (7, 15, 0), .null), (.dup, 1, (0, 0, 0), .null)], some (.invokespecial 33, 3, (9, 0, 0), .null)),
  (49, [(.putfield 34, 3, (0, 4, 3), .null)], none),
  (52, [(.aload_n 0, 1, (0, 0, 0), .null), (.new 38, 3, (8, 6, 0), .null), (.dup, 1, (0, 0, 0), .null)], some (.invokespecial 40, 3, (10, 0, 0), .null)),
  (60, [(.putfield 41, 3, (0, 5, 3), .null)], none),
  (63, [(.aload_n 0, 1, (0, 0, 0), .null), (.new 45, 3, (9, 7, 0), .null), (.dup, 1, (0, 0, 0), .null)], some (.invokespecial 47, 3, (11, 0, 0), .null)),
  (71, [(.putfield 48, 3, (0, 6, 3), .null)], none),
  (74, [(.aload_n 0, 1, (0, 0, 0), .null), (.new 52, 3, (10, 2, 0), .null), (.dup, 1, (0, 0, 0), .null)], some (.invokespecial 54, 3, (12, 0, 0), .null)),
  (82, [(.putfield 55, 3, (0, 7, 3), .null)], none),
  (85, [(.aload_n 0, 1, (0, 0, 0), .null), (.new 59, 3, (11, 4, 0), .null), (.dup, 1, (0, 0, 0), .null)], some (.invokespecial 61, 3, (13, 0, 0), .null)),
  (93, [(.putfield 62, 3, (0, 8, 3), .null)], none),
  (96, [(.iconst (0), 1, (0, 0, 0), .int 0), (.istore_n 1, 1, (0, 0, 0), .null)], none),
  (98, [(.iload_n 1, 1, (0, 0, 0), .null), (.iconst (3), 1, (0, 0, 0), .int 3), (.if_icmp .ge (22), 3, (122, 0, 0), .null)], none),
  (103, [(.aload_n 0, 1, (0, 0, 0), .null), (.getfield 16, 3, (0, 1, 3), .null), (.iload_n 1, 1, (0, 0, 0), .null), (.new 7, 3, (1, 8, 0), .null), (.dup, 1, (0, 0, 0), .null)], some (.invokespecial 9, 3, (1, 0, 0), .null)),
  (115, [(.aastore, 1, (201, 0, 0), .null)], none),
  (116, [(.iinc 1 (1), 3, (0, 0, 0), .int 1), (.goto (-21), 3, (98, 0, 0), .null)], none),
  (122, [], some (.return_, 1, (0, 0, 0), .null))]
def b_1 : mB := [
  (0, [(.aload_n 0, 1, (0, 0, 0), .null), (.invokespecial 3, 3, (1, 0, 0), .null), (.aload_n 0, 1, (0, 0, 0), .null), (.sipush (600), 3, (0, 0, 0), .int 600), (.newarray .int, 2, (100, 0, 0), .null), (.putfield 9, 3, (1, 0, 3), .null)], none),
  (13, [(.aload_n 0, 1, (0, 0, 0), .null), (.iconst (3), 1, (0, 0, 0), .int 3), (.newarray .int, 2, (100, 0, 0), .null), (.putfield 15, 3, (1, 1, 3), .null)], none),
  (20, [(.aload_n 0, 1, (0, 0, 0), .null), (.iconst (2), 1, (0, 0, 0), .int 2), (.anewarray 18, 3, (202, 0, 0), .null), (.putfield 20, 3, (1, 2, 3), .null)], none),
  (28, [(.aload_n 0, 1, (0, 0, 0), .null), (.iconst (2), 1, (0, 0, 0), .int 2), (.anewarray 24, 3, (203, 0, 0), .null), (.putfield 26, 3, (1, 3, 3), .null)], none),
  (36, [(.aload_n 0, 1, (0, 0, 0), .null), (.iconst (2), 1, (0, 0, 0), .int 2), (.anewarray 30, 3, (204, 0, 0), .null), (.putfield 32, 3, (1, 4, 3), .null)], none),
  (44, [(.aload_n 0, 1, (0, 0, 0), .null), (.iconst (-1), 1, (0, 0, 0), .int (-1)), (.putfield 36, 3, (1, 7, 0), .null)], none),
  (49, [(.iconst (0), 1, (0, 0, 0), .int 0), (.istore_n 1, 1, (0, 0, 0), .null)], none),
  (51, [(.iload_n 1, 1, (0, 0, 0), .null), (.iconst (2), 1, (0, 0, 0), .int 2), (.if_icmp .ge (48), 3, (101, 0, 0), .null)], none),
  (56, [(.aload_n 0, 1, (0, 0, 0), .null), (.getfield 20, 3, (1, 2, 3), .null), (.iload_n 1, 1, (0, 0, 0), .null), (.new 18, 3, (2, 9, 0), .null), (.dup, 1, (0, 0, 0), .null)], some (.invokespecial 40, 3, (2, 0, 0), .null)),
  (68, [(.aastore, 1, (202, 0, 0), .null)], none),
  (69, [(.aload_n 0, 1, (0, 0, 0), .null), (.getfield 26, 3, (1, 3, 3), .null), (.iload_n 1, 1, (0, 0, 0), .null), (.new 24, 3, (3, 4, 0), .null), (.dup, 1, (0, 0, 0), .null)], some (.invokespecial 41, 3, (5, 0, 0), .null)),
  (81, [(.aastore, 1, (203, 0, 0), .null)], none),
  (82, [(.aload_n 0, 1, (0, 0, 0), .null), (.getfield 32, 3, (1, 4, 3), .null), (.iload_n 1, 1, (0, 0, 0), .null), (.new 30, 3, (4, 3, 0), .null), (.dup, 1, (0, 0, 0), .null)], some (.invokespecial 42, 3, (6, 0, 0), .null)),
  (94, [(.aastore, 1, (204, 0, 0), .null)], none),
  (95, [(.iinc 1 (1), 3, (0, 0, 0), .int 1), (.goto (-47), 3, (51, 0, 0), .null)], none),
  (101, [], some (.return_, 1, (0, 0, 0), .null))]
def b_2 : mB := [
  (0, [(.aload_n 0, 1, (0, 0, 0), .null), (.invokespecial 3, 3, (1, 0, 0), .null), (.aload_n 0, 1, (0, 0, 0), .null), (.bipush (8), 2, (0, 0, 0), .int 8), (.newarray .int, 2, (100, 0, 0), .null), (.putfield 9, 3, (2, 0, 3), .null)], none),
  (12, [(.aload_n 0, 1, (0, 0, 0), .null), (.bipush (8), 2, (0, 0, 0), .int 8), (.newarray .int, 2, (100, 0, 0), .null), (.putfield 15, 3, (2, 1, 3), .null)], none),
  (20, [(.aload_n 0, 1, (0, 0, 0), .null), (.bipush (8), 2, (0, 0, 0), .int 8), (.newarray .int, 2, (100, 0, 0), .null), (.putfield 18, 3, (2, 2, 3), .null)], none),
  (28, [(.aload_n 0, 1, (0, 0, 0), .null), (.bipush (6), 2, (0, 0, 0), .int 6), (.newarray .int, 2, (100, 0, 0), .null), (.putfield 21, 3, (2, 3, 3), .null)], none),
  (36, [(.aload_n 0, 1, (0, 0, 0), .null), (.bipush (6), 2, (0, 0, 0), .int 6), (.newarray .int, 2, (100, 0, 0), .null), (.putfield 24, 3, (2, 4, 3), .null)], none),
  (44, [(.aload_n 0, 1, (0, 0, 0), .null), (.bipush (6), 2, (0, 0, 0), .int 6), (.newarray .int, 2, (100, 0, 0), .null), (.putfield 27, 3, (2, 5, 3), .null)], none),
  (52, [(.aload_n 0, 1, (0, 0, 0), .null)], some (.invokevirtual 30, 3, (3, 0, 0), .null)),
  (56, [], some (.return_, 1, (0, 0, 0), .null))]
def b_3 : mB := [
  (0, [(.aload_n 0, 1, (0, 0, 0), .null), (.getfield 9, 3, (2, 0, 3), .null), (.iconst (0), 1, (0, 0, 0), .int 0)], some (.invokestatic 33, 3, (4, 2, 0), .null)),
  (8, [(.aload_n 0, 1, (0, 0, 0), .null), (.getfield 15, 3, (2, 1, 3), .null), (.iconst (0), 1, (0, 0, 0), .int 0)], some (.invokestatic 33, 3, (4, 2, 0), .null)),
  (16, [(.aload_n 0, 1, (0, 0, 0), .null), (.getfield 18, 3, (2, 2, 3), .null), (.iconst (0), 1, (0, 0, 0), .int 0)], some (.invokestatic 33, 3, (4, 2, 0), .null)),
  (24, [(.aload_n 0, 1, (0, 0, 0), .null), (.getfield 21, 3, (2, 3, 3), .null), (.iconst (5), 1, (0, 0, 0), .int 5)], some (.invokestatic 33, 3, (4, 2, 0), .null)),
  (32, [(.aload_n 0, 1, (0, 0, 0), .null), (.getfield 24, 3, (2, 4, 3), .null), (.iconst (0), 1, (0, 0, 0), .int 0)], some (.invokestatic 33, 3, (4, 2, 0), .null)),
  (40, [(.aload_n 0, 1, (0, 0, 0), .null), (.getfield 27, 3, (2, 5, 3), .null), (.iconst (0), 1, (0, 0, 0), .int 0)], some (.invokestatic 33, 3, (4, 2, 0), .null)),
  (48, [(.aload_n 0, 1, (0, 0, 0), .null), (.iconst (0), 1, (0, 0, 0), .int 0), (.putfield 39, 3, (2, 6, 0), .null)], none),
  (53, [(.aload_n 0, 1, (0, 0, 0), .null), (.iconst (0), 1, (0, 0, 0), .int 0), (.putfield 43, 3, (2, 7, 0), .null)], none),
  (58, [(.aload_n 0, 1, (0, 0, 0), .null), (.bipush (6), 2, (0, 0, 0), .int 6), (.putfield 46, 3, (2, 8, 0), .null)], none),
  (64, [], some (.return_, 1, (0, 0, 0), .null))]
def b_4 : mB := [
  (0, [(.iconst (0), 1, (0, 0, 0), .int 0), (.istore_n 2, 1, (0, 0, 0), .null), (.aload_n 0, 1, (0, 0, 0), .null), (.arraylength, 1, (100, 0, 0), .null), (.istore_n 3, 1, (0, 0, 0), .null)], none),
  (5, [(.iload_n 2, 1, (0, 0, 0), .null), (.iload_n 3, 1, (0, 0, 0), .null), (.if_icmp .ge (13), 3, (20, 0, 0), .null)], none),
  (10, [(.aload_n 0, 1, (0, 0, 0), .null), (.iload_n 2, 1, (0, 0, 0), .null), (.iload_n 1, 1, (0, 0, 0), .null), (.iastore, 1, (100, 0, 0), .null)], none),
  (14, [(.iinc 2 (1), 3, (0, 0, 0), .int 1), (.goto (-12), 3, (5, 0, 0), .null)], none),
  (20, [], some (.return_, 1, (0, 0, 0), .null))]
def b_5 : mB := [
  (0, [(.aload_n 0, 1, (0, 0, 0), .null), (.invokespecial 3, 3, (1, 0, 0), .null), (.aload_n 0, 1, (0, 0, 0), .null), (.bipush (40), 2, (0, 0, 0), .int 40), (.newarray .int, 2, (100, 0, 0), .null), (.putfield 9, 3, (3, 0, 3), .null)], none),
  (12, [(.aload_n 0, 1, (0, 0, 0), .null), (.bipush (40), 2, (0, 0, 0), .int 40), (.newarray .int, 2, (100, 0, 0), .null), (.putfield 15, 3, (3, 1, 3), .null)], none),
  (20, [(.aload_n 0, 1, (0, 0, 0), .null), (.bipush (40), 2, (0, 0, 0), .int 40), (.newarray .int, 2, (100, 0, 0), .null), (.putfield 18, 3, (3, 2, 3), .null)], none),
  (28, [], some (.return_, 1, (0, 0, 0), .null))]
def b_6 : mB := [
  (0, [(.aload_n 0, 1, (0, 0, 0), .null), (.invokespecial 3, 3, (1, 0, 0), .null), (.aload_n 0, 1, (0, 0, 0), .null), (.bipush (8), 2, (0, 0, 0), .int 8), (.newarray .int, 2, (100, 0, 0), .null), (.putfield 9, 3, (4, 0, 3), .null)], none),
  (12, [(.aload_n 0, 1, (0, 0, 0), .null), (.bipush (8), 2, (0, 0, 0), .int 8), (.newarray .int, 2, (100, 0, 0), .null), (.putfield 15, 3, (4, 1, 3), .null)], none),
  (20, [], some (.return_, 1, (0, 0, 0), .null))]
def b_7 : mB := [
  (0, [(.aload_n 0, 1, (0, 0, 0), .null), (.invokespecial 3, 3, (1, 0, 0), .null), (.aload_n 0, 1, (0, 0, 0), .null), (.new 9, 3, (2, 9, 0), .null), (.dup, 1, (0, 0, 0), .null)], some (.invokespecial 11, 3, (2, 0, 0), .null)),
  (12, [(.putfield 12, 3, (5, 0, 3), .null)], none),
  (15, [(.aload_n 0, 1, (0, 0, 0), .null), (.new 18, 3, (3, 4, 0), .null), (.dup, 1, (0, 0, 0), .null)], some (.invokespecial 20, 3, (5, 0, 0), .null)),
  (23, [(.putfield 21, 3, (5, 1, 3), .null)], none),
  (26, [(.aload_n 0, 1, (0, 0, 0), .null), (.new 25, 3, (4, 3, 0), .null), (.dup, 1, (0, 0, 0), .null)], some (.invokespecial 27, 3, (6, 0, 0), .null)),
  (34, [(.putfield 28, 3, (5, 2, 3), .null)], none),
  (37, [(.aload_n 0, 1, (0, 0, 0), .null), (.new 32, 3, (6, 6, 0), .null), (.dup, 1, (0, 0, 0), .null)], some (.invokespecial 34, 3, (8, 0, 0), .null)),
  (45, [(.putfield 35, 3, (5, 5, 3), .null)], none),
  (48, [(.aload_n 0, 1, (0, 0, 0), .null), (.iconst (2), 1, (0, 0, 0), .int 2), (.newarray .int, 2, (100, 0, 0), .null), (.putfield 39, 3, (5, 6, 3), .null)], none),
  (55, [(.aload_n 0, 1, (0, 0, 0), .null), (.iconst (2), 1, (0, 0, 0), .int 2), (.newarray .int, 2, (100, 0, 0), .null), (.putfield 43, 3, (5, 7, 3), .null)], none),
  (62, [], some (.return_, 1, (0, 0, 0), .null))]
def b_8 : mB := [
  (0, [(.aload_n 0, 1, (0, 0, 0), .null), (.invokespecial 1, 3, (1, 0, 0), .null), (.aload_n 0, 1, (0, 0, 0), .null), (.iconst (0), 1, (0, 0, 0), .int 0), (.newarray .int, 2, (100, 0, 0), .null), (.putfield 7, 3, (6, 0, 3), .null)], none),
  (11, [], some (.return_, 1, (0, 0, 0), .null))]
def b_9 : mB := [
  (0, [(.aload_n 0, 1, (0, 0, 0), .null), (.invokespecial 3, 3, (1, 0, 0), .null), (.aload_n 0, 1, (0, 0, 0), .null), (.bipush (6), 2, (0, 0, 0), .int 6), (.newarray .int, 2, (100, 0, 0), .null), (.putfield 9, 3, (7, 0, 3), .null)], none),
  (12, [(.aload_n 0, 1, (0, 0, 0), .null), (.bipush (48), 2, (0, 0, 0), .int 48), (.newarray .int, 2, (100, 0, 0), .null), (.putfield 15, 3, (7, 2, 3), .null)], none),
  (20, [(.aload_n 0, 1, (0, 0, 0), .null), (.new 18, 3, (2, 9, 0), .null), (.dup, 1, (0, 0, 0), .null)], some (.invokespecial 20, 3, (2, 0, 0), .null)),
  (28, [(.putfield 21, 3, (7, 3, 3), .null)], none),
  (31, [], some (.return_, 1, (0, 0, 0), .null))]
def b_10 : mB := [
  (0, [(.aload_n 0, 1, (0, 0, 0), .null), (.invokespecial 3, 3, (1, 0, 0), .null), (.aload_n 0, 1, (0, 0, 0), .null), (.bipush (8), 2, (0, 0, 0), .int 8), (.newarray .int, 2, (100, 0, 0), .null), (.putfield 9, 3, (8, 0, 3), .null)], none),
  (12, [(.aload_n 0, 1, (0, 0, 0), .null), (.iconst (4), 1, (0, 0, 0), .int 4), (.newarray .int, 2, (100, 0, 0), .null), (.putfield 15, 3, (8, 1, 3), .null)], none),
  (19, [(.aload_n 0, 1, (0, 0, 0), .null), (.iconst (4), 1, (0, 0, 0), .int 4), (.newarray .int, 2, (100, 0, 0), .null), (.putfield 18, 3, (8, 2, 3), .null)], none),
  (26, [(.aload_n 0, 1, (0, 0, 0), .null), (.new 21, 3, (7, 15, 0), .null), (.dup, 1, (0, 0, 0), .null)], some (.invokespecial 23, 3, (9, 0, 0), .null)),
  (34, [(.putfield 24, 3, (8, 4, 3), .null)], none),
  (37, [], some (.return_, 1, (0, 0, 0), .null))]
def b_11 : mB := [
  (0, [(.aload_n 0, 1, (0, 0, 0), .null), (.invokespecial 3, 3, (1, 0, 0), .null), (.aload_n 0, 1, (0, 0, 0), .null), (.bipush (8), 2, (0, 0, 0), .int 8), (.newarray .int, 2, (100, 0, 0), .null), (.putfield 9, 3, (9, 0, 3), .null)], none),
  (12, [(.aload_n 0, 1, (0, 0, 0), .null), (.sipush (256), 3, (0, 0, 0), .int 256), (.newarray .int, 2, (100, 0, 0), .null), (.putfield 15, 3, (9, 4, 3), .null)], none),
  (21, [(.aload_n 0, 1, (0, 0, 0), .null), (.sipush (256), 3, (0, 0, 0), .int 256), (.newarray .boolean, 2, (102, 0, 0), .null), (.putfield 18, 3, (9, 5, 3), .null)], none),
  (30, [(.aload_n 0, 1, (0, 0, 0), .null), (.bipush (8), 2, (0, 0, 0), .int 8), (.newarray .int, 2, (100, 0, 0), .null), (.putfield 22, 3, (9, 6, 3), .null)], none),
  (38, [], some (.return_, 1, (0, 0, 0), .null))]
def b_12 : mB := [
  (0, [(.aload_n 0, 1, (0, 0, 0), .null), (.invokespecial 3, 3, (1, 0, 0), .null), (.aload_n 0, 1, (0, 0, 0), .null), (.iconst (4), 1, (0, 0, 0), .int 4), (.newarray .int, 2, (100, 0, 0), .null), (.putfield 9, 3, (10, 0, 3), .null)], none),
  (11, [(.aload_n 0, 1, (0, 0, 0), .null), (.iconst (4), 1, (0, 0, 0), .int 4), (.newarray .int, 2, (100, 0, 0), .null), (.putfield 15, 3, (10, 1, 3), .null)], none),
  (18, [], some (.return_, 1, (0, 0, 0), .null))]
def b_13 : mB := [
  (0, [(.aload_n 0, 1, (0, 0, 0), .null), (.invokespecial 3, 3, (1, 0, 0), .null), (.aload_n 0, 1, (0, 0, 0), .null), (.bipush (60), 2, (0, 0, 0), .int 60), (.newarray .int, 2, (100, 0, 0), .null), (.putfield 9, 3, (11, 0, 3), .null)], none),
  (12, [(.aload_n 0, 1, (0, 0, 0), .null), (.bipush (60), 2, (0, 0, 0), .int 60), (.newarray .int, 2, (100, 0, 0), .null), (.putfield 15, 3, (11, 2, 3), .null)], none),
  (20, [], some (.return_, 1, (0, 0, 0), .null))]
def b_14 : mB := [
  (0, [(.aload_n 0, 1, (0, 0, 0), .null), (.getfield 10, 3, (0, 0, 3), .null), (.getfield 66, 3, (1, 5, 0), .null), (.sipush (580), 3, (0, 0, 0), .int 580), (.if_icmp .le (5), 3, (15, 0, 0), .null)], none),
  (13, [(.iconst (-1), 1, (0, 0, 0), .int (-1))], some (.ireturn, 1, (0, 0, 0), .null)),
  (15, [(.aload_n 0, 1, (0, 0, 0), .null), (.getfield 10, 3, (0, 0, 3), .null), (.iload_n 1, 1, (0, 0, 0), .null)], some (.invokevirtual 70, 3, (15, 1, 0), .null)),
  (23, [(.aload_n 0, 1, (0, 0, 0), .null), (.getfield 10, 3, (0, 0, 3), .null), (.iload_n 2, 1, (0, 0, 0), .null)], some (.invokevirtual 70, 3, (15, 1, 0), .null)),
  (31, [(.aload_n 0, 1, (0, 0, 0), .null), (.getfield 10, 3, (0, 0, 3), .null), (.iload_n 3, 1, (0, 0, 0), .null)], some (.invokevirtual 70, 3, (15, 1, 0), .null)),
  (39, [(.aload_n 0, 1, (0, 0, 0), .null), (.getfield 10, 3, (0, 0, 3), .null), (.iload 4, 2, (0, 0, 0), .null)], some (.invokevirtual 70, 3, (15, 1, 0), .null)),
  (48, [(.aload_n 0, 1, (0, 0, 0), .null), (.getfield 10, 3, (0, 0, 3), .null), (.iload 5, 2, (0, 0, 0), .null)], some (.invokevirtual 70, 3, (15, 1, 0), .null)),
  (57, [(.aload_n 0, 1, (0, 0, 0), .null), (.getfield 10, 3, (0, 0, 3), .null), (.getfield 66, 3, (1, 5, 0), .null)], some (.ireturn, 1, (0, 0, 0), .null))]
def b_15 : mB := [
  (0, [(.bipush (24), 2, (0, 0, 0), .int 24), (.istore_n 2, 1, (0, 0, 0), .null)], none),
  (3, [(.iload_n 2, 1, (0, 0, 0), .null), (.ifCond .lt (45), 3, (49, 0, 0), .null)], none),
  (7, [(.aload_n 0, 1, (0, 0, 0), .null), (.getfield 43, 3, (1, 5, 0), .null), (.sipush (600), 3, (0, 0, 0), .int 600), (.if_icmp .ge (35), 3, (49, 0, 0), .null)], none),
  (17, [(.aload_n 0, 1, (0, 0, 0), .null), (.getfield 9, 3, (1, 0, 3), .null), (.aload_n 0, 1, (0, 0, 0), .null), (.getfield 43, 3, (1, 5, 0), .null), (.iload_n 1, 1, (0, 0, 0), .null), (.iload_n 2, 1, (0, 0, 0), .null), (.iushr, 1, (0, 0, 0), .null), (.sipush (255), 3, (0, 0, 0), .int 255), (.iand, 1, (0, 0, 0), .null), (.iastore, 1, (100, 0, 0), .null)], none),
  (33, [(.aload_n 0, 1, (0, 0, 0), .null), (.dup, 1, (0, 0, 0), .null), (.getfield 43, 3, (1, 5, 0), .null), (.iconst (1), 1, (0, 0, 0), .int 1), (.iadd, 1, (0, 0, 0), .null), (.putfield 43, 3, (1, 5, 0), .null)], none),
  (43, [(.iinc 2 (-8), 3, (0, 0, 0), .int (-8)), (.goto (-43), 3, (3, 0, 0), .null)], none),
  (49, [], some (.return_, 1, (0, 0, 0), .null))]
def b_16 : mB := [
  (0, [(.iload_n 1, 1, (0, 0, 0), .null), (.iconst (0), 1, (0, 0, 0), .int 0), (.aload_n 0, 1, (0, 0, 0), .null), (.getfield 10, 3, (0, 0, 3), .null), (.getfield 66, 3, (1, 5, 0), .null)], some (.invokestatic 74, 3, (17, 3, 0), .null)),
  (12, [(.ifCond .ne (5), 3, (17, 0, 0), .null)], none),
  (15, [(.iconst (-1), 1, (0, 0, 0), .int (-1))], some (.ireturn, 1, (0, 0, 0), .null)),
  (17, [(.aload_n 0, 1, (0, 0, 0), .null), (.getfield 10, 3, (0, 0, 3), .null), (.iload_n 1, 1, (0, 0, 0), .null), (.putfield 66, 3, (1, 5, 0), .null)], none),
  (25, [(.iload_n 1, 1, (0, 0, 0), .null)], some (.ireturn, 1, (0, 0, 0), .null))]
def b_17 : mB := [
  (0, [(.iload_n 0, 1, (0, 0, 0), .null), (.iload_n 1, 1, (0, 0, 0), .null), (.if_icmp .lt (12), 3, (14, 0, 0), .null)], none),
  (5, [(.iload_n 0, 1, (0, 0, 0), .null), (.iload_n 2, 1, (0, 0, 0), .null), (.if_icmp .gt (7), 3, (14, 0, 0), .null)], none),
  (10, [(.iconst (1), 1, (0, 0, 0), .int 1), (.goto (4), 3, (15, 0, 0), .null)], none),
  (14, [(.iconst (0), 1, (0, 0, 0), .int 0)], none),
  (15, [], some (.ireturn, 1, (0, 0, 0), .null))]
def b_18 : mB := [
  (0, [(.aload_n 0, 1, (0, 0, 0), .null), (.getfield 10, 3, (0, 0, 3), .null), (.getfield 66, 3, (1, 5, 0), .null), (.istore_n 3, 1, (0, 0, 0), .null), (.aload_n 0, 1, (0, 0, 0), .null), (.getfield 10, 3, (0, 0, 3), .null), (.iconst (0), 1, (0, 0, 0), .int 0), (.putfield 66, 3, (1, 5, 0), .null)], none),
  (16, [(.aload_n 0, 1, (0, 0, 0), .null), (.getfield 10, 3, (0, 0, 3), .null), (.iconst (0), 1, (0, 0, 0), .int 0), (.putfield 78, 3, (1, 6, 0), .null)], none),
  (24, [(.aload_n 0, 1, (0, 0, 0), .null), (.getfield 10, 3, (0, 0, 3), .null), (.iconst (-1), 1, (0, 0, 0), .int (-1)), (.putfield 81, 3, (1, 7, 0), .null)], none),
  (32, [(.iload_n 1, 1, (0, 0, 0), .null), (.iconst (0), 1, (0, 0, 0), .int 0), (.iconst (2), 1, (0, 0, 0), .int 2)], some (.invokestatic 74, 3, (17, 3, 0), .null)),
  (38, [(.ifCond .ne (6), 3, (44, 0, 0), .null)], none),
  (41, [(.bipush (-2), 2, (0, 0, 0), .int (-2))], some (.ireturn, 1, (0, 0, 0), .null)),
  (44, [(.iload_n 2, 1, (0, 0, 0), .null), (.iconst (-1), 1, (0, 0, 0), .int (-1)), (.if_icmp .ne (15), 3, (61, 0, 0), .null)], none),
  (49, [(.aload_n 0, 1, (0, 0, 0), .null), (.getfield 10, 3, (0, 0, 3), .null), (.getfield 84, 3, (1, 1, 3), .null), (.iload_n 1, 1, (0, 0, 0), .null), (.iaload, 1, (100, 0, 0), .null), (.goto (4), 3, (62, 0, 0), .null)], none),
  (61, [(.iload_n 2, 1, (0, 0, 0), .null)], none),
  (62, [(.istore 4, 2, (0, 0, 0), .null), (.iload_n 2, 1, (0, 0, 0), .null), (.iconst (-1), 1, (0, 0, 0), .int (-1)), (.if_icmp .ne (7), 3, (73, 0, 0), .null)], none),
  (69, [(.iconst (1), 1, (0, 0, 0), .int 1), (.goto (14), 3, (84, 0, 0), .null)], none),
  (73, [(.aload_n 0, 1, (0, 0, 0), .null), (.getfield 10, 3, (0, 0, 3), .null), (.getfield 84, 3, (1, 1, 3), .null), (.iload_n 1, 1, (0, 0, 0), .null), (.iaload, 1, (100, 0, 0), .null), (.iconst (1), 1, (0, 0, 0), .int 1), (.isub, 1, (0, 0, 0), .null)], none),
  (84, [(.istore 5, 2, (0, 0, 0), .null), (.iload 4, 2, (0, 0, 0), .null), (.iconst (0), 1, (0, 0, 0), .int 0), (.iload 5, 2, (0, 0, 0), .null)], some (.invokestatic 74, 3, (17, 3, 0), .null)),
  (94, [(.ifCond .ne (6), 3, (100, 0, 0), .null)], none),
  (97, [(.bipush (-2), 2, (0, 0, 0), .int (-2))], some (.ireturn, 1, (0, 0, 0), .null)),
  (100, [(.aload_n 0, 1, (0, 0, 0), .null), (.getfield 27, 3, (0, 3, 3), .null), (.iload_n 1, 1, (0, 0, 0), .null), (.aload_n 0, 1, (0, 0, 0), .null), (.getfield 10, 3, (0, 0, 3), .null), (.getfield 88, 3, (1, 0, 3), .null), (.iload_n 3, 1, (0, 0, 0), .null)], some (.invokevirtual 91, 3, (19, 3, 0), .null)),
  (116, [(.aload_n 0, 1, (0, 0, 0), .null), (.getfield 10, 3, (0, 0, 3), .null), (.aload_n 0, 1, (0, 0, 0), .null), (.getfield 27, 3, (0, 3, 3), .null), (.getfield 95, 3, (5, 3, 0), .null), (.putfield 78, 3, (1, 6, 0), .null)], none),
  (130, [(.aload_n 0, 1, (0, 0, 0), .null), (.getfield 10, 3, (0, 0, 3), .null), (.aload_n 0, 1, (0, 0, 0), .null), (.getfield 27, 3, (0, 3, 3), .null), (.getfield 96, 3, (5, 4, 0), .null), (.putfield 81, 3, (1, 7, 0), .null)], none),
  (144, [(.aload_n 0, 1, (0, 0, 0), .null), (.getfield 10, 3, (0, 0, 3), .null), (.getfield 78, 3, (1, 6, 0), .null), (.ifCond .eq (5), 3, (156, 0, 0), .null)], none),
  (154, [(.iconst (-1), 1, (0, 0, 0), .int (-1))], some (.ireturn, 1, (0, 0, 0), .null)),
  (156, [(.aload_n 0, 1, (0, 0, 0), .null), (.getfield 10, 3, (0, 0, 3), .null), (.iload_n 1, 1, (0, 0, 0), .null), (.iload 4, 2, (0, 0, 0), .null), (.aload_n 0, 1, (0, 0, 0), .null), (.getfield 27, 3, (0, 3, 3), .null)], some (.invokevirtual 97, 3, (47, 3, 0), .null)),
  (170, [(.iload 4, 2, (0, 0, 0), .null)], some (.ireturn, 1, (0, 0, 0), .null))]
def b_19 : mB := [
  (0, [(.aload_n 0, 1, (0, 0, 0), .null), (.getfield 12, 3, (5, 0, 3), .null)], some (.invokevirtual 46, 3, (3, 0, 0), .null)),
  (7, [(.aload_n 0, 1, (0, 0, 0), .null), (.getfield 21, 3, (5, 1, 3), .null), (.iconst (0), 1, (0, 0, 0), .int 0), (.putfield 49, 3, (3, 3, 0), .null)], none),
  (15, [(.aload_n 0, 1, (0, 0, 0), .null), (.getfield 28, 3, (5, 2, 3), .null), (.iconst (0), 1, (0, 0, 0), .int 0), (.putfield 53, 3, (4, 2, 0), .null)], none),
  (23, [(.aload_n 0, 1, (0, 0, 0), .null), (.iconst (0), 1, (0, 0, 0), .int 0), (.putfield 56, 3, (5, 9, 0), .null)], none),
  (28, [(.aload_n 0, 1, (0, 0, 0), .null), (.iconst (0), 1, (0, 0, 0), .int 0), (.putfield 59, 3, (5, 10, 0), .null)], none),
  (33, [(.aload_n 0, 1, (0, 0, 0), .null), (.iconst (0), 1, (0, 0, 0), .int 0), (.putfield 62, 3, (5, 3, 0), .null)], none),
  (38, [(.aload_n 0, 1, (0, 0, 0), .null), (.iconst (-1), 1, (0, 0, 0), .int (-1)), (.putfield 65, 3, (5, 4, 0), .null)], none),
  (43, [(.aload_n 0, 1, (0, 0, 0), .null), (.getfield 35, 3, (5, 5, 3), .null), (.aload_n 2, 1, (0, 0, 0), .null), (.iload_n 3, 1, (0, 0, 0), .null)], some (.invokevirtual 68, 3, (20, 2, 0), .null)),
  (52, [(.iconst (0), 1, (0, 0, 0), .int 0), (.istore 4, 2, (0, 0, 0), .null)], none),
  (55, [(.iload 4, 2, (0, 0, 0), .null), (.sipush (600), 3, (0, 0, 0), .int 600), (.if_icmp .ge (33), 3, (93, 0, 0), .null)], none),
  (63, [(.aload_n 0, 1, (0, 0, 0), .null), (.getfield 35, 3, (5, 5, 3), .null), (.getfield 72, 3, (6, 3, 0), .null), (.ifCond .eq (23), 3, (93, 0, 0), .null)], none),
  (73, [(.aload_n 0, 1, (0, 0, 0), .null), (.iload_n 1, 1, (0, 0, 0), .null)], some (.invokevirtual 75, 3, (26, 1, 0), .null)),
  (78, [(.aload_n 0, 1, (0, 0, 0), .null), (.getfield 62, 3, (5, 3, 0), .null), (.iconst (1), 1, (0, 0, 0), .int 1), (.if_icmp .ne (4), 3, (87, 0, 0), .null)], none),
  (86, [], some (.return_, 1, (0, 0, 0), .null)),
  (87, [(.iinc 4 (1), 3, (0, 0, 0), .int 1), (.goto (-35), 3, (55, 0, 0), .null)], none),
  (93, [(.aload_n 0, 1, (0, 0, 0), .null), (.getfield 56, 3, (5, 9, 0), .null), (.aload_n 0, 1, (0, 0, 0), .null), (.getfield 12, 3, (5, 0, 3), .null), (.getfield 79, 3, (2, 6, 0), .null), (.if_icmp .gt (17), 3, (121, 0, 0), .null)], none),
  (107, [(.aload_n 0, 1, (0, 0, 0), .null), (.getfield 59, 3, (5, 10, 0), .null), (.aload_n 0, 1, (0, 0, 0), .null), (.getfield 12, 3, (5, 0, 3), .null), (.getfield 82, 3, (2, 7, 0), .null), (.if_icmp .le (9), 3, (127, 0, 0), .null)], none),
  (121, [(.aload_n 0, 1, (0, 0, 0), .null), (.iconst (4), 1, (0, 0, 0), .int 4), (.iload_n 3, 1, (0, 0, 0), .null)], some (.invokevirtual 85, 3, (36, 2, 0), .null)),
  (127, [], some (.return_, 1, (0, 0, 0), .null))]
def b_20 : mB := [
  (0, [(.aload_n 0, 1, (0, 0, 0), .null), (.aload_n 1, 1, (0, 0, 0), .null), (.putfield 7, 3, (6, 0, 3), .null)], none),
  (5, [(.aload_n 0, 1, (0, 0, 0), .null), (.iload_n 2, 1, (0, 0, 0), .null), (.aload_n 1, 1, (0, 0, 0), .null), (.arraylength, 1, (100, 0, 0), .null), (.invokestatic 13, 3, (3, 0, 0), .null), (.putfield 19, 3, (6, 1, 0), .null)], none),
  (15, [(.aload_n 0, 1, (0, 0, 0), .null), (.iconst (0), 1, (0, 0, 0), .int 0), (.putfield 23, 3, (6, 2, 0), .null)], none),
  (20, [(.aload_n 0, 1, (0, 0, 0), .null)], some (.invokevirtual 26, 3, (21, 0, 0), .null)),
  (24, [], some (.return_, 1, (0, 0, 0), .null))]
def b_21 : mB := [
  (0, [(.aload_n 0, 1, (0, 0, 0), .null), (.getfield 23, 3, (6, 2, 0), .null), (.aload_n 0, 1, (0, 0, 0), .null), (.getfield 19, 3, (6, 1, 0), .null), (.if_icmp .ge (44), 3, (52, 0, 0), .null)], none),
  (11, [(.aload_n 0, 1, (0, 0, 0), .null), (.getfield 7, 3, (6, 0, 3), .null), (.aload_n 0, 1, (0, 0, 0), .null), (.getfield 23, 3, (6, 2, 0), .null), (.iaload, 1, (100, 0, 0), .null), (.bipush (10), 2, (0, 0, 0), .int 10), (.if_icmp .eq (17), 3, (39, 0, 0), .null)], none),
  (25, [(.aload_n 0, 1, (0, 0, 0), .null), (.getfield 7, 3, (6, 0, 3), .null), (.aload_n 0, 1, (0, 0, 0), .null), (.getfield 23, 3, (6, 2, 0), .null), (.iaload, 1, (100, 0, 0), .null), (.bipush (32), 2, (0, 0, 0), .int 32), (.if_icmp .ne (16), 3, (52, 0, 0), .null)], none),
  (39, [(.aload_n 0, 1, (0, 0, 0), .null), (.dup, 1, (0, 0, 0), .null), (.getfield 23, 3, (6, 2, 0), .null), (.iconst (1), 1, (0, 0, 0), .int 1), (.iadd, 1, (0, 0, 0), .null), (.putfield 23, 3, (6, 2, 0), .null)], none),
  (49, [(.goto (-49), 3, (0, 0, 0), .null)], none),
  (52, [(.aload_n 0, 1, (0, 0, 0), .null), (.aload_n 0, 1, (0, 0, 0), .null), (.getfield 23, 3, (6, 2, 0), .null), (.putfield 29, 3, (6, 4, 0), .null)], none),
  (60, [(.aload_n 0, 1, (0, 0, 0), .null), (.getfield 23, 3, (6, 2, 0), .null), (.aload_n 0, 1, (0, 0, 0), .null), (.getfield 19, 3, (6, 1, 0), .null), (.if_icmp .lt (11), 3, (79, 0, 0), .null)], none),
  (71, [(.aload_n 0, 1, (0, 0, 0), .null), (.iconst (0), 1, (0, 0, 0), .int 0), (.putfield 32, 3, (6, 3, 0), .null)], none),
  (76, [(.goto (80), 3, (156, 0, 0), .null)], none),
  (79, [(.aload_n 0, 1, (0, 0, 0), .null), (.getfield 7, 3, (6, 0, 3), .null), (.aload_n 0, 1, (0, 0, 0), .null), (.getfield 23, 3, (6, 2, 0), .null), (.iaload, 1, (100, 0, 0), .null)], some (.invokestatic 35, 3, (22, 1, 0), .null)),
  (91, [(.ifCond .eq (10), 3, (101, 0, 0), .null)], none),
  (94, [(.aload_n 0, 1, (0, 0, 0), .null)], some (.invokevirtual 39, 3, (23, 0, 0), .null)),
  (98, [(.goto (58), 3, (156, 0, 0), .null)], none),
  (101, [(.aload_n 0, 1, (0, 0, 0), .null), (.getfield 7, 3, (6, 0, 3), .null), (.aload_n 0, 1, (0, 0, 0), .null), (.getfield 23, 3, (6, 2, 0), .null), (.iaload, 1, (100, 0, 0), .null)], some (.invokestatic 42, 3, (24, 1, 0), .null)),
  (113, [(.ifCond .eq (10), 3, (123, 0, 0), .null)], none),
  (116, [(.aload_n 0, 1, (0, 0, 0), .null)], some (.invokevirtual 45, 3, (25, 0, 0), .null)),
  (120, [(.goto (36), 3, (156, 0, 0), .null)], none),
  (123, [(.aload_n 0, 1, (0, 0, 0), .null), (.aload_n 0, 1, (0, 0, 0), .null), (.getfield 7, 3, (6, 0, 3), .null), (.aload_n 0, 1, (0, 0, 0), .null), (.getfield 23, 3, (6, 2, 0), .null), (.iaload, 1, (100, 0, 0), .null), (.bipush (59), 2, (0, 0, 0), .int 59), (.if_icmp .ne (7), 3, (142, 0, 0), .null)], none),
  (138, [(.iconst (3), 1, (0, 0, 0), .int 3), (.goto (4), 3, (143, 0, 0), .null)], none),
  (142, [(.iconst (4), 1, (0, 0, 0), .int 4)], none),
  (143, [(.putfield 32, 3, (6, 3, 0), .null)], none),
  (146, [(.aload_n 0, 1, (0, 0, 0), .null), (.dup, 1, (0, 0, 0), .null), (.getfield 23, 3, (6, 2, 0), .null), (.iconst (1), 1, (0, 0, 0), .int 1), (.iadd, 1, (0, 0, 0), .null), (.putfield 23, 3, (6, 2, 0), .null)], none),
  (156, [], some (.return_, 1, (0, 0, 0), .null))]
def b_22 : mB := [
  (0, [(.iload_n 0, 1, (0, 0, 0), .null), (.bipush (97), 2, (0, 0, 0), .int 97), (.if_icmp .lt (13), 3, (16, 0, 0), .null)], none),
  (6, [(.iload_n 0, 1, (0, 0, 0), .null), (.bipush (122), 2, (0, 0, 0), .int 122), (.if_icmp .gt (7), 3, (16, 0, 0), .null)], none),
  (12, [(.iconst (1), 1, (0, 0, 0), .int 1), (.goto (4), 3, (17, 0, 0), .null)], none),
  (16, [(.iconst (0), 1, (0, 0, 0), .int 0)], none),
  (17, [], some (.ireturn, 1, (0, 0, 0), .null))]
def b_23 : mB := [
  (0, [(.aload_n 0, 1, (0, 0, 0), .null), (.getfield 23, 3, (6, 2, 0), .null), (.aload_n 0, 1, (0, 0, 0), .null), (.getfield 19, 3, (6, 1, 0), .null), (.if_icmp .ge (31), 3, (39, 0, 0), .null)], none),
  (11, [(.aload_n 0, 1, (0, 0, 0), .null), (.getfield 7, 3, (6, 0, 3), .null), (.aload_n 0, 1, (0, 0, 0), .null), (.getfield 23, 3, (6, 2, 0), .null), (.iaload, 1, (100, 0, 0), .null)], some (.invokestatic 35, 3, (22, 1, 0), .null)),
  (23, [(.ifCond .eq (16), 3, (39, 0, 0), .null)], none),
  (26, [(.aload_n 0, 1, (0, 0, 0), .null), (.dup, 1, (0, 0, 0), .null), (.getfield 23, 3, (6, 2, 0), .null), (.iconst (1), 1, (0, 0, 0), .int 1), (.iadd, 1, (0, 0, 0), .null), (.putfield 23, 3, (6, 2, 0), .null)], none),
  (36, [(.goto (-36), 3, (0, 0, 0), .null)], none),
  (39, [(.aload_n 0, 1, (0, 0, 0), .null), (.iconst (1), 1, (0, 0, 0), .int 1), (.putfield 32, 3, (6, 3, 0), .null)], none),
  (44, [], some (.return_, 1, (0, 0, 0), .null))]
def b_24 : mB := [
  (0, [(.iload_n 0, 1, (0, 0, 0), .null), (.bipush (48), 2, (0, 0, 0), .int 48), (.if_icmp .lt (13), 3, (16, 0, 0), .null)], none),
  (6, [(.iload_n 0, 1, (0, 0, 0), .null), (.bipush (57), 2, (0, 0, 0), .int 57), (.if_icmp .gt (7), 3, (16, 0, 0), .null)], none),
  (12, [(.iconst (1), 1, (0, 0, 0), .int 1), (.goto (4), 3, (17, 0, 0), .null)], none),
  (16, [(.iconst (0), 1, (0, 0, 0), .int 0)], none),
  (17, [], some (.ireturn, 1, (0, 0, 0), .null))]
def b_25 : mB := [
  (0, [(.aload_n 0, 1, (0, 0, 0), .null), (.iconst (0), 1, (0, 0, 0), .int 0), (.putfield 48, 3, (6, 5, 0), .null)], none),
  (5, [(.aload_n 0, 1, (0, 0, 0), .null), (.getfield 23, 3, (6, 2, 0), .null), (.aload_n 0, 1, (0, 0, 0), .null), (.getfield 19, 3, (6, 1, 0), .null), (.if_icmp .ge (75), 3, (88, 0, 0), .null)], none),
  (16, [(.aload_n 0, 1, (0, 0, 0), .null), (.getfield 7, 3, (6, 0, 3), .null), (.aload_n 0, 1, (0, 0, 0), .null), (.getfield 23, 3, (6, 2, 0), .null), (.iaload, 1, (100, 0, 0), .null)], some (.invokestatic 42, 3, (24, 1, 0), .null)),
  (28, [(.ifCond .eq (60), 3, (88, 0, 0), .null)], none),
  (31, [(.aload_n 0, 1, (0, 0, 0), .null), (.aload_n 0, 1, (0, 0, 0), .null), (.getfield 23, 3, (6, 2, 0), .null), (.aload_n 0, 1, (0, 0, 0), .null), (.getfield 29, 3, (6, 4, 0), .null), (.isub, 1, (0, 0, 0), .null), (.iconst (2), 1, (0, 0, 0), .int 2), (.if_icmp .ge (26), 3, (68, 0, 0), .null)], none),
  (45, [(.bipush (10), 2, (0, 0, 0), .int 10), (.aload_n 0, 1, (0, 0, 0), .null), (.getfield 48, 3, (6, 5, 0), .null), (.imul, 1, (0, 0, 0), .null), (.aload_n 0, 1, (0, 0, 0), .null), (.getfield 7, 3, (6, 0, 3), .null), (.aload_n 0, 1, (0, 0, 0), .null), (.getfield 23, 3, (6, 2, 0), .null), (.iaload, 1, (100, 0, 0), .null), (.iadd, 1, (0, 0, 0), .null), (.bipush (48), 2, (0, 0, 0), .int 48), (.isub, 1, (0, 0, 0), .null), (.goto (7), 3, (72, 0, 0), .null)], none),
  (68, [(.aload_n 0, 1, (0, 0, 0), .null), (.getfield 48, 3, (6, 5, 0), .null)], none),
  (72, [(.putfield 48, 3, (6, 5, 0), .null)], none),
  (75, [(.aload_n 0, 1, (0, 0, 0), .null), (.dup, 1, (0, 0, 0), .null), (.getfield 23, 3, (6, 2, 0), .null), (.iconst (1), 1, (0, 0, 0), .int 1), (.iadd, 1, (0, 0, 0), .null), (.putfield 23, 3, (6, 2, 0), .null)], none),
  (85, [(.goto (-80), 3, (5, 0, 0), .null)], none),
  (88, [(.aload_n 0, 1, (0, 0, 0), .null), (.aload_n 0, 1, (0, 0, 0), .null), (.getfield 23, 3, (6, 2, 0), .null), (.aload_n 0, 1, (0, 0, 0), .null), (.getfield 29, 3, (6, 4, 0), .null), (.isub, 1, (0, 0, 0), .null), (.iconst (2), 1, (0, 0, 0), .int 2), (.if_icmp .gt (7), 3, (106, 0, 0), .null)], none),
  (102, [(.iconst (2), 1, (0, 0, 0), .int 2), (.goto (4), 3, (107, 0, 0), .null)], none),
  (106, [(.iconst (4), 1, (0, 0, 0), .int 4)], none),
  (107, [(.putfield 32, 3, (6, 3, 0), .null)], none),
  (110, [], some (.return_, 1, (0, 0, 0), .null))]
def b_26 : mB := [
  (0, [(.aload_n 0, 1, (0, 0, 0), .null), (.iload_n 1, 1, (0, 0, 0), .null)], some (.invokevirtual 89, 3, (27, 1, 0), .null)),
  (5, [(.istore_n 2, 1, (0, 0, 0), .null), (.aload_n 0, 1, (0, 0, 0), .null), (.aload_n 0, 1, (0, 0, 0), .null), (.getfield 35, 3, (5, 5, 3), .null), (.getfield 93, 3, (6, 4, 0), .null), (.putfield 96, 3, (5, 8, 0), .null)], none),
  (17, [(.iload_n 2, 1, (0, 0, 0), .null), (.iconst (-1), 1, (0, 0, 0), .int (-1)), (.if_icmp .ne (8), 3, (27, 0, 0), .null)], none),
  (22, [(.aload_n 0, 1, (0, 0, 0), .null)], some (.invokevirtual 99, 3, (31, 0, 0), .null)),
  (26, [], some (.return_, 1, (0, 0, 0), .null)),
  (27, [(.iload_n 2, 1, (0, 0, 0), .null)], some (.invokestatic 102, 3, (32, 1, 0), .null)),
  (31, [(.istore_n 3, 1, (0, 0, 0), .null), (.iconst (0), 1, (0, 0, 0), .int 0), (.istore 4, 2, (0, 0, 0), .null)], none),
  (35, [(.iload 4, 2, (0, 0, 0), .null), (.iconst (2), 1, (0, 0, 0), .int 2), (.if_icmp .ge (74), 3, (112, 0, 0), .null)], none),
  (41, [(.aload_n 0, 1, (0, 0, 0), .null), (.getfield 39, 3, (5, 6, 3), .null), (.iload 4, 2, (0, 0, 0), .null), (.iconst (-1), 1, (0, 0, 0), .int (-1)), (.iastore, 1, (100, 0, 0), .null)], none),
  (49, [(.iload 4, 2, (0, 0, 0), .null), (.iload_n 3, 1, (0, 0, 0), .null), (.if_icmp .ge (54), 3, (106, 0, 0), .null)], none),
  (55, [(.aload_n 0, 1, (0, 0, 0), .null), (.getfield 35, 3, (5, 5, 3), .null)], some (.invokevirtual 105, 3, (21, 0, 0), .null)),
  (62, [(.aload_n 0, 1, (0, 0, 0), .null), (.getfield 35, 3, (5, 5, 3), .null), (.getfield 72, 3, (6, 3, 0), .null), (.iconst (2), 1, (0, 0, 0), .int 2), (.if_icmp .eq (8), 3, (78, 0, 0), .null)], none),
  (73, [(.aload_n 0, 1, (0, 0, 0), .null)], some (.invokevirtual 99, 3, (31, 0, 0), .null)),
  (77, [], some (.return_, 1, (0, 0, 0), .null)),
  (78, [(.aload_n 0, 1, (0, 0, 0), .null), (.getfield 39, 3, (5, 6, 3), .null), (.iload 4, 2, (0, 0, 0), .null), (.aload_n 0, 1, (0, 0, 0), .null), (.getfield 35, 3, (5, 5, 3), .null), (.getfield 108, 3, (6, 5, 0), .null), (.iastore, 1, (100, 0, 0), .null)], none),
  (92, [(.aload_n 0, 1, (0, 0, 0), .null), (.getfield 43, 3, (5, 7, 3), .null), (.iload 4, 2, (0, 0, 0), .null), (.aload_n 0, 1, (0, 0, 0), .null), (.getfield 35, 3, (5, 5, 3), .null), (.getfield 93, 3, (6, 4, 0), .null), (.iastore, 1, (100, 0, 0), .null)], none),
  (106, [(.iinc 4 (1), 3, (0, 0, 0), .int 1), (.goto (-74), 3, (35, 0, 0), .null)], none),
  (112, [(.aload_n 0, 1, (0, 0, 0), .null), (.getfield 35, 3, (5, 5, 3), .null)], some (.invokevirtual 105, 3, (21, 0, 0), .null)),
  (119, [(.aload_n 0, 1, (0, 0, 0), .null), (.getfield 35, 3, (5, 5, 3), .null), (.getfield 72, 3, (6, 3, 0), .null), (.iconst (3), 1, (0, 0, 0), .int 3), (.if_icmp .eq (8), 3, (135, 0, 0), .null)], none),
  (130, [(.aload_n 0, 1, (0, 0, 0), .null)], some (.invokevirtual 99, 3, (31, 0, 0), .null)),
  (134, [], some (.return_, 1, (0, 0, 0), .null)),
  (135, [(.aload_n 0, 1, (0, 0, 0), .null), (.iload_n 2, 1, (0, 0, 0), .null)], some (.invokevirtual 111, 3, (33, 1, 0), .null)),
  (140, [(.aload_n 0, 1, (0, 0, 0), .null), (.getfield 35, 3, (5, 5, 3), .null)], some (.invokevirtual 105, 3, (21, 0, 0), .null)),
  (147, [], some (.return_, 1, (0, 0, 0), .null))]
def b_27 : mB := [
  (0, [(.iload_n 1, 1, (0, 0, 0), .null), (.tableswitch (73) (0) (2) #[27, 32, 37], 27, (0, 0, 0), .null)], none),
  (28, [(.aload_n 0, 1, (0, 0, 0), .null)], some (.invokevirtual 114, 3, (28, 0, 0), .null)),
  (32, [], some (.ireturn, 1, (0, 0, 0), .null)),
  (33, [(.aload_n 0, 1, (0, 0, 0), .null)], some (.invokevirtual 118, 3, (30, 0, 0), .null)),
  (37, [], some (.ireturn, 1, (0, 0, 0), .null)),
  (38, [(.aload_n 0, 1, (0, 0, 0), .null), (.getfield 35, 3, (5, 5, 3), .null), (.ldc 121, 2, (0, 0, 0), .ref 1000012)], some (.invokevirtual 123, 3, (29, 1, 0), .null)),
  (47, [(.ifCond .eq (8), 3, (55, 0, 0), .null)], none),
  (50, [(.bipush (12), 2, (0, 0, 0), .int 12), (.goto (21), 3, (73, 0, 0), .null)], none),
  (55, [(.aload_n 0, 1, (0, 0, 0), .null), (.getfield 35, 3, (5, 5, 3), .null), (.ldc 127, 2, (0, 0, 0), .ref 1000013)], some (.invokevirtual 123, 3, (29, 1, 0), .null)),
  (64, [(.ifCond .eq (8), 3, (72, 0, 0), .null)], none),
  (67, [(.bipush (13), 2, (0, 0, 0), .int 13), (.goto (4), 3, (73, 0, 0), .null)], none),
  (72, [(.iconst (-1), 1, (0, 0, 0), .int (-1))], none),
  (73, [], some (.ireturn, 1, (0, 0, 0), .null)),
  (74, [(.iconst (-1), 1, (0, 0, 0), .int (-1))], some (.ireturn, 1, (0, 0, 0), .null))]
def b_28 : mB := [
  (0, [(.aload_n 0, 1, (0, 0, 0), .null), (.getfield 35, 3, (5, 5, 3), .null), (.ldc 129, 2, (0, 0, 0), .ref 1000000)], some (.invokevirtual 123, 3, (29, 1, 0), .null)),
  (9, [(.ifCond .eq (6), 3, (15, 0, 0), .null)], none),
  (12, [(.bipush (6), 2, (0, 0, 0), .int 6)], some (.ireturn, 1, (0, 0, 0), .null)),
  (15, [(.aload_n 0, 1, (0, 0, 0), .null), (.getfield 35, 3, (5, 5, 3), .null), (.ldc 131, 2, (0, 0, 0), .ref 1000001)], some (.invokevirtual 123, 3, (29, 1, 0), .null)),
  (24, [(.ifCond .eq (6), 3, (30, 0, 0), .null)], none),
  (27, [(.bipush (7), 2, (0, 0, 0), .int 7)], some (.ireturn, 1, (0, 0, 0), .null)),
  (30, [(.aload_n 0, 1, (0, 0, 0), .null), (.getfield 35, 3, (5, 5, 3), .null), (.ldc 133, 2, (0, 0, 0), .ref 1000002)], some (.invokevirtual 123, 3, (29, 1, 0), .null)),
  (39, [(.ifCond .eq (6), 3, (45, 0, 0), .null)], none),
  (42, [(.bipush (8), 2, (0, 0, 0), .int 8)], some (.ireturn, 1, (0, 0, 0), .null)),
  (45, [(.aload_n 0, 1, (0, 0, 0), .null), (.getfield 35, 3, (5, 5, 3), .null), (.ldc 135, 2, (0, 0, 0), .ref 1000003)], some (.invokevirtual 123, 3, (29, 1, 0), .null)),
  (54, [(.ifCond .eq (6), 3, (60, 0, 0), .null)], none),
  (57, [(.bipush (9), 2, (0, 0, 0), .int 9)], some (.ireturn, 1, (0, 0, 0), .null)),
  (60, [(.aload_n 0, 1, (0, 0, 0), .null), (.getfield 35, 3, (5, 5, 3), .null), (.ldc 137, 2, (0, 0, 0), .ref 1000004)], some (.invokevirtual 123, 3, (29, 1, 0), .null)),
  (69, [(.ifCond .eq (6), 3, (75, 0, 0), .null)], none),
  (72, [(.bipush (10), 2, (0, 0, 0), .int 10)], some (.ireturn, 1, (0, 0, 0), .null)),
  (75, [(.aload_n 0, 1, (0, 0, 0), .null), (.getfield 35, 3, (5, 5, 3), .null), (.ldc 139, 2, (0, 0, 0), .ref 1000005)], some (.invokevirtual 123, 3, (29, 1, 0), .null)),
  (84, [(.ifCond .eq (8), 3, (92, 0, 0), .null)], none),
  (87, [(.bipush (11), 2, (0, 0, 0), .int 11), (.goto (4), 3, (93, 0, 0), .null)], none),
  (92, [(.iconst (-1), 1, (0, 0, 0), .int (-1))], none),
  (93, [], some (.ireturn, 1, (0, 0, 0), .null))]
def b_29 : mB := [
  (0, [(.aload_n 0, 1, (0, 0, 0), .null), (.getfield 32, 3, (6, 3, 0), .null), (.iconst (1), 1, (0, 0, 0), .int 1), (.if_icmp .ne (19), 3, (24, 0, 0), .null)], none),
  (8, [(.aload_n 0, 1, (0, 0, 0), .null), (.getfield 23, 3, (6, 2, 0), .null), (.aload_n 0, 1, (0, 0, 0), .null), (.getfield 29, 3, (6, 4, 0), .null), (.isub, 1, (0, 0, 0), .null), (.aload_n 1, 1, (0, 0, 0), .null), (.invokevirtual 51, 3, (6, 0, 0), .null), (.if_icmp .eq (5), 3, (26, 0, 0), .null)], none),
  (24, [(.iconst (0), 1, (0, 0, 0), .int 0)], some (.ireturn, 1, (0, 0, 0), .null)),
  (26, [(.iconst (0), 1, (0, 0, 0), .int 0), (.istore_n 2, 1, (0, 0, 0), .null)], none),
  (28, [(.iload_n 2, 1, (0, 0, 0), .null), (.aload_n 1, 1, (0, 0, 0), .null), (.invokevirtual 51, 3, (6, 0, 0), .null), (.if_icmp .ge (30), 3, (63, 0, 0), .null)], none),
  (36, [(.aload_n 0, 1, (0, 0, 0), .null), (.getfield 7, 3, (6, 0, 3), .null), (.aload_n 0, 1, (0, 0, 0), .null), (.getfield 29, 3, (6, 4, 0), .null), (.iload_n 2, 1, (0, 0, 0), .null), (.iadd, 1, (0, 0, 0), .null), (.iaload, 1, (100, 0, 0), .null), (.aload_n 1, 1, (0, 0, 0), .null), (.iload_n 2, 1, (0, 0, 0), .null), (.invokevirtual 56, 3, (7, 0, 0), .null), (.if_icmp .eq (5), 3, (57, 0, 0), .null)], none),
  (55, [(.iconst (0), 1, (0, 0, 0), .int 0)], some (.ireturn, 1, (0, 0, 0), .null)),
  (57, [(.iinc 2 (1), 3, (0, 0, 0), .int 1), (.goto (-32), 3, (28, 0, 0), .null)], none),
  (63, [(.iconst (1), 1, (0, 0, 0), .int 1)], some (.ireturn, 1, (0, 0, 0), .null))]
def b_30 : mB := [
  (0, [(.aload_n 0, 1, (0, 0, 0), .null), (.getfield 35, 3, (5, 5, 3), .null), (.ldc 141, 2, (0, 0, 0), .ref 1000006)], some (.invokevirtual 123, 3, (29, 1, 0), .null)),
  (9, [(.ifCond .eq (5), 3, (14, 0, 0), .null)], none),
  (12, [(.iconst (0), 1, (0, 0, 0), .int 0)], some (.ireturn, 1, (0, 0, 0), .null)),
  (14, [(.aload_n 0, 1, (0, 0, 0), .null), (.getfield 35, 3, (5, 5, 3), .null), (.ldc 143, 2, (0, 0, 0), .ref 1000007)], some (.invokevirtual 123, 3, (29, 1, 0), .null)),
  (23, [(.ifCond .eq (5), 3, (28, 0, 0), .null)], none),
  (26, [(.iconst (1), 1, (0, 0, 0), .int 1)], some (.ireturn, 1, (0, 0, 0), .null)),
  (28, [(.aload_n 0, 1, (0, 0, 0), .null), (.getfield 35, 3, (5, 5, 3), .null), (.ldc 145, 2, (0, 0, 0), .ref 1000008)], some (.invokevirtual 123, 3, (29, 1, 0), .null)),
  (37, [(.ifCond .eq (5), 3, (42, 0, 0), .null)], none),
  (40, [(.iconst (2), 1, (0, 0, 0), .int 2)], some (.ireturn, 1, (0, 0, 0), .null)),
  (42, [(.aload_n 0, 1, (0, 0, 0), .null), (.getfield 35, 3, (5, 5, 3), .null), (.ldc 147, 2, (0, 0, 0), .ref 1000009)], some (.invokevirtual 123, 3, (29, 1, 0), .null)),
  (51, [(.ifCond .eq (5), 3, (56, 0, 0), .null)], none),
  (54, [(.iconst (3), 1, (0, 0, 0), .int 3)], some (.ireturn, 1, (0, 0, 0), .null)),
  (56, [(.aload_n 0, 1, (0, 0, 0), .null), (.getfield 35, 3, (5, 5, 3), .null), (.ldc 149, 2, (0, 0, 0), .ref 1000010)], some (.invokevirtual 123, 3, (29, 1, 0), .null)),
  (65, [(.ifCond .eq (5), 3, (70, 0, 0), .null)], none),
  (68, [(.iconst (4), 1, (0, 0, 0), .int 4)], some (.ireturn, 1, (0, 0, 0), .null)),
  (70, [(.aload_n 0, 1, (0, 0, 0), .null), (.getfield 35, 3, (5, 5, 3), .null), (.ldc 151, 2, (0, 0, 0), .ref 1000011)], some (.invokevirtual 123, 3, (29, 1, 0), .null)),
  (79, [(.ifCond .eq (7), 3, (86, 0, 0), .null)], none),
  (82, [(.iconst (5), 1, (0, 0, 0), .int 5), (.goto (4), 3, (87, 0, 0), .null)], none),
  (86, [(.iconst (-1), 1, (0, 0, 0), .int (-1))], none),
  (87, [], some (.ireturn, 1, (0, 0, 0), .null))]
def b_31 : mB := [
  (0, [(.aload_n 0, 1, (0, 0, 0), .null), (.iconst (1), 1, (0, 0, 0), .int 1), (.putfield 62, 3, (5, 3, 0), .null)], none),
  (5, [(.aload_n 0, 1, (0, 0, 0), .null), (.aload_n 0, 1, (0, 0, 0), .null), (.getfield 35, 3, (5, 5, 3), .null), (.getfield 93, 3, (6, 4, 0), .null), (.putfield 65, 3, (5, 4, 0), .null)], none),
  (16, [], some (.return_, 1, (0, 0, 0), .null))]
def b_32 : mB := [
  (0, [(.iload_n 0, 1, (0, 0, 0), .null), (.tableswitch (55) (3) (11) #[51, 53, 53, 51, 51, 51, 55, 55, 51], 51, (0, 0, 0), .null)], none),
  (52, [(.iconst (2), 1, (0, 0, 0), .int 2)], some (.ireturn, 1, (0, 0, 0), .null)),
  (54, [(.iconst (0), 1, (0, 0, 0), .int 0)], some (.ireturn, 1, (0, 0, 0), .null)),
  (56, [(.iconst (1), 1, (0, 0, 0), .int 1)], some (.ireturn, 1, (0, 0, 0), .null))]
def b_33 : mB := [
  (0, [(.iload_n 1, 1, (0, 0, 0), .null), (.tableswitch (97) (6) (13) #[47, 54, 61, 68, 75, 82, 89, 89], 47, (0, 0, 0), .null)], none),
  (48, [(.aload_n 0, 1, (0, 0, 0), .null)], some (.invokevirtual 153, 3, (34, 0, 0), .null)),
  (52, [(.goto (51), 3, (103, 0, 0), .null)], none),
  (55, [(.aload_n 0, 1, (0, 0, 0), .null)], some (.invokevirtual 156, 3, (38, 0, 0), .null)),
  (59, [(.goto (44), 3, (103, 0, 0), .null)], none),
  (62, [(.aload_n 0, 1, (0, 0, 0), .null)], some (.invokevirtual 159, 3, (39, 0, 0), .null)),
  (66, [(.goto (37), 3, (103, 0, 0), .null)], none),
  (69, [(.aload_n 0, 1, (0, 0, 0), .null)], some (.invokevirtual 162, 3, (40, 0, 0), .null)),
  (73, [(.goto (30), 3, (103, 0, 0), .null)], none),
  (76, [(.aload_n 0, 1, (0, 0, 0), .null)], some (.invokevirtual 165, 3, (41, 0, 0), .null)),
  (80, [(.goto (23), 3, (103, 0, 0), .null)], none),
  (83, [(.aload_n 0, 1, (0, 0, 0), .null)], some (.invokevirtual 168, 3, (42, 0, 0), .null)),
  (87, [(.goto (16), 3, (103, 0, 0), .null)], none),
  (90, [(.aload_n 0, 1, (0, 0, 0), .null), (.iload_n 1, 1, (0, 0, 0), .null)], some (.invokevirtual 171, 3, (43, 1, 0), .null)),
  (95, [(.goto (8), 3, (103, 0, 0), .null)], none),
  (98, [(.aload_n 0, 1, (0, 0, 0), .null), (.iload_n 1, 1, (0, 0, 0), .null)], some (.invokevirtual 174, 3, (45, 1, 0), .null)),
  (103, [], some (.return_, 1, (0, 0, 0), .null))]
def b_34 : mB := [
  (0, [(.aload_n 0, 1, (0, 0, 0), .null), (.aload_n 0, 1, (0, 0, 0), .null), (.getfield 12, 3, (5, 0, 3), .null), (.getfield 79, 3, (2, 6, 0), .null), (.bipush (8), 2, (0, 0, 0), .int 8)], some (.invokevirtual 181, 3, (35, 2, 0), .null)),
  (13, [(.aload_n 0, 1, (0, 0, 0), .null), (.iconst (0), 1, (0, 0, 0), .int 0), (.iconst (1), 1, (0, 0, 0), .int 1), (.bipush (9), 2, (0, 0, 0), .int 9)], some (.invokevirtual 184, 3, (37, 3, 0), .null)),
  (21, [(.aload_n 0, 1, (0, 0, 0), .null), (.iconst (1), 1, (0, 0, 0), .int 1), (.iconst (0), 1, (0, 0, 0), .int 0), (.iconst (5), 1, (0, 0, 0), .int 5)], some (.invokevirtual 184, 3, (37, 3, 0), .null)),
  (28, [(.aload_n 0, 1, (0, 0, 0), .null), (.getfield 62, 3, (5, 3, 0), .null), (.ifCond .ne (58), 3, (90, 0, 0), .null)], none),
  (35, [(.aload_n 0, 1, (0, 0, 0), .null), (.getfield 12, 3, (5, 0, 3), .null), (.getfield 188, 3, (2, 0, 3), .null), (.aload_n 0, 1, (0, 0, 0), .null), (.getfield 12, 3, (5, 0, 3), .null), (.getfield 79, 3, (2, 6, 0), .null), (.aload_n 0, 1, (0, 0, 0), .null), (.getfield 39, 3, (5, 6, 3), .null), (.iconst (0), 1, (0, 0, 0), .int 0), (.iaload, 1, (100, 0, 0), .null), (.iastore, 1, (100, 0, 0), .null)], none),
  (56, [(.aload_n 0, 1, (0, 0, 0), .null), (.getfield 12, 3, (5, 0, 3), .null), (.getfield 191, 3, (2, 1, 3), .null), (.aload_n 0, 1, (0, 0, 0), .null), (.getfield 12, 3, (5, 0, 3), .null), (.getfield 79, 3, (2, 6, 0), .null), (.aload_n 0, 1, (0, 0, 0), .null), (.getfield 39, 3, (5, 6, 3), .null), (.iconst (1), 1, (0, 0, 0), .int 1), (.iaload, 1, (100, 0, 0), .null), (.iastore, 1, (100, 0, 0), .null)], none),
  (77, [(.aload_n 0, 1, (0, 0, 0), .null), (.getfield 12, 3, (5, 0, 3), .null), (.dup, 1, (0, 0, 0), .null), (.getfield 79, 3, (2, 6, 0), .null), (.iconst (1), 1, (0, 0, 0), .int 1), (.iadd, 1, (0, 0, 0), .null), (.putfield 79, 3, (2, 6, 0), .null)], none),
  (90, [], some (.return_, 1, (0, 0, 0), .null))]
def b_35 : mB := [
  (0, [(.iload_n 1, 1, (0, 0, 0), .null), (.iload_n 2, 1, (0, 0, 0), .null), (.if_icmp .lt (12), 3, (14, 0, 0), .null)], none),
  (5, [(.aload_n 0, 1, (0, 0, 0), .null), (.iconst (3), 1, (0, 0, 0), .int 3), (.aload_n 0, 1, (0, 0, 0), .null), (.getfield 96, 3, (5, 8, 0), .null)], some (.invokevirtual 85, 3, (36, 2, 0), .null)),
  (14, [], some (.return_, 1, (0, 0, 0), .null))]
def b_36 : mB := [
  (0, [(.aload_n 0, 1, (0, 0, 0), .null), (.getfield 62, 3, (5, 3, 0), .null), (.ifCond .ne (13), 3, (17, 0, 0), .null)], none),
  (7, [(.aload_n 0, 1, (0, 0, 0), .null), (.iload_n 1, 1, (0, 0, 0), .null), (.putfield 62, 3, (5, 3, 0), .null)], none),
  (12, [(.aload_n 0, 1, (0, 0, 0), .null), (.iload_n 2, 1, (0, 0, 0), .null), (.putfield 65, 3, (5, 4, 0), .null)], none),
  (17, [], some (.return_, 1, (0, 0, 0), .null))]
def b_37 : mB := [
  (0, [(.aload_n 0, 1, (0, 0, 0), .null), (.getfield 39, 3, (5, 6, 3), .null), (.iload_n 1, 1, (0, 0, 0), .null), (.iaload, 1, (100, 0, 0), .null), (.iload_n 2, 1, (0, 0, 0), .null), (.iload_n 3, 1, (0, 0, 0), .null)], some (.invokestatic 177, 3, (17, 3, 0), .null)),
  (11, [(.ifCond .ne (14), 3, (25, 0, 0), .null)], none),
  (14, [(.aload_n 0, 1, (0, 0, 0), .null), (.iconst (2), 1, (0, 0, 0), .int 2), (.aload_n 0, 1, (0, 0, 0), .null), (.getfield 43, 3, (5, 7, 3), .null), (.iload_n 1, 1, (0, 0, 0), .null), (.iaload, 1, (100, 0, 0), .null)], some (.invokevirtual 85, 3, (36, 2, 0), .null)),
  (25, [], some (.return_, 1, (0, 0, 0), .null))]
def b_38 : mB := [
  (0, [(.aload_n 0, 1, (0, 0, 0), .null), (.iconst (0), 1, (0, 0, 0), .int 0), (.iconst (0), 1, (0, 0, 0), .int 0), (.bipush (7), 2, (0, 0, 0), .int 7)], some (.invokevirtual 184, 3, (37, 3, 0), .null)),
  (8, [(.aload_n 0, 1, (0, 0, 0), .null), (.iconst (1), 1, (0, 0, 0), .int 1), (.iconst (0), 1, (0, 0, 0), .int 0), (.aload_n 0, 1, (0, 0, 0), .null), (.getfield 39, 3, (5, 6, 3), .null), (.iconst (0), 1, (0, 0, 0), .int 0), (.iaload, 1, (100, 0, 0), .null), (.iconst (1), 1, (0, 0, 0), .int 1), (.isub, 1, (0, 0, 0), .null)], some (.invokevirtual 184, 3, (37, 3, 0), .null)),
  (22, [(.aload_n 0, 1, (0, 0, 0), .null), (.getfield 62, 3, (5, 3, 0), .null), (.ifCond .ne (47), 3, (73, 0, 0), .null)], none),
  (29, [(.aload_n 0, 1, (0, 0, 0), .null), (.getfield 12, 3, (5, 0, 3), .null), (.getfield 194, 3, (2, 2, 3), .null), (.aload_n 0, 1, (0, 0, 0), .null), (.getfield 39, 3, (5, 6, 3), .null), (.iconst (0), 1, (0, 0, 0), .int 0), (.iaload, 1, (100, 0, 0), .null), (.dup2, 1, (0, 0, 0), .null), (.iaload, 1, (100, 0, 0), .null), (.iconst (1), 1, (0, 0, 0), .int 1), (.aload_n 0, 1, (0, 0, 0), .null), (.getfield 39, 3, (5, 6, 3), .null), (.iconst (1), 1, (0, 0, 0), .int 1), (.iaload, 1, (100, 0, 0), .null), (.ishl, 1, (0, 0, 0), .null), (.ior, 1, (0, 0, 0), .null), (.iastore, 1, (100, 0, 0), .null)], none),
  (54, [(.aload_n 0, 1, (0, 0, 0), .null), (.aload_n 0, 1, (0, 0, 0), .null), (.getfield 56, 3, (5, 9, 0), .null), (.aload_n 0, 1, (0, 0, 0), .null), (.getfield 39, 3, (5, 6, 3), .null), (.iconst (0), 1, (0, 0, 0), .int 0), (.iaload, 1, (100, 0, 0), .null), (.iconst (1), 1, (0, 0, 0), .int 1), (.iadd, 1, (0, 0, 0), .null), (.invokestatic 196, 3, (2, 0, 0), .null), (.putfield 56, 3, (5, 9, 0), .null)], none),
  (73, [], some (.return_, 1, (0, 0, 0), .null))]
def b_39 : mB := [
  (0, [(.aload_n 0, 1, (0, 0, 0), .null), (.iconst (0), 1, (0, 0, 0), .int 0), (.iconst (0), 1, (0, 0, 0), .int 0), (.iconst (5), 1, (0, 0, 0), .int 5)], some (.invokevirtual 184, 3, (37, 3, 0), .null)),
  (7, [(.aload_n 0, 1, (0, 0, 0), .null), (.iconst (1), 1, (0, 0, 0), .int 1), (.iconst (0), 1, (0, 0, 0), .int 0), (.bipush (9), 2, (0, 0, 0), .int 9)], some (.invokevirtual 184, 3, (37, 3, 0), .null)),
  (15, [(.aload_n 0, 1, (0, 0, 0), .null), (.getfield 62, 3, (5, 3, 0), .null), (.ifCond .ne (23), 3, (42, 0, 0), .null)], none),
  (22, [(.aload_n 0, 1, (0, 0, 0), .null), (.getfield 12, 3, (5, 0, 3), .null), (.getfield 202, 3, (2, 3, 3), .null), (.aload_n 0, 1, (0, 0, 0), .null), (.getfield 39, 3, (5, 6, 3), .null), (.iconst (0), 1, (0, 0, 0), .int 0), (.iaload, 1, (100, 0, 0), .null), (.aload_n 0, 1, (0, 0, 0), .null), (.getfield 39, 3, (5, 6, 3), .null), (.iconst (1), 1, (0, 0, 0), .int 1), (.iaload, 1, (100, 0, 0), .null), (.iastore, 1, (100, 0, 0), .null)], none),
  (42, [], some (.return_, 1, (0, 0, 0), .null))]
def b_40 : mB := [
  (0, [(.aload_n 0, 1, (0, 0, 0), .null), (.iconst (0), 1, (0, 0, 0), .int 0), (.iconst (1), 1, (0, 0, 0), .int 1), (.bipush (12), 2, (0, 0, 0), .int 12)], some (.invokevirtual 184, 3, (37, 3, 0), .null)),
  (8, [(.aload_n 0, 1, (0, 0, 0), .null), (.getfield 62, 3, (5, 3, 0), .null), (.ifCond .ne (16), 3, (28, 0, 0), .null)], none),
  (15, [(.aload_n 0, 1, (0, 0, 0), .null), (.getfield 12, 3, (5, 0, 3), .null), (.aload_n 0, 1, (0, 0, 0), .null), (.getfield 39, 3, (5, 6, 3), .null), (.iconst (0), 1, (0, 0, 0), .int 0), (.iaload, 1, (100, 0, 0), .null), (.putfield 204, 3, (2, 8, 0), .null)], none),
  (28, [], some (.return_, 1, (0, 0, 0), .null))]
def b_41 : mB := [
  (0, [(.aload_n 0, 1, (0, 0, 0), .null), (.aload_n 0, 1, (0, 0, 0), .null), (.getfield 12, 3, (5, 0, 3), .null), (.getfield 82, 3, (2, 7, 0), .null), (.bipush (6), 2, (0, 0, 0), .int 6)], some (.invokevirtual 181, 3, (35, 2, 0), .null)),
  (13, [(.aload_n 0, 1, (0, 0, 0), .null), (.iconst (0), 1, (0, 0, 0), .int 0), (.iconst (1), 1, (0, 0, 0), .int 1), (.bipush (9), 2, (0, 0, 0), .int 9)], some (.invokevirtual 184, 3, (37, 3, 0), .null)),
  (21, [(.aload_n 0, 1, (0, 0, 0), .null), (.getfield 62, 3, (5, 3, 0), .null), (.ifCond .ne (37), 3, (62, 0, 0), .null)], none),
  (28, [(.aload_n 0, 1, (0, 0, 0), .null), (.getfield 12, 3, (5, 0, 3), .null), (.getfield 206, 3, (2, 4, 3), .null), (.aload_n 0, 1, (0, 0, 0), .null), (.getfield 12, 3, (5, 0, 3), .null), (.getfield 82, 3, (2, 7, 0), .null), (.aload_n 0, 1, (0, 0, 0), .null), (.getfield 39, 3, (5, 6, 3), .null), (.iconst (0), 1, (0, 0, 0), .int 0), (.iaload, 1, (100, 0, 0), .null), (.iastore, 1, (100, 0, 0), .null)], none),
  (49, [(.aload_n 0, 1, (0, 0, 0), .null), (.getfield 12, 3, (5, 0, 3), .null), (.dup, 1, (0, 0, 0), .null), (.getfield 82, 3, (2, 7, 0), .null), (.iconst (1), 1, (0, 0, 0), .int 1), (.iadd, 1, (0, 0, 0), .null), (.putfield 82, 3, (2, 7, 0), .null)], none),
  (62, [], some (.return_, 1, (0, 0, 0), .null))]
def b_42 : mB := [
  (0, [(.aload_n 0, 1, (0, 0, 0), .null), (.iconst (0), 1, (0, 0, 0), .int 0), (.iconst (0), 1, (0, 0, 0), .int 0), (.iconst (5), 1, (0, 0, 0), .int 5)], some (.invokevirtual 184, 3, (37, 3, 0), .null)),
  (7, [(.aload_n 0, 1, (0, 0, 0), .null), (.iconst (1), 1, (0, 0, 0), .int 1), (.iconst (0), 1, (0, 0, 0), .int 0), (.iconst (5), 1, (0, 0, 0), .int 5)], some (.invokevirtual 184, 3, (37, 3, 0), .null)),
  (14, [(.aload_n 0, 1, (0, 0, 0), .null), (.getfield 39, 3, (5, 6, 3), .null), (.iconst (0), 1, (0, 0, 0), .int 0), (.iaload, 1, (100, 0, 0), .null), (.aload_n 0, 1, (0, 0, 0), .null), (.getfield 39, 3, (5, 6, 3), .null), (.iconst (1), 1, (0, 0, 0), .int 1), (.iaload, 1, (100, 0, 0), .null), (.if_icmp .ne (14), 3, (40, 0, 0), .null)], none),
  (29, [(.aload_n 0, 1, (0, 0, 0), .null), (.iconst (2), 1, (0, 0, 0), .int 2), (.aload_n 0, 1, (0, 0, 0), .null), (.getfield 43, 3, (5, 7, 3), .null), (.iconst (1), 1, (0, 0, 0), .int 1), (.iaload, 1, (100, 0, 0), .null)], some (.invokevirtual 85, 3, (36, 2, 0), .null)),
  (40, [(.aload_n 0, 1, (0, 0, 0), .null), (.getfield 62, 3, (5, 3, 0), .null), (.ifCond .ne (56), 3, (100, 0, 0), .null)], none),
  (47, [(.aload_n 0, 1, (0, 0, 0), .null), (.getfield 12, 3, (5, 0, 3), .null), (.getfield 209, 3, (2, 5, 3), .null), (.aload_n 0, 1, (0, 0, 0), .null), (.getfield 39, 3, (5, 6, 3), .null), (.iconst (0), 1, (0, 0, 0), .int 0), (.iaload, 1, (100, 0, 0), .null), (.dup2, 1, (0, 0, 0), .null), (.iaload, 1, (100, 0, 0), .null), (.iconst (1), 1, (0, 0, 0), .int 1), (.aload_n 0, 1, (0, 0, 0), .null), (.getfield 39, 3, (5, 6, 3), .null), (.iconst (1), 1, (0, 0, 0), .int 1), (.iaload, 1, (100, 0, 0), .null), (.ishl, 1, (0, 0, 0), .null), (.ior, 1, (0, 0, 0), .null), (.iastore, 1, (100, 0, 0), .null)], none),
  (72, [(.aload_n 0, 1, (0, 0, 0), .null), (.aload_n 0, 1, (0, 0, 0), .null), (.getfield 59, 3, (5, 10, 0), .null), (.aload_n 0, 1, (0, 0, 0), .null), (.getfield 39, 3, (5, 6, 3), .null), (.iconst (0), 1, (0, 0, 0), .int 0), (.iaload, 1, (100, 0, 0), .null), (.aload_n 0, 1, (0, 0, 0), .null), (.getfield 39, 3, (5, 6, 3), .null), (.iconst (1), 1, (0, 0, 0), .int 1), (.iaload, 1, (100, 0, 0), .null), (.invokestatic 196, 3, (2, 0, 0), .null), (.iconst (1), 1, (0, 0, 0), .int 1), (.iadd, 1, (0, 0, 0), .null), (.invokestatic 196, 3, (2, 0, 0), .null), (.putfield 59, 3, (5, 10, 0), .null)], none),
  (100, [], some (.return_, 1, (0, 0, 0), .null))]
def b_43 : mB := [
  (0, [(.aload_n 0, 1, (0, 0, 0), .null), (.aload_n 0, 1, (0, 0, 0), .null), (.getfield 28, 3, (5, 2, 3), .null), (.getfield 53, 3, (4, 2, 0), .null), (.bipush (8), 2, (0, 0, 0), .int 8)], some (.invokevirtual 181, 3, (35, 2, 0), .null)),
  (13, [(.aload_n 0, 1, (0, 0, 0), .null), (.iconst (0), 1, (0, 0, 0), .int 0), (.iconst (0), 1, (0, 0, 0), .int 0), (.iconst (5), 1, (0, 0, 0), .int 5)], some (.invokevirtual 184, 3, (37, 3, 0), .null)),
  (20, [(.aload_n 0, 1, (0, 0, 0), .null), (.getfield 62, 3, (5, 3, 0), .null), (.ifCond .ne (17), 3, (41, 0, 0), .null)], none),
  (27, [(.aload_n 0, 1, (0, 0, 0), .null), (.getfield 28, 3, (5, 2, 3), .null), (.iload_n 1, 1, (0, 0, 0), .null), (.aload_n 0, 1, (0, 0, 0), .null), (.getfield 39, 3, (5, 6, 3), .null), (.iconst (0), 1, (0, 0, 0), .int 0), (.iaload, 1, (100, 0, 0), .null)], some (.invokevirtual 214, 3, (44, 2, 0), .null)),
  (41, [], some (.return_, 1, (0, 0, 0), .null))]
def b_44 : mB := [
  (0, [(.aload_n 0, 1, (0, 0, 0), .null), (.getfield 18, 3, (4, 2, 0), .null), (.bipush (8), 2, (0, 0, 0), .int 8), (.if_icmp .lt (4), 3, (10, 0, 0), .null)], none),
  (9, [], some (.return_, 1, (0, 0, 0), .null)),
  (10, [(.aload_n 0, 1, (0, 0, 0), .null), (.getfield 9, 3, (4, 0, 3), .null), (.aload_n 0, 1, (0, 0, 0), .null), (.getfield 18, 3, (4, 2, 0), .null), (.iload_n 1, 1, (0, 0, 0), .null), (.iastore, 1, (100, 0, 0), .null)], none),
  (20, [(.aload_n 0, 1, (0, 0, 0), .null), (.getfield 15, 3, (4, 1, 3), .null), (.aload_n 0, 1, (0, 0, 0), .null), (.getfield 18, 3, (4, 2, 0), .null), (.iload_n 2, 1, (0, 0, 0), .null), (.iastore, 1, (100, 0, 0), .null)], none),
  (30, [(.aload_n 0, 1, (0, 0, 0), .null), (.dup, 1, (0, 0, 0), .null), (.getfield 18, 3, (4, 2, 0), .null), (.iconst (1), 1, (0, 0, 0), .int 1), (.iadd, 1, (0, 0, 0), .null), (.putfield 18, 3, (4, 2, 0), .null)], none),
  (40, [], some (.return_, 1, (0, 0, 0), .null))]
def b_45 : mB := [
  (0, [(.aload_n 0, 1, (0, 0, 0), .null), (.aload_n 0, 1, (0, 0, 0), .null), (.getfield 21, 3, (5, 1, 3), .null), (.getfield 49, 3, (3, 3, 0), .null), (.bipush (40), 2, (0, 0, 0), .int 40)], some (.invokevirtual 181, 3, (35, 2, 0), .null)),
  (13, [(.iload_n 1, 1, (0, 0, 0), .null), (.iconst (2), 1, (0, 0, 0), .int 2), (.if_icmp .ne (13), 3, (28, 0, 0), .null)], none),
  (18, [(.aload_n 0, 1, (0, 0, 0), .null), (.iconst (0), 1, (0, 0, 0), .int 0), (.iconst (0), 1, (0, 0, 0), .int 0), (.iconst (5), 1, (0, 0, 0), .int 5)], some (.invokevirtual 184, 3, (37, 3, 0), .null)),
  (25, [(.goto (25), 3, (50, 0, 0), .null)], none),
  (28, [(.iload_n 1, 1, (0, 0, 0), .null), (.ifCond .eq (13), 3, (42, 0, 0), .null)], none),
  (32, [(.iload_n 1, 1, (0, 0, 0), .null), (.iconst (1), 1, (0, 0, 0), .int 1), (.if_icmp .eq (8), 3, (42, 0, 0), .null)], none),
  (37, [(.iload_n 1, 1, (0, 0, 0), .null), (.iconst (3), 1, (0, 0, 0), .int 3), (.if_icmp .ne (11), 3, (50, 0, 0), .null)], none),
  (42, [(.aload_n 0, 1, (0, 0, 0), .null), (.iconst (0), 1, (0, 0, 0), .int 0), (.iconst (0), 1, (0, 0, 0), .int 0), (.bipush (7), 2, (0, 0, 0), .int 7)], some (.invokevirtual 184, 3, (37, 3, 0), .null)),
  (50, [(.iload_n 1, 1, (0, 0, 0), .null), (.iconst (3), 1, (0, 0, 0), .int 3), (.if_icmp .ne (10), 3, (62, 0, 0), .null)], none),
  (55, [(.aload_n 0, 1, (0, 0, 0), .null), (.iconst (1), 1, (0, 0, 0), .int 1), (.iconst (0), 1, (0, 0, 0), .int 0), (.iconst (5), 1, (0, 0, 0), .int 5)], some (.invokevirtual 184, 3, (37, 3, 0), .null)),
  (62, [(.aload_n 0, 1, (0, 0, 0), .null), (.getfield 62, 3, (5, 3, 0), .null), (.ifCond .ne (23), 3, (89, 0, 0), .null)], none),
  (69, [(.aload_n 0, 1, (0, 0, 0), .null), (.getfield 21, 3, (5, 1, 3), .null), (.iload_n 1, 1, (0, 0, 0), .null), (.aload_n 0, 1, (0, 0, 0), .null), (.getfield 39, 3, (5, 6, 3), .null), (.iconst (0), 1, (0, 0, 0), .int 0), (.iaload, 1, (100, 0, 0), .null), (.aload_n 0, 1, (0, 0, 0), .null), (.getfield 39, 3, (5, 6, 3), .null), (.iconst (1), 1, (0, 0, 0), .int 1), (.iaload, 1, (100, 0, 0), .null)], some (.invokevirtual 211, 3, (46, 3, 0), .null)),
  (89, [], some (.return_, 1, (0, 0, 0), .null))]
def b_46 : mB := [
  (0, [(.aload_n 0, 1, (0, 0, 0), .null), (.getfield 21, 3, (3, 3, 0), .null), (.bipush (40), 2, (0, 0, 0), .int 40), (.if_icmp .lt (4), 3, (10, 0, 0), .null)], none),
  (9, [], some (.return_, 1, (0, 0, 0), .null)),
  (10, [(.aload_n 0, 1, (0, 0, 0), .null), (.getfield 9, 3, (3, 0, 3), .null), (.aload_n 0, 1, (0, 0, 0), .null), (.getfield 21, 3, (3, 3, 0), .null), (.iload_n 1, 1, (0, 0, 0), .null), (.iastore, 1, (100, 0, 0), .null)], none),
  (20, [(.aload_n 0, 1, (0, 0, 0), .null), (.getfield 15, 3, (3, 1, 3), .null), (.aload_n 0, 1, (0, 0, 0), .null), (.getfield 21, 3, (3, 3, 0), .null), (.iload_n 2, 1, (0, 0, 0), .null), (.iastore, 1, (100, 0, 0), .null)], none),
  (30, [(.aload_n 0, 1, (0, 0, 0), .null), (.getfield 18, 3, (3, 2, 3), .null), (.aload_n 0, 1, (0, 0, 0), .null), (.getfield 21, 3, (3, 3, 0), .null), (.iload_n 3, 1, (0, 0, 0), .null), (.iastore, 1, (100, 0, 0), .null)], none),
  (40, [(.aload_n 0, 1, (0, 0, 0), .null), (.dup, 1, (0, 0, 0), .null), (.getfield 21, 3, (3, 3, 0), .null), (.iconst (1), 1, (0, 0, 0), .int 1), (.iadd, 1, (0, 0, 0), .null), (.putfield 21, 3, (3, 3, 0), .null)], none),
  (50, [], some (.return_, 1, (0, 0, 0), .null))]
def b_47 : mB := [
  (0, [(.iload_n 2, 1, (0, 0, 0), .null), (.iconst (0), 1, (0, 0, 0), .int 0), (.iconst (1), 1, (0, 0, 0), .int 1)], some (.invokestatic 46, 3, (17, 3, 0), .null)),
  (6, [(.ifCond .eq (12), 3, (18, 0, 0), .null)], none),
  (9, [(.iload_n 1, 1, (0, 0, 0), .null), (.iconst (0), 1, (0, 0, 0), .int 0), (.iconst (2), 1, (0, 0, 0), .int 2)], some (.invokestatic 46, 3, (17, 3, 0), .null)),
  (15, [(.ifCond .ne (4), 3, (19, 0, 0), .null)], none),
  (18, [], some (.return_, 1, (0, 0, 0), .null)),
  (19, [(.iload_n 1, 1, (0, 0, 0), .null), (.ifCond .ne (19), 3, (39, 0, 0), .null)], none),
  (23, [(.aload_n 0, 1, (0, 0, 0), .null), (.getfield 20, 3, (1, 2, 3), .null), (.iload_n 2, 1, (0, 0, 0), .null), (.aaload, 1, (202, 0, 0), .null), (.aload_n 3, 1, (0, 0, 0), .null), (.getfield 50, 3, (5, 0, 3), .null)], some (.invokevirtual 56, 3, (48, 1, 0), .null)),
  (36, [(.goto (37), 3, (73, 0, 0), .null)], none),
  (39, [(.iload_n 1, 1, (0, 0, 0), .null), (.iconst (1), 1, (0, 0, 0), .int 1), (.if_icmp .ne (19), 3, (60, 0, 0), .null)], none),
  (44, [(.aload_n 0, 1, (0, 0, 0), .null), (.getfield 26, 3, (1, 3, 3), .null), (.iload_n 2, 1, (0, 0, 0), .null), (.aaload, 1, (203, 0, 0), .null), (.aload_n 3, 1, (0, 0, 0), .null), (.getfield 60, 3, (5, 1, 3), .null)], some (.invokevirtual 64, 3, (49, 1, 0), .null)),
  (57, [(.goto (16), 3, (73, 0, 0), .null)], none),
  (60, [(.aload_n 0, 1, (0, 0, 0), .null), (.getfield 32, 3, (1, 4, 3), .null), (.iload_n 2, 1, (0, 0, 0), .null), (.aaload, 1, (204, 0, 0), .null), (.aload_n 3, 1, (0, 0, 0), .null), (.getfield 67, 3, (5, 2, 3), .null)], some (.invokevirtual 71, 3, (50, 1, 0), .null)),
  (73, [(.aload_n 0, 1, (0, 0, 0), .null), (.getfield 15, 3, (1, 1, 3), .null), (.iload_n 1, 1, (0, 0, 0), .null), (.aload_n 0, 1, (0, 0, 0), .null), (.getfield 15, 3, (1, 1, 3), .null), (.iload_n 1, 1, (0, 0, 0), .null), (.iaload, 1, (100, 0, 0), .null), (.iload_n 2, 1, (0, 0, 0), .null), (.iconst (1), 1, (0, 0, 0), .int 1), (.iadd, 1, (0, 0, 0), .null), (.invokestatic 74, 3, (2, 0, 0), .null), (.iastore, 1, (100, 0, 0), .null)], none),
  (91, [], some (.return_, 1, (0, 0, 0), .null))]
def b_48 : mB := [
  (0, [(.aload_n 1, 1, (0, 0, 0), .null), (.getfield 9, 3, (2, 0, 3), .null), (.iconst (0), 1, (0, 0, 0), .int 0), (.aload_n 0, 1, (0, 0, 0), .null), (.getfield 9, 3, (2, 0, 3), .null), (.iconst (0), 1, (0, 0, 0), .int 0), (.bipush (8), 2, (0, 0, 0), .int 8), (.invokestatic 49, 3, (5, 0, 0), .null)], none),
  (15, [(.aload_n 1, 1, (0, 0, 0), .null), (.getfield 15, 3, (2, 1, 3), .null), (.iconst (0), 1, (0, 0, 0), .int 0), (.aload_n 0, 1, (0, 0, 0), .null), (.getfield 15, 3, (2, 1, 3), .null), (.iconst (0), 1, (0, 0, 0), .int 0), (.bipush (8), 2, (0, 0, 0), .int 8), (.invokestatic 49, 3, (5, 0, 0), .null)], none),
  (30, [(.aload_n 1, 1, (0, 0, 0), .null), (.getfield 18, 3, (2, 2, 3), .null), (.iconst (0), 1, (0, 0, 0), .int 0), (.aload_n 0, 1, (0, 0, 0), .null), (.getfield 18, 3, (2, 2, 3), .null), (.iconst (0), 1, (0, 0, 0), .int 0), (.bipush (8), 2, (0, 0, 0), .int 8), (.invokestatic 49, 3, (5, 0, 0), .null)], none),
  (45, [(.aload_n 1, 1, (0, 0, 0), .null), (.getfield 21, 3, (2, 3, 3), .null), (.iconst (0), 1, (0, 0, 0), .int 0), (.aload_n 0, 1, (0, 0, 0), .null), (.getfield 21, 3, (2, 3, 3), .null), (.iconst (0), 1, (0, 0, 0), .int 0), (.bipush (6), 2, (0, 0, 0), .int 6), (.invokestatic 49, 3, (5, 0, 0), .null)], none),
  (60, [(.aload_n 1, 1, (0, 0, 0), .null), (.getfield 24, 3, (2, 4, 3), .null), (.iconst (0), 1, (0, 0, 0), .int 0), (.aload_n 0, 1, (0, 0, 0), .null), (.getfield 24, 3, (2, 4, 3), .null), (.iconst (0), 1, (0, 0, 0), .int 0), (.bipush (6), 2, (0, 0, 0), .int 6), (.invokestatic 49, 3, (5, 0, 0), .null)], none),
  (75, [(.aload_n 1, 1, (0, 0, 0), .null), (.getfield 27, 3, (2, 5, 3), .null), (.iconst (0), 1, (0, 0, 0), .int 0), (.aload_n 0, 1, (0, 0, 0), .null), (.getfield 27, 3, (2, 5, 3), .null), (.iconst (0), 1, (0, 0, 0), .int 0), (.bipush (6), 2, (0, 0, 0), .int 6), (.invokestatic 49, 3, (5, 0, 0), .null)], none),
  (90, [(.aload_n 0, 1, (0, 0, 0), .null), (.aload_n 1, 1, (0, 0, 0), .null), (.getfield 39, 3, (2, 6, 0), .null), (.putfield 39, 3, (2, 6, 0), .null)], none),
  (98, [(.aload_n 0, 1, (0, 0, 0), .null), (.aload_n 1, 1, (0, 0, 0), .null), (.getfield 43, 3, (2, 7, 0), .null), (.putfield 43, 3, (2, 7, 0), .null)], none),
  (106, [(.aload_n 0, 1, (0, 0, 0), .null), (.aload_n 1, 1, (0, 0, 0), .null), (.getfield 46, 3, (2, 8, 0), .null), (.putfield 46, 3, (2, 8, 0), .null)], none),
  (114, [], some (.return_, 1, (0, 0, 0), .null))]
def b_49 : mB := [
  (0, [(.aload_n 1, 1, (0, 0, 0), .null), (.getfield 9, 3, (3, 0, 3), .null), (.iconst (0), 1, (0, 0, 0), .int 0), (.aload_n 0, 1, (0, 0, 0), .null), (.getfield 9, 3, (3, 0, 3), .null), (.iconst (0), 1, (0, 0, 0), .int 0), (.bipush (40), 2, (0, 0, 0), .int 40), (.invokestatic 25, 3, (5, 0, 0), .null)], none),
  (15, [(.aload_n 1, 1, (0, 0, 0), .null), (.getfield 15, 3, (3, 1, 3), .null), (.iconst (0), 1, (0, 0, 0), .int 0), (.aload_n 0, 1, (0, 0, 0), .null), (.getfield 15, 3, (3, 1, 3), .null), (.iconst (0), 1, (0, 0, 0), .int 0), (.bipush (40), 2, (0, 0, 0), .int 40), (.invokestatic 25, 3, (5, 0, 0), .null)], none),
  (30, [(.aload_n 1, 1, (0, 0, 0), .null), (.getfield 18, 3, (3, 2, 3), .null), (.iconst (0), 1, (0, 0, 0), .int 0), (.aload_n 0, 1, (0, 0, 0), .null), (.getfield 18, 3, (3, 2, 3), .null), (.iconst (0), 1, (0, 0, 0), .int 0), (.bipush (40), 2, (0, 0, 0), .int 40), (.invokestatic 25, 3, (5, 0, 0), .null)], none),
  (45, [(.aload_n 0, 1, (0, 0, 0), .null), (.aload_n 1, 1, (0, 0, 0), .null), (.getfield 21, 3, (3, 3, 0), .null), (.putfield 21, 3, (3, 3, 0), .null)], none),
  (53, [], some (.return_, 1, (0, 0, 0), .null))]
def b_50 : mB := [
  (0, [(.aload_n 1, 1, (0, 0, 0), .null), (.getfield 9, 3, (4, 0, 3), .null), (.iconst (0), 1, (0, 0, 0), .int 0), (.aload_n 0, 1, (0, 0, 0), .null), (.getfield 9, 3, (4, 0, 3), .null), (.iconst (0), 1, (0, 0, 0), .int 0), (.bipush (8), 2, (0, 0, 0), .int 8), (.invokestatic 22, 3, (5, 0, 0), .null)], none),
  (15, [(.aload_n 1, 1, (0, 0, 0), .null), (.getfield 15, 3, (4, 1, 3), .null), (.iconst (0), 1, (0, 0, 0), .int 0), (.aload_n 0, 1, (0, 0, 0), .null), (.getfield 15, 3, (4, 1, 3), .null), (.iconst (0), 1, (0, 0, 0), .int 0), (.bipush (8), 2, (0, 0, 0), .int 8), (.invokestatic 22, 3, (5, 0, 0), .null)], none),
  (30, [(.aload_n 0, 1, (0, 0, 0), .null), (.aload_n 1, 1, (0, 0, 0), .null), (.getfield 18, 3, (4, 2, 0), .null), (.putfield 18, 3, (4, 2, 0), .null)], none),
  (38, [], some (.return_, 1, (0, 0, 0), .null))]
def b_51 : mB := [
  (0, [(.iload_n 1, 1, (0, 0, 0), .null), (.lookupswitch (43) #[(0, 27), (1, 35)], 27, (0, 0, 0), .null)], none),
  (28, [(.aload_n 0, 1, (0, 0, 0), .null), (.getfield 10, 3, (0, 0, 3), .null), (.getfield 78, 3, (1, 6, 0), .null)], some (.ireturn, 1, (0, 0, 0), .null)),
  (36, [(.aload_n 0, 1, (0, 0, 0), .null), (.getfield 10, 3, (0, 0, 3), .null), (.getfield 81, 3, (1, 7, 0), .null)], some (.ireturn, 1, (0, 0, 0), .null)),
  (44, [(.iconst (-1), 1, (0, 0, 0), .int (-1))], some (.ireturn, 1, (0, 0, 0), .null))]
def b_52 : mB := [
  (0, [(.aload_n 0, 1, (0, 0, 0), .null), (.getfield 10, 3, (0, 0, 3), .null), (.iload_n 1, 1, (0, 0, 0), .null)], some (.invokevirtual 101, 3, (53, 1, 0), .null)),
  (8, [(.astore_n 3, 1, (0, 0, 0), .null), (.aload_n 3, 1, (0, 0, 0), .null), (.ifnonnull (7), 3, (17, 0, 0), .null)], none),
  (13, [(.iconst (-1), 1, (0, 0, 0), .int (-1)), (.goto (8), 3, (22, 0, 0), .null)], none),
  (17, [(.aload_n 3, 1, (0, 0, 0), .null), (.iload_n 2, 1, (0, 0, 0), .null)], some (.invokevirtual 105, 3, (54, 1, 0), .null)),
  (22, [], some (.ireturn, 1, (0, 0, 0), .null))]
def b_53 : mB := [
  (0, [(.iload_n 1, 1, (0, 0, 0), .null), (.iconst (0), 1, (0, 0, 0), .int 0), (.aload_n 0, 1, (0, 0, 0), .null), (.getfield 15, 3, (1, 1, 3), .null), (.iconst (0), 1, (0, 0, 0), .int 0), (.iaload, 1, (100, 0, 0), .null), (.iconst (1), 1, (0, 0, 0), .int 1), (.isub, 1, (0, 0, 0), .null)], some (.invokestatic 46, 3, (17, 3, 0), .null)),
  (13, [(.ifCond .eq (12), 3, (25, 0, 0), .null)], none),
  (16, [(.aload_n 0, 1, (0, 0, 0), .null), (.getfield 20, 3, (1, 2, 3), .null), (.iload_n 1, 1, (0, 0, 0), .null), (.aaload, 1, (202, 0, 0), .null), (.goto (4), 3, (26, 0, 0), .null)], none),
  (25, [(.aconst_null, 1, (0, 0, 0), .null)], none),
  (26, [], some (.areturn, 1, (0, 0, 0), .null))]
def b_54 : mB := [
  (0, [(.iload_n 1, 1, (0, 0, 0), .null), (.ifCond .ge (7), 3, (8, 0, 0), .null)], none),
  (4, [(.iconst (-1), 1, (0, 0, 0), .int (-1)), (.goto (7), 3, (12, 0, 0), .null)], none),
  (8, [(.iload_n 1, 1, (0, 0, 0), .null), (.bipush (10), 2, (0, 0, 0), .int 10), (.irem, 1, (0, 0, 0), .null)], none),
  (12, [(.istore_n 2, 1, (0, 0, 0), .null), (.iload_n 1, 1, (0, 0, 0), .null), (.ifCond .ge (7), 3, (21, 0, 0), .null)], none),
  (17, [(.iconst (-1), 1, (0, 0, 0), .int (-1)), (.goto (7), 3, (25, 0, 0), .null)], none),
  (21, [(.iload_n 1, 1, (0, 0, 0), .null), (.bipush (10), 2, (0, 0, 0), .int 10), (.idiv, 1, (0, 0, 0), .null)], none),
  (25, [(.tableswitch (164) (0) (6) #[43, 49, 68, 87, 106, 126, 145], 43, (0, 0, 0), .null)], none),
  (68, [(.aload_n 0, 1, (0, 0, 0), .null), (.iload_n 2, 1, (0, 0, 0), .null)], some (.invokevirtual 55, 3, (55, 1, 0), .null)),
  (73, [], some (.ireturn, 1, (0, 0, 0), .null)),
  (74, [(.aload_n 0, 1, (0, 0, 0), .null), (.iload_n 2, 1, (0, 0, 0), .null)], some (.invokevirtual 59, 3, (56, 1, 0), .null)),
  (79, [(.ifCond .eq (12), 3, (91, 0, 0), .null)], none),
  (82, [(.aload_n 0, 1, (0, 0, 0), .null), (.getfield 9, 3, (2, 0, 3), .null), (.iload_n 2, 1, (0, 0, 0), .null), (.iaload, 1, (100, 0, 0), .null), (.goto (4), 3, (92, 0, 0), .null)], none),
  (91, [(.iconst (-1), 1, (0, 0, 0), .int (-1))], none),
  (92, [], some (.ireturn, 1, (0, 0, 0), .null)),
  (93, [(.aload_n 0, 1, (0, 0, 0), .null), (.iload_n 2, 1, (0, 0, 0), .null)], some (.invokevirtual 59, 3, (56, 1, 0), .null)),
  (98, [(.ifCond .eq (12), 3, (110, 0, 0), .null)], none),
  (101, [(.aload_n 0, 1, (0, 0, 0), .null), (.getfield 15, 3, (2, 1, 3), .null), (.iload_n 2, 1, (0, 0, 0), .null), (.iaload, 1, (100, 0, 0), .null), (.goto (4), 3, (111, 0, 0), .null)], none),
  (110, [(.iconst (-1), 1, (0, 0, 0), .int (-1))], none),
  (111, [], some (.ireturn, 1, (0, 0, 0), .null)),
  (112, [(.aload_n 0, 1, (0, 0, 0), .null), (.iload_n 2, 1, (0, 0, 0), .null)], some (.invokevirtual 59, 3, (56, 1, 0), .null)),
  (117, [(.ifCond .eq (12), 3, (129, 0, 0), .null)], none),
  (120, [(.aload_n 0, 1, (0, 0, 0), .null), (.getfield 18, 3, (2, 2, 3), .null), (.iload_n 2, 1, (0, 0, 0), .null), (.iaload, 1, (100, 0, 0), .null), (.goto (4), 3, (130, 0, 0), .null)], none),
  (129, [(.iconst (-1), 1, (0, 0, 0), .int (-1))], none),
  (130, [], some (.ireturn, 1, (0, 0, 0), .null)),
  (131, [(.iload_n 2, 1, (0, 0, 0), .null), (.iconst (0), 1, (0, 0, 0), .int 0), (.iconst (5), 1, (0, 0, 0), .int 5)], some (.invokestatic 63, 3, (17, 3, 0), .null)),
  (137, [(.ifCond .eq (12), 3, (149, 0, 0), .null)], none),
  (140, [(.aload_n 0, 1, (0, 0, 0), .null), (.getfield 21, 3, (2, 3, 3), .null), (.iload_n 2, 1, (0, 0, 0), .null), (.iaload, 1, (100, 0, 0), .null), (.goto (4), 3, (150, 0, 0), .null)], none),
  (149, [(.iconst (-1), 1, (0, 0, 0), .int (-1))], none),
  (150, [], some (.ireturn, 1, (0, 0, 0), .null)),
  (151, [(.aload_n 0, 1, (0, 0, 0), .null), (.iload_n 2, 1, (0, 0, 0), .null)], some (.invokevirtual 67, 3, (57, 1, 0), .null)),
  (156, [(.ifCond .eq (12), 3, (168, 0, 0), .null)], none),
  (159, [(.aload_n 0, 1, (0, 0, 0), .null), (.getfield 24, 3, (2, 4, 3), .null), (.iload_n 2, 1, (0, 0, 0), .null), (.iaload, 1, (100, 0, 0), .null), (.goto (4), 3, (169, 0, 0), .null)], none),
  (168, [(.iconst (-1), 1, (0, 0, 0), .int (-1))], none),
  (169, [], some (.ireturn, 1, (0, 0, 0), .null)),
  (170, [(.aload_n 0, 1, (0, 0, 0), .null), (.iload_n 2, 1, (0, 0, 0), .null)], some (.invokevirtual 67, 3, (57, 1, 0), .null)),
  (175, [(.ifCond .eq (12), 3, (187, 0, 0), .null)], none),
  (178, [(.aload_n 0, 1, (0, 0, 0), .null), (.getfield 27, 3, (2, 5, 3), .null), (.iload_n 2, 1, (0, 0, 0), .null), (.iaload, 1, (100, 0, 0), .null), (.goto (4), 3, (188, 0, 0), .null)], none),
  (187, [(.iconst (-1), 1, (0, 0, 0), .int (-1))], none),
  (188, [], some (.ireturn, 1, (0, 0, 0), .null)),
  (189, [(.iconst (-1), 1, (0, 0, 0), .int (-1))], some (.ireturn, 1, (0, 0, 0), .null))]
def b_55 : mB := [
  (0, [(.iload_n 1, 1, (0, 0, 0), .null), (.tableswitch (42) (0) (2) #[27, 32, 37], 27, (0, 0, 0), .null)], none),
  (28, [(.aload_n 0, 1, (0, 0, 0), .null), (.getfield 39, 3, (2, 6, 0), .null)], some (.ireturn, 1, (0, 0, 0), .null)),
  (33, [(.aload_n 0, 1, (0, 0, 0), .null), (.getfield 43, 3, (2, 7, 0), .null)], some (.ireturn, 1, (0, 0, 0), .null)),
  (38, [(.aload_n 0, 1, (0, 0, 0), .null), (.getfield 46, 3, (2, 8, 0), .null)], some (.ireturn, 1, (0, 0, 0), .null)),
  (43, [(.iconst (-1), 1, (0, 0, 0), .int (-1))], some (.ireturn, 1, (0, 0, 0), .null))]
def b_56 : mB := [
  (0, [(.iload_n 1, 1, (0, 0, 0), .null), (.ifCond .lt (15), 3, (16, 0, 0), .null)], none),
  (4, [(.iload_n 1, 1, (0, 0, 0), .null), (.aload_n 0, 1, (0, 0, 0), .null), (.getfield 39, 3, (2, 6, 0), .null), (.if_icmp .ge (7), 3, (16, 0, 0), .null)], none),
  (12, [(.iconst (1), 1, (0, 0, 0), .int 1), (.goto (4), 3, (17, 0, 0), .null)], none),
  (16, [(.iconst (0), 1, (0, 0, 0), .int 0)], none),
  (17, [], some (.ireturn, 1, (0, 0, 0), .null))]
def b_57 : mB := [
  (0, [(.iload_n 1, 1, (0, 0, 0), .null), (.ifCond .lt (15), 3, (16, 0, 0), .null)], none),
  (4, [(.iload_n 1, 1, (0, 0, 0), .null), (.aload_n 0, 1, (0, 0, 0), .null), (.getfield 43, 3, (2, 7, 0), .null), (.if_icmp .ge (7), 3, (16, 0, 0), .null)], none),
  (12, [(.iconst (1), 1, (0, 0, 0), .int 1), (.goto (4), 3, (17, 0, 0), .null)], none),
  (16, [(.iconst (0), 1, (0, 0, 0), .int 0)], none),
  (17, [], some (.ireturn, 1, (0, 0, 0), .null))]
def b_58 : mB := [
  (0, [(.aload_n 0, 1, (0, 0, 0), .null), (.getfield 10, 3, (0, 0, 3), .null), (.iload_n 1, 1, (0, 0, 0), .null)], some (.invokevirtual 111, 3, (59, 1, 0), .null)),
  (8, [(.astore 4, 2, (0, 0, 0), .null), (.aload 4, 2, (0, 0, 0), .null), (.ifnonnull (8), 3, (20, 0, 0), .null)], none),
  (15, [(.bipush (-2), 2, (0, 0, 0), .int (-2)), (.goto (10), 3, (27, 0, 0), .null)], none),
  (20, [(.aload 4, 2, (0, 0, 0), .null), (.iload_n 2, 1, (0, 0, 0), .null), (.iload_n 3, 1, (0, 0, 0), .null)], some (.invokevirtual 115, 3, (60, 2, 0), .null)),
  (27, [], some (.ireturn, 1, (0, 0, 0), .null))]
def b_59 : mB := [
  (0, [(.iload_n 1, 1, (0, 0, 0), .null), (.iconst (0), 1, (0, 0, 0), .int 0), (.aload_n 0, 1, (0, 0, 0), .null), (.getfield 15, 3, (1, 1, 3), .null), (.iconst (1), 1, (0, 0, 0), .int 1), (.iaload, 1, (100, 0, 0), .null), (.iconst (1), 1, (0, 0, 0), .int 1), (.isub, 1, (0, 0, 0), .null)], some (.invokestatic 46, 3, (17, 3, 0), .null)),
  (13, [(.ifCond .eq (12), 3, (25, 0, 0), .null)], none),
  (16, [(.aload_n 0, 1, (0, 0, 0), .null), (.getfield 26, 3, (1, 3, 3), .null), (.iload_n 1, 1, (0, 0, 0), .null), (.aaload, 1, (203, 0, 0), .null), (.goto (4), 3, (26, 0, 0), .null)], none),
  (25, [(.aconst_null, 1, (0, 0, 0), .null)], none),
  (26, [], some (.areturn, 1, (0, 0, 0), .null))]
