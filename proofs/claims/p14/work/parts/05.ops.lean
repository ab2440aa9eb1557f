/-! ===== the methods: their rows ===== -/
def op_X0_init : List cv_Q := [
  (0, .aload_n 0, 1, 0, 0, 0), (1, .invokespecial 3, 3, 9999, 0, 0), (4, .aload_n 0, 1, 0, 0, 0), (5, .bipush 73, 2, 0, 0, 0),
  (7, .newarray .int, 2, 0, 0, 0), (9, .putfield 9, 3, 0, 1, 4), (12, .aload_n 0, 1, 0, 0, 0), (13, .aload_n 1, 1, 0, 0, 0),
  (14, .putfield 15, 3, 0, 0, 4), (17, .aload_n 0, 1, 0, 0, 0), (18, .aload_n 2, 1, 0, 0, 0), (19, .putfield 19, 3, 0, 7, 4),
  (22, .return_, 1, 0, 0, 0)]
def op_X0_readInto : List cv_Q := [
  (0, .aload_n 0, 1, 0, 0, 0), (1, .aload_n 1, 1, 0, 0, 0), (2, .putfield 19, 3, 0, 7, 4), (5, .aload_n 0, 1, 0, 0, 0),
  (6, .iconst 0, 1, 0, 0, 0), (7, .putfield 23, 3, 0, 2, 0), (10, .aload_n 0, 1, 0, 0, 0), (11, .iconst 0, 1, 0, 0, 0),
  (12, .putfield 27, 3, 0, 3, 0), (15, .aload_n 0, 1, 0, 0, 0), (16, .iconst 0, 1, 0, 0, 0), (17, .putfield 30, 3, 0, 4, 0),
  (20, .aload_n 0, 1, 0, 0, 0), (21, .iconst 1, 1, 0, 0, 0), (22, .putfield 33, 3, 0, 5, 2), (25, .aload_n 0, 1, 0, 0, 0),
  (26, .iconst 1, 1, 0, 0, 0), (27, .putfield 37, 3, 0, 6, 2), (30, .iconst 0, 1, 0, 0, 0), (31, .istore_n 2, 1, 0, 0, 0),
  (32, .iload_n 2, 1, 0, 0, 0), (33, .sipush 900, 3, 0, 0, 0), (36, .if_icmp .gt 70, 3, 0, 0, 0), (39, .aload_n 0, 1, 0, 0, 0),
  (40, .getfield 33, 3, 0, 5, 2), (43, .ifCond .ne 25, 3, 0, 0, 0), (46, .aload_n 0, 1, 0, 0, 0), (47, .getfield 27, 3, 0, 3, 0),
  (50, .ifCond .ne 18, 3, 0, 0, 0), (53, .aload_n 0, 1, 0, 0, 0), (54, .invokevirtual 40, 3, 7, 0, 0), (57, .iconst (-1), 1, 0, 0, 0),
  (58, .if_icmp .ne 10, 3, 0, 0, 0), (61, .aload_n 0, 1, 0, 0, 0), (62, .iconst 0, 1, 0, 0, 0), (63, .invokevirtual 44, 3, 12, 1, 0),
  (66, .iconst 0, 1, 0, 0, 0), (67, .ireturn, 1, 0, 0, 0), (68, .aload_n 0, 1, 0, 0, 0), (69, .getfield 33, 3, 0, 5, 2),
  (72, .ifCond .eq 10, 3, 0, 0, 0), (75, .aload_n 0, 1, 0, 0, 0), (76, .invokevirtual 48, 3, 2, 0, 0), (79, .goto 7, 3, 0, 0, 0),
  (82, .aload_n 0, 1, 0, 0, 0), (83, .invokevirtual 51, 3, 6, 0, 0), (86, .istore_n 3, 1, 0, 0, 0), (87, .iload_n 3, 1, 0, 0, 0),
  (88, .ifCond .eq 5, 3, 0, 0, 0), (91, .iload_n 3, 1, 0, 0, 0), (92, .ireturn, 1, 0, 0, 0), (93, .aload_n 0, 1, 0, 0, 0),
  (94, .getfield 15, 3, 0, 0, 4), (97, .invokevirtual 54, 3, 78, 0, 6), (100, .iinc 2 1, 3, 0, 0, 0), (103, .goto (-71), 3, 0, 0, 0),
  (106, .iconst 1, 1, 0, 0, 0), (107, .ireturn, 1, 0, 0, 0)]
def op_X0_readValue_0 : List cv_Q := [
  (0, .aload_n 0, 1, 0, 0, 0), (1, .getfield 15, 3, 0, 0, 4), (4, .getfield 59, 3, 6, 4, 0), (7, .bipush 6, 2, 0, 0, 0),
  (9, .if_icmp .ne 8, 3, 0, 0, 0), (12, .aload_n 0, 1, 0, 0, 0), (13, .invokevirtual 62, 3, 3, 0, 0), (16, .ireturn, 1, 0, 0, 0),
  (17, .aload_n 0, 1, 0, 0, 0), (18, .getfield 15, 3, 0, 0, 4), (21, .bipush 33, 2, 0, 0, 0), (23, .invokevirtual 65, 3, 83, 1, 6),
  (26, .ifCond .eq 22, 3, 0, 0, 0), (29, .aload_n 0, 1, 0, 0, 0), (30, .getfield 37, 3, 0, 6, 2), (33, .ifCond .eq 13, 3, 0, 0, 0),
  (36, .aload_n 0, 1, 0, 0, 0), (37, .sipush 20002, 3, 0, 0, 0), (40, .invokevirtual 69, 3, 9, 1, 0), (43, .goto 4, 3, 0, 0, 0),
  (46, .iconst 1, 1, 0, 0, 0), (47, .ireturn, 1, 0, 0, 0), (48, .aload_n 0, 1, 0, 0, 0), (49, .invokevirtual 73, 3, 4, 0, 0),
  (52, .istore_n 1, 1, 0, 0, 0), (53, .iload_n 1, 1, 0, 0, 0), (54, .iconst (-1), 1, 0, 0, 0), (55, .if_icmp .ne 5, 3, 0, 0, 0),
  (58, .iconst 1, 1, 0, 0, 0), (59, .ireturn, 1, 0, 0, 0), (60, .aload_n 0, 1, 0, 0, 0), (61, .getfield 19, 3, 0, 7, 4),
  (64, .getfield 76, 3, 4, 3, 0), (67, .bipush 64, 2, 0, 0, 0), (69, .if_icmp .ge 21, 3, 0, 0, 0), (72, .aload_n 0, 1, 0, 0, 0),
  (73, .getfield 15, 3, 0, 0, 4), (76, .getfield 59, 3, 6, 4, 0), (79, .iconst 4, 1, 0, 0, 0), (80, .if_icmp .ne 12, 3, 0, 0, 0),
  (83, .iload_n 1, 1, 0, 0, 0), (84, .sipush 9999, 3, 0, 0, 0), (87, .if_icmp .le 5, 3, 0, 0, 0), (90, .iconst 2, 1, 0, 0, 0),
  (91, .ireturn, 1, 0, 0, 0), (92, .aload_n 0, 1, 0, 0, 0), (93, .getfield 19, 3, 0, 7, 4), (96, .dup, 1, 0, 0, 0),
  (97, .getfield 76, 3, 4, 3, 0), (100, .iconst 1, 1, 0, 0, 0), (101, .iadd, 1, 0, 0, 0), (102, .putfield 76, 3, 4, 3, 0),
  (105, .aload_n 0, 1, 0, 0, 0), (106, .getfield 19, 3, 0, 7, 4), (109, .iload_n 1, 1, 0, 0, 0), (110, .invokevirtual 81, 3, 58, 1, 4),
  (113, .aload_n 0, 1, 0, 0, 0), (114, .iconst 0, 1, 0, 0, 0), (115, .putfield 33, 3, 0, 5, 2), (118, .iconst 0, 1, 0, 0, 0)]
def op_X0_readValue_1 : List cv_Q := [
  (119, .ireturn, 1, 0, 0, 0)]
def op_X0_readValue : List cv_Q := op_X0_readValue_0 ++ (op_X0_readValue_1)
def op_X0_openParen : List cv_Q := [
  (0, .aload_n 0, 1, 0, 0, 0), (1, .getfield 27, 3, 0, 3, 0), (4, .bipush 8, 2, 0, 0, 0), (6, .if_icmp .lt 5, 3, 0, 0, 0),
  (9, .iconst 2, 1, 0, 0, 0), (10, .ireturn, 1, 0, 0, 0), (11, .aload_n 0, 1, 0, 0, 0), (12, .dup, 1, 0, 0, 0),
  (13, .getfield 27, 3, 0, 3, 0), (16, .iconst 1, 1, 0, 0, 0), (17, .iadd, 1, 0, 0, 0), (18, .putfield 27, 3, 0, 3, 0),
  (21, .aload_n 0, 1, 0, 0, 0), (22, .sipush 20013, 3, 0, 0, 0), (25, .invokevirtual 84, 3, 10, 1, 0), (28, .aload_n 0, 1, 0, 0, 0),
  (29, .iconst 1, 1, 0, 0, 0), (30, .putfield 37, 3, 0, 6, 2), (33, .iconst 0, 1, 0, 0, 0), (34, .ireturn, 1, 0, 0, 0)]
def op_X0_valueKnot : List cv_Q := [
  (0, .aload_n 0, 1, 0, 0, 0), (1, .getfield 15, 3, 0, 0, 4), (4, .getfield 59, 3, 6, 4, 0), (7, .iconst 4, 1, 0, 0, 0),
  (8, .if_icmp .ne 11, 3, 0, 0, 0), (11, .aload_n 0, 1, 0, 0, 0), (12, .getfield 15, 3, 0, 0, 4), (15, .getfield 87, 3, 6, 6, 0),
  (18, .ireturn, 1, 0, 0, 0), (19, .aload_n 0, 1, 0, 0, 0), (20, .getfield 15, 3, 0, 0, 4), (23, .getfield 59, 3, 6, 4, 0),
  (26, .iconst 2, 1, 0, 0, 0), (27, .if_icmp .ne 16, 3, 0, 0, 0), (30, .aload_n 0, 1, 0, 0, 0), (31, .getfield 15, 3, 0, 0, 4),
  (34, .getfield 87, 3, 6, 6, 0), (37, .invokestatic 90, 3, 5, 1, 0), (40, .goto 4, 3, 0, 0, 0), (43, .iconst (-1), 1, 0, 0, 0),
  (44, .istore_n 1, 1, 0, 0, 0), (45, .iload_n 1, 1, 0, 0, 0), (46, .iconst (-1), 1, 0, 0, 0), (47, .if_icmp .ne 5, 3, 0, 0, 0),
  (50, .iconst (-1), 1, 0, 0, 0), (51, .ireturn, 1, 0, 0, 0), (52, .aload_n 0, 1, 0, 0, 0), (53, .dup, 1, 0, 0, 0),
  (54, .getfield 30, 3, 0, 4, 0), (57, .iconst 1, 1, 0, 0, 0), (58, .iload_n 1, 1, 0, 0, 0), (59, .ishl, 1, 0, 0, 0),
  (60, .ior, 1, 0, 0, 0), (61, .putfield 30, 3, 0, 4, 0), (64, .sipush 10000, 3, 0, 0, 0), (67, .iload_n 1, 1, 0, 0, 0),
  (68, .iadd, 1, 0, 0, 0), (69, .ireturn, 1, 0, 0, 0)]
def op_X0_nameOf : List cv_Q := [
  (0, .iload_n 0, 1, 0, 0, 0), (1, .tableswitch 111 13 30 #[105, 111, 111, 111, 95, 97, 111, 111, 111, 111, 111, 87, 89, 91, 93, 99, 102, 108], 87, 0, 0, 0), (88, .iconst 0, 1, 0, 0, 0), (89, .ireturn, 1, 0, 0, 0),
  (90, .iconst 1, 1, 0, 0, 0), (91, .ireturn, 1, 0, 0, 0), (92, .iconst 2, 1, 0, 0, 0), (93, .ireturn, 1, 0, 0, 0),
  (94, .iconst 3, 1, 0, 0, 0), (95, .ireturn, 1, 0, 0, 0), (96, .iconst 4, 1, 0, 0, 0), (97, .ireturn, 1, 0, 0, 0),
  (98, .iconst 5, 1, 0, 0, 0), (99, .ireturn, 1, 0, 0, 0), (100, .bipush 6, 2, 0, 0, 0), (102, .ireturn, 1, 0, 0, 0),
  (103, .bipush 7, 2, 0, 0, 0), (105, .ireturn, 1, 0, 0, 0), (106, .bipush 8, 2, 0, 0, 0), (108, .ireturn, 1, 0, 0, 0),
  (109, .bipush 9, 2, 0, 0, 0), (111, .ireturn, 1, 0, 0, 0), (112, .iconst (-1), 1, 0, 0, 0), (113, .ireturn, 1, 0, 0, 0)]
def op_X0_readJoint_0 : List cv_Q := [
  (0, .aload_n 0, 1, 0, 0, 0), (1, .getfield 15, 3, 0, 0, 4), (4, .getfield 59, 3, 6, 4, 0), (7, .bipush 7, 2, 0, 0, 0),
  (9, .if_icmp .ne 41, 3, 0, 0, 0), (12, .aload_n 0, 1, 0, 0, 0), (13, .getfield 27, 3, 0, 3, 0), (16, .ifCond .le 34, 3, 0, 0, 0),
  (19, .aload_n 0, 1, 0, 0, 0), (20, .iconst 0, 1, 0, 0, 0), (21, .invokevirtual 44, 3, 12, 1, 0), (24, .aload_n 0, 1, 0, 0, 0),
  (25, .iconst 0, 1, 0, 0, 0), (26, .aload_n 0, 1, 0, 0, 0), (27, .getfield 23, 3, 0, 2, 0), (30, .iconst 1, 1, 0, 0, 0),
  (31, .isub, 1, 0, 0, 0), (32, .invokestatic 93, 3, 9001, 2, 0), (35, .putfield 23, 3, 0, 2, 0), (38, .aload_n 0, 1, 0, 0, 0),
  (39, .dup, 1, 0, 0, 0), (40, .getfield 27, 3, 0, 3, 0), (43, .iconst 1, 1, 0, 0, 0), (44, .isub, 1, 0, 0, 0),
  (45, .putfield 27, 3, 0, 3, 0), (48, .iconst 0, 1, 0, 0, 0), (49, .ireturn, 1, 0, 0, 0), (50, .aload_n 0, 1, 0, 0, 0),
  (51, .invokevirtual 40, 3, 7, 0, 0), (54, .istore_n 1, 1, 0, 0, 0), (55, .iload_n 1, 1, 0, 0, 0), (56, .iconst (-1), 1, 0, 0, 0),
  (57, .if_icmp .ne 5, 3, 0, 0, 0), (60, .iconst 1, 1, 0, 0, 0), (61, .ireturn, 1, 0, 0, 0), (62, .iload_n 1, 1, 0, 0, 0),
  (63, .invokestatic 99, 3, 8, 1, 0), (66, .istore_n 2, 1, 0, 0, 0), (67, .aload_n 0, 1, 0, 0, 0), (68, .iload_n 2, 1, 0, 0, 0),
  (69, .iconst 4, 1, 0, 0, 0), (70, .if_icmp .ne 7, 3, 0, 0, 0), (73, .iconst 5, 1, 0, 0, 0), (74, .goto 4, 3, 0, 0, 0),
  (77, .iload_n 2, 1, 0, 0, 0), (78, .invokevirtual 44, 3, 12, 1, 0), (81, .iload_n 2, 1, 0, 0, 0), (82, .iconst 4, 1, 0, 0, 0),
  (83, .if_icmp .ne 23, 3, 0, 0, 0), (86, .aload_n 0, 1, 0, 0, 0), (87, .getfield 23, 3, 0, 2, 0), (90, .ifCond .le 16, 3, 0, 0, 0),
  (93, .aload_n 0, 1, 0, 0, 0), (94, .invokevirtual 102, 3, 11, 0, 0), (97, .invokestatic 99, 3, 8, 1, 0), (100, .iconst 4, 1, 0, 0, 0),
  (101, .if_icmp .ne 5, 3, 0, 0, 0), (104, .iconst 1, 1, 0, 0, 0), (105, .ireturn, 1, 0, 0, 0), (106, .aload_n 0, 1, 0, 0, 0)]
def op_X0_readJoint_1 : List cv_Q := [
  (107, .iconst 1, 1, 0, 0, 0), (108, .putfield 33, 3, 0, 5, 2), (111, .aload_n 0, 1, 0, 0, 0), (112, .iload_n 1, 1, 0, 0, 0),
  (113, .sipush 20001, 3, 0, 0, 0), (116, .if_icmp .eq 10, 3, 0, 0, 0), (119, .iload_n 1, 1, 0, 0, 0), (120, .sipush 20000, 3, 0, 0, 0),
  (123, .if_icmp .ne 7, 3, 0, 0, 0), (126, .iconst 1, 1, 0, 0, 0), (127, .goto 4, 3, 0, 0, 0), (130, .iconst 0, 1, 0, 0, 0),
  (131, .putfield 37, 3, 0, 6, 2), (134, .aload_n 0, 1, 0, 0, 0), (135, .iload_n 1, 1, 0, 0, 0), (136, .invokevirtual 69, 3, 9, 1, 0),
  (139, .ireturn, 1, 0, 0, 0)]
def op_X0_readJoint : List cv_Q := op_X0_readJoint_0 ++ (op_X0_readJoint_1)
def op_X0_signOf : List cv_Q := [
  (0, .aload_n 0, 1, 0, 0, 0), (1, .getfield 15, 3, 0, 0, 4), (4, .getfield 59, 3, 6, 4, 0), (7, .iconst 5, 1, 0, 0, 0),
  (8, .if_icmp .ne 11, 3, 0, 0, 0), (11, .aload_n 0, 1, 0, 0, 0), (12, .getfield 15, 3, 0, 0, 4), (15, .getfield 87, 3, 6, 6, 0),
  (18, .ireturn, 1, 0, 0, 0), (19, .aload_n 0, 1, 0, 0, 0), (20, .getfield 15, 3, 0, 0, 4), (23, .bipush 31, 2, 0, 0, 0),
  (25, .invokevirtual 65, 3, 83, 1, 6), (28, .ifCond .eq 7, 3, 0, 0, 0), (31, .sipush 20001, 3, 0, 0, 0), (34, .ireturn, 1, 0, 0, 0),
  (35, .aload_n 0, 1, 0, 0, 0), (36, .getfield 15, 3, 0, 0, 4), (39, .bipush 32, 2, 0, 0, 0), (41, .invokevirtual 65, 3, 83, 1, 6),
  (44, .ifCond .eq 9, 3, 0, 0, 0), (47, .sipush 20000, 3, 0, 0, 0), (50, .goto 4, 3, 0, 0, 0), (53, .iconst (-1), 1, 0, 0, 0),
  (54, .ireturn, 1, 0, 0, 0)]
def op_X0_rankOf : List cv_Q := [
  (0, .iload_n 0, 1, 0, 0, 0), (1, .tableswitch 84 20000 20013 #[73, 75, 77, 84, 84, 84, 84, 84, 84, 79, 79, 81, 81, 71], 71, 0, 0, 0), (72, .iconst (-1), 1, 0, 0, 0), (73, .ireturn, 1, 0, 0, 0),
  (74, .iconst 1, 1, 0, 0, 0), (75, .ireturn, 1, 0, 0, 0), (76, .iconst 2, 1, 0, 0, 0), (77, .ireturn, 1, 0, 0, 0),
  (78, .iconst 3, 1, 0, 0, 0), (79, .ireturn, 1, 0, 0, 0), (80, .iconst 5, 1, 0, 0, 0), (81, .ireturn, 1, 0, 0, 0),
  (82, .bipush 6, 2, 0, 0, 0), (84, .ireturn, 1, 0, 0, 0), (85, .iconst 4, 1, 0, 0, 0), (86, .ireturn, 1, 0, 0, 0)]
def op_X0_holdKnot : List cv_Q := [
  (0, .aload_n 0, 1, 0, 0, 0), (1, .getfield 19, 3, 0, 7, 4), (4, .getfield 76, 3, 4, 3, 0), (7, .bipush 64, 2, 0, 0, 0),
  (9, .if_icmp .lt 5, 3, 0, 0, 0), (12, .iconst 2, 1, 0, 0, 0), (13, .ireturn, 1, 0, 0, 0), (14, .aload_n 0, 1, 0, 0, 0),
  (15, .getfield 19, 3, 0, 7, 4), (18, .dup, 1, 0, 0, 0), (19, .getfield 76, 3, 4, 3, 0), (22, .iconst 1, 1, 0, 0, 0),
  (23, .iadd, 1, 0, 0, 0), (24, .putfield 76, 3, 4, 3, 0), (27, .aload_n 0, 1, 0, 0, 0), (28, .iload_n 1, 1, 0, 0, 0),
  (29, .invokevirtual 84, 3, 10, 1, 0), (32, .iconst 0, 1, 0, 0, 0), (33, .ireturn, 1, 0, 0, 0)]
def op_X0_hold : List cv_Q := [
  (0, .aload_n 0, 1, 0, 0, 0), (1, .getfield 23, 3, 0, 2, 0), (4, .ifCond .lt 35, 3, 0, 0, 0), (7, .aload_n 0, 1, 0, 0, 0),
  (8, .getfield 23, 3, 0, 2, 0), (11, .aload_n 0, 1, 0, 0, 0), (12, .getfield 9, 3, 0, 1, 4), (15, .arraylength, 1, 0, 0, 0),
  (16, .if_icmp .ge 23, 3, 0, 0, 0), (19, .aload_n 0, 1, 0, 0, 0), (20, .getfield 9, 3, 0, 1, 4), (23, .aload_n 0, 1, 0, 0, 0),
  (24, .getfield 23, 3, 0, 2, 0), (27, .iload_n 1, 1, 0, 0, 0), (28, .iastore, 1, 0, 0, 0), (29, .aload_n 0, 1, 0, 0, 0),
  (30, .dup, 1, 0, 0, 0), (31, .getfield 23, 3, 0, 2, 0), (34, .iconst 1, 1, 0, 0, 0), (35, .iadd, 1, 0, 0, 0),
  (36, .putfield 23, 3, 0, 2, 0), (39, .return_, 1, 0, 0, 0)]
def op_X0_latestHeld : List cv_Q := [
  (0, .aload_n 0, 1, 0, 0, 0), (1, .getfield 23, 3, 0, 2, 0), (4, .ifCond .le 29, 3, 0, 0, 0), (7, .aload_n 0, 1, 0, 0, 0),
  (8, .getfield 23, 3, 0, 2, 0), (11, .aload_n 0, 1, 0, 0, 0), (12, .getfield 9, 3, 0, 1, 4), (15, .arraylength, 1, 0, 0, 0),
  (16, .if_icmp .gt 17, 3, 0, 0, 0), (19, .aload_n 0, 1, 0, 0, 0), (20, .getfield 9, 3, 0, 1, 4), (23, .aload_n 0, 1, 0, 0, 0),
  (24, .getfield 23, 3, 0, 2, 0), (27, .iconst 1, 1, 0, 0, 0), (28, .isub, 1, 0, 0, 0), (29, .iaload, 1, 0, 0, 0),
  (30, .goto 6, 3, 0, 0, 0), (33, .sipush 20013, 3, 0, 0, 0), (36, .ireturn, 1, 0, 0, 0)]
def op_X0_release : List cv_Q := [
  (0, .aload_n 0, 1, 0, 0, 0), (1, .getfield 23, 3, 0, 2, 0), (4, .ifCond .le 38, 3, 0, 0, 0), (7, .aload_n 0, 1, 0, 0, 0),
  (8, .invokevirtual 102, 3, 11, 0, 0), (11, .invokestatic 99, 3, 8, 1, 0), (14, .iload_n 1, 1, 0, 0, 0), (15, .if_icmp .lt 27, 3, 0, 0, 0),
  (18, .aload_n 0, 1, 0, 0, 0), (19, .getfield 19, 3, 0, 7, 4), (22, .aload_n 0, 1, 0, 0, 0), (23, .invokevirtual 102, 3, 11, 0, 0),
  (26, .invokevirtual 81, 3, 58, 1, 4), (29, .aload_n 0, 1, 0, 0, 0), (30, .dup, 1, 0, 0, 0), (31, .getfield 23, 3, 0, 2, 0),
  (34, .iconst 1, 1, 0, 0, 0), (35, .isub, 1, 0, 0, 0), (36, .putfield 23, 3, 0, 2, 0), (39, .goto (-39), 3, 0, 0, 0),
  (42, .return_, 1, 0, 0, 0)]
def op_X1_init : List cv_Q := [
  (0, .aload_n 0, 1, 0, 0, 0), (1, .invokespecial 3, 3, 9999, 0, 0), (4, .aload_n 0, 1, 0, 0, 0), (5, .aload_n 1, 1, 0, 0, 0),
  (6, .putfield 9, 3, 1, 0, 4), (9, .return_, 1, 0, 0, 0)]
def op_X1_begin_0 : List cv_Q := [
  (0, .iload_n 2, 1, 0, 0, 0), (1, .ifCond .lt 12, 3, 0, 0, 0), (4, .iload_n 2, 1, 0, 0, 0), (5, .aload_n 1, 1, 0, 0, 0),
  (6, .getfield 15, 3, 4, 7, 4), (9, .arraylength, 1, 0, 0, 0), (10, .if_icmp .lt 4, 3, 0, 0, 0), (13, .return_, 1, 0, 0, 0),
  (14, .aload_n 0, 1, 0, 0, 0), (15, .aload_n 1, 1, 0, 0, 0), (16, .getfield 15, 3, 4, 7, 4), (19, .iload_n 2, 1, 0, 0, 0),
  (20, .aaload, 1, 0, 0, 0), (21, .putfield 9, 3, 1, 0, 4), (24, .aload_n 0, 1, 0, 0, 0), (25, .iconst 0, 1, 0, 0, 0),
  (26, .putfield 21, 3, 1, 1, 0), (29, .aload_n 0, 1, 0, 0, 0), (30, .iconst 0, 1, 0, 0, 0), (31, .putfield 25, 3, 1, 2, 0),
  (34, .aload_n 0, 1, 0, 0, 0), (35, .iconst 0, 1, 0, 0, 0), (36, .putfield 28, 3, 1, 3, 0), (39, .aload_n 0, 1, 0, 0, 0),
  (40, .iconst 0, 1, 0, 0, 0), (41, .putfield 31, 3, 1, 4, 0), (44, .aload_n 0, 1, 0, 0, 0), (45, .aload_n 0, 1, 0, 0, 0),
  (46, .getfield 9, 3, 1, 0, 4), (49, .getfield 34, 3, 7, 7, 0), (52, .putfield 39, 3, 1, 5, 0), (55, .aload_n 0, 1, 0, 0, 0),
  (56, .aload_n 0, 1, 0, 0, 0), (57, .getfield 9, 3, 1, 0, 4), (60, .getfield 40, 3, 7, 9, 0), (63, .putfield 43, 3, 1, 6, 0),
  (66, .aload_n 0, 1, 0, 0, 0), (67, .iconst 0, 1, 0, 0, 0), (68, .putfield 44, 3, 1, 7, 0), (71, .aload_n 0, 1, 0, 0, 0),
  (72, .iconst 0, 1, 0, 0, 0), (73, .putfield 47, 3, 1, 8, 0), (76, .aload_n 0, 1, 0, 0, 0), (77, .aload_n 0, 1, 0, 0, 0),
  (78, .getfield 9, 3, 1, 0, 4), (81, .getfield 50, 3, 7, 12, 0), (84, .putfield 53, 3, 1, 9, 0), (87, .aload_n 0, 1, 0, 0, 0),
  (88, .iconst 0, 1, 0, 0, 0), (89, .putfield 54, 3, 1, 10, 0), (92, .aload_n 0, 1, 0, 0, 0), (93, .aload_n 0, 1, 0, 0, 0),
  (94, .getfield 9, 3, 1, 0, 4), (97, .getfield 57, 3, 7, 5, 0), (100, .putfield 60, 3, 1, 15, 0), (103, .aload_n 0, 1, 0, 0, 0),
  (104, .aload_n 0, 1, 0, 0, 0), (105, .getfield 9, 3, 1, 0, 4), (108, .getfield 61, 3, 7, 6, 0), (111, .putfield 64, 3, 1, 16, 0)]
def op_X1_begin_1 : List cv_Q := [
  (114, .aload_n 0, 1, 0, 0, 0), (115, .aload_n 1, 1, 0, 0, 0), (116, .aload_n 0, 1, 0, 0, 0), (117, .getfield 9, 3, 1, 0, 4),
  (120, .getfield 65, 3, 7, 14, 0), (123, .invokevirtual 68, 3, 15, 2, 1), (126, .return_, 1, 0, 0, 0)]
def op_X1_begin : List cv_Q := op_X1_begin_0 ++ (op_X1_begin_1)
def op_X1_setCauses : List cv_Q := [
  (0, .aload_n 0, 1, 0, 0, 0), (1, .iload_n 2, 1, 0, 0, 0), (2, .putfield 72, 3, 1, 11, 0), (5, .aload_n 0, 1, 0, 0, 0),
  (6, .aload_n 1, 1, 0, 0, 0), (7, .iload_n 2, 1, 0, 0, 0), (8, .iconst 0, 1, 0, 0, 0), (9, .invokevirtual 73, 3, 56, 2, 4),
  (12, .putfield 77, 3, 1, 12, 0), (15, .aload_n 0, 1, 0, 0, 0), (16, .aload_n 1, 1, 0, 0, 0), (17, .iload_n 2, 1, 0, 0, 0),
  (18, .iconst 1, 1, 0, 0, 0), (19, .invokevirtual 73, 3, 56, 2, 4), (22, .putfield 80, 3, 1, 13, 0), (25, .aload_n 0, 1, 0, 0, 0),
  (26, .aload_n 1, 1, 0, 0, 0), (27, .iload_n 2, 1, 0, 0, 0), (28, .iconst 2, 1, 0, 0, 0), (29, .invokevirtual 73, 3, 56, 2, 4),
  (32, .putfield 83, 3, 1, 14, 0), (35, .return_, 1, 0, 0, 0)]
def op_X1_copy_0 : List cv_Q := [
  (0, .aload_n 0, 1, 0, 0, 0), (1, .aload_n 1, 1, 0, 0, 0), (2, .getfield 9, 3, 1, 0, 4), (5, .putfield 9, 3, 1, 0, 4),
  (8, .aload_n 0, 1, 0, 0, 0), (9, .aload_n 1, 1, 0, 0, 0), (10, .getfield 21, 3, 1, 1, 0), (13, .putfield 21, 3, 1, 1, 0),
  (16, .aload_n 0, 1, 0, 0, 0), (17, .aload_n 1, 1, 0, 0, 0), (18, .getfield 25, 3, 1, 2, 0), (21, .putfield 25, 3, 1, 2, 0),
  (24, .aload_n 0, 1, 0, 0, 0), (25, .aload_n 1, 1, 0, 0, 0), (26, .getfield 28, 3, 1, 3, 0), (29, .putfield 28, 3, 1, 3, 0),
  (32, .aload_n 0, 1, 0, 0, 0), (33, .aload_n 1, 1, 0, 0, 0), (34, .getfield 31, 3, 1, 4, 0), (37, .putfield 31, 3, 1, 4, 0),
  (40, .aload_n 0, 1, 0, 0, 0), (41, .aload_n 1, 1, 0, 0, 0), (42, .getfield 39, 3, 1, 5, 0), (45, .putfield 39, 3, 1, 5, 0),
  (48, .aload_n 0, 1, 0, 0, 0), (49, .aload_n 1, 1, 0, 0, 0), (50, .getfield 43, 3, 1, 6, 0), (53, .putfield 43, 3, 1, 6, 0),
  (56, .aload_n 0, 1, 0, 0, 0), (57, .aload_n 1, 1, 0, 0, 0), (58, .getfield 44, 3, 1, 7, 0), (61, .putfield 44, 3, 1, 7, 0),
  (64, .aload_n 0, 1, 0, 0, 0), (65, .aload_n 1, 1, 0, 0, 0), (66, .getfield 47, 3, 1, 8, 0), (69, .putfield 47, 3, 1, 8, 0),
  (72, .aload_n 0, 1, 0, 0, 0), (73, .aload_n 1, 1, 0, 0, 0), (74, .getfield 53, 3, 1, 9, 0), (77, .putfield 53, 3, 1, 9, 0),
  (80, .aload_n 0, 1, 0, 0, 0), (81, .aload_n 1, 1, 0, 0, 0), (82, .getfield 54, 3, 1, 10, 0), (85, .putfield 54, 3, 1, 10, 0),
  (88, .aload_n 0, 1, 0, 0, 0), (89, .aload_n 1, 1, 0, 0, 0), (90, .getfield 72, 3, 1, 11, 0), (93, .putfield 72, 3, 1, 11, 0),
  (96, .aload_n 0, 1, 0, 0, 0), (97, .aload_n 1, 1, 0, 0, 0), (98, .getfield 77, 3, 1, 12, 0), (101, .putfield 77, 3, 1, 12, 0),
  (104, .aload_n 0, 1, 0, 0, 0), (105, .aload_n 1, 1, 0, 0, 0), (106, .getfield 80, 3, 1, 13, 0), (109, .putfield 80, 3, 1, 13, 0),
  (112, .aload_n 0, 1, 0, 0, 0), (113, .aload_n 1, 1, 0, 0, 0), (114, .getfield 83, 3, 1, 14, 0), (117, .putfield 83, 3, 1, 14, 0)]
def op_X1_copy_1 : List cv_Q := [
  (120, .aload_n 0, 1, 0, 0, 0), (121, .aload_n 1, 1, 0, 0, 0), (122, .getfield 60, 3, 1, 15, 0), (125, .putfield 60, 3, 1, 15, 0),
  (128, .aload_n 0, 1, 0, 0, 0), (129, .aload_n 1, 1, 0, 0, 0), (130, .getfield 64, 3, 1, 16, 0), (133, .putfield 64, 3, 1, 16, 0),
  (136, .return_, 1, 0, 0, 0)]
def op_X1_copy : List cv_Q := op_X1_copy_0 ++ (op_X1_copy_1)
def op_X1_pull : List cv_Q := [
  (0, .aload_n 0, 1, 0, 0, 0), (1, .getfield 9, 3, 1, 0, 4), (4, .invokevirtual 86, 3, 88, 0, 7), (7, .istore_n 1, 1, 0, 0, 0),
  (8, .iload_n 1, 1, 0, 0, 0), (9, .ifCond .gt 5, 3, 0, 0, 0), (12, .iconst 0, 1, 0, 0, 0), (13, .ireturn, 1, 0, 0, 0),
  (14, .aload_n 0, 1, 0, 0, 0), (15, .getfield 9, 3, 1, 0, 4), (18, .getfield 90, 3, 7, 0, 0), (21, .aload_n 0, 1, 0, 0, 0),
  (22, .getfield 9, 3, 1, 0, 4), (25, .getfield 93, 3, 7, 2, 0), (28, .iconst 2, 1, 0, 0, 0), (29, .aload_n 0, 1, 0, 0, 0),
  (30, .getfield 53, 3, 1, 9, 0), (33, .imul, 1, 0, 0, 0), (34, .iadd, 1, 0, 0, 0), (35, .imul, 1, 0, 0, 0),
  (36, .iconst 2, 1, 0, 0, 0), (37, .iload_n 1, 1, 0, 0, 0), (38, .imul, 1, 0, 0, 0), (39, .idiv, 1, 0, 0, 0),
  (40, .istore_n 2, 1, 0, 0, 0), (41, .iload_n 2, 1, 0, 0, 0), (42, .bipush 100, 2, 0, 0, 0), (44, .aload_n 0, 1, 0, 0, 0),
  (45, .getfield 44, 3, 1, 7, 0), (48, .isub, 1, 0, 0, 0), (49, .imul, 1, 0, 0, 0), (50, .bipush 100, 2, 0, 0, 0),
  (52, .idiv, 1, 0, 0, 0), (53, .ireturn, 1, 0, 0, 0)]
def op_X1_leanPart : List cv_Q := [
  (0, .aload_n 0, 1, 0, 0, 0), (1, .getfield 9, 3, 1, 0, 4), (4, .getfield 96, 3, 7, 1, 0), (7, .ifCond .le 26, 3, 0, 0, 0),
  (10, .aload_n 0, 1, 0, 0, 0), (11, .getfield 21, 3, 1, 1, 0), (14, .aload_n 0, 1, 0, 0, 0), (15, .getfield 9, 3, 1, 0, 4),
  (18, .getfield 90, 3, 7, 0, 0), (21, .imul, 1, 0, 0, 0), (22, .aload_n 0, 1, 0, 0, 0), (23, .getfield 9, 3, 1, 0, 4),
  (26, .getfield 96, 3, 7, 1, 0), (29, .idiv, 1, 0, 0, 0), (30, .goto 4, 3, 0, 0, 0), (33, .iconst 0, 1, 0, 0, 0),
  (34, .ireturn, 1, 0, 0, 0)]
def op_X1_hooksPart : List cv_Q := [
  (0, .aload_n 0, 1, 0, 0, 0), (1, .getfield 9, 3, 1, 0, 4), (4, .invokevirtual 86, 3, 88, 0, 7), (7, .istore_n 1, 1, 0, 0, 0),
  (8, .iload_n 1, 1, 0, 0, 0), (9, .ifCond .le 20, 3, 0, 0, 0), (12, .aload_n 0, 1, 0, 0, 0), (13, .getfield 28, 3, 1, 3, 0),
  (16, .aload_n 0, 1, 0, 0, 0), (17, .getfield 9, 3, 1, 0, 4), (20, .getfield 90, 3, 7, 0, 0), (23, .imul, 1, 0, 0, 0),
  (24, .iload_n 1, 1, 0, 0, 0), (25, .idiv, 1, 0, 0, 0), (26, .goto 4, 3, 0, 0, 0), (29, .iconst 0, 1, 0, 0, 0),
  (30, .ireturn, 1, 0, 0, 0)]
def op_X1_drop : List cv_Q := [
  (0, .aload_n 0, 1, 0, 0, 0), (1, .invokevirtual 99, 3, 18, 0, 1), (4, .aload_n 0, 1, 0, 0, 0), (5, .getfield 25, 3, 1, 2, 0),
  (8, .iadd, 1, 0, 0, 0), (9, .aload_n 0, 1, 0, 0, 0), (10, .invokevirtual 102, 3, 19, 0, 1), (13, .iadd, 1, 0, 0, 0),
  (14, .aload_n 0, 1, 0, 0, 0), (15, .getfield 31, 3, 1, 4, 0), (18, .isub, 1, 0, 0, 0), (19, .ireturn, 1, 0, 0, 0)]
def op_X1_measured : List cv_Q := [
  (0, .iload_n 1, 1, 0, 0, 0), (1, .tableswitch 42 0 2 #[27, 32, 37], 27, 0, 0, 0), (28, .aload_n 0, 1, 0, 0, 0), (29, .invokevirtual 105, 3, 20, 0, 1),
  (32, .ireturn, 1, 0, 0, 0), (33, .aload_n 0, 1, 0, 0, 0), (34, .getfield 21, 3, 1, 1, 0), (37, .ireturn, 1, 0, 0, 0),
  (38, .aload_n 0, 1, 0, 0, 0), (39, .getfield 25, 3, 1, 2, 0), (42, .ireturn, 1, 0, 0, 0), (43, .aload_n 0, 1, 0, 0, 0),
  (44, .getfield 28, 3, 1, 3, 0), (47, .ireturn, 1, 0, 0, 0)]
def op_X1_isLatched : List cv_Q := [
  (0, .aload_n 0, 1, 0, 0, 0), (1, .invokevirtual 105, 3, 20, 0, 1), (4, .istore_n 1, 1, 0, 0, 0), (5, .iload_n 1, 1, 0, 0, 0),
  (6, .aload_n 0, 1, 0, 0, 0), (7, .getfield 9, 3, 1, 0, 4), (10, .getfield 108, 3, 7, 10, 0), (13, .ineg, 1, 0, 0, 0),
  (14, .if_icmp .lt 18, 3, 0, 0, 0), (17, .iload_n 1, 1, 0, 0, 0), (18, .aload_n 0, 1, 0, 0, 0), (19, .getfield 9, 3, 1, 0, 4),
  (22, .getfield 111, 3, 7, 11, 0), (25, .if_icmp .gt 7, 3, 0, 0, 0), (28, .iconst 1, 1, 0, 0, 0), (29, .goto 4, 3, 0, 0, 0),
  (32, .iconst 0, 1, 0, 0, 0), (33, .ireturn, 1, 0, 0, 0)]
def op_X1_take_0 : List cv_Q := [
  (0, .aload_n 1, 1, 0, 0, 0), (1, .iload_n 2, 1, 0, 0, 0), (2, .invokevirtual 114, 3, 50, 1, 4), (5, .ifCond .ne 4, 3, 0, 0, 0),
  (8, .return_, 1, 0, 0, 0), (9, .aload_n 1, 1, 0, 0, 0), (10, .getfield 118, 3, 4, 13, 4), (13, .iload_n 2, 1, 0, 0, 0),
  (14, .iaload, 1, 0, 0, 0), (15, .istore_n 3, 1, 0, 0, 0), (16, .aload_n 0, 1, 0, 0, 0), (17, .dup, 1, 0, 0, 0),
  (18, .getfield 54, 3, 1, 10, 0), (21, .iconst 1, 1, 0, 0, 0), (22, .iload_n 2, 1, 0, 0, 0), (23, .ishl, 1, 0, 0, 0),
  (24, .ior, 1, 0, 0, 0), (25, .putfield 54, 3, 1, 10, 0), (28, .aload_n 1, 1, 0, 0, 0), (29, .getfield 122, 3, 4, 12, 4),
  (32, .iload_n 2, 1, 0, 0, 0), (33, .iaload, 1, 0, 0, 0), (34, .tableswitch 106 0 5 #[38, 46, 54, 67, 75, 88], 38, 0, 0, 0), (72, .aload_n 0, 1, 0, 0, 0),
  (73, .iconst 1, 1, 0, 0, 0), (74, .putfield 43, 3, 1, 6, 0), (77, .goto 78, 3, 0, 0, 0), (80, .aload_n 0, 1, 0, 0, 0),
  (81, .iconst 0, 1, 0, 0, 0), (82, .putfield 25, 3, 1, 2, 0), (85, .goto 70, 3, 0, 0, 0), (88, .aload_n 0, 1, 0, 0, 0),
  (89, .dup, 1, 0, 0, 0), (90, .getfield 31, 3, 1, 4, 0), (93, .iload_n 3, 1, 0, 0, 0), (94, .iadd, 1, 0, 0, 0),
  (95, .putfield 31, 3, 1, 4, 0), (98, .goto 57, 3, 0, 0, 0), (101, .aload_n 0, 1, 0, 0, 0), (102, .iload_n 3, 1, 0, 0, 0),
  (103, .putfield 44, 3, 1, 7, 0), (106, .goto 49, 3, 0, 0, 0), (109, .aload_n 0, 1, 0, 0, 0), (110, .dup, 1, 0, 0, 0),
  (111, .getfield 47, 3, 1, 8, 0), (114, .iload_n 3, 1, 0, 0, 0), (115, .iadd, 1, 0, 0, 0), (116, .putfield 47, 3, 1, 8, 0),
  (119, .goto 36, 3, 0, 0, 0), (122, .aload_n 0, 1, 0, 0, 0), (123, .iconst 0, 1, 0, 0, 0), (124, .putfield 21, 3, 1, 1, 0),
  (127, .aload_n 0, 1, 0, 0, 0), (128, .dup, 1, 0, 0, 0), (129, .getfield 39, 3, 1, 5, 0), (132, .iload_n 3, 1, 0, 0, 0),
  (133, .iadd, 1, 0, 0, 0), (134, .putfield 39, 3, 1, 5, 0), (137, .goto 18, 3, 0, 0, 0), (140, .aload_n 0, 1, 0, 0, 0)]
def op_X1_take_1 : List cv_Q := [
  (141, .iconst 0, 1, 0, 0, 0), (142, .putfield 28, 3, 1, 3, 0), (145, .aload_n 0, 1, 0, 0, 0), (146, .dup, 1, 0, 0, 0),
  (147, .getfield 31, 3, 1, 4, 0), (150, .iload_n 3, 1, 0, 0, 0), (151, .iadd, 1, 0, 0, 0), (152, .putfield 31, 3, 1, 4, 0),
  (155, .return_, 1, 0, 0, 0)]
def op_X1_take : List cv_Q := op_X1_take_0 ++ (op_X1_take_1)
def op_X1_grow : List cv_Q := [
  (0, .aload_n 0, 1, 0, 0, 0), (1, .ldc 125, 2, 0, 0, 1000000), (3, .aload_n 0, 1, 0, 0, 0), (4, .getfield 21, 3, 1, 1, 0),
  (7, .iload_n 1, 1, 0, 0, 0), (8, .iadd, 1, 0, 0, 0), (9, .aload_n 0, 1, 0, 0, 0), (10, .getfield 77, 3, 1, 12, 0),
  (13, .iadd, 1, 0, 0, 0), (14, .invokestatic 126, 3, 9002, 2, 0), (17, .putfield 21, 3, 1, 1, 0), (20, .aload_n 0, 1, 0, 0, 0),
  (21, .ldc 125, 2, 0, 0, 1000000), (23, .aload_n 0, 1, 0, 0, 0), (24, .getfield 25, 3, 1, 2, 0), (27, .iload_n 2, 1, 0, 0, 0),
  (28, .iadd, 1, 0, 0, 0), (29, .aload_n 0, 1, 0, 0, 0), (30, .getfield 80, 3, 1, 13, 0), (33, .iadd, 1, 0, 0, 0),
  (34, .invokestatic 126, 3, 9002, 2, 0), (37, .putfield 25, 3, 1, 2, 0), (40, .aload_n 0, 1, 0, 0, 0), (41, .ldc 125, 2, 0, 0, 1000000),
  (43, .aload_n 0, 1, 0, 0, 0), (44, .getfield 28, 3, 1, 3, 0), (47, .iload_n 3, 1, 0, 0, 0), (48, .iadd, 1, 0, 0, 0),
  (49, .aload_n 0, 1, 0, 0, 0), (50, .getfield 83, 3, 1, 14, 0), (53, .iadd, 1, 0, 0, 0), (54, .invokestatic 126, 3, 9002, 2, 0),
  (57, .putfield 28, 3, 1, 3, 0), (60, .return_, 1, 0, 0, 0)]
def op_X1_lowHung : List cv_Q := [
  (0, .iload_n 1, 1, 0, 0, 0), (1, .invokestatic 131, 3, 117, 1, 0), (4, .ifCond .eq 13, 3, 0, 0, 0), (7, .aload_n 0, 1, 0, 0, 0),
  (8, .getfield 9, 3, 1, 0, 4), (11, .getfield 96, 3, 7, 1, 0), (14, .ifCond .gt 5, 3, 0, 0, 0), (17, .iconst 0, 1, 0, 0, 0),
  (18, .ireturn, 1, 0, 0, 0), (19, .bipush 100, 2, 0, 0, 0), (21, .aload_n 0, 1, 0, 0, 0), (22, .getfield 60, 3, 1, 15, 0),
  (25, .imul, 1, 0, 0, 0), (26, .aload_n 0, 1, 0, 0, 0), (27, .getfield 21, 3, 1, 1, 0), (30, .aload_n 0, 1, 0, 0, 0),
  (31, .getfield 9, 3, 1, 0, 4), (34, .invokevirtual 86, 3, 88, 0, 7), (37, .imul, 1, 0, 0, 0), (38, .aload_n 0, 1, 0, 0, 0),
  (39, .getfield 9, 3, 1, 0, 4), (42, .getfield 96, 3, 7, 1, 0), (45, .idiv, 1, 0, 0, 0), (46, .iadd, 1, 0, 0, 0),
  (47, .istore_n 2, 1, 0, 0, 0), (48, .bipush 100, 2, 0, 0, 0), (50, .aload_n 0, 1, 0, 0, 0), (51, .getfield 64, 3, 1, 16, 0),
  (54, .imul, 1, 0, 0, 0), (55, .istore_n 3, 1, 0, 0, 0), (56, .iload_n 2, 1, 0, 0, 0), (57, .getstatic 134, 3, 4, 0, 0),
  (60, .iload_n 1, 1, 0, 0, 0), (61, .iaload, 1, 0, 0, 0), (62, .imul, 1, 0, 0, 0), (63, .iload_n 3, 1, 0, 0, 0),
  (64, .getstatic 137, 3, 5, 0, 0), (67, .iload_n 1, 1, 0, 0, 0), (68, .iaload, 1, 0, 0, 0), (69, .imul, 1, 0, 0, 0),
  (70, .iadd, 1, 0, 0, 0), (71, .ireturn, 1, 0, 0, 0)]
def op_X1_aboveHung : List cv_Q := [
  (0, .aload_n 0, 1, 0, 0, 0), (1, .getfield 9, 3, 1, 0, 4), (4, .invokevirtual 86, 3, 88, 0, 7), (7, .istore_n 2, 1, 0, 0, 0),
  (8, .iload_n 1, 1, 0, 0, 0), (9, .invokestatic 131, 3, 117, 1, 0), (12, .ifCond .eq 7, 3, 0, 0, 0), (15, .iload_n 2, 1, 0, 0, 0),
  (16, .ifCond .gt 5, 3, 0, 0, 0), (19, .iconst 0, 1, 0, 0, 0), (20, .ireturn, 1, 0, 0, 0), (21, .aload_n 0, 1, 0, 0, 0),
  (22, .iconst 0, 1, 0, 0, 0), (23, .invokevirtual 140, 3, 25, 1, 1), (26, .i2l, 1, 0, 0, 0), (27, .aload_n 0, 1, 0, 0, 0),
  (28, .iload_n 1, 1, 0, 0, 0), (29, .invokevirtual 140, 3, 25, 1, 1), (32, .i2l, 1, 0, 0, 0), (33, .lsub, 1, 0, 0, 0),
  (34, .lstore_n 3, 1, 0, 0, 0), (35, .aload_n 0, 1, 0, 0, 0), (36, .getfield 9, 3, 1, 0, 4), (39, .getfield 90, 3, 7, 0, 0),
  (42, .i2l, 1, 0, 0, 0), (43, .lload_n 3, 1, 0, 0, 0), (44, .lmul, 1, 0, 0, 0), (45, .ldc2_w 144, 3, 0, 0, 1000),
  (48, .iload_n 2, 1, 0, 0, 0), (49, .i2l, 1, 0, 0, 0), (50, .lmul, 1, 0, 0, 0), (51, .ldiv, 1, 0, 0, 0),
  (52, .lstore 5, 2, 0, 0, 0), (54, .lload 5, 2, 0, 0, 0), (56, .l2i, 1, 0, 0, 0), (57, .aload_n 0, 1, 0, 0, 0),
  (58, .getfield 9, 3, 1, 0, 4), (61, .getfield 146, 3, 7, 13, 0), (64, .iadd, 1, 0, 0, 0), (65, .aload_n 0, 1, 0, 0, 0),
  (66, .invokevirtual 105, 3, 20, 0, 1), (69, .isub, 1, 0, 0, 0), (70, .bipush 100, 2, 0, 0, 0), (72, .aload_n 0, 1, 0, 0, 0),
  (73, .getfield 9, 3, 1, 0, 4), (76, .getfield 149, 3, 7, 16, 4), (79, .iload_n 1, 1, 0, 0, 0), (80, .iaload, 1, 0, 0, 0),
  (81, .imul, 1, 0, 0, 0), (82, .isub, 1, 0, 0, 0), (83, .ireturn, 1, 0, 0, 0)]
def op_X1_standsWith : List cv_Q := [
  (0, .aload_n 0, 1, 0, 0, 0), (1, .iload_n 1, 1, 0, 0, 0), (2, .putfield 60, 3, 1, 15, 0), (5, .aload_n 0, 1, 0, 0, 0),
  (6, .iload_n 2, 1, 0, 0, 0), (7, .putfield 64, 3, 1, 16, 0), (10, .iconst 0, 1, 0, 0, 0), (11, .istore 4, 2, 0, 0, 0),
  (13, .iload 4, 2, 0, 0, 0), (15, .iload_n 3, 1, 0, 0, 0), (16, .if_icmp .gt 44, 3, 0, 0, 0), (19, .iload 4, 2, 0, 0, 0),
  (21, .ifCond .le 22, 3, 0, 0, 0), (24, .aload_n 0, 1, 0, 0, 0), (25, .iload 4, 2, 0, 0, 0), (27, .iconst 1, 1, 0, 0, 0),
  (28, .isub, 1, 0, 0, 0), (29, .invokevirtual 140, 3, 25, 1, 1), (32, .aload_n 0, 1, 0, 0, 0), (33, .iload 4, 2, 0, 0, 0),
  (35, .invokevirtual 140, 3, 25, 1, 1), (38, .if_icmp .gt 5, 3, 0, 0, 0), (41, .iconst 0, 1, 0, 0, 0), (42, .ireturn, 1, 0, 0, 0),
  (43, .aload_n 0, 1, 0, 0, 0), (44, .iload 4, 2, 0, 0, 0), (46, .invokevirtual 152, 3, 26, 1, 1), (49, .ifCond .ge 5, 3, 0, 0, 0),
  (52, .iconst 0, 1, 0, 0, 0), (53, .ireturn, 1, 0, 0, 0), (54, .iinc 4 1, 3, 0, 0, 0), (57, .goto (-44), 3, 0, 0, 0),
  (60, .iconst 1, 1, 0, 0, 0), (61, .ireturn, 1, 0, 0, 0)]
def op_X2_init : List cv_Q := [
  (0, .aload_n 0, 1, 0, 0, 0), (1, .invokespecial 3, 3, 9999, 0, 0), (4, .aload_n 0, 1, 0, 0, 0), (5, .bipush 10, 2, 0, 0, 0),
  (7, .newarray .long, 2, 3, 0, 0), (9, .putfield 9, 3, 2, 0, 4), (12, .aload_n 0, 1, 0, 0, 0), (13, .bipush 64, 2, 0, 0, 0),
  (15, .newarray .long, 2, 3, 0, 0), (17, .putfield 15, 3, 2, 1, 4), (20, .aload_n 0, 1, 0, 0, 0), (21, .iconst 3, 1, 0, 0, 0),
  (22, .newarray .int, 2, 0, 0, 0), (24, .putfield 18, 3, 2, 2, 4), (27, .aload_n 0, 1, 0, 0, 0), (28, .iconst (-1), 1, 0, 0, 0),
  (29, .putfield 22, 3, 2, 3, 0), (32, .return_, 1, 0, 0, 0)]
def op_X2_forget : List cv_Q := [
  (0, .aload_n 0, 1, 0, 0, 0), (1, .iconst (-1), 1, 0, 0, 0), (2, .putfield 22, 3, 2, 3, 0), (5, .iconst 0, 1, 0, 0, 0),
  (6, .istore_n 1, 1, 0, 0, 0), (7, .iload_n 1, 1, 0, 0, 0), (8, .iconst 3, 1, 0, 0, 0), (9, .if_icmp .ge 16, 3, 0, 0, 0),
  (12, .aload_n 0, 1, 0, 0, 0), (13, .getfield 18, 3, 2, 2, 4), (16, .iload_n 1, 1, 0, 0, 0), (17, .iconst 0, 1, 0, 0, 0),
  (18, .iastore, 1, 0, 0, 0), (19, .iinc 1 1, 3, 0, 0, 0), (22, .goto (-15), 3, 0, 0, 0), (25, .return_, 1, 0, 0, 0)]
def op_X2_put : List cv_Q := [
  (0, .iload_n 1, 1, 0, 0, 0), (1, .ifCond .lt 39, 3, 0, 0, 0), (4, .iload_n 1, 1, 0, 0, 0), (5, .bipush 10, 2, 0, 0, 0),
  (7, .if_icmp .ge 33, 3, 0, 0, 0), (10, .aload_n 0, 1, 0, 0, 0), (11, .getfield 9, 3, 2, 0, 4), (14, .iload_n 1, 1, 0, 0, 0),
  (15, .laload, 1, 0, 0, 0), (16, .lload_n 2, 1, 0, 0, 0), (17, .lcmp, 1, 0, 0, 0), (18, .ifCond .eq 22, 3, 0, 0, 0),
  (21, .aload_n 0, 1, 0, 0, 0), (22, .getfield 9, 3, 2, 0, 4), (25, .iload_n 1, 1, 0, 0, 0), (26, .lload_n 2, 1, 0, 0, 0),
  (27, .lastore, 1, 0, 0, 0), (28, .aload_n 0, 1, 0, 0, 0), (29, .dup, 1, 0, 0, 0), (30, .getfield 22, 3, 2, 3, 0),
  (33, .iconst 1, 1, 0, 0, 0), (34, .iload_n 1, 1, 0, 0, 0), (35, .ishl, 1, 0, 0, 0), (36, .ior, 1, 0, 0, 0),
  (37, .putfield 22, 3, 2, 3, 0), (40, .return_, 1, 0, 0, 0)]
def op_X2_see_0 : List cv_Q := [
  (0, .aload_n 0, 1, 0, 0, 0), (1, .iconst 0, 1, 0, 0, 0), (2, .aload_n 2, 1, 0, 0, 0), (3, .invokevirtual 26, 3, 17, 0, 1),
  (6, .i2l, 1, 0, 0, 0), (7, .invokevirtual 32, 3, 30, 2, 2), (10, .aload_n 0, 1, 0, 0, 0), (11, .iconst 1, 1, 0, 0, 0),
  (12, .aload_n 1, 1, 0, 0, 0), (13, .iload_n 3, 1, 0, 0, 0), (14, .invokevirtual 36, 3, 53, 1, 4), (17, .aload_n 2, 1, 0, 0, 0),
  (18, .getfield 42, 3, 1, 8, 0), (21, .iadd, 1, 0, 0, 0), (22, .i2l, 1, 0, 0, 0), (23, .invokevirtual 32, 3, 30, 2, 2),
  (26, .aload_n 0, 1, 0, 0, 0), (27, .iconst 2, 1, 0, 0, 0), (28, .aload_n 2, 1, 0, 0, 0), (29, .getfield 45, 3, 1, 5, 0),
  (32, .i2l, 1, 0, 0, 0), (33, .invokevirtual 32, 3, 30, 2, 2), (36, .aload_n 0, 1, 0, 0, 0), (37, .iconst 3, 1, 0, 0, 0),
  (38, .aload_n 2, 1, 0, 0, 0), (39, .getfield 48, 3, 1, 0, 4), (42, .getfield 52, 3, 7, 8, 0), (45, .i2l, 1, 0, 0, 0),
  (46, .invokevirtual 32, 3, 30, 2, 2), (49, .aload_n 0, 1, 0, 0, 0), (50, .iconst 4, 1, 0, 0, 0), (51, .aload_n 2, 1, 0, 0, 0),
  (52, .getfield 57, 3, 1, 6, 0), (55, .iconst 1, 1, 0, 0, 0), (56, .if_icmp .ne 7, 3, 0, 0, 0), (59, .lconst 1, 1, 0, 0, 0),
  (60, .goto 4, 3, 0, 0, 0), (63, .lconst 0, 1, 0, 0, 0), (64, .invokevirtual 32, 3, 30, 2, 2), (67, .aload_n 0, 1, 0, 0, 0),
  (68, .iconst 5, 1, 0, 0, 0), (69, .aload_n 2, 1, 0, 0, 0), (70, .getfield 57, 3, 1, 6, 0), (73, .iconst 2, 1, 0, 0, 0),
  (74, .if_icmp .ne 7, 3, 0, 0, 0), (77, .lconst 1, 1, 0, 0, 0), (78, .goto 4, 3, 0, 0, 0), (81, .lconst 0, 1, 0, 0, 0),
  (82, .invokevirtual 32, 3, 30, 2, 2), (85, .aload_n 0, 1, 0, 0, 0), (86, .bipush 6, 2, 0, 0, 0), (88, .aload_n 2, 1, 0, 0, 0),
  (89, .invokevirtual 60, 3, 20, 0, 1), (92, .i2l, 1, 0, 0, 0), (93, .invokevirtual 32, 3, 30, 2, 2), (96, .aload_n 0, 1, 0, 0, 0),
  (97, .bipush 7, 2, 0, 0, 0), (99, .iload_n 3, 1, 0, 0, 0), (100, .i2l, 1, 0, 0, 0), (101, .invokevirtual 32, 3, 30, 2, 2)]
def op_X2_see_1 : List cv_Q := [
  (104, .aload_n 0, 1, 0, 0, 0), (105, .bipush 8, 2, 0, 0, 0), (107, .aload_n 2, 1, 0, 0, 0), (108, .getfield 63, 3, 1, 9, 0),
  (111, .i2l, 1, 0, 0, 0), (112, .invokevirtual 32, 3, 30, 2, 2), (115, .aload_n 0, 1, 0, 0, 0), (116, .bipush 9, 2, 0, 0, 0),
  (118, .iload 4, 2, 0, 0, 0), (120, .i2l, 1, 0, 0, 0), (121, .invokevirtual 32, 3, 30, 2, 2), (124, .return_, 1, 0, 0, 0)]
def op_X2_see : List cv_Q := op_X2_see_0 ++ (op_X2_see_1)
def op_X2_pass : List cv_Q := [
  (0, .iload_n 3, 1, 0, 0, 0), (1, .istore 5, 2, 0, 0, 0), (3, .iload 5, 2, 0, 0, 0), (5, .iload_n 3, 1, 0, 0, 0),
  (6, .iload 4, 2, 0, 0, 0), (8, .iadd, 1, 0, 0, 0), (9, .if_icmp .ge 67, 3, 0, 0, 0), (12, .aload_n 0, 1, 0, 0, 0),
  (13, .aload_n 1, 1, 0, 0, 0), (14, .aload_n 2, 1, 0, 0, 0), (15, .iload 5, 2, 0, 0, 0), (17, .iconst 0, 1, 0, 0, 0),
  (18, .invokevirtual 66, 3, 31, 4, 2), (21, .iconst 0, 1, 0, 0, 0), (22, .istore 6, 2, 0, 0, 0), (24, .iload 6, 2, 0, 0, 0),
  (26, .iconst 3, 1, 0, 0, 0), (27, .if_icmp .ge 16, 3, 0, 0, 0), (30, .aload_n 0, 1, 0, 0, 0), (31, .aload_n 1, 1, 0, 0, 0),
  (32, .iload 6, 2, 0, 0, 0), (34, .invokevirtual 70, 3, 33, 2, 2), (37, .iinc 6 1, 3, 0, 0, 0), (40, .goto (-16), 3, 0, 0, 0),
  (43, .aload_n 0, 1, 0, 0, 0), (44, .iconst 0, 1, 0, 0, 0), (45, .putfield 22, 3, 2, 3, 0), (48, .aload_n 2, 1, 0, 0, 0),
  (49, .aload_n 0, 1, 0, 0, 0), (50, .getfield 18, 3, 2, 2, 4), (53, .iconst 0, 1, 0, 0, 0), (54, .iaload, 1, 0, 0, 0),
  (55, .aload_n 0, 1, 0, 0, 0), (56, .getfield 18, 3, 2, 2, 4), (59, .iconst 1, 1, 0, 0, 0), (60, .iaload, 1, 0, 0, 0),
  (61, .aload_n 0, 1, 0, 0, 0), (62, .getfield 18, 3, 2, 2, 4), (65, .iconst 2, 1, 0, 0, 0), (66, .iaload, 1, 0, 0, 0),
  (67, .invokevirtual 74, 3, 24, 3, 1), (70, .iinc 5 1, 3, 0, 0, 0), (73, .goto (-70), 3, 0, 0, 0), (76, .return_, 1, 0, 0, 0)]
def op_X2_refresh : List cv_Q := [
  (0, .aload_n 0, 1, 0, 0, 0), (1, .getfield 22, 3, 2, 3, 0), (4, .iconst (-1), 1, 0, 0, 0), (5, .if_icmp .eq 17, 3, 0, 0, 0),
  (8, .aload_n 1, 1, 0, 0, 0), (9, .getfield 78, 3, 4, 6, 4), (12, .iload_n 2, 1, 0, 0, 0), (13, .iaload, 1, 0, 0, 0),
  (14, .aload_n 0, 1, 0, 0, 0), (15, .getfield 22, 3, 2, 3, 0), (18, .iand, 1, 0, 0, 0), (19, .ifCond .eq 7, 3, 0, 0, 0),
  (22, .iconst 1, 1, 0, 0, 0), (23, .goto 4, 3, 0, 0, 0), (26, .iconst 0, 1, 0, 0, 0), (27, .istore_n 3, 1, 0, 0, 0),
  (28, .iload_n 3, 1, 0, 0, 0), (29, .ifCond .eq 49, 3, 0, 0, 0), (32, .aload_n 1, 1, 0, 0, 0), (33, .iload_n 2, 1, 0, 0, 0),
  (34, .invokevirtual 81, 3, 52, 1, 4), (37, .ifCond .eq 41, 3, 0, 0, 0), (40, .aload_n 0, 1, 0, 0, 0), (41, .aload_n 1, 1, 0, 0, 0),
  (42, .iload_n 2, 1, 0, 0, 0), (43, .invokevirtual 85, 3, 34, 2, 2), (46, .lstore 4, 2, 0, 0, 0), (48, .aload_n 0, 1, 0, 0, 0),
  (49, .getfield 18, 3, 2, 2, 4), (52, .iload_n 2, 1, 0, 0, 0), (53, .aload_n 0, 1, 0, 0, 0), (54, .getfield 89, 3, 2, 4, 2),
  (57, .ifCond .eq 7, 3, 0, 0, 0), (60, .iconst 0, 1, 0, 0, 0), (61, .goto 16, 3, 0, 0, 0), (64, .lconst 0, 1, 0, 0, 0),
  (65, .ldc2_w 93, 3, 0, 0, 9999), (68, .lload 4, 2, 0, 0, 0), (70, .invokestatic 95, 3, 9005, 2, 0), (73, .invokestatic 101, 3, 9004, 2, 0),
  (76, .l2i, 1, 0, 0, 0), (77, .iastore, 1, 0, 0, 0), (78, .return_, 1, 0, 0, 0)]
def op_X2_workOut_0 : List cv_Q := [
  (0, .aload_n 0, 1, 0, 0, 0), (1, .iload_n 2, 1, 0, 0, 0), (2, .ifCond .lt 8, 3, 0, 0, 0), (5, .iload_n 2, 1, 0, 0, 0),
  (6, .iconst 4, 1, 0, 0, 0), (7, .if_icmp .lt 7, 3, 0, 0, 0), (10, .iconst 1, 1, 0, 0, 0), (11, .goto 4, 3, 0, 0, 0),
  (14, .iconst 0, 1, 0, 0, 0), (15, .putfield 89, 3, 2, 4, 2), (18, .iconst 0, 1, 0, 0, 0), (19, .istore_n 3, 1, 0, 0, 0),
  (20, .aload_n 0, 1, 0, 0, 0), (21, .getfield 89, 3, 2, 4, 2), (24, .ifCond .eq 8, 3, 0, 0, 0), (27, .bipush 64, 2, 0, 0, 0),
  (29, .goto 9, 3, 0, 0, 0), (32, .aload_n 1, 1, 0, 0, 0), (33, .getfield 104, 3, 4, 4, 4), (36, .iload_n 2, 1, 0, 0, 0),
  (37, .iaload, 1, 0, 0, 0), (38, .istore 4, 2, 0, 0, 0), (40, .iload 4, 2, 0, 0, 0), (42, .bipush 64, 2, 0, 0, 0),
  (44, .if_icmp .ge 196, 3, 0, 0, 0), (47, .iload 4, 2, 0, 0, 0), (49, .aload_n 1, 1, 0, 0, 0), (50, .getfield 107, 3, 4, 5, 4),
  (53, .iload_n 2, 1, 0, 0, 0), (54, .iaload, 1, 0, 0, 0), (55, .if_icmp .ge 185, 3, 0, 0, 0), (58, .iload 4, 2, 0, 0, 0),
  (60, .ifCond .lt 13, 3, 0, 0, 0), (63, .aload_n 1, 1, 0, 0, 0), (64, .getfield 110, 3, 4, 1, 4), (67, .iload 4, 2, 0, 0, 0),
  (69, .iaload, 1, 0, 0, 0), (70, .goto 4, 3, 0, 0, 0), (73, .iconst 0, 1, 0, 0, 0), (74, .istore 5, 2, 0, 0, 0),
  (76, .iload 5, 2, 0, 0, 0), (78, .sipush 20000, 3, 0, 0, 0), (81, .if_icmp .ge 7, 3, 0, 0, 0), (84, .iconst 0, 1, 0, 0, 0),
  (85, .goto 16, 3, 0, 0, 0), (88, .iload 5, 2, 0, 0, 0), (90, .sipush 20002, 3, 0, 0, 0), (93, .if_icmp .ne 7, 3, 0, 0, 0),
  (96, .iconst 1, 1, 0, 0, 0), (97, .goto 4, 3, 0, 0, 0), (100, .iconst 2, 1, 0, 0, 0), (101, .istore 6, 2, 0, 0, 0),
  (103, .iload_n 3, 1, 0, 0, 0), (104, .iload 6, 2, 0, 0, 0), (106, .isub, 1, 0, 0, 0), (107, .istore 7, 2, 0, 0, 0),
  (109, .iload 7, 2, 0, 0, 0), (111, .ifCond .lt 10, 3, 0, 0, 0), (114, .iload 7, 2, 0, 0, 0), (116, .bipush 64, 2, 0, 0, 0)]
def op_X2_workOut_1 : List cv_Q := [
  (118, .if_icmp .lt 10, 3, 0, 0, 0), (121, .aload_n 0, 1, 0, 0, 0), (122, .iconst 1, 1, 0, 0, 0), (123, .putfield 89, 3, 2, 4, 2),
  (126, .lconst 0, 1, 0, 0, 0), (127, .lreturn, 1, 0, 0, 0), (128, .iload 6, 2, 0, 0, 0), (130, .ifCond .ne 19, 3, 0, 0, 0),
  (133, .aload_n 0, 1, 0, 0, 0), (134, .getfield 15, 3, 2, 1, 4), (137, .iload 7, 2, 0, 0, 0), (139, .aload_n 0, 1, 0, 0, 0),
  (140, .iload 5, 2, 0, 0, 0), (142, .invokevirtual 113, 3, 35, 1, 2), (145, .lastore, 1, 0, 0, 0), (146, .goto 74, 3, 0, 0, 0),
  (149, .iload 6, 2, 0, 0, 0), (151, .iconst 1, 1, 0, 0, 0), (152, .if_icmp .ne 30, 3, 0, 0, 0), (155, .aload_n 0, 1, 0, 0, 0),
  (156, .getfield 15, 3, 2, 1, 4), (159, .iload 7, 2, 0, 0, 0), (161, .aload_n 0, 1, 0, 0, 0), (162, .getfield 15, 3, 2, 1, 4),
  (165, .iload 7, 2, 0, 0, 0), (167, .laload, 1, 0, 0, 0), (168, .lconst 0, 1, 0, 0, 0), (169, .lcmp, 1, 0, 0, 0),
  (170, .ifCond .ne 7, 3, 0, 0, 0), (173, .lconst 1, 1, 0, 0, 0), (174, .goto 4, 3, 0, 0, 0), (177, .lconst 0, 1, 0, 0, 0),
  (178, .lastore, 1, 0, 0, 0), (179, .goto 41, 3, 0, 0, 0), (182, .iload 7, 2, 0, 0, 0), (184, .iconst 1, 1, 0, 0, 0),
  (185, .iadd, 1, 0, 0, 0), (186, .bipush 64, 2, 0, 0, 0), (188, .if_icmp .ge 32, 3, 0, 0, 0), (191, .aload_n 0, 1, 0, 0, 0),
  (192, .getfield 15, 3, 2, 1, 4), (195, .iload 7, 2, 0, 0, 0), (197, .aload_n 0, 1, 0, 0, 0), (198, .iload 5, 2, 0, 0, 0),
  (200, .aload_n 0, 1, 0, 0, 0), (201, .getfield 15, 3, 2, 1, 4), (204, .iload 7, 2, 0, 0, 0), (206, .laload, 1, 0, 0, 0),
  (207, .aload_n 0, 1, 0, 0, 0), (208, .getfield 15, 3, 2, 1, 4), (211, .iload 7, 2, 0, 0, 0), (213, .iconst 1, 1, 0, 0, 0),
  (214, .iadd, 1, 0, 0, 0), (215, .laload, 1, 0, 0, 0), (216, .invokevirtual 117, 3, 36, 3, 2), (219, .lastore, 1, 0, 0, 0),
  (220, .aload_n 0, 1, 0, 0, 0), (221, .getfield 89, 3, 2, 4, 2), (224, .ifCond .eq 5, 3, 0, 0, 0), (227, .lconst 0, 1, 0, 0, 0)]
def op_X2_workOut_2 : List cv_Q := [
  (228, .lreturn, 1, 0, 0, 0), (229, .iload 7, 2, 0, 0, 0), (231, .iconst 1, 1, 0, 0, 0), (232, .iadd, 1, 0, 0, 0),
  (233, .istore_n 3, 1, 0, 0, 0), (234, .iinc 4 1, 3, 0, 0, 0), (237, .goto (-197), 3, 0, 0, 0), (240, .aload_n 0, 1, 0, 0, 0),
  (241, .getfield 15, 3, 2, 1, 4), (244, .iconst 0, 1, 0, 0, 0), (245, .laload, 1, 0, 0, 0), (246, .lreturn, 1, 0, 0, 0)]
def op_X2_workOut : List cv_Q := op_X2_workOut_0 ++ (op_X2_workOut_1 ++ (op_X2_workOut_2))
def op_X2_valueOf : List cv_Q := [
  (0, .iload_n 1, 1, 0, 0, 0), (1, .sipush 10000, 3, 0, 0, 0), (4, .isub, 1, 0, 0, 0), (5, .istore_n 2, 1, 0, 0, 0),
  (6, .iload_n 2, 1, 0, 0, 0), (7, .ifCond .lt 18, 3, 0, 0, 0), (10, .iload_n 2, 1, 0, 0, 0), (11, .bipush 10, 2, 0, 0, 0),
  (13, .if_icmp .ge 12, 3, 0, 0, 0), (16, .aload_n 0, 1, 0, 0, 0), (17, .getfield 9, 3, 2, 0, 4), (20, .iload_n 2, 1, 0, 0, 0),
  (21, .laload, 1, 0, 0, 0), (22, .goto 5, 3, 0, 0, 0), (25, .iload_n 1, 1, 0, 0, 0), (26, .i2l, 1, 0, 0, 0),
  (27, .lreturn, 1, 0, 0, 0)]
def op_X2_join_0 : List cv_Q := [
  (0, .iload_n 1, 1, 0, 0, 0), (1, .tableswitch 205 20000 20011 #[63, 82, 205, 101, 114, 127, 140, 153, 166, 179, 188, 197], 63, 0, 0, 0), (64, .lload_n 2, 1, 0, 0, 0), (65, .lconst 0, 1, 0, 0, 0),
  (66, .lcmp, 1, 0, 0, 0), (67, .ifCond .ne 10, 3, 0, 0, 0), (70, .lload 4, 2, 0, 0, 0), (72, .lconst 0, 1, 0, 0, 0),
  (73, .lcmp, 1, 0, 0, 0), (74, .ifCond .eq 7, 3, 0, 0, 0), (77, .lconst 1, 1, 0, 0, 0), (78, .goto 4, 3, 0, 0, 0),
  (81, .lconst 0, 1, 0, 0, 0), (82, .lreturn, 1, 0, 0, 0), (83, .lload_n 2, 1, 0, 0, 0), (84, .lconst 0, 1, 0, 0, 0),
  (85, .lcmp, 1, 0, 0, 0), (86, .ifCond .eq 14, 3, 0, 0, 0), (89, .lload 4, 2, 0, 0, 0), (91, .lconst 0, 1, 0, 0, 0),
  (92, .lcmp, 1, 0, 0, 0), (93, .ifCond .eq 7, 3, 0, 0, 0), (96, .lconst 1, 1, 0, 0, 0), (97, .goto 4, 3, 0, 0, 0),
  (100, .lconst 0, 1, 0, 0, 0), (101, .lreturn, 1, 0, 0, 0), (102, .lload_n 2, 1, 0, 0, 0), (103, .lload 4, 2, 0, 0, 0),
  (105, .lcmp, 1, 0, 0, 0), (106, .ifCond .ge 7, 3, 0, 0, 0), (109, .lconst 1, 1, 0, 0, 0), (110, .goto 4, 3, 0, 0, 0),
  (113, .lconst 0, 1, 0, 0, 0), (114, .lreturn, 1, 0, 0, 0), (115, .lload_n 2, 1, 0, 0, 0), (116, .lload 4, 2, 0, 0, 0),
  (118, .lcmp, 1, 0, 0, 0), (119, .ifCond .gt 7, 3, 0, 0, 0), (122, .lconst 1, 1, 0, 0, 0), (123, .goto 4, 3, 0, 0, 0),
  (126, .lconst 0, 1, 0, 0, 0), (127, .lreturn, 1, 0, 0, 0), (128, .lload_n 2, 1, 0, 0, 0), (129, .lload 4, 2, 0, 0, 0),
  (131, .lcmp, 1, 0, 0, 0), (132, .ifCond .ne 7, 3, 0, 0, 0), (135, .lconst 1, 1, 0, 0, 0), (136, .goto 4, 3, 0, 0, 0),
  (139, .lconst 0, 1, 0, 0, 0), (140, .lreturn, 1, 0, 0, 0), (141, .lload_n 2, 1, 0, 0, 0), (142, .lload 4, 2, 0, 0, 0),
  (144, .lcmp, 1, 0, 0, 0), (145, .ifCond .eq 7, 3, 0, 0, 0), (148, .lconst 1, 1, 0, 0, 0), (149, .goto 4, 3, 0, 0, 0),
  (152, .lconst 0, 1, 0, 0, 0), (153, .lreturn, 1, 0, 0, 0), (154, .lload_n 2, 1, 0, 0, 0), (155, .lload 4, 2, 0, 0, 0)]
def op_X2_join_1 : List cv_Q := [
  (157, .lcmp, 1, 0, 0, 0), (158, .ifCond .lt 7, 3, 0, 0, 0), (161, .lconst 1, 1, 0, 0, 0), (162, .goto 4, 3, 0, 0, 0),
  (165, .lconst 0, 1, 0, 0, 0), (166, .lreturn, 1, 0, 0, 0), (167, .lload_n 2, 1, 0, 0, 0), (168, .lload 4, 2, 0, 0, 0),
  (170, .lcmp, 1, 0, 0, 0), (171, .ifCond .le 7, 3, 0, 0, 0), (174, .lconst 1, 1, 0, 0, 0), (175, .goto 4, 3, 0, 0, 0),
  (178, .lconst 0, 1, 0, 0, 0), (179, .lreturn, 1, 0, 0, 0), (180, .aload_n 0, 1, 0, 0, 0), (181, .lload_n 2, 1, 0, 0, 0),
  (182, .lload 4, 2, 0, 0, 0), (184, .ladd, 1, 0, 0, 0), (185, .invokevirtual 121, 3, 37, 1, 2), (188, .lreturn, 1, 0, 0, 0),
  (189, .aload_n 0, 1, 0, 0, 0), (190, .lload_n 2, 1, 0, 0, 0), (191, .lload 4, 2, 0, 0, 0), (193, .lsub, 1, 0, 0, 0),
  (194, .invokevirtual 121, 3, 37, 1, 2), (197, .lreturn, 1, 0, 0, 0), (198, .aload_n 0, 1, 0, 0, 0), (199, .lload_n 2, 1, 0, 0, 0),
  (200, .lload 4, 2, 0, 0, 0), (202, .invokevirtual 125, 3, 38, 2, 2), (205, .lreturn, 1, 0, 0, 0), (206, .aload_n 0, 1, 0, 0, 0),
  (207, .lload_n 2, 1, 0, 0, 0), (208, .lload 4, 2, 0, 0, 0), (210, .invokevirtual 128, 3, 39, 2, 2), (213, .lreturn, 1, 0, 0, 0)]
def op_X2_join : List cv_Q := op_X2_join_0 ++ (op_X2_join_1)
def op_X2_bounded : List cv_Q := [
  (0, .aload_n 0, 1, 0, 0, 0), (1, .lload_n 1, 1, 0, 0, 0), (2, .ldc2_w 131, 3, 0, 0, 1000000000000), (5, .lcmp, 1, 0, 0, 0),
  (6, .ifCond .gt 11, 3, 0, 0, 0), (9, .lload_n 1, 1, 0, 0, 0), (10, .ldc2_w 133, 3, 0, 0, (-1000000000000)), (13, .lcmp, 1, 0, 0, 0),
  (14, .ifCond .ge 7, 3, 0, 0, 0), (17, .iconst 1, 1, 0, 0, 0), (18, .goto 4, 3, 0, 0, 0), (21, .iconst 0, 1, 0, 0, 0),
  (22, .putfield 89, 3, 2, 4, 2), (25, .lload_n 1, 1, 0, 0, 0), (26, .lreturn, 1, 0, 0, 0)]
def op_X2_times : List cv_Q := [
  (0, .aload_n 0, 1, 0, 0, 0), (1, .lload_n 1, 1, 0, 0, 0), (2, .lconst 0, 1, 0, 0, 0), (3, .lcmp, 1, 0, 0, 0),
  (4, .ifCond .eq 23, 3, 0, 0, 0), (7, .lload_n 3, 1, 0, 0, 0), (8, .invokestatic 135, 3, 9006, 1, 0), (11, .ldc2_w 131, 3, 0, 0, 1000000000000),
  (14, .lload_n 1, 1, 0, 0, 0), (15, .invokestatic 135, 3, 9006, 1, 0), (18, .ldiv, 1, 0, 0, 0), (19, .lcmp, 1, 0, 0, 0),
  (20, .ifCond .le 7, 3, 0, 0, 0), (23, .iconst 1, 1, 0, 0, 0), (24, .goto 4, 3, 0, 0, 0), (27, .iconst 0, 1, 0, 0, 0),
  (28, .putfield 89, 3, 2, 4, 2), (31, .aload_n 0, 1, 0, 0, 0), (32, .getfield 89, 3, 2, 4, 2), (35, .ifCond .eq 7, 3, 0, 0, 0),
  (38, .lconst 0, 1, 0, 0, 0), (39, .goto 6, 3, 0, 0, 0), (42, .lload_n 1, 1, 0, 0, 0), (43, .lload_n 3, 1, 0, 0, 0),
  (44, .lmul, 1, 0, 0, 0), (45, .lreturn, 1, 0, 0, 0)]
def op_X2_by : List cv_Q := [
  (0, .aload_n 0, 1, 0, 0, 0), (1, .lload_n 3, 1, 0, 0, 0), (2, .lconst 0, 1, 0, 0, 0), (3, .lcmp, 1, 0, 0, 0),
  (4, .ifCond .ne 7, 3, 0, 0, 0), (7, .iconst 1, 1, 0, 0, 0), (8, .goto 4, 3, 0, 0, 0), (11, .iconst 0, 1, 0, 0, 0),
  (12, .putfield 89, 3, 2, 4, 2), (15, .lload_n 3, 1, 0, 0, 0), (16, .lconst 0, 1, 0, 0, 0), (17, .lcmp, 1, 0, 0, 0),
  (18, .ifCond .ne 7, 3, 0, 0, 0), (21, .lconst 0, 1, 0, 0, 0), (22, .goto 6, 3, 0, 0, 0), (25, .lload_n 1, 1, 0, 0, 0),
  (26, .lload_n 3, 1, 0, 0, 0), (27, .ldiv, 1, 0, 0, 0), (28, .lreturn, 1, 0, 0, 0)]
def op_X3_init : List cv_Q := [
  (0, .aload_n 0, 1, 0, 0, 0), (1, .invokespecial 3, 3, 9999, 0, 0), (4, .aload_n 0, 1, 0, 0, 0), (5, .bipush 40, 2, 0, 0, 0),
  (7, .newarray .int, 2, 0, 0, 0), (9, .putfield 9, 3, 3, 0, 4), (12, .aload_n 0, 1, 0, 0, 0), (13, .bipush 40, 2, 0, 0, 0),
  (15, .newarray .int, 2, 0, 0, 0), (17, .putfield 15, 3, 3, 1, 4), (20, .aload_n 0, 1, 0, 0, 0), (21, .bipush 40, 2, 0, 0, 0),
  (23, .newarray .int, 2, 0, 0, 0), (25, .putfield 18, 3, 3, 2, 4), (28, .aload_n 0, 1, 0, 0, 0), (29, .bipush 40, 2, 0, 0, 0),
  (31, .newarray .int, 2, 0, 0, 0), (33, .putfield 21, 3, 3, 3, 4), (36, .aload_n 0, 1, 0, 0, 0), (37, .bipush 40, 2, 0, 0, 0),
  (39, .newarray .int, 2, 0, 0, 0), (41, .putfield 24, 3, 3, 4, 4), (44, .aload_n 0, 1, 0, 0, 0), (45, .bipush 40, 2, 0, 0, 0),
  (47, .newarray .int, 2, 0, 0, 0), (49, .putfield 27, 3, 3, 5, 4), (52, .aload_n 0, 1, 0, 0, 0), (53, .bipush 40, 2, 0, 0, 0),
  (55, .newarray .boolean, 2, 2, 0, 0), (57, .putfield 30, 3, 3, 6, 4), (60, .aload_n 0, 1, 0, 0, 0), (61, .bipush 40, 2, 0, 0, 0),
  (63, .newarray .int, 2, 0, 0, 0), (65, .putfield 34, 3, 3, 7, 4), (68, .aload_n 0, 1, 0, 0, 0), (69, .iconst (-1), 1, 0, 0, 0),
  (70, .putfield 37, 3, 3, 10, 0), (73, .return_, 1, 0, 0, 0)]
def op_X3_clear : List cv_Q := [
  (0, .aload_n 0, 1, 0, 0, 0), (1, .iconst 0, 1, 0, 0, 0), (2, .putfield 41, 3, 3, 9, 0), (5, .aload_n 0, 1, 0, 0, 0),
  (6, .iconst (-1), 1, 0, 0, 0), (7, .putfield 37, 3, 3, 10, 0), (10, .return_, 1, 0, 0, 0)]
def op_X3_knownCount : List cv_Q := [
  (0, .aload_n 0, 1, 0, 0, 0), (1, .getfield 37, 3, 3, 10, 0), (4, .iconst (-1), 1, 0, 0, 0), (5, .if_icmp .ne 10, 3, 0, 0, 0),
  (8, .aload_n 0, 1, 0, 0, 0), (9, .getfield 41, 3, 3, 9, 0), (12, .goto 7, 3, 0, 0, 0), (15, .aload_n 0, 1, 0, 0, 0),
  (16, .getfield 37, 3, 3, 10, 0), (19, .ireturn, 1, 0, 0, 0)]
def op_X3_add : List cv_Q := [
  (0, .aload_n 0, 1, 0, 0, 0), (1, .getfield 41, 3, 3, 9, 0), (4, .ifCond .lt 12, 3, 0, 0, 0), (7, .aload_n 0, 1, 0, 0, 0),
  (8, .getfield 41, 3, 3, 9, 0), (11, .bipush 40, 2, 0, 0, 0), (13, .if_icmp .lt 5, 3, 0, 0, 0), (16, .iconst (-1), 1, 0, 0, 0),
  (17, .ireturn, 1, 0, 0, 0), (18, .aload_n 0, 1, 0, 0, 0), (19, .getfield 9, 3, 3, 0, 4), (22, .aload_n 0, 1, 0, 0, 0),
  (23, .getfield 41, 3, 3, 9, 0), (26, .iload_n 1, 1, 0, 0, 0), (27, .iastore, 1, 0, 0, 0), (28, .aload_n 0, 1, 0, 0, 0),
  (29, .getfield 15, 3, 3, 1, 4), (32, .aload_n 0, 1, 0, 0, 0), (33, .getfield 41, 3, 3, 9, 0), (36, .iload_n 2, 1, 0, 0, 0),
  (37, .iastore, 1, 0, 0, 0), (38, .aload_n 0, 1, 0, 0, 0), (39, .getfield 18, 3, 3, 2, 4), (42, .aload_n 0, 1, 0, 0, 0),
  (43, .getfield 41, 3, 3, 9, 0), (46, .iload_n 3, 1, 0, 0, 0), (47, .iastore, 1, 0, 0, 0), (48, .aload_n 0, 1, 0, 0, 0),
  (49, .getfield 21, 3, 3, 3, 4), (52, .aload_n 0, 1, 0, 0, 0), (53, .getfield 41, 3, 3, 9, 0), (56, .iload 4, 2, 0, 0, 0),
  (58, .iastore, 1, 0, 0, 0), (59, .aload_n 0, 1, 0, 0, 0), (60, .getfield 24, 3, 3, 4, 4), (63, .aload_n 0, 1, 0, 0, 0),
  (64, .getfield 41, 3, 3, 9, 0), (67, .iload 5, 2, 0, 0, 0), (69, .iastore, 1, 0, 0, 0), (70, .aload_n 0, 1, 0, 0, 0),
  (71, .getfield 27, 3, 3, 5, 4), (74, .aload_n 0, 1, 0, 0, 0), (75, .getfield 41, 3, 3, 9, 0), (78, .iconst (-1), 1, 0, 0, 0),
  (79, .iastore, 1, 0, 0, 0), (80, .aload_n 0, 1, 0, 0, 0), (81, .dup, 1, 0, 0, 0), (82, .getfield 41, 3, 3, 9, 0),
  (85, .iconst 1, 1, 0, 0, 0), (86, .iadd, 1, 0, 0, 0), (87, .putfield 41, 3, 3, 9, 0), (90, .aload_n 0, 1, 0, 0, 0),
  (91, .getfield 41, 3, 3, 9, 0), (94, .iconst 1, 1, 0, 0, 0), (95, .isub, 1, 0, 0, 0), (96, .ireturn, 1, 0, 0, 0)]
def op_X3_addStrike : List cv_Q := [
  (0, .aload_n 0, 1, 0, 0, 0), (1, .getfield 41, 3, 3, 9, 0), (4, .ifCond .lt 12, 3, 0, 0, 0), (7, .aload_n 0, 1, 0, 0, 0),
  (8, .getfield 41, 3, 3, 9, 0), (11, .bipush 40, 2, 0, 0, 0), (13, .if_icmp .lt 5, 3, 0, 0, 0), (16, .iconst (-1), 1, 0, 0, 0),
  (17, .ireturn, 1, 0, 0, 0), (18, .aload_n 0, 1, 0, 0, 0), (19, .getfield 9, 3, 3, 0, 4), (22, .aload_n 0, 1, 0, 0, 0),
  (23, .getfield 41, 3, 3, 9, 0), (26, .iconst (-1), 1, 0, 0, 0), (27, .iastore, 1, 0, 0, 0), (28, .aload_n 0, 1, 0, 0, 0),
  (29, .getfield 27, 3, 3, 5, 4), (32, .aload_n 0, 1, 0, 0, 0), (33, .getfield 41, 3, 3, 9, 0), (36, .iload_n 1, 1, 0, 0, 0),
  (37, .iastore, 1, 0, 0, 0), (38, .aload_n 0, 1, 0, 0, 0), (39, .dup, 1, 0, 0, 0), (40, .getfield 41, 3, 3, 9, 0),
  (43, .iconst 1, 1, 0, 0, 0), (44, .iadd, 1, 0, 0, 0), (45, .putfield 41, 3, 3, 9, 0), (48, .aload_n 0, 1, 0, 0, 0),
  (49, .getfield 41, 3, 3, 9, 0), (52, .iconst 1, 1, 0, 0, 0), (53, .isub, 1, 0, 0, 0), (54, .ireturn, 1, 0, 0, 0)]
def op_X3_pick : List cv_Q := [
  (0, .aload_n 0, 1, 0, 0, 0), (1, .invokevirtual 44, 3, 46, 0, 3), (4, .aload_n 0, 1, 0, 0, 0), (5, .iconst 0, 1, 0, 0, 0),
  (6, .putfield 47, 3, 3, 8, 0), (9, .iconst (-1), 1, 0, 0, 0), (10, .istore_n 2, 1, 0, 0, 0), (11, .iconst 0, 1, 0, 0, 0),
  (12, .istore_n 3, 1, 0, 0, 0), (13, .iload_n 3, 1, 0, 0, 0), (14, .aload_n 0, 1, 0, 0, 0), (15, .invokevirtual 50, 3, 42, 0, 3),
  (18, .if_icmp .ge 75, 3, 0, 0, 0), (21, .iload_n 3, 1, 0, 0, 0), (22, .bipush 40, 2, 0, 0, 0), (24, .if_icmp .ge 69, 3, 0, 0, 0),
  (27, .aload_n 0, 1, 0, 0, 0), (28, .getfield 30, 3, 3, 6, 4), (31, .iload_n 3, 1, 0, 0, 0), (32, .baload, 1, 0, 0, 0),
  (33, .ifCond .ne 54, 3, 0, 0, 0), (36, .aload_n 0, 1, 0, 0, 0), (37, .getfield 27, 3, 3, 5, 4), (40, .iload_n 3, 1, 0, 0, 0),
  (41, .iaload, 1, 0, 0, 0), (42, .iconst (-1), 1, 0, 0, 0), (43, .if_icmp .ne 44, 3, 0, 0, 0), (46, .aload_n 0, 1, 0, 0, 0),
  (47, .getfield 9, 3, 3, 0, 4), (50, .iload_n 3, 1, 0, 0, 0), (51, .iaload, 1, 0, 0, 0), (52, .iload_n 1, 1, 0, 0, 0),
  (53, .if_icmp .ne 34, 3, 0, 0, 0), (56, .aload_n 0, 1, 0, 0, 0), (57, .getfield 34, 3, 3, 7, 4), (60, .aload_n 0, 1, 0, 0, 0),
  (61, .getfield 47, 3, 3, 8, 0), (64, .iload_n 3, 1, 0, 0, 0), (65, .iastore, 1, 0, 0, 0), (66, .aload_n 0, 1, 0, 0, 0),
  (67, .dup, 1, 0, 0, 0), (68, .getfield 47, 3, 3, 8, 0), (71, .iconst 1, 1, 0, 0, 0), (72, .iadd, 1, 0, 0, 0),
  (73, .putfield 47, 3, 3, 8, 0), (76, .iload_n 2, 1, 0, 0, 0), (77, .aload_n 0, 1, 0, 0, 0), (78, .getfield 15, 3, 3, 1, 4),
  (81, .iload_n 3, 1, 0, 0, 0), (82, .iaload, 1, 0, 0, 0), (83, .invokestatic 54, 3, 9001, 2, 0), (86, .istore_n 2, 1, 0, 0, 0),
  (87, .iinc 3 1, 3, 0, 0, 0), (90, .goto (-77), 3, 0, 0, 0), (93, .iload_n 2, 1, 0, 0, 0), (94, .ireturn, 1, 0, 0, 0)]
def op_X3_findStruck : List cv_Q := [
  (0, .iconst 0, 1, 0, 0, 0), (1, .istore_n 1, 1, 0, 0, 0), (2, .iload_n 1, 1, 0, 0, 0), (3, .bipush 40, 2, 0, 0, 0),
  (5, .if_icmp .ge 16, 3, 0, 0, 0), (8, .aload_n 0, 1, 0, 0, 0), (9, .getfield 30, 3, 3, 6, 4), (12, .iload_n 1, 1, 0, 0, 0),
  (13, .iconst 0, 1, 0, 0, 0), (14, .bastore, 1, 0, 0, 0), (15, .iinc 1 1, 3, 0, 0, 0), (18, .goto (-16), 3, 0, 0, 0),
  (21, .aload_n 0, 1, 0, 0, 0), (22, .invokevirtual 50, 3, 42, 0, 3), (25, .bipush 40, 2, 0, 0, 0), (27, .invokestatic 60, 3, 9002, 2, 0),
  (30, .iconst 1, 1, 0, 0, 0), (31, .isub, 1, 0, 0, 0), (32, .istore_n 1, 1, 0, 0, 0), (33, .iload_n 1, 1, 0, 0, 0),
  (34, .ifCond .lt 50, 3, 0, 0, 0), (37, .aload_n 0, 1, 0, 0, 0), (38, .getfield 30, 3, 3, 6, 4), (41, .iload_n 1, 1, 0, 0, 0),
  (42, .baload, 1, 0, 0, 0), (43, .ifCond .ne 35, 3, 0, 0, 0), (46, .aload_n 0, 1, 0, 0, 0), (47, .getfield 27, 3, 3, 5, 4),
  (50, .iload_n 1, 1, 0, 0, 0), (51, .iaload, 1, 0, 0, 0), (52, .ifCond .lt 26, 3, 0, 0, 0), (55, .aload_n 0, 1, 0, 0, 0),
  (56, .getfield 27, 3, 3, 5, 4), (59, .iload_n 1, 1, 0, 0, 0), (60, .iaload, 1, 0, 0, 0), (61, .bipush 40, 2, 0, 0, 0),
  (63, .if_icmp .ge 15, 3, 0, 0, 0), (66, .aload_n 0, 1, 0, 0, 0), (67, .getfield 30, 3, 3, 6, 4), (70, .aload_n 0, 1, 0, 0, 0),
  (71, .getfield 27, 3, 3, 5, 4), (74, .iload_n 1, 1, 0, 0, 0), (75, .iaload, 1, 0, 0, 0), (76, .iconst 1, 1, 0, 0, 0),
  (77, .bastore, 1, 0, 0, 0), (78, .iinc 1 (-1), 3, 0, 0, 0), (81, .goto (-48), 3, 0, 0, 0), (84, .return_, 1, 0, 0, 0)]
def op_X3_agree : List cv_Q := [
  (0, .iconst 0, 1, 0, 0, 0), (1, .istore_n 3, 1, 0, 0, 0), (2, .iload_n 3, 1, 0, 0, 0), (3, .aload_n 0, 1, 0, 0, 0),
  (4, .getfield 47, 3, 3, 8, 0), (7, .if_icmp .ge 85, 3, 0, 0, 0), (10, .iload_n 3, 1, 0, 0, 0), (11, .bipush 40, 2, 0, 0, 0),
  (13, .if_icmp .ge 79, 3, 0, 0, 0), (16, .aload_n 0, 1, 0, 0, 0), (17, .getfield 34, 3, 3, 7, 4), (20, .iload_n 3, 1, 0, 0, 0),
  (21, .iaload, 1, 0, 0, 0), (22, .istore 4, 2, 0, 0, 0), (24, .iload 4, 2, 0, 0, 0), (26, .ifCond .lt 60, 3, 0, 0, 0),
  (29, .iload 4, 2, 0, 0, 0), (31, .bipush 40, 2, 0, 0, 0), (33, .if_icmp .ge 53, 3, 0, 0, 0), (36, .aload_n 0, 1, 0, 0, 0),
  (37, .getfield 15, 3, 3, 1, 4), (40, .iload 4, 2, 0, 0, 0), (42, .iaload, 1, 0, 0, 0), (43, .iload_n 2, 1, 0, 0, 0),
  (44, .if_icmp .ne 42, 3, 0, 0, 0), (47, .aload_n 1, 1, 0, 0, 0), (48, .aload_n 0, 1, 0, 0, 0), (49, .getfield 18, 3, 3, 2, 4),
  (52, .iload 4, 2, 0, 0, 0), (54, .iaload, 1, 0, 0, 0), (55, .invokevirtual 63, 3, 21, 1, 1), (58, .istore 5, 2, 0, 0, 0),
  (60, .iload 5, 2, 0, 0, 0), (62, .aload_n 0, 1, 0, 0, 0), (63, .getfield 21, 3, 3, 3, 4), (66, .iload 4, 2, 0, 0, 0),
  (68, .iaload, 1, 0, 0, 0), (69, .if_icmp .lt 15, 3, 0, 0, 0), (72, .iload 5, 2, 0, 0, 0), (74, .aload_n 0, 1, 0, 0, 0),
  (75, .getfield 24, 3, 3, 4, 4), (78, .iload 4, 2, 0, 0, 0), (80, .iaload, 1, 0, 0, 0), (81, .if_icmp .le 5, 3, 0, 0, 0),
  (84, .iconst 0, 1, 0, 0, 0), (85, .ireturn, 1, 0, 0, 0), (86, .iinc 3 1, 3, 0, 0, 0), (89, .goto (-87), 3, 0, 0, 0),
  (92, .iconst 1, 1, 0, 0, 0), (93, .ireturn, 1, 0, 0, 0)]
def op_X4_init_0 : List cv_Q := [
  (0, .aload_n 0, 1, 0, 0, 0), (1, .invokespecial 3, 3, 9999, 0, 0), (4, .aload_n 0, 1, 0, 0, 0), (5, .bipush 12, 2, 0, 0, 0),
  (7, .newarray .int, 2, 0, 0, 0), (9, .putfield 9, 3, 4, 0, 4), (12, .aload_n 0, 1, 0, 0, 0), (13, .bipush 64, 2, 0, 0, 0),
  (15, .newarray .int, 2, 0, 0, 0), (17, .putfield 15, 3, 4, 1, 4), (20, .aload_n 0, 1, 0, 0, 0), (21, .iconst 4, 1, 0, 0, 0),
  (22, .newarray .int, 2, 0, 0, 0), (24, .putfield 18, 3, 4, 4, 4), (27, .aload_n 0, 1, 0, 0, 0), (28, .iconst 4, 1, 0, 0, 0),
  (29, .newarray .int, 2, 0, 0, 0), (31, .putfield 21, 3, 4, 5, 4), (34, .aload_n 0, 1, 0, 0, 0), (35, .iconst 4, 1, 0, 0, 0),
  (36, .newarray .int, 2, 0, 0, 0), (38, .putfield 24, 3, 4, 6, 4), (41, .aload_n 0, 1, 0, 0, 0), (42, .iconst 4, 1, 0, 0, 0),
  (43, .anewarray 27, 3, 5, 0, 0), (46, .putfield 29, 3, 4, 7, 4), (49, .aload_n 0, 1, 0, 0, 0), (50, .iconst 4, 1, 0, 0, 0),
  (51, .newarray .int, 2, 0, 0, 0), (53, .putfield 33, 3, 4, 8, 4), (56, .aload_n 0, 1, 0, 0, 0), (57, .bipush 6, 2, 0, 0, 0),
  (59, .newarray .int, 2, 0, 0, 0), (61, .putfield 36, 3, 4, 10, 4), (64, .aload_n 0, 1, 0, 0, 0), (65, .bipush 6, 2, 0, 0, 0),
  (67, .newarray .int, 2, 0, 0, 0), (69, .putfield 39, 3, 4, 11, 4), (72, .aload_n 0, 1, 0, 0, 0), (73, .bipush 6, 2, 0, 0, 0),
  (75, .newarray .int, 2, 0, 0, 0), (77, .putfield 42, 3, 4, 12, 4), (80, .aload_n 0, 1, 0, 0, 0), (81, .bipush 6, 2, 0, 0, 0),
  (83, .newarray .int, 2, 0, 0, 0), (85, .putfield 45, 3, 4, 13, 4), (88, .aload_n 0, 1, 0, 0, 0), (89, .bipush 6, 2, 0, 0, 0),
  (91, .newarray .int, 2, 0, 0, 0), (93, .putfield 48, 3, 4, 15, 4), (96, .aload_n 0, 1, 0, 0, 0), (97, .bipush 6, 2, 0, 0, 0),
  (99, .newarray .int, 2, 0, 0, 0), (101, .putfield 51, 3, 4, 16, 4), (104, .aload_n 0, 1, 0, 0, 0), (105, .bipush 6, 2, 0, 0, 0),
  (107, .newarray .int, 2, 0, 0, 0), (109, .putfield 54, 3, 4, 17, 4), (112, .aload_n 0, 1, 0, 0, 0), (113, .bipush 6, 2, 0, 0, 0)]
def op_X4_init_1 : List cv_Q := [
  (115, .newarray .int, 2, 0, 0, 0), (117, .putfield 57, 3, 4, 18, 4), (120, .iconst 0, 1, 0, 0, 0), (121, .istore_n 1, 1, 0, 0, 0),
  (122, .iload_n 1, 1, 0, 0, 0), (123, .iconst 4, 1, 0, 0, 0), (124, .if_icmp .ge 22, 3, 0, 0, 0), (127, .aload_n 0, 1, 0, 0, 0),
  (128, .getfield 29, 3, 4, 7, 4), (131, .iload_n 1, 1, 0, 0, 0), (132, .new 27, 3, 7, 0, 0), (135, .dup, 1, 0, 0, 0),
  (136, .invokespecial 60, 3, 85, 0, 0), (139, .aastore, 1, 0, 0, 0), (140, .iinc 1 1, 3, 0, 0, 0), (143, .goto (-21), 3, 0, 0, 0),
  (146, .aload_n 0, 1, 0, 0, 0), (147, .invokevirtual 61, 3, 49, 0, 4), (150, .return_, 1, 0, 0, 0)]
def op_X4_init : List cv_Q := op_X4_init_0 ++ (op_X4_init_1)
def op_X4_clear_0 : List cv_Q := [
  (0, .iconst 0, 1, 0, 0, 0), (1, .istore_n 1, 1, 0, 0, 0), (2, .iload_n 1, 1, 0, 0, 0), (3, .bipush 12, 2, 0, 0, 0),
  (5, .if_icmp .ge 17, 3, 0, 0, 0), (8, .aload_n 0, 1, 0, 0, 0), (9, .getfield 9, 3, 4, 0, 4), (12, .iload_n 1, 1, 0, 0, 0),
  (13, .bipush 50, 2, 0, 0, 0), (15, .iastore, 1, 0, 0, 0), (16, .iinc 1 1, 3, 0, 0, 0), (19, .goto (-17), 3, 0, 0, 0),
  (22, .iconst 0, 1, 0, 0, 0), (23, .istore_n 1, 1, 0, 0, 0), (24, .iload_n 1, 1, 0, 0, 0), (25, .iconst 4, 1, 0, 0, 0),
  (26, .if_icmp .ge 30, 3, 0, 0, 0), (29, .aload_n 0, 1, 0, 0, 0), (30, .getfield 18, 3, 4, 4, 4), (33, .iload_n 1, 1, 0, 0, 0),
  (34, .iconst 0, 1, 0, 0, 0), (35, .iastore, 1, 0, 0, 0), (36, .aload_n 0, 1, 0, 0, 0), (37, .getfield 21, 3, 4, 5, 4),
  (40, .iload_n 1, 1, 0, 0, 0), (41, .iconst 0, 1, 0, 0, 0), (42, .iastore, 1, 0, 0, 0), (43, .aload_n 0, 1, 0, 0, 0),
  (44, .getfield 24, 3, 4, 6, 4), (47, .iload_n 1, 1, 0, 0, 0), (48, .iconst 0, 1, 0, 0, 0), (49, .iastore, 1, 0, 0, 0),
  (50, .iinc 1 1, 3, 0, 0, 0), (53, .goto (-29), 3, 0, 0, 0), (56, .iconst 0, 1, 0, 0, 0), (57, .istore_n 1, 1, 0, 0, 0),
  (58, .iload_n 1, 1, 0, 0, 0), (59, .iconst 4, 1, 0, 0, 0), (60, .if_icmp .ge 18, 3, 0, 0, 0), (63, .aload_n 0, 1, 0, 0, 0),
  (64, .getfield 29, 3, 4, 7, 4), (67, .iload_n 1, 1, 0, 0, 0), (68, .aaload, 1, 0, 0, 0), (69, .invokevirtual 64, 3, 86, 0, 7),
  (72, .iinc 1 1, 3, 0, 0, 0), (75, .goto (-17), 3, 0, 0, 0), (78, .aload_n 0, 1, 0, 0, 0), (79, .iconst 0, 1, 0, 0, 0),
  (80, .putfield 65, 3, 4, 2, 0), (83, .aload_n 0, 1, 0, 0, 0), (84, .iconst 0, 1, 0, 0, 0), (85, .putfield 69, 3, 4, 3, 0),
  (88, .aload_n 0, 1, 0, 0, 0), (89, .iconst 0, 1, 0, 0, 0), (90, .putfield 72, 3, 4, 9, 0), (93, .aload_n 0, 1, 0, 0, 0),
  (94, .iconst 0, 1, 0, 0, 0), (95, .putfield 75, 3, 4, 14, 0), (98, .aload_n 0, 1, 0, 0, 0), (99, .iconst 0, 1, 0, 0, 0)]
def op_X4_clear_1 : List cv_Q := [
  (100, .putfield 78, 3, 4, 19, 0), (103, .return_, 1, 0, 0, 0)]
def op_X4_clear : List cv_Q := op_X4_clear_0 ++ (op_X4_clear_1)
def op_X4_isWork : List cv_Q := [
  (0, .iload_n 1, 1, 0, 0, 0), (1, .ifCond .lt 21, 3, 0, 0, 0), (4, .iload_n 1, 1, 0, 0, 0), (5, .aload_n 0, 1, 0, 0, 0),
  (6, .getfield 75, 3, 4, 14, 0), (9, .if_icmp .ge 13, 3, 0, 0, 0), (12, .iload_n 1, 1, 0, 0, 0), (13, .bipush 6, 2, 0, 0, 0),
  (15, .if_icmp .ge 7, 3, 0, 0, 0), (18, .iconst 1, 1, 0, 0, 0), (19, .goto 4, 3, 0, 0, 0), (22, .iconst 0, 1, 0, 0, 0),
  (23, .ireturn, 1, 0, 0, 0)]
def op_X4_isCause : List cv_Q := [
  (0, .iload_n 1, 1, 0, 0, 0), (1, .ifCond .lt 21, 3, 0, 0, 0), (4, .iload_n 1, 1, 0, 0, 0), (5, .aload_n 0, 1, 0, 0, 0),
  (6, .getfield 78, 3, 4, 19, 0), (9, .if_icmp .ge 13, 3, 0, 0, 0), (12, .iload_n 1, 1, 0, 0, 0), (13, .bipush 6, 2, 0, 0, 0),
  (15, .if_icmp .ge 7, 3, 0, 0, 0), (18, .iconst 1, 1, 0, 0, 0), (19, .goto 4, 3, 0, 0, 0), (22, .iconst 0, 1, 0, 0, 0),
  (23, .ireturn, 1, 0, 0, 0)]
def op_X4_isLaw : List cv_Q := [
  (0, .iload_n 1, 1, 0, 0, 0), (1, .ifCond .lt 27, 3, 0, 0, 0), (4, .iload_n 1, 1, 0, 0, 0), (5, .iconst 4, 1, 0, 0, 0),
  (6, .if_icmp .ge 22, 3, 0, 0, 0), (9, .aload_n 0, 1, 0, 0, 0), (10, .getfield 21, 3, 4, 5, 4), (13, .iload_n 1, 1, 0, 0, 0),
  (14, .iaload, 1, 0, 0, 0), (15, .aload_n 0, 1, 0, 0, 0), (16, .getfield 18, 3, 4, 4, 4), (19, .iload_n 1, 1, 0, 0, 0),
  (20, .iaload, 1, 0, 0, 0), (21, .if_icmp .le 7, 3, 0, 0, 0), (24, .iconst 1, 1, 0, 0, 0), (25, .goto 4, 3, 0, 0, 0),
  (28, .iconst 0, 1, 0, 0, 0), (29, .ireturn, 1, 0, 0, 0)]
def op_X4_firmIn : List cv_Q := [
  (0, .iload_n 1, 1, 0, 0, 0), (1, .ifCond .ge 7, 3, 0, 0, 0), (4, .iconst 0, 1, 0, 0, 0), (5, .goto 18, 3, 0, 0, 0),
  (8, .aload_n 0, 1, 0, 0, 0), (9, .getfield 9, 3, 4, 0, 4), (12, .iload_n 1, 1, 0, 0, 0), (13, .bipush 12, 2, 0, 0, 0),
  (15, .imul, 1, 0, 0, 0), (16, .bipush 52, 2, 0, 0, 0), (18, .idiv, 1, 0, 0, 0), (19, .bipush 12, 2, 0, 0, 0),
  (21, .irem, 1, 0, 0, 0), (22, .iaload, 1, 0, 0, 0), (23, .ireturn, 1, 0, 0, 0)]
def op_X4_growthNames : List cv_Q := [
  (0, .aload_n 0, 1, 0, 0, 0), (1, .getfield 24, 3, 4, 6, 4), (4, .iconst 0, 1, 0, 0, 0), (5, .iaload, 1, 0, 0, 0),
  (6, .aload_n 0, 1, 0, 0, 0), (7, .getfield 24, 3, 4, 6, 4), (10, .iconst 1, 1, 0, 0, 0), (11, .iaload, 1, 0, 0, 0),
  (12, .ior, 1, 0, 0, 0), (13, .aload_n 0, 1, 0, 0, 0), (14, .getfield 24, 3, 4, 6, 4), (17, .iconst 2, 1, 0, 0, 0),
  (18, .iaload, 1, 0, 0, 0), (19, .ior, 1, 0, 0, 0), (20, .ireturn, 1, 0, 0, 0)]
def op_X4_costOf : List cv_Q := [
  (0, .iconst 0, 1, 0, 0, 0), (1, .istore_n 2, 1, 0, 0, 0), (2, .iconst 0, 1, 0, 0, 0), (3, .istore_n 3, 1, 0, 0, 0),
  (4, .iload_n 3, 1, 0, 0, 0), (5, .aload_n 0, 1, 0, 0, 0), (6, .getfield 75, 3, 4, 14, 0), (9, .if_icmp .ge 32, 3, 0, 0, 0),
  (12, .iload_n 3, 1, 0, 0, 0), (13, .bipush 6, 2, 0, 0, 0), (15, .if_icmp .ge 26, 3, 0, 0, 0), (18, .iload_n 1, 1, 0, 0, 0),
  (19, .iconst 1, 1, 0, 0, 0), (20, .iload_n 3, 1, 0, 0, 0), (21, .ishl, 1, 0, 0, 0), (22, .iand, 1, 0, 0, 0),
  (23, .ifCond .eq 12, 3, 0, 0, 0), (26, .iload_n 2, 1, 0, 0, 0), (27, .aload_n 0, 1, 0, 0, 0), (28, .getfield 39, 3, 4, 11, 4),
  (31, .iload_n 3, 1, 0, 0, 0), (32, .iaload, 1, 0, 0, 0), (33, .iadd, 1, 0, 0, 0), (34, .istore_n 2, 1, 0, 0, 0),
  (35, .iinc 3 1, 3, 0, 0, 0), (38, .goto (-34), 3, 0, 0, 0), (41, .iload_n 2, 1, 0, 0, 0), (42, .ireturn, 1, 0, 0, 0)]
def op_X4_moreBy : List cv_Q := [
  (0, .iconst 0, 1, 0, 0, 0), (1, .istore_n 3, 1, 0, 0, 0), (2, .iconst 0, 1, 0, 0, 0), (3, .istore 4, 2, 0, 0, 0),
  (5, .iload 4, 2, 0, 0, 0), (7, .aload_n 0, 1, 0, 0, 0), (8, .getfield 78, 3, 4, 19, 0), (11, .if_icmp .ge 46, 3, 0, 0, 0),
  (14, .iload 4, 2, 0, 0, 0), (16, .bipush 6, 2, 0, 0, 0), (18, .if_icmp .ge 39, 3, 0, 0, 0), (21, .iload_n 1, 1, 0, 0, 0),
  (22, .iconst 1, 1, 0, 0, 0), (23, .iload 4, 2, 0, 0, 0), (25, .ishl, 1, 0, 0, 0), (26, .iand, 1, 0, 0, 0),
  (27, .ifCond .eq 24, 3, 0, 0, 0), (30, .aload_n 0, 1, 0, 0, 0), (31, .getfield 54, 3, 4, 17, 4), (34, .iload 4, 2, 0, 0, 0),
  (36, .iaload, 1, 0, 0, 0), (37, .iload_n 2, 1, 0, 0, 0), (38, .if_icmp .ne 13, 3, 0, 0, 0), (41, .iload_n 3, 1, 0, 0, 0),
  (42, .aload_n 0, 1, 0, 0, 0), (43, .getfield 57, 3, 4, 18, 4), (46, .iload 4, 2, 0, 0, 0), (48, .iaload, 1, 0, 0, 0),
  (49, .iadd, 1, 0, 0, 0), (50, .istore_n 3, 1, 0, 0, 0), (51, .iinc 4 1, 3, 0, 0, 0), (54, .goto (-49), 3, 0, 0, 0),
  (57, .iload_n 3, 1, 0, 0, 0), (58, .ireturn, 1, 0, 0, 0)]
def op_X4_weightOf : List cv_Q := [
  (0, .aload_n 0, 1, 0, 0, 0), (1, .iload_n 1, 1, 0, 0, 0), (2, .invokevirtual 81, 3, 51, 1, 4), (5, .ifCond .eq 12, 3, 0, 0, 0),
  (8, .aload_n 0, 1, 0, 0, 0), (9, .getfield 51, 3, 4, 16, 4), (12, .iload_n 1, 1, 0, 0, 0), (13, .iaload, 1, 0, 0, 0),
  (14, .goto 4, 3, 0, 0, 0), (17, .iconst 1, 1, 0, 0, 0), (18, .ireturn, 1, 0, 0, 0)]
def op_X4_addCode : List cv_Q := [
  (0, .aload_n 0, 1, 0, 0, 0), (1, .getfield 65, 3, 4, 2, 0), (4, .ifCond .lt 32, 3, 0, 0, 0), (7, .aload_n 0, 1, 0, 0, 0),
  (8, .getfield 65, 3, 4, 2, 0), (11, .bipush 64, 2, 0, 0, 0), (13, .if_icmp .ge 23, 3, 0, 0, 0), (16, .aload_n 0, 1, 0, 0, 0),
  (17, .getfield 15, 3, 4, 1, 4), (20, .aload_n 0, 1, 0, 0, 0), (21, .getfield 65, 3, 4, 2, 0), (24, .iload_n 1, 1, 0, 0, 0),
  (25, .iastore, 1, 0, 0, 0), (26, .aload_n 0, 1, 0, 0, 0), (27, .dup, 1, 0, 0, 0), (28, .getfield 65, 3, 4, 2, 0),
  (31, .iconst 1, 1, 0, 0, 0), (32, .iadd, 1, 0, 0, 0), (33, .putfield 65, 3, 4, 2, 0), (36, .return_, 1, 0, 0, 0)]
def op_X5_init : List cv_Q := [
  (0, .aload_n 0, 1, 0, 0, 0), (1, .invokespecial 3, 3, 9999, 0, 0), (4, .aload_n 0, 1, 0, 0, 0), (5, .iconst (-1), 1, 0, 0, 0),
  (6, .putfield 9, 3, 5, 5, 0), (9, .aload_n 0, 1, 0, 0, 0), (10, .new 15, 3, 6, 0, 0), (13, .dup, 1, 0, 0, 0),
  (14, .aload_n 1, 1, 0, 0, 0), (15, .invokespecial 17, 3, 75, 1, 0), (18, .putfield 20, 3, 5, 0, 4), (21, .aload_n 0, 1, 0, 0, 0),
  (22, .new 24, 3, 0, 0, 0), (25, .dup, 1, 0, 0, 0), (26, .aload_n 0, 1, 0, 0, 0), (27, .getfield 20, 3, 5, 0, 4),
  (30, .aload_n 2, 1, 0, 0, 0), (31, .invokespecial 26, 3, 0, 2, 0), (34, .putfield 29, 3, 5, 1, 4), (37, .aload_n 0, 1, 0, 0, 0),
  (38, .aload_n 2, 1, 0, 0, 0), (39, .putfield 33, 3, 5, 2, 4), (42, .return_, 1, 0, 0, 0)]
def op_X5_readText_0 : List cv_Q := [
  (0, .aload_n 0, 1, 0, 0, 0), (1, .aload_n 1, 1, 0, 0, 0), (2, .putfield 33, 3, 5, 2, 4), (5, .aload_n 0, 1, 0, 0, 0),
  (6, .getfield 33, 3, 5, 2, 4), (9, .invokevirtual 37, 3, 49, 0, 4), (12, .aload_n 0, 1, 0, 0, 0), (13, .iconst 0, 1, 0, 0, 0),
  (14, .putfield 42, 3, 5, 3, 2), (17, .aload_n 0, 1, 0, 0, 0), (18, .iconst 0, 1, 0, 0, 0), (19, .putfield 46, 3, 5, 4, 0),
  (22, .aload_n 0, 1, 0, 0, 0), (23, .iconst (-1), 1, 0, 0, 0), (24, .putfield 9, 3, 5, 5, 0), (27, .aload_n 0, 1, 0, 0, 0),
  (28, .getfield 20, 3, 5, 0, 4), (31, .iload_n 2, 1, 0, 0, 0), (32, .invokevirtual 49, 3, 77, 1, 6), (35, .iconst 0, 1, 0, 0, 0),
  (36, .istore_n 3, 1, 0, 0, 0), (37, .iload_n 3, 1, 0, 0, 0), (38, .sipush 900, 3, 0, 0, 0), (41, .if_icmp .gt 131, 3, 0, 0, 0),
  (44, .aload_n 0, 1, 0, 0, 0), (45, .getfield 20, 3, 5, 0, 4), (48, .getfield 53, 3, 6, 4, 0), (51, .ifCond .ne 5, 3, 0, 0, 0),
  (54, .iload_n 3, 1, 0, 0, 0), (55, .ireturn, 1, 0, 0, 0), (56, .aload_n 0, 1, 0, 0, 0), (57, .getfield 20, 3, 5, 0, 4),
  (60, .getfield 53, 3, 6, 4, 0), (63, .iconst 2, 1, 0, 0, 0), (64, .if_icmp .ne 13, 3, 0, 0, 0), (67, .aload_n 0, 1, 0, 0, 0),
  (68, .getfield 20, 3, 5, 0, 4), (71, .getfield 56, 3, 6, 6, 0), (74, .goto 4, 3, 0, 0, 0), (77, .iconst (-1), 1, 0, 0, 0),
  (78, .tableswitch 69 0 4 #[34, 41, 48, 55, 62], 34, 0, 0, 0), (112, .aload_n 0, 1, 0, 0, 0), (113, .invokevirtual 59, 3, 65, 0, 5), (116, .goto 37, 3, 0, 0, 0),
  (119, .aload_n 0, 1, 0, 0, 0), (120, .invokevirtual 62, 3, 66, 0, 5), (123, .goto 30, 3, 0, 0, 0), (126, .aload_n 0, 1, 0, 0, 0),
  (127, .invokevirtual 65, 3, 67, 0, 5), (130, .goto 23, 3, 0, 0, 0), (133, .aload_n 0, 1, 0, 0, 0), (134, .invokevirtual 68, 3, 71, 0, 5),
  (137, .goto 16, 3, 0, 0, 0), (140, .aload_n 0, 1, 0, 0, 0), (141, .invokevirtual 71, 3, 74, 0, 5), (144, .goto 9, 3, 0, 0, 0),
  (147, .aload_n 0, 1, 0, 0, 0), (148, .iconst 1, 1, 0, 0, 0), (149, .invokevirtual 74, 3, 61, 1, 5), (152, .pop, 1, 0, 0, 0)]
def op_X5_readText_1 : List cv_Q := [
  (153, .aload_n 0, 1, 0, 0, 0), (154, .invokevirtual 78, 3, 62, 0, 5), (157, .aload_n 0, 1, 0, 0, 0), (158, .getfield 46, 3, 5, 4, 0),
  (161, .ifCond .eq 5, 3, 0, 0, 0), (164, .iconst (-1), 1, 0, 0, 0), (165, .ireturn, 1, 0, 0, 0), (166, .iinc 3 1, 3, 0, 0, 0),
  (169, .goto (-132), 3, 0, 0, 0), (172, .iconst (-1), 1, 0, 0, 0), (173, .ireturn, 1, 0, 0, 0)]
def op_X5_readText : List cv_Q := op_X5_readText_0 ++ (op_X5_readText_1)
def op_X5_fail : List cv_Q := [
  (0, .aload_n 0, 1, 0, 0, 0), (1, .getfield 46, 3, 5, 4, 0), (4, .ifCond .ne 19, 3, 0, 0, 0), (7, .aload_n 0, 1, 0, 0, 0),
  (8, .iload_n 1, 1, 0, 0, 0), (9, .putfield 46, 3, 5, 4, 0), (12, .aload_n 0, 1, 0, 0, 0), (13, .aload_n 0, 1, 0, 0, 0),
  (14, .getfield 20, 3, 5, 0, 4), (17, .getfield 81, 3, 6, 5, 0), (20, .putfield 9, 3, 5, 5, 0), (23, .iconst 0, 1, 0, 0, 0),
  (24, .ireturn, 1, 0, 0, 0)]
def op_X5_readSemicolon : List cv_Q := [
  (0, .aload_n 0, 1, 0, 0, 0), (1, .getfield 46, 3, 5, 4, 0), (4, .ifCond .ne 15, 3, 0, 0, 0), (7, .aload_n 0, 1, 0, 0, 0),
  (8, .getfield 20, 3, 5, 0, 4), (11, .getfield 53, 3, 6, 4, 0), (14, .bipush 8, 2, 0, 0, 0), (16, .if_icmp .eq 10, 3, 0, 0, 0),
  (19, .aload_n 0, 1, 0, 0, 0), (20, .iconst 1, 1, 0, 0, 0), (21, .invokevirtual 74, 3, 61, 1, 5), (24, .pop, 1, 0, 0, 0),
  (25, .return_, 1, 0, 0, 0), (26, .aload_n 0, 1, 0, 0, 0), (27, .getfield 20, 3, 5, 0, 4), (30, .invokevirtual 82, 3, 78, 0, 6),
  (33, .return_, 1, 0, 0, 0)]
def op_X5_readNumber_0 : List cv_Q := [
  (0, .iload_n 1, 1, 0, 0, 0), (1, .ifCond .ge 38, 3, 0, 0, 0), (4, .aload_n 0, 1, 0, 0, 0), (5, .getfield 46, 3, 5, 4, 0),
  (8, .ifCond .ne 31, 3, 0, 0, 0), (11, .aload_n 0, 1, 0, 0, 0), (12, .getfield 20, 3, 5, 0, 4), (15, .getfield 53, 3, 6, 4, 0),
  (18, .iconst 5, 1, 0, 0, 0), (19, .if_icmp .ne 20, 3, 0, 0, 0), (22, .aload_n 0, 1, 0, 0, 0), (23, .getfield 20, 3, 5, 0, 4),
  (26, .getfield 56, 3, 6, 6, 0), (29, .sipush 20010, 3, 0, 0, 0), (32, .if_icmp .ne 7, 3, 0, 0, 0), (35, .iconst 1, 1, 0, 0, 0),
  (36, .goto 4, 3, 0, 0, 0), (39, .iconst 0, 1, 0, 0, 0), (40, .istore_n 3, 1, 0, 0, 0), (41, .iload_n 3, 1, 0, 0, 0),
  (42, .ifCond .eq 10, 3, 0, 0, 0), (45, .aload_n 0, 1, 0, 0, 0), (46, .getfield 20, 3, 5, 0, 4), (49, .invokevirtual 82, 3, 78, 0, 6),
  (52, .aload_n 0, 1, 0, 0, 0), (53, .getfield 46, 3, 5, 4, 0), (56, .ifCond .ne 14, 3, 0, 0, 0), (59, .aload_n 0, 1, 0, 0, 0),
  (60, .getfield 20, 3, 5, 0, 4), (63, .getfield 53, 3, 6, 4, 0), (66, .iconst 4, 1, 0, 0, 0), (67, .if_icmp .eq 9, 3, 0, 0, 0),
  (70, .aload_n 0, 1, 0, 0, 0), (71, .iconst 1, 1, 0, 0, 0), (72, .invokevirtual 74, 3, 61, 1, 5), (75, .ireturn, 1, 0, 0, 0),
  (76, .iload_n 3, 1, 0, 0, 0), (77, .ifCond .eq 14, 3, 0, 0, 0), (80, .aload_n 0, 1, 0, 0, 0), (81, .getfield 20, 3, 5, 0, 4),
  (84, .getfield 56, 3, 6, 6, 0), (87, .ineg, 1, 0, 0, 0), (88, .goto 10, 3, 0, 0, 0), (91, .aload_n 0, 1, 0, 0, 0),
  (92, .getfield 20, 3, 5, 0, 4), (95, .getfield 56, 3, 6, 6, 0), (98, .istore 4, 2, 0, 0, 0), (100, .iload 4, 2, 0, 0, 0),
  (102, .iload_n 1, 1, 0, 0, 0), (103, .if_icmp .lt 9, 3, 0, 0, 0), (106, .iload 4, 2, 0, 0, 0), (108, .iload_n 2, 1, 0, 0, 0),
  (109, .if_icmp .le 9, 3, 0, 0, 0), (112, .aload_n 0, 1, 0, 0, 0), (113, .iconst 2, 1, 0, 0, 0), (114, .invokevirtual 74, 3, 61, 1, 5),
  (117, .ireturn, 1, 0, 0, 0), (118, .aload_n 0, 1, 0, 0, 0), (119, .getfield 20, 3, 5, 0, 4), (122, .invokevirtual 82, 3, 78, 0, 6)]
def op_X5_readNumber_1 : List cv_Q := [
  (125, .iload 4, 2, 0, 0, 0), (127, .ireturn, 1, 0, 0, 0)]
def op_X5_readNumber : List cv_Q := op_X5_readNumber_0 ++ (op_X5_readNumber_1)
def op_X5_readNewName : List cv_Q := [
  (0, .aload_n 0, 1, 0, 0, 0), (1, .getfield 46, 3, 5, 4, 0), (4, .ifCond .ne 14, 3, 0, 0, 0), (7, .aload_n 0, 1, 0, 0, 0),
  (8, .getfield 20, 3, 5, 0, 4), (11, .getfield 53, 3, 6, 4, 0), (14, .iconst 3, 1, 0, 0, 0), (15, .if_icmp .eq 9, 3, 0, 0, 0),
  (18, .aload_n 0, 1, 0, 0, 0), (19, .iconst 1, 1, 0, 0, 0), (20, .invokevirtual 74, 3, 61, 1, 5), (23, .ireturn, 1, 0, 0, 0),
  (24, .aload_n 0, 1, 0, 0, 0), (25, .getfield 20, 3, 5, 0, 4), (28, .getfield 56, 3, 6, 6, 0), (31, .istore_n 3, 1, 0, 0, 0),
  (32, .iload_n 3, 1, 0, 0, 0), (33, .aload_n 1, 1, 0, 0, 0), (34, .iload_n 2, 1, 0, 0, 0), (35, .invokestatic 85, 3, 113, 3, 0),
  (38, .iconst (-1), 1, 0, 0, 0), (39, .if_icmp .eq 9, 3, 0, 0, 0), (42, .aload_n 0, 1, 0, 0, 0), (43, .iconst 3, 1, 0, 0, 0),
  (44, .invokevirtual 74, 3, 61, 1, 5), (47, .ireturn, 1, 0, 0, 0), (48, .aload_n 0, 1, 0, 0, 0), (49, .getfield 20, 3, 5, 0, 4),
  (52, .invokevirtual 82, 3, 78, 0, 6), (55, .iload_n 3, 1, 0, 0, 0), (56, .ireturn, 1, 0, 0, 0)]
def op_X5_readGround : List cv_Q := [
  (0, .aload_n 0, 1, 0, 0, 0), (1, .getfield 42, 3, 5, 3, 2), (4, .ifCond .eq 10, 3, 0, 0, 0), (7, .aload_n 0, 1, 0, 0, 0),
  (8, .iconst 3, 1, 0, 0, 0), (9, .invokevirtual 74, 3, 61, 1, 5), (12, .pop, 1, 0, 0, 0), (13, .return_, 1, 0, 0, 0),
  (14, .aload_n 0, 1, 0, 0, 0), (15, .iconst 1, 1, 0, 0, 0), (16, .putfield 42, 3, 5, 3, 2), (19, .aload_n 0, 1, 0, 0, 0),
  (20, .getfield 20, 3, 5, 0, 4), (23, .invokevirtual 82, 3, 78, 0, 6), (26, .iconst 0, 1, 0, 0, 0), (27, .istore_n 1, 1, 0, 0, 0),
  (28, .iload_n 1, 1, 0, 0, 0), (29, .bipush 12, 2, 0, 0, 0), (31, .if_icmp .ge 25, 3, 0, 0, 0), (34, .aload_n 0, 1, 0, 0, 0),
  (35, .getfield 33, 3, 5, 2, 4), (38, .getfield 89, 3, 4, 0, 4), (41, .iload_n 1, 1, 0, 0, 0), (42, .aload_n 0, 1, 0, 0, 0),
  (43, .iconst 1, 1, 0, 0, 0), (44, .bipush 99, 2, 0, 0, 0), (46, .invokevirtual 93, 3, 63, 2, 5), (49, .iastore, 1, 0, 0, 0),
  (50, .iinc 1 1, 3, 0, 0, 0), (53, .goto (-25), 3, 0, 0, 0), (56, .return_, 1, 0, 0, 0)]
def op_X5_readLaw_0 : List cv_Q := [
  (0, .aload_n 0, 1, 0, 0, 0), (1, .getfield 20, 3, 5, 0, 4), (4, .invokevirtual 82, 3, 78, 0, 6), (7, .aload_n 0, 1, 0, 0, 0),
  (8, .getfield 20, 3, 5, 0, 4), (11, .iconst 5, 1, 0, 0, 0), (12, .bipush 8, 2, 0, 0, 0), (14, .invokevirtual 97, 3, 84, 2, 6),
  (17, .ifCond .ne 10, 3, 0, 0, 0), (20, .aload_n 0, 1, 0, 0, 0), (21, .iconst 1, 1, 0, 0, 0), (22, .invokevirtual 74, 3, 61, 1, 5),
  (25, .pop, 1, 0, 0, 0), (26, .return_, 1, 0, 0, 0), (27, .aload_n 0, 1, 0, 0, 0), (28, .getfield 20, 3, 5, 0, 4),
  (31, .getfield 56, 3, 6, 6, 0), (34, .iconst 5, 1, 0, 0, 0), (35, .isub, 1, 0, 0, 0), (36, .istore_n 1, 1, 0, 0, 0),
  (37, .iload_n 1, 1, 0, 0, 0), (38, .ifCond .lt 19, 3, 0, 0, 0), (41, .iload_n 1, 1, 0, 0, 0), (42, .iconst 4, 1, 0, 0, 0),
  (43, .if_icmp .ge 14, 3, 0, 0, 0), (46, .aload_n 0, 1, 0, 0, 0), (47, .getfield 33, 3, 5, 2, 4), (50, .iload_n 1, 1, 0, 0, 0),
  (51, .invokevirtual 101, 3, 52, 1, 4), (54, .ifCond .eq 10, 3, 0, 0, 0), (57, .aload_n 0, 1, 0, 0, 0), (58, .iconst 3, 1, 0, 0, 0),
  (59, .invokevirtual 74, 3, 61, 1, 5), (62, .pop, 1, 0, 0, 0), (63, .return_, 1, 0, 0, 0), (64, .aload_n 0, 1, 0, 0, 0),
  (65, .getfield 20, 3, 5, 0, 4), (68, .invokevirtual 82, 3, 78, 0, 6), (71, .aload_n 0, 1, 0, 0, 0), (72, .getfield 33, 3, 5, 2, 4),
  (75, .getfield 105, 3, 4, 2, 0), (78, .istore_n 2, 1, 0, 0, 0), (79, .aload_n 0, 1, 0, 0, 0), (80, .getfield 29, 3, 5, 1, 4),
  (83, .aload_n 0, 1, 0, 0, 0), (84, .getfield 33, 3, 5, 2, 4), (87, .invokevirtual 108, 3, 1, 1, 0), (90, .istore_n 3, 1, 0, 0, 0),
  (91, .iload_n 3, 1, 0, 0, 0), (92, .ifCond .eq 9, 3, 0, 0, 0), (95, .aload_n 0, 1, 0, 0, 0), (96, .iload_n 3, 1, 0, 0, 0),
  (97, .invokevirtual 74, 3, 61, 1, 5), (100, .pop, 1, 0, 0, 0), (101, .aload_n 0, 1, 0, 0, 0), (102, .getfield 33, 3, 5, 2, 4),
  (105, .getfield 112, 3, 4, 4, 4), (108, .iload_n 1, 1, 0, 0, 0), (109, .iload_n 2, 1, 0, 0, 0), (110, .iastore, 1, 0, 0, 0)]
def op_X5_readLaw_1 : List cv_Q := [
  (111, .aload_n 0, 1, 0, 0, 0), (112, .getfield 33, 3, 5, 2, 4), (115, .getfield 115, 3, 4, 5, 4), (118, .iload_n 1, 1, 0, 0, 0),
  (119, .aload_n 0, 1, 0, 0, 0), (120, .getfield 33, 3, 5, 2, 4), (123, .getfield 105, 3, 4, 2, 0), (126, .iastore, 1, 0, 0, 0),
  (127, .aload_n 0, 1, 0, 0, 0), (128, .getfield 33, 3, 5, 2, 4), (131, .getfield 118, 3, 4, 6, 4), (134, .iload_n 1, 1, 0, 0, 0),
  (135, .aload_n 0, 1, 0, 0, 0), (136, .getfield 29, 3, 5, 1, 4), (139, .getfield 121, 3, 0, 4, 0), (142, .iastore, 1, 0, 0, 0),
  (143, .return_, 1, 0, 0, 0)]
def op_X5_readLaw : List cv_Q := op_X5_readLaw_0 ++ (op_X5_readLaw_1)
def op_X5_readGate_0 : List cv_Q := [
  (0, .aload_n 0, 1, 0, 0, 0), (1, .getfield 33, 3, 5, 2, 4), (4, .getfield 124, 3, 4, 9, 0), (7, .istore_n 1, 1, 0, 0, 0),
  (8, .iload_n 1, 1, 0, 0, 0), (9, .ifCond .lt 8, 3, 0, 0, 0), (12, .iload_n 1, 1, 0, 0, 0), (13, .iconst 4, 1, 0, 0, 0),
  (14, .if_icmp .lt 10, 3, 0, 0, 0), (17, .aload_n 0, 1, 0, 0, 0), (18, .iconst 2, 1, 0, 0, 0), (19, .invokevirtual 74, 3, 61, 1, 5),
  (22, .pop, 1, 0, 0, 0), (23, .return_, 1, 0, 0, 0), (24, .aload_n 0, 1, 0, 0, 0), (25, .getfield 20, 3, 5, 0, 4),
  (28, .invokevirtual 82, 3, 78, 0, 6), (31, .aload_n 0, 1, 0, 0, 0), (32, .getfield 33, 3, 5, 2, 4), (35, .getfield 127, 3, 4, 7, 4),
  (38, .iload_n 1, 1, 0, 0, 0), (39, .aaload, 1, 0, 0, 0), (40, .astore_n 2, 1, 0, 0, 0), (41, .aload_n 0, 1, 0, 0, 0),
  (42, .getfield 33, 3, 5, 2, 4), (45, .getfield 131, 3, 4, 8, 4), (48, .iload_n 1, 1, 0, 0, 0), (49, .aload_n 0, 1, 0, 0, 0),
  (50, .aload_n 0, 1, 0, 0, 0), (51, .getfield 33, 3, 5, 2, 4), (54, .getfield 131, 3, 4, 8, 4), (57, .iload_n 1, 1, 0, 0, 0),
  (58, .invokevirtual 134, 3, 64, 2, 5), (61, .iastore, 1, 0, 0, 0), (62, .aload_n 2, 1, 0, 0, 0), (63, .aload_n 0, 1, 0, 0, 0),
  (64, .bipush 24, 2, 0, 0, 0), (66, .sipush 144, 3, 0, 0, 0), (69, .invokevirtual 93, 3, 63, 2, 5), (72, .putfield 138, 3, 7, 0, 0),
  (75, .aload_n 2, 1, 0, 0, 0), (76, .aload_n 0, 1, 0, 0, 0), (77, .bipush 24, 2, 0, 0, 0), (79, .bipush 72, 2, 0, 0, 0),
  (81, .invokevirtual 93, 3, 63, 2, 5), (84, .invokevirtual 143, 3, 87, 1, 7), (87, .aload_n 2, 1, 0, 0, 0), (88, .aload_n 0, 1, 0, 0, 0),
  (89, .bipush 20, 2, 0, 0, 0), (91, .sipush 400, 3, 0, 0, 0), (94, .invokevirtual 93, 3, 63, 2, 5), (97, .putfield 146, 3, 7, 2, 0),
  (100, .iconst 0, 1, 0, 0, 0), (101, .istore_n 3, 1, 0, 0, 0), (102, .iload_n 3, 1, 0, 0, 0), (103, .sipush 900, 3, 0, 0, 0),
  (106, .if_icmp .gt 35, 3, 0, 0, 0), (109, .aload_n 0, 1, 0, 0, 0), (110, .getfield 46, 3, 5, 4, 0), (113, .ifCond .ne 28, 3, 0, 0, 0)]
def op_X5_readGate_1 : List cv_Q := [
  (116, .aload_n 0, 1, 0, 0, 0), (117, .getfield 20, 3, 5, 0, 4), (120, .bipush 9, 2, 0, 0, 0), (122, .bipush 16, 2, 0, 0, 0),
  (124, .invokevirtual 97, 3, 84, 2, 6), (127, .ifCond .eq 14, 3, 0, 0, 0), (130, .aload_n 0, 1, 0, 0, 0), (131, .aload_n 2, 1, 0, 0, 0),
  (132, .invokevirtual 149, 3, 68, 1, 5), (135, .iinc 3 1, 3, 0, 0, 0), (138, .goto (-36), 3, 0, 0, 0), (141, .aload_n 0, 1, 0, 0, 0),
  (142, .getfield 33, 3, 5, 2, 4), (145, .iload_n 1, 1, 0, 0, 0), (146, .iconst 1, 1, 0, 0, 0), (147, .iadd, 1, 0, 0, 0),
  (148, .putfield 124, 3, 4, 9, 0), (151, .return_, 1, 0, 0, 0)]
def op_X5_readGate : List cv_Q := op_X5_readGate_0 ++ (op_X5_readGate_1)
def op_X5_readPart_0 : List cv_Q := [
  (0, .aload_n 0, 1, 0, 0, 0), (1, .getfield 20, 3, 5, 0, 4), (4, .getfield 56, 3, 6, 6, 0), (7, .istore_n 2, 1, 0, 0, 0),
  (8, .iload_n 2, 1, 0, 0, 0), (9, .bipush 16, 2, 0, 0, 0), (11, .if_icmp .eq 21, 3, 0, 0, 0), (14, .aload_n 1, 1, 0, 0, 0),
  (15, .getfield 153, 3, 7, 15, 0), (18, .iconst 1, 1, 0, 0, 0), (19, .iload_n 2, 1, 0, 0, 0), (20, .ishl, 1, 0, 0, 0),
  (21, .iand, 1, 0, 0, 0), (22, .ifCond .eq 10, 3, 0, 0, 0), (25, .aload_n 0, 1, 0, 0, 0), (26, .iconst 3, 1, 0, 0, 0),
  (27, .invokevirtual 74, 3, 61, 1, 5), (30, .pop, 1, 0, 0, 0), (31, .return_, 1, 0, 0, 0), (32, .aload_n 1, 1, 0, 0, 0),
  (33, .dup, 1, 0, 0, 0), (34, .getfield 153, 3, 7, 15, 0), (37, .iconst 1, 1, 0, 0, 0), (38, .iload_n 2, 1, 0, 0, 0),
  (39, .ishl, 1, 0, 0, 0), (40, .ior, 1, 0, 0, 0), (41, .putfield 153, 3, 7, 15, 0), (44, .aload_n 0, 1, 0, 0, 0),
  (45, .getfield 20, 3, 5, 0, 4), (48, .invokevirtual 82, 3, 78, 0, 6), (51, .iload_n 2, 1, 0, 0, 0), (52, .tableswitch 227 9 15 #[44, 102, 128, 136, 163, 178, 193], 44, 0, 0, 0),
  (96, .aload_n 1, 1, 0, 0, 0), (97, .aload_n 0, 1, 0, 0, 0), (98, .iconst 0, 1, 0, 0, 0), (99, .aload_n 1, 1, 0, 0, 0),
  (100, .getfield 156, 3, 7, 1, 0), (103, .invokevirtual 93, 3, 63, 2, 5), (106, .putfield 159, 3, 7, 3, 0), (109, .aload_n 1, 1, 0, 0, 0),
  (110, .aload_n 0, 1, 0, 0, 0), (111, .aload_n 1, 1, 0, 0, 0), (112, .getfield 159, 3, 7, 3, 0), (115, .iconst 1, 1, 0, 0, 0),
  (116, .iadd, 1, 0, 0, 0), (117, .aload_n 1, 1, 0, 0, 0), (118, .getfield 156, 3, 7, 1, 0), (121, .invokevirtual 93, 3, 63, 2, 5),
  (124, .putfield 162, 3, 7, 4, 0), (127, .aload_n 1, 1, 0, 0, 0), (128, .aload_n 0, 1, 0, 0, 0), (129, .bipush (-30), 2, 0, 0, 0),
  (131, .bipush 30, 2, 0, 0, 0), (133, .invokevirtual 93, 3, 63, 2, 5), (136, .putfield 165, 3, 7, 5, 0), (139, .aload_n 1, 1, 0, 0, 0),
  (140, .aload_n 0, 1, 0, 0, 0), (141, .bipush (-30), 2, 0, 0, 0), (143, .bipush 30, 2, 0, 0, 0), (145, .invokevirtual 93, 3, 63, 2, 5)]
def op_X5_readPart_1 : List cv_Q := [
  (148, .putfield 168, 3, 7, 6, 0), (151, .goto 133, 3, 0, 0, 0), (154, .aload_n 1, 1, 0, 0, 0), (155, .aload_n 0, 1, 0, 0, 0),
  (156, .bipush 12, 2, 0, 0, 0), (158, .bipush 60, 2, 0, 0, 0), (160, .invokevirtual 93, 3, 63, 2, 5), (163, .putfield 171, 3, 7, 7, 0),
  (166, .aload_n 1, 1, 0, 0, 0), (167, .aload_n 0, 1, 0, 0, 0), (168, .iconst 3, 1, 0, 0, 0), (169, .bipush 14, 2, 0, 0, 0),
  (171, .invokevirtual 93, 3, 63, 2, 5), (174, .putfield 174, 3, 7, 8, 0), (177, .goto 107, 3, 0, 0, 0), (180, .aload_n 0, 1, 0, 0, 0),
  (181, .aload_n 1, 1, 0, 0, 0), (182, .invokevirtual 177, 3, 69, 1, 5), (185, .goto 99, 3, 0, 0, 0), (188, .aload_n 1, 1, 0, 0, 0),
  (189, .aload_n 0, 1, 0, 0, 0), (190, .iconst 0, 1, 0, 0, 0), (191, .sipush 9999, 3, 0, 0, 0), (194, .invokevirtual 93, 3, 63, 2, 5),
  (197, .putfield 180, 3, 7, 10, 0), (200, .aload_n 1, 1, 0, 0, 0), (201, .aload_n 0, 1, 0, 0, 0), (202, .iconst 0, 1, 0, 0, 0),
  (203, .sipush 9999, 3, 0, 0, 0), (206, .invokevirtual 93, 3, 63, 2, 5), (209, .putfield 183, 3, 7, 11, 0), (212, .goto 72, 3, 0, 0, 0),
  (215, .aload_n 1, 1, 0, 0, 0), (216, .aload_n 0, 1, 0, 0, 0), (217, .iconst 0, 1, 0, 0, 0), (218, .sipush 200, 3, 0, 0, 0),
  (221, .invokevirtual 93, 3, 63, 2, 5), (224, .putfield 186, 3, 7, 12, 0), (227, .goto 57, 3, 0, 0, 0), (230, .aload_n 1, 1, 0, 0, 0),
  (231, .aload_n 0, 1, 0, 0, 0), (232, .iconst 0, 1, 0, 0, 0), (233, .sipush 9999, 3, 0, 0, 0), (236, .invokevirtual 93, 3, 63, 2, 5),
  (239, .putfield 189, 3, 7, 13, 0), (242, .goto 42, 3, 0, 0, 0), (245, .iconst 0, 1, 0, 0, 0), (246, .istore_n 3, 1, 0, 0, 0),
  (247, .iload_n 3, 1, 0, 0, 0), (248, .aload_n 1, 1, 0, 0, 0), (249, .getfield 192, 3, 7, 16, 4), (252, .arraylength, 1, 0, 0, 0),
  (253, .if_icmp .ge 23, 3, 0, 0, 0), (256, .aload_n 1, 1, 0, 0, 0), (257, .getfield 192, 3, 7, 16, 4), (260, .iload_n 3, 1, 0, 0, 0),
  (261, .aload_n 0, 1, 0, 0, 0), (262, .iconst 0, 1, 0, 0, 0), (263, .sipush 200, 3, 0, 0, 0), (266, .invokevirtual 93, 3, 63, 2, 5)]
def op_X5_readPart_2 : List cv_Q := [
  (269, .iastore, 1, 0, 0, 0), (270, .iinc 3 1, 3, 0, 0, 0), (273, .goto (-26), 3, 0, 0, 0), (276, .goto 8, 3, 0, 0, 0),
  (279, .aload_n 0, 1, 0, 0, 0), (280, .aload_n 1, 1, 0, 0, 0), (281, .invokevirtual 195, 3, 70, 1, 5), (284, .return_, 1, 0, 0, 0)]
def op_X5_readPart : List cv_Q := op_X5_readPart_0 ++ (op_X5_readPart_1 ++ (op_X5_readPart_2))
def op_X5_readBrace : List cv_Q := [
  (0, .aload_n 0, 1, 0, 0, 0), (1, .getfield 20, 3, 5, 0, 4), (4, .bipush 17, 2, 0, 0, 0), (6, .bipush 18, 2, 0, 0, 0),
  (8, .invokevirtual 97, 3, 84, 2, 6), (11, .ifCond .ne 10, 3, 0, 0, 0), (14, .aload_n 0, 1, 0, 0, 0), (15, .iconst 1, 1, 0, 0, 0),
  (16, .invokevirtual 74, 3, 61, 1, 5), (19, .pop, 1, 0, 0, 0), (20, .return_, 1, 0, 0, 0), (21, .aload_n 1, 1, 0, 0, 0),
  (22, .aload_n 0, 1, 0, 0, 0), (23, .getfield 20, 3, 5, 0, 4), (26, .getfield 56, 3, 6, 6, 0), (29, .bipush 17, 2, 0, 0, 0),
  (31, .if_icmp .ne 7, 3, 0, 0, 0), (34, .iconst 1, 1, 0, 0, 0), (35, .goto 4, 3, 0, 0, 0), (38, .iconst 2, 1, 0, 0, 0),
  (39, .putfield 198, 3, 7, 9, 0), (42, .aload_n 0, 1, 0, 0, 0), (43, .getfield 20, 3, 5, 0, 4), (46, .invokevirtual 82, 3, 78, 0, 6),
  (49, .return_, 1, 0, 0, 0)]
def op_X5_readHas : List cv_Q := [
  (0, .aload_n 0, 1, 0, 0, 0), (1, .getfield 20, 3, 5, 0, 4), (4, .getfield 53, 3, 6, 4, 0), (7, .iconst 3, 1, 0, 0, 0),
  (8, .if_icmp .eq 10, 3, 0, 0, 0), (11, .aload_n 0, 1, 0, 0, 0), (12, .iconst 1, 1, 0, 0, 0), (13, .invokevirtual 74, 3, 61, 1, 5),
  (16, .pop, 1, 0, 0, 0), (17, .return_, 1, 0, 0, 0), (18, .aload_n 0, 1, 0, 0, 0), (19, .getfield 20, 3, 5, 0, 4),
  (22, .getfield 56, 3, 6, 6, 0), (25, .aload_n 0, 1, 0, 0, 0), (26, .getfield 33, 3, 5, 2, 4), (29, .getfield 201, 3, 4, 15, 4),
  (32, .aload_n 0, 1, 0, 0, 0), (33, .getfield 33, 3, 5, 2, 4), (36, .getfield 204, 3, 4, 19, 0), (39, .invokestatic 85, 3, 113, 3, 0),
  (42, .istore_n 2, 1, 0, 0, 0), (43, .iload_n 2, 1, 0, 0, 0), (44, .iconst (-1), 1, 0, 0, 0), (45, .if_icmp .ne 10, 3, 0, 0, 0),
  (48, .aload_n 0, 1, 0, 0, 0), (49, .iconst 4, 1, 0, 0, 0), (50, .invokevirtual 74, 3, 61, 1, 5), (53, .pop, 1, 0, 0, 0),
  (54, .return_, 1, 0, 0, 0), (55, .aload_n 1, 1, 0, 0, 0), (56, .getfield 207, 3, 7, 14, 0), (59, .iconst 1, 1, 0, 0, 0),
  (60, .iload_n 2, 1, 0, 0, 0), (61, .ishl, 1, 0, 0, 0), (62, .iand, 1, 0, 0, 0), (63, .ifCond .eq 10, 3, 0, 0, 0),
  (66, .aload_n 0, 1, 0, 0, 0), (67, .iconst 3, 1, 0, 0, 0), (68, .invokevirtual 74, 3, 61, 1, 5), (71, .pop, 1, 0, 0, 0),
  (72, .return_, 1, 0, 0, 0), (73, .aload_n 1, 1, 0, 0, 0), (74, .dup, 1, 0, 0, 0), (75, .getfield 207, 3, 7, 14, 0),
  (78, .iconst 1, 1, 0, 0, 0), (79, .iload_n 2, 1, 0, 0, 0), (80, .ishl, 1, 0, 0, 0), (81, .ior, 1, 0, 0, 0),
  (82, .putfield 207, 3, 7, 14, 0), (85, .aload_n 0, 1, 0, 0, 0), (86, .getfield 20, 3, 5, 0, 4), (89, .invokevirtual 82, 3, 78, 0, 6),
  (92, .return_, 1, 0, 0, 0)]
def op_X5_readWork_0 : List cv_Q := [
  (0, .aload_n 0, 1, 0, 0, 0), (1, .getfield 33, 3, 5, 2, 4), (4, .getfield 210, 3, 4, 14, 0), (7, .istore_n 1, 1, 0, 0, 0),
  (8, .iload_n 1, 1, 0, 0, 0), (9, .ifCond .lt 9, 3, 0, 0, 0), (12, .iload_n 1, 1, 0, 0, 0), (13, .bipush 6, 2, 0, 0, 0),
  (15, .if_icmp .lt 10, 3, 0, 0, 0), (18, .aload_n 0, 1, 0, 0, 0), (19, .iconst 2, 1, 0, 0, 0), (20, .invokevirtual 74, 3, 61, 1, 5),
  (23, .pop, 1, 0, 0, 0), (24, .return_, 1, 0, 0, 0), (25, .aload_n 0, 1, 0, 0, 0), (26, .getfield 20, 3, 5, 0, 4),
  (29, .invokevirtual 82, 3, 78, 0, 6), (32, .aload_n 0, 1, 0, 0, 0), (33, .getfield 33, 3, 5, 2, 4), (36, .getfield 213, 3, 4, 10, 4),
  (39, .iload_n 1, 1, 0, 0, 0), (40, .aload_n 0, 1, 0, 0, 0), (41, .aload_n 0, 1, 0, 0, 0), (42, .getfield 33, 3, 5, 2, 4),
  (45, .getfield 213, 3, 4, 10, 4), (48, .iload_n 1, 1, 0, 0, 0), (49, .invokevirtual 134, 3, 64, 2, 5), (52, .iastore, 1, 0, 0, 0),
  (53, .aload_n 0, 1, 0, 0, 0), (54, .getfield 33, 3, 5, 2, 4), (57, .getfield 216, 3, 4, 11, 4), (60, .iload_n 1, 1, 0, 0, 0),
  (61, .aload_n 0, 1, 0, 0, 0), (62, .iconst 1, 1, 0, 0, 0), (63, .sipush 999, 3, 0, 0, 0), (66, .invokevirtual 93, 3, 63, 2, 5),
  (69, .iastore, 1, 0, 0, 0), (70, .aload_n 0, 1, 0, 0, 0), (71, .getfield 46, 3, 5, 4, 0), (74, .ifCond .ne 27, 3, 0, 0, 0),
  (77, .aload_n 0, 1, 0, 0, 0), (78, .getfield 20, 3, 5, 0, 4), (81, .getfield 53, 3, 6, 4, 0), (84, .iconst 2, 1, 0, 0, 0),
  (85, .if_icmp .ne 16, 3, 0, 0, 0), (88, .aload_n 0, 1, 0, 0, 0), (89, .getfield 20, 3, 5, 0, 4), (92, .getfield 56, 3, 6, 6, 0),
  (95, .invokestatic 219, 3, 72, 1, 0), (98, .goto 4, 3, 0, 0, 0), (101, .iconst (-1), 1, 0, 0, 0), (102, .istore_n 2, 1, 0, 0, 0),
  (103, .iload_n 2, 1, 0, 0, 0), (104, .iconst (-1), 1, 0, 0, 0), (105, .if_icmp .ne 10, 3, 0, 0, 0), (108, .aload_n 0, 1, 0, 0, 0),
  (109, .iconst 1, 1, 0, 0, 0), (110, .invokevirtual 74, 3, 61, 1, 5), (113, .pop, 1, 0, 0, 0), (114, .return_, 1, 0, 0, 0)]
def op_X5_readWork_1 : List cv_Q := [
  (115, .aload_n 0, 1, 0, 0, 0), (116, .getfield 20, 3, 5, 0, 4), (119, .invokevirtual 82, 3, 78, 0, 6), (122, .iload_n 2, 1, 0, 0, 0),
  (123, .invokestatic 222, 3, 73, 1, 0), (126, .istore_n 3, 1, 0, 0, 0), (127, .aload_n 0, 1, 0, 0, 0), (128, .getfield 33, 3, 5, 2, 4),
  (131, .getfield 225, 3, 4, 12, 4), (134, .iload_n 1, 1, 0, 0, 0), (135, .iload_n 2, 1, 0, 0, 0), (136, .iastore, 1, 0, 0, 0),
  (137, .aload_n 0, 1, 0, 0, 0), (138, .getfield 33, 3, 5, 2, 4), (141, .getfield 228, 3, 4, 13, 4), (144, .iload_n 1, 1, 0, 0, 0),
  (145, .iload_n 3, 1, 0, 0, 0), (146, .ifCond .lt 12, 3, 0, 0, 0), (149, .aload_n 0, 1, 0, 0, 0), (150, .iconst 0, 1, 0, 0, 0),
  (151, .iload_n 3, 1, 0, 0, 0), (152, .invokevirtual 93, 3, 63, 2, 5), (155, .goto 4, 3, 0, 0, 0), (158, .iconst 0, 1, 0, 0, 0),
  (159, .iastore, 1, 0, 0, 0), (160, .aload_n 0, 1, 0, 0, 0), (161, .getfield 33, 3, 5, 2, 4), (164, .iload_n 1, 1, 0, 0, 0),
  (165, .iconst 1, 1, 0, 0, 0), (166, .iadd, 1, 0, 0, 0), (167, .putfield 210, 3, 4, 14, 0), (170, .return_, 1, 0, 0, 0)]
def op_X5_readWork : List cv_Q := op_X5_readWork_0 ++ (op_X5_readWork_1)
def op_X5_kindOf : List cv_Q := [
  (0, .iload_n 0, 1, 0, 0, 0), (1, .tableswitch 86 10 23 #[81, 71, 86, 86, 86, 86, 86, 86, 86, 73, 75, 77, 79, 83], 71, 0, 0, 0), (72, .iconst 0, 1, 0, 0, 0), (73, .ireturn, 1, 0, 0, 0),
  (74, .iconst 1, 1, 0, 0, 0), (75, .ireturn, 1, 0, 0, 0), (76, .iconst 2, 1, 0, 0, 0), (77, .ireturn, 1, 0, 0, 0),
  (78, .iconst 3, 1, 0, 0, 0), (79, .ireturn, 1, 0, 0, 0), (80, .iconst 4, 1, 0, 0, 0), (81, .ireturn, 1, 0, 0, 0),
  (82, .iconst 5, 1, 0, 0, 0), (83, .ireturn, 1, 0, 0, 0), (84, .bipush 6, 2, 0, 0, 0), (86, .ireturn, 1, 0, 0, 0),
  (87, .iconst (-1), 1, 0, 0, 0), (88, .ireturn, 1, 0, 0, 0)]
def op_X5_mostOf : List cv_Q := [
  (0, .iload_n 0, 1, 0, 0, 0), (1, .tableswitch 48 2 6 #[35, 39, 42, 45, 35], 35, 0, 0, 0), (36, .sipush 9999, 3, 0, 0, 0), (39, .ireturn, 1, 0, 0, 0),
  (40, .bipush 100, 2, 0, 0, 0), (42, .ireturn, 1, 0, 0, 0), (43, .bipush 99, 2, 0, 0, 0), (45, .ireturn, 1, 0, 0, 0),
  (46, .bipush 60, 2, 0, 0, 0), (48, .ireturn, 1, 0, 0, 0), (49, .iconst (-1), 1, 0, 0, 0), (50, .ireturn, 1, 0, 0, 0)]
def op_X5_readCause_0 : List cv_Q := [
  (0, .aload_n 0, 1, 0, 0, 0), (1, .getfield 33, 3, 5, 2, 4), (4, .getfield 204, 3, 4, 19, 0), (7, .istore_n 1, 1, 0, 0, 0),
  (8, .iload_n 1, 1, 0, 0, 0), (9, .ifCond .lt 9, 3, 0, 0, 0), (12, .iload_n 1, 1, 0, 0, 0), (13, .bipush 6, 2, 0, 0, 0),
  (15, .if_icmp .lt 10, 3, 0, 0, 0), (18, .aload_n 0, 1, 0, 0, 0), (19, .iconst 2, 1, 0, 0, 0), (20, .invokevirtual 74, 3, 61, 1, 5),
  (23, .pop, 1, 0, 0, 0), (24, .return_, 1, 0, 0, 0), (25, .aload_n 0, 1, 0, 0, 0), (26, .getfield 20, 3, 5, 0, 4),
  (29, .invokevirtual 82, 3, 78, 0, 6), (32, .aload_n 0, 1, 0, 0, 0), (33, .getfield 33, 3, 5, 2, 4), (36, .getfield 201, 3, 4, 15, 4),
  (39, .iload_n 1, 1, 0, 0, 0), (40, .aload_n 0, 1, 0, 0, 0), (41, .aload_n 0, 1, 0, 0, 0), (42, .getfield 33, 3, 5, 2, 4),
  (45, .getfield 201, 3, 4, 15, 4), (48, .iload_n 1, 1, 0, 0, 0), (49, .invokevirtual 134, 3, 64, 2, 5), (52, .iastore, 1, 0, 0, 0),
  (53, .aload_n 0, 1, 0, 0, 0), (54, .getfield 33, 3, 5, 2, 4), (57, .getfield 231, 3, 4, 16, 4), (60, .iload_n 1, 1, 0, 0, 0),
  (61, .aload_n 0, 1, 0, 0, 0), (62, .iconst 1, 1, 0, 0, 0), (63, .bipush 99, 2, 0, 0, 0), (65, .invokevirtual 93, 3, 63, 2, 5),
  (68, .iastore, 1, 0, 0, 0), (69, .aload_n 0, 1, 0, 0, 0), (70, .getfield 46, 3, 5, 4, 0), (73, .ifCond .ne 16, 3, 0, 0, 0),
  (76, .aload_n 0, 1, 0, 0, 0), (77, .getfield 20, 3, 5, 0, 4), (80, .iconst 5, 1, 0, 0, 0), (81, .bipush 7, 2, 0, 0, 0),
  (83, .invokevirtual 97, 3, 84, 2, 6), (86, .ifCond .ne 10, 3, 0, 0, 0), (89, .aload_n 0, 1, 0, 0, 0), (90, .iconst 1, 1, 0, 0, 0),
  (91, .invokevirtual 74, 3, 61, 1, 5), (94, .pop, 1, 0, 0, 0), (95, .return_, 1, 0, 0, 0), (96, .aload_n 0, 1, 0, 0, 0),
  (97, .getfield 33, 3, 5, 2, 4), (100, .getfield 234, 3, 4, 17, 4), (103, .iload_n 1, 1, 0, 0, 0), (104, .aload_n 0, 1, 0, 0, 0),
  (105, .getfield 20, 3, 5, 0, 4), (108, .getfield 56, 3, 6, 6, 0), (111, .iconst 5, 1, 0, 0, 0), (112, .isub, 1, 0, 0, 0)]
def op_X5_readCause_1 : List cv_Q := [
  (113, .iastore, 1, 0, 0, 0), (114, .aload_n 0, 1, 0, 0, 0), (115, .getfield 20, 3, 5, 0, 4), (118, .invokevirtual 82, 3, 78, 0, 6),
  (121, .aload_n 0, 1, 0, 0, 0), (122, .getfield 33, 3, 5, 2, 4), (125, .getfield 237, 3, 4, 18, 4), (128, .iload_n 1, 1, 0, 0, 0),
  (129, .aload_n 0, 1, 0, 0, 0), (130, .iconst 1, 1, 0, 0, 0), (131, .sipush 999, 3, 0, 0, 0), (134, .invokevirtual 93, 3, 63, 2, 5),
  (137, .iastore, 1, 0, 0, 0), (138, .aload_n 0, 1, 0, 0, 0), (139, .getfield 33, 3, 5, 2, 4), (142, .iload_n 1, 1, 0, 0, 0),
  (143, .iconst 1, 1, 0, 0, 0), (144, .iadd, 1, 0, 0, 0), (145, .putfield 204, 3, 4, 19, 0), (148, .return_, 1, 0, 0, 0)]
def op_X5_readCause : List cv_Q := op_X5_readCause_0 ++ (op_X5_readCause_1)
def op_X6_init : List cv_Q := [
  (0, .aload_n 0, 1, 0, 0, 0), (1, .invokespecial 3, 3, 9999, 0, 0), (4, .aload_n 0, 1, 0, 0, 0), (5, .bipush 34, 2, 0, 0, 0),
  (7, .newarray .int, 2, 0, 0, 0), (9, .putfield 9, 3, 6, 1, 4), (12, .aload_n 0, 1, 0, 0, 0), (13, .aload_n 1, 1, 0, 0, 0),
  (14, .putfield 15, 3, 6, 0, 4), (17, .iconst 0, 1, 0, 0, 0), (18, .istore_n 2, 1, 0, 0, 0), (19, .iconst 0, 1, 0, 0, 0),
  (20, .istore_n 3, 1, 0, 0, 0), (21, .iconst 0, 1, 0, 0, 0), (22, .istore 4, 2, 0, 0, 0), (24, .iload 4, 2, 0, 0, 0),
  (26, .ldc 19, 2, 1, 0, 0), (28, .invokevirtual 21, 3, 274, 0, 100), (31, .if_icmp .ge 57, 3, 0, 0, 0), (34, .iload_n 2, 1, 0, 0, 0),
  (35, .bipush 34, 2, 0, 0, 0), (37, .if_icmp .ge 51, 3, 0, 0, 0), (40, .ldc 19, 2, 1, 0, 0), (42, .iload 4, 2, 0, 0, 0),
  (44, .invokevirtual 27, 3, 275, 1, 100), (47, .istore 5, 2, 0, 0, 0), (49, .iload 5, 2, 0, 0, 0), (51, .bipush 32, 2, 0, 0, 0),
  (53, .if_icmp .ne 11, 3, 0, 0, 0), (56, .iinc 2 1, 3, 0, 0, 0), (59, .iconst 0, 1, 0, 0, 0), (60, .istore_n 3, 1, 0, 0, 0),
  (61, .goto 21, 3, 0, 0, 0), (64, .aload_n 0, 1, 0, 0, 0), (65, .getfield 9, 3, 6, 1, 4), (68, .iload_n 2, 1, 0, 0, 0),
  (69, .dup2, 1, 0, 0, 0), (70, .iaload, 1, 0, 0, 0), (71, .iload 5, 2, 0, 0, 0), (73, .iload_n 3, 1, 0, 0, 0),
  (74, .invokestatic 31, 3, 76, 2, 0), (77, .ior, 1, 0, 0, 0), (78, .iastore, 1, 0, 0, 0), (79, .iinc 3 1, 3, 0, 0, 0),
  (82, .iinc 4 1, 3, 0, 0, 0), (85, .goto (-61), 3, 0, 0, 0), (88, .return_, 1, 0, 0, 0)]
def op_X6_letterBits : List cv_Q := [
  (0, .iload_n 1, 1, 0, 0, 0), (1, .bipush 6, 2, 0, 0, 0), (3, .if_icmp .ge 18, 3, 0, 0, 0), (6, .iload_n 0, 1, 0, 0, 0),
  (7, .bipush 97, 2, 0, 0, 0), (9, .isub, 1, 0, 0, 0), (10, .iconst 1, 1, 0, 0, 0), (11, .iadd, 1, 0, 0, 0),
  (12, .iconst 5, 1, 0, 0, 0), (13, .iconst 5, 1, 0, 0, 0), (14, .iload_n 1, 1, 0, 0, 0), (15, .isub, 1, 0, 0, 0),
  (16, .imul, 1, 0, 0, 0), (17, .ishl, 1, 0, 0, 0), (18, .goto 4, 3, 0, 0, 0), (21, .iconst 0, 1, 0, 0, 0),
  (22, .ireturn, 1, 0, 0, 0)]
def op_X6_begin : List cv_Q := [
  (0, .aload_n 0, 1, 0, 0, 0), (1, .iconst 0, 1, 0, 0, 0), (2, .iload_n 1, 1, 0, 0, 0), (3, .aload_n 0, 1, 0, 0, 0),
  (4, .getfield 15, 3, 6, 0, 4), (7, .arraylength, 1, 0, 0, 0), (8, .invokestatic 35, 3, 9002, 2, 0), (11, .invokestatic 40, 3, 9001, 2, 0),
  (14, .putfield 43, 3, 6, 2, 0), (17, .aload_n 0, 1, 0, 0, 0), (18, .iconst 0, 1, 0, 0, 0), (19, .putfield 46, 3, 6, 3, 0),
  (22, .aload_n 0, 1, 0, 0, 0), (23, .invokevirtual 49, 3, 78, 0, 6), (26, .return_, 1, 0, 0, 0)]
def op_X6_step_0 : List cv_Q := [
  (0, .aload_n 0, 1, 0, 0, 0), (1, .getfield 46, 3, 6, 3, 0), (4, .aload_n 0, 1, 0, 0, 0), (5, .getfield 43, 3, 6, 2, 0),
  (8, .if_icmp .ge 44, 3, 0, 0, 0), (11, .aload_n 0, 1, 0, 0, 0), (12, .getfield 15, 3, 6, 0, 4), (15, .aload_n 0, 1, 0, 0, 0),
  (16, .getfield 46, 3, 6, 3, 0), (19, .baload, 1, 0, 0, 0), (20, .bipush 32, 2, 0, 0, 0), (22, .if_icmp .eq 17, 3, 0, 0, 0),
  (25, .aload_n 0, 1, 0, 0, 0), (26, .getfield 15, 3, 6, 0, 4), (29, .aload_n 0, 1, 0, 0, 0), (30, .getfield 46, 3, 6, 3, 0),
  (33, .baload, 1, 0, 0, 0), (34, .bipush 10, 2, 0, 0, 0), (36, .if_icmp .ne 16, 3, 0, 0, 0), (39, .aload_n 0, 1, 0, 0, 0),
  (40, .dup, 1, 0, 0, 0), (41, .getfield 46, 3, 6, 3, 0), (44, .iconst 1, 1, 0, 0, 0), (45, .iadd, 1, 0, 0, 0),
  (46, .putfield 46, 3, 6, 3, 0), (49, .goto (-49), 3, 0, 0, 0), (52, .aload_n 0, 1, 0, 0, 0), (53, .aload_n 0, 1, 0, 0, 0),
  (54, .getfield 46, 3, 6, 3, 0), (57, .putfield 52, 3, 6, 5, 0), (60, .aload_n 0, 1, 0, 0, 0), (61, .iconst 0, 1, 0, 0, 0),
  (62, .putfield 55, 3, 6, 6, 0), (65, .aload_n 0, 1, 0, 0, 0), (66, .getfield 46, 3, 6, 3, 0), (69, .aload_n 0, 1, 0, 0, 0),
  (70, .getfield 43, 3, 6, 2, 0), (73, .if_icmp .lt 11, 3, 0, 0, 0), (76, .aload_n 0, 1, 0, 0, 0), (77, .iconst 0, 1, 0, 0, 0),
  (78, .putfield 58, 3, 6, 4, 0), (81, .goto 86, 3, 0, 0, 0), (84, .aload_n 0, 1, 0, 0, 0), (85, .getfield 15, 3, 6, 0, 4),
  (88, .aload_n 0, 1, 0, 0, 0), (89, .getfield 46, 3, 6, 3, 0), (92, .baload, 1, 0, 0, 0), (93, .bipush 97, 2, 0, 0, 0),
  (95, .if_icmp .lt 24, 3, 0, 0, 0), (98, .aload_n 0, 1, 0, 0, 0), (99, .getfield 15, 3, 6, 0, 4), (102, .aload_n 0, 1, 0, 0, 0),
  (103, .getfield 46, 3, 6, 3, 0), (106, .baload, 1, 0, 0, 0), (107, .bipush 122, 2, 0, 0, 0), (109, .if_icmp .gt 10, 3, 0, 0, 0),
  (112, .aload_n 0, 1, 0, 0, 0), (113, .invokevirtual 61, 3, 79, 0, 6), (116, .goto 51, 3, 0, 0, 0), (119, .aload_n 0, 1, 0, 0, 0)]
def op_X6_step_1 : List cv_Q := [
  (120, .getfield 15, 3, 6, 0, 4), (123, .aload_n 0, 1, 0, 0, 0), (124, .getfield 46, 3, 6, 3, 0), (127, .baload, 1, 0, 0, 0),
  (128, .bipush 48, 2, 0, 0, 0), (130, .if_icmp .lt 24, 3, 0, 0, 0), (133, .aload_n 0, 1, 0, 0, 0), (134, .getfield 15, 3, 6, 0, 4),
  (137, .aload_n 0, 1, 0, 0, 0), (138, .getfield 46, 3, 6, 3, 0), (141, .baload, 1, 0, 0, 0), (142, .bipush 57, 2, 0, 0, 0),
  (144, .if_icmp .gt 10, 3, 0, 0, 0), (147, .aload_n 0, 1, 0, 0, 0), (148, .invokevirtual 64, 3, 80, 0, 6), (151, .goto 16, 3, 0, 0, 0),
  (154, .aload_n 0, 1, 0, 0, 0), (155, .aload_n 0, 1, 0, 0, 0), (156, .getfield 15, 3, 6, 0, 4), (159, .aload_n 0, 1, 0, 0, 0),
  (160, .getfield 46, 3, 6, 3, 0), (163, .baload, 1, 0, 0, 0), (164, .invokevirtual 67, 3, 81, 1, 6), (167, .return_, 1, 0, 0, 0)]
def op_X6_step : List cv_Q := op_X6_step_0 ++ (op_X6_step_1)
def op_X6_readLetters_0 : List cv_Q := [
  (0, .iconst 0, 1, 0, 0, 0), (1, .istore_n 1, 1, 0, 0, 0), (2, .aload_n 0, 1, 0, 0, 0), (3, .getfield 46, 3, 6, 3, 0),
  (6, .aload_n 0, 1, 0, 0, 0), (7, .getfield 43, 3, 6, 2, 0), (10, .if_icmp .ge 69, 3, 0, 0, 0), (13, .aload_n 0, 1, 0, 0, 0),
  (14, .getfield 15, 3, 6, 0, 4), (17, .aload_n 0, 1, 0, 0, 0), (18, .getfield 46, 3, 6, 3, 0), (21, .baload, 1, 0, 0, 0),
  (22, .bipush 97, 2, 0, 0, 0), (24, .if_icmp .lt 55, 3, 0, 0, 0), (27, .aload_n 0, 1, 0, 0, 0), (28, .getfield 15, 3, 6, 0, 4),
  (31, .aload_n 0, 1, 0, 0, 0), (32, .getfield 46, 3, 6, 3, 0), (35, .baload, 1, 0, 0, 0), (36, .bipush 122, 2, 0, 0, 0),
  (38, .if_icmp .gt 41, 3, 0, 0, 0), (41, .aload_n 0, 1, 0, 0, 0), (42, .dup, 1, 0, 0, 0), (43, .getfield 55, 3, 6, 6, 0),
  (46, .aload_n 0, 1, 0, 0, 0), (47, .getfield 15, 3, 6, 0, 4), (50, .aload_n 0, 1, 0, 0, 0), (51, .getfield 46, 3, 6, 3, 0),
  (54, .baload, 1, 0, 0, 0), (55, .iload_n 1, 1, 0, 0, 0), (56, .invokestatic 31, 3, 76, 2, 0), (59, .ior, 1, 0, 0, 0),
  (60, .putfield 55, 3, 6, 6, 0), (63, .iinc 1 1, 3, 0, 0, 0), (66, .aload_n 0, 1, 0, 0, 0), (67, .dup, 1, 0, 0, 0),
  (68, .getfield 46, 3, 6, 3, 0), (71, .iconst 1, 1, 0, 0, 0), (72, .iadd, 1, 0, 0, 0), (73, .putfield 46, 3, 6, 3, 0),
  (76, .goto (-74), 3, 0, 0, 0), (79, .aload_n 0, 1, 0, 0, 0), (80, .iload_n 1, 1, 0, 0, 0), (81, .bipush 6, 2, 0, 0, 0),
  (83, .if_icmp .le 7, 3, 0, 0, 0), (86, .iconst 1, 1, 0, 0, 0), (87, .goto 4, 3, 0, 0, 0), (90, .iconst 3, 1, 0, 0, 0),
  (91, .putfield 58, 3, 6, 4, 0), (94, .iconst 0, 1, 0, 0, 0), (95, .istore_n 2, 1, 0, 0, 0), (96, .iload_n 2, 1, 0, 0, 0),
  (97, .bipush 34, 2, 0, 0, 0), (99, .if_icmp .ge 40, 3, 0, 0, 0), (102, .aload_n 0, 1, 0, 0, 0), (103, .getfield 58, 3, 6, 4, 0),
  (106, .iconst 3, 1, 0, 0, 0), (107, .if_icmp .ne 32, 3, 0, 0, 0), (110, .aload_n 0, 1, 0, 0, 0), (111, .getfield 9, 3, 6, 1, 4)]
def op_X6_readLetters_1 : List cv_Q := [
  (114, .iload_n 2, 1, 0, 0, 0), (115, .iaload, 1, 0, 0, 0), (116, .aload_n 0, 1, 0, 0, 0), (117, .getfield 55, 3, 6, 6, 0),
  (120, .if_icmp .ne 13, 3, 0, 0, 0), (123, .aload_n 0, 1, 0, 0, 0), (124, .iconst 2, 1, 0, 0, 0), (125, .putfield 58, 3, 6, 4, 0),
  (128, .aload_n 0, 1, 0, 0, 0), (129, .iload_n 2, 1, 0, 0, 0), (130, .putfield 55, 3, 6, 6, 0), (133, .iinc 2 1, 3, 0, 0, 0),
  (136, .goto (-40), 3, 0, 0, 0), (139, .return_, 1, 0, 0, 0)]
def op_X6_readLetters : List cv_Q := op_X6_readLetters_0 ++ (op_X6_readLetters_1)
def op_X6_readDigits : List cv_Q := [
  (0, .aload_n 0, 1, 0, 0, 0), (1, .getfield 46, 3, 6, 3, 0), (4, .aload_n 0, 1, 0, 0, 0), (5, .getfield 43, 3, 6, 2, 0),
  (8, .if_icmp .ge 73, 3, 0, 0, 0), (11, .aload_n 0, 1, 0, 0, 0), (12, .getfield 15, 3, 6, 0, 4), (15, .aload_n 0, 1, 0, 0, 0),
  (16, .getfield 46, 3, 6, 3, 0), (19, .baload, 1, 0, 0, 0), (20, .bipush 48, 2, 0, 0, 0), (22, .if_icmp .lt 59, 3, 0, 0, 0),
  (25, .aload_n 0, 1, 0, 0, 0), (26, .getfield 15, 3, 6, 0, 4), (29, .aload_n 0, 1, 0, 0, 0), (30, .getfield 46, 3, 6, 3, 0),
  (33, .baload, 1, 0, 0, 0), (34, .bipush 57, 2, 0, 0, 0), (36, .if_icmp .gt 45, 3, 0, 0, 0), (39, .aload_n 0, 1, 0, 0, 0),
  (40, .ldc 71, 2, 0, 0, 1000000), (42, .bipush 10, 2, 0, 0, 0), (44, .aload_n 0, 1, 0, 0, 0), (45, .getfield 55, 3, 6, 6, 0),
  (48, .imul, 1, 0, 0, 0), (49, .aload_n 0, 1, 0, 0, 0), (50, .getfield 15, 3, 6, 0, 4), (53, .aload_n 0, 1, 0, 0, 0),
  (54, .getfield 46, 3, 6, 3, 0), (57, .baload, 1, 0, 0, 0), (58, .iadd, 1, 0, 0, 0), (59, .bipush 48, 2, 0, 0, 0),
  (61, .isub, 1, 0, 0, 0), (62, .invokestatic 35, 3, 9002, 2, 0), (65, .putfield 55, 3, 6, 6, 0), (68, .aload_n 0, 1, 0, 0, 0),
  (69, .dup, 1, 0, 0, 0), (70, .getfield 46, 3, 6, 3, 0), (73, .iconst 1, 1, 0, 0, 0), (74, .iadd, 1, 0, 0, 0),
  (75, .putfield 46, 3, 6, 3, 0), (78, .goto (-78), 3, 0, 0, 0), (81, .aload_n 0, 1, 0, 0, 0), (82, .iconst 4, 1, 0, 0, 0),
  (83, .putfield 58, 3, 6, 4, 0), (86, .return_, 1, 0, 0, 0)]
def op_X6_readSign_0 : List cv_Q := [
  (0, .aload_n 0, 1, 0, 0, 0), (1, .dup, 1, 0, 0, 0), (2, .getfield 46, 3, 6, 3, 0), (5, .iconst 1, 1, 0, 0, 0),
  (6, .iadd, 1, 0, 0, 0), (7, .putfield 46, 3, 6, 3, 0), (10, .aload_n 0, 1, 0, 0, 0), (11, .iconst 5, 1, 0, 0, 0),
  (12, .putfield 58, 3, 6, 4, 0), (15, .iload_n 1, 1, 0, 0, 0), (16, .tableswitch 250 40 62 #[117, 126, 155, 135, 250, 145, 250, 165, 250, 250, 250, 250, 250, 250, 250, 250, 250, 250, 250, 108, 185, 175, 225], 108, 0, 0, 0), (124, .aload_n 0, 1, 0, 0, 0),
  (125, .bipush 8, 2, 0, 0, 0), (127, .putfield 58, 3, 6, 4, 0), (130, .goto 141, 3, 0, 0, 0), (133, .aload_n 0, 1, 0, 0, 0),
  (134, .bipush 6, 2, 0, 0, 0), (136, .putfield 58, 3, 6, 4, 0), (139, .goto 132, 3, 0, 0, 0), (142, .aload_n 0, 1, 0, 0, 0),
  (143, .bipush 7, 2, 0, 0, 0), (145, .putfield 58, 3, 6, 4, 0), (148, .goto 123, 3, 0, 0, 0), (151, .aload_n 0, 1, 0, 0, 0),
  (152, .sipush 20009, 3, 0, 0, 0), (155, .putfield 55, 3, 6, 6, 0), (158, .goto 113, 3, 0, 0, 0), (161, .aload_n 0, 1, 0, 0, 0),
  (162, .sipush 20010, 3, 0, 0, 0), (165, .putfield 55, 3, 6, 6, 0), (168, .goto 103, 3, 0, 0, 0), (171, .aload_n 0, 1, 0, 0, 0),
  (172, .sipush 20011, 3, 0, 0, 0), (175, .putfield 55, 3, 6, 6, 0), (178, .goto 93, 3, 0, 0, 0), (181, .aload_n 0, 1, 0, 0, 0),
  (182, .sipush 20012, 3, 0, 0, 0), (185, .putfield 55, 3, 6, 6, 0), (188, .goto 83, 3, 0, 0, 0), (191, .aload_n 0, 1, 0, 0, 0),
  (192, .sipush 20005, 3, 0, 0, 0), (195, .putfield 55, 3, 6, 6, 0), (198, .goto 73, 3, 0, 0, 0), (201, .aload_n 0, 1, 0, 0, 0),
  (202, .aload_n 0, 1, 0, 0, 0), (203, .bipush 61, 2, 0, 0, 0), (205, .invokevirtual 72, 3, 82, 1, 6), (208, .ifCond .eq 9, 3, 0, 0, 0),
  (211, .sipush 20004, 3, 0, 0, 0), (214, .goto 21, 3, 0, 0, 0), (217, .aload_n 0, 1, 0, 0, 0), (218, .bipush 62, 2, 0, 0, 0),
  (220, .invokevirtual 72, 3, 82, 1, 6), (223, .ifCond .eq 9, 3, 0, 0, 0), (226, .sipush 20006, 3, 0, 0, 0), (229, .goto 6, 3, 0, 0, 0),
  (232, .sipush 20003, 3, 0, 0, 0), (235, .putfield 55, 3, 6, 6, 0), (238, .goto 33, 3, 0, 0, 0), (241, .aload_n 0, 1, 0, 0, 0)]
def op_X6_readSign_1 : List cv_Q := [
  (242, .aload_n 0, 1, 0, 0, 0), (243, .bipush 61, 2, 0, 0, 0), (245, .invokevirtual 72, 3, 82, 1, 6), (248, .ifCond .eq 9, 3, 0, 0, 0),
  (251, .sipush 20007, 3, 0, 0, 0), (254, .goto 6, 3, 0, 0, 0), (257, .sipush 20008, 3, 0, 0, 0), (260, .putfield 55, 3, 6, 6, 0),
  (263, .goto 8, 3, 0, 0, 0), (266, .aload_n 0, 1, 0, 0, 0), (267, .iconst 1, 1, 0, 0, 0), (268, .putfield 58, 3, 6, 4, 0),
  (271, .return_, 1, 0, 0, 0)]
def op_X6_readSign : List cv_Q := op_X6_readSign_0 ++ (op_X6_readSign_1)
def op_X6_takes : List cv_Q := [
  (0, .aload_n 0, 1, 0, 0, 0), (1, .getfield 46, 3, 6, 3, 0), (4, .aload_n 0, 1, 0, 0, 0), (5, .getfield 43, 3, 6, 2, 0),
  (8, .if_icmp .ge 28, 3, 0, 0, 0), (11, .aload_n 0, 1, 0, 0, 0), (12, .getfield 15, 3, 6, 0, 4), (15, .aload_n 0, 1, 0, 0, 0),
  (16, .getfield 46, 3, 6, 3, 0), (19, .baload, 1, 0, 0, 0), (20, .iload_n 1, 1, 0, 0, 0), (21, .if_icmp .ne 15, 3, 0, 0, 0),
  (24, .aload_n 0, 1, 0, 0, 0), (25, .dup, 1, 0, 0, 0), (26, .getfield 46, 3, 6, 3, 0), (29, .iconst 1, 1, 0, 0, 0),
  (30, .iadd, 1, 0, 0, 0), (31, .putfield 46, 3, 6, 3, 0), (34, .iconst 1, 1, 0, 0, 0), (35, .ireturn, 1, 0, 0, 0),
  (36, .iconst 0, 1, 0, 0, 0), (37, .ireturn, 1, 0, 0, 0)]
def op_X6_isWord : List cv_Q := [
  (0, .aload_n 0, 1, 0, 0, 0), (1, .getfield 58, 3, 6, 4, 0), (4, .iconst 2, 1, 0, 0, 0), (5, .if_icmp .ne 15, 3, 0, 0, 0),
  (8, .aload_n 0, 1, 0, 0, 0), (9, .getfield 55, 3, 6, 6, 0), (12, .iload_n 1, 1, 0, 0, 0), (13, .if_icmp .ne 7, 3, 0, 0, 0),
  (16, .iconst 1, 1, 0, 0, 0), (17, .goto 4, 3, 0, 0, 0), (20, .iconst 0, 1, 0, 0, 0), (21, .ireturn, 1, 0, 0, 0)]
def op_X6_isWordFrom : List cv_Q := [
  (0, .aload_n 0, 1, 0, 0, 0), (1, .getfield 58, 3, 6, 4, 0), (4, .iconst 2, 1, 0, 0, 0), (5, .if_icmp .ne 23, 3, 0, 0, 0),
  (8, .aload_n 0, 1, 0, 0, 0), (9, .getfield 55, 3, 6, 6, 0), (12, .iload_n 1, 1, 0, 0, 0), (13, .if_icmp .lt 15, 3, 0, 0, 0),
  (16, .aload_n 0, 1, 0, 0, 0), (17, .getfield 55, 3, 6, 6, 0), (20, .iload_n 2, 1, 0, 0, 0), (21, .if_icmp .gt 7, 3, 0, 0, 0),
  (24, .iconst 1, 1, 0, 0, 0), (25, .goto 4, 3, 0, 0, 0), (28, .iconst 0, 1, 0, 0, 0), (29, .ireturn, 1, 0, 0, 0)]
def op_X7_init : List cv_Q := [
  (0, .aload_n 0, 1, 0, 0, 0), (1, .invokespecial 3, 3, 9999, 0, 0), (4, .aload_n 0, 1, 0, 0, 0), (5, .bipush 9, 2, 0, 0, 0),
  (7, .newarray .int, 2, 0, 0, 0), (9, .putfield 9, 3, 7, 16, 4), (12, .aload_n 0, 1, 0, 0, 0), (13, .invokevirtual 15, 3, 86, 0, 7),
  (16, .return_, 1, 0, 0, 0)]
def op_X7_clear : List cv_Q := [
  (0, .aload_n 0, 1, 0, 0, 0), (1, .bipush 24, 2, 0, 0, 0), (3, .putfield 18, 3, 7, 0, 0), (6, .aload_n 0, 1, 0, 0, 0),
  (7, .bipush 20, 2, 0, 0, 0), (9, .putfield 22, 3, 7, 2, 0), (12, .aload_n 0, 1, 0, 0, 0), (13, .bipush 24, 2, 0, 0, 0),
  (15, .invokevirtual 25, 3, 87, 1, 7), (18, .aload_n 0, 1, 0, 0, 0), (19, .iconst 0, 1, 0, 0, 0), (20, .putfield 29, 3, 7, 5, 0),
  (23, .aload_n 0, 1, 0, 0, 0), (24, .iconst 0, 1, 0, 0, 0), (25, .putfield 32, 3, 7, 6, 0), (28, .aload_n 0, 1, 0, 0, 0),
  (29, .bipush 36, 2, 0, 0, 0), (31, .putfield 35, 3, 7, 7, 0), (34, .aload_n 0, 1, 0, 0, 0), (35, .bipush 8, 2, 0, 0, 0),
  (37, .putfield 38, 3, 7, 8, 0), (40, .aload_n 0, 1, 0, 0, 0), (41, .iconst 0, 1, 0, 0, 0), (42, .putfield 41, 3, 7, 9, 0),
  (45, .aload_n 0, 1, 0, 0, 0), (46, .sipush 1000, 3, 0, 0, 0), (49, .putfield 44, 3, 7, 10, 0), (52, .aload_n 0, 1, 0, 0, 0),
  (53, .sipush 1000, 3, 0, 0, 0), (56, .putfield 47, 3, 7, 11, 0), (59, .aload_n 0, 1, 0, 0, 0), (60, .iconst 0, 1, 0, 0, 0),
  (61, .putfield 50, 3, 7, 12, 0), (64, .aload_n 0, 1, 0, 0, 0), (65, .sipush 3000, 3, 0, 0, 0), (68, .putfield 53, 3, 7, 13, 0),
  (71, .aload_n 0, 1, 0, 0, 0), (72, .iconst 0, 1, 0, 0, 0), (73, .putfield 56, 3, 7, 14, 0), (76, .aload_n 0, 1, 0, 0, 0),
  (77, .iconst 0, 1, 0, 0, 0), (78, .putfield 59, 3, 7, 15, 0), (81, .iconst 0, 1, 0, 0, 0), (82, .istore_n 1, 1, 0, 0, 0),
  (83, .iload_n 1, 1, 0, 0, 0), (84, .aload_n 0, 1, 0, 0, 0), (85, .getfield 9, 3, 7, 16, 4), (88, .arraylength, 1, 0, 0, 0),
  (89, .if_icmp .ge 16, 3, 0, 0, 0), (92, .aload_n 0, 1, 0, 0, 0), (93, .getfield 9, 3, 7, 16, 4), (96, .iload_n 1, 1, 0, 0, 0),
  (97, .iconst 0, 1, 0, 0, 0), (98, .iastore, 1, 0, 0, 0), (99, .iinc 1 1, 3, 0, 0, 0), (102, .goto (-19), 3, 0, 0, 0),
  (105, .return_, 1, 0, 0, 0)]
def op_X7_setHeight : List cv_Q := [
  (0, .aload_n 0, 1, 0, 0, 0), (1, .iload_n 1, 1, 0, 0, 0), (2, .putfield 62, 3, 7, 1, 0), (5, .aload_n 0, 1, 0, 0, 0),
  (6, .bipush 6, 2, 0, 0, 0), (8, .putfield 65, 3, 7, 3, 0), (11, .aload_n 0, 1, 0, 0, 0), (12, .iload_n 1, 1, 0, 0, 0),
  (13, .bipush 6, 2, 0, 0, 0), (15, .isub, 1, 0, 0, 0), (16, .putfield 68, 3, 7, 4, 0), (19, .return_, 1, 0, 0, 0)]
def op_X7_span : List cv_Q := [
  (0, .aload_n 0, 1, 0, 0, 0), (1, .getfield 68, 3, 7, 4, 0), (4, .aload_n 0, 1, 0, 0, 0), (5, .getfield 65, 3, 7, 3, 0),
  (8, .isub, 1, 0, 0, 0), (9, .ireturn, 1, 0, 0, 0)]
def op_X8_init : List cv_Q := [
  (0, .aload_n 0, 1, 0, 0, 0), (1, .invokespecial 3, 3, 9999, 0, 0), (4, .aload_n 0, 1, 0, 0, 0), (5, .bipush 28, 2, 0, 0, 0),
  (7, .newarray .int, 2, 0, 0, 0), (9, .putfield 9, 3, 8, 0, 4), (12, .aload_n 0, 1, 0, 0, 0), (13, .new 15, 3, 1, 0, 0),
  (16, .dup, 1, 0, 0, 0), (17, .aload_n 1, 1, 0, 0, 0), (18, .invokespecial 17, 3, 13, 1, 0), (21, .putfield 20, 3, 8, 1, 4),
  (24, .return_, 1, 0, 0, 0)]
def op_X8_judge_0 : List cv_Q := [
  (0, .aload_n 3, 1, 0, 0, 0), (1, .iload 4, 2, 0, 0, 0), (3, .invokevirtual 24, 3, 45, 1, 3), (6, .iload 5, 2, 0, 0, 0),
  (8, .iconst 1, 1, 0, 0, 0), (9, .isub, 1, 0, 0, 0), (10, .invokestatic 30, 3, 9001, 2, 0), (13, .istore 6, 2, 0, 0, 0),
  (15, .aload_n 0, 1, 0, 0, 0), (16, .iconst 0, 1, 0, 0, 0), (17, .putfield 36, 3, 8, 2, 0), (20, .iconst 0, 1, 0, 0, 0),
  (21, .istore 7, 2, 0, 0, 0), (23, .iload 7, 2, 0, 0, 0), (25, .aload_n 1, 1, 0, 0, 0), (26, .getfield 40, 3, 4, 19, 0),
  (29, .if_icmp .gt 135, 3, 0, 0, 0), (32, .aload_n 0, 1, 0, 0, 0), (33, .getfield 20, 3, 8, 1, 4), (36, .aload_n 1, 1, 0, 0, 0),
  (37, .iload 4, 2, 0, 0, 0), (39, .invokevirtual 45, 3, 14, 2, 1), (42, .aload_n 0, 1, 0, 0, 0), (43, .getfield 20, 3, 8, 1, 4),
  (46, .aload_n 1, 1, 0, 0, 0), (47, .iload 7, 2, 0, 0, 0), (49, .aload_n 1, 1, 0, 0, 0), (50, .getfield 40, 3, 4, 19, 0),
  (53, .if_icmp .ge 10, 3, 0, 0, 0), (56, .iconst 1, 1, 0, 0, 0), (57, .iload 7, 2, 0, 0, 0), (59, .ishl, 1, 0, 0, 0),
  (60, .goto 4, 3, 0, 0, 0), (63, .iconst 0, 1, 0, 0, 0), (64, .invokevirtual 49, 3, 15, 2, 1), (67, .aload_n 0, 1, 0, 0, 0),
  (68, .iload 7, 2, 0, 0, 0), (70, .invokevirtual 52, 3, 91, 1, 8), (73, .iconst 1, 1, 0, 0, 0), (74, .istore 8, 2, 0, 0, 0),
  (76, .iconst 0, 1, 0, 0, 0), (77, .istore 9, 2, 0, 0, 0), (79, .iload 9, 2, 0, 0, 0), (81, .iload 6, 2, 0, 0, 0),
  (83, .if_icmp .gt 53, 3, 0, 0, 0), (86, .iload 8, 2, 0, 0, 0), (88, .ifCond .eq 48, 3, 0, 0, 0), (91, .aload_n 2, 1, 0, 0, 0),
  (92, .aload_n 1, 1, 0, 0, 0), (93, .aload_n 0, 1, 0, 0, 0), (94, .getfield 20, 3, 8, 1, 4), (97, .iload 9, 2, 0, 0, 0),
  (99, .iconst 1, 1, 0, 0, 0), (100, .invokevirtual 56, 3, 32, 4, 2), (103, .aload_n 3, 1, 0, 0, 0), (104, .aload_n 0, 1, 0, 0, 0),
  (105, .getfield 20, 3, 8, 1, 4), (108, .iload 9, 2, 0, 0, 0), (110, .invokevirtual 62, 3, 47, 2, 3), (113, .istore 8, 2, 0, 0, 0)]
def op_X8_judge_1 : List cv_Q := [
  (115, .iload 9, 2, 0, 0, 0), (117, .iload 5, 2, 0, 0, 0), (119, .iconst 1, 1, 0, 0, 0), (120, .isub, 1, 0, 0, 0),
  (121, .if_icmp .ne 9, 3, 0, 0, 0), (124, .aload_n 0, 1, 0, 0, 0), (125, .iload 7, 2, 0, 0, 0), (127, .invokevirtual 52, 3, 91, 1, 8),
  (130, .iinc 9 1, 3, 0, 0, 0), (133, .goto (-54), 3, 0, 0, 0), (136, .aload_n 0, 1, 0, 0, 0), (137, .dup, 1, 0, 0, 0),
  (138, .getfield 36, 3, 8, 2, 0), (141, .iload 8, 2, 0, 0, 0), (143, .ifCond .eq 10, 3, 0, 0, 0), (146, .iconst 1, 1, 0, 0, 0),
  (147, .iload 7, 2, 0, 0, 0), (149, .ishl, 1, 0, 0, 0), (150, .goto 4, 3, 0, 0, 0), (153, .iconst 0, 1, 0, 0, 0),
  (154, .ior, 1, 0, 0, 0), (155, .putfield 36, 3, 8, 2, 0), (158, .iinc 7 1, 3, 0, 0, 0), (161, .goto (-138), 3, 0, 0, 0),
  (164, .return_, 1, 0, 0, 0)]
def op_X8_judge : List cv_Q := op_X8_judge_0 ++ (op_X8_judge_1)
def op_X8_record : List cv_Q := [
  (0, .iconst 0, 1, 0, 0, 0), (1, .istore_n 2, 1, 0, 0, 0), (2, .iload_n 2, 1, 0, 0, 0), (3, .iconst 4, 1, 0, 0, 0),
  (4, .if_icmp .ge 42, 3, 0, 0, 0), (7, .iload_n 1, 1, 0, 0, 0), (8, .iconst 4, 1, 0, 0, 0), (9, .imul, 1, 0, 0, 0),
  (10, .iload_n 2, 1, 0, 0, 0), (11, .iadd, 1, 0, 0, 0), (12, .istore_n 3, 1, 0, 0, 0), (13, .iload_n 3, 1, 0, 0, 0),
  (14, .ifCond .lt 26, 3, 0, 0, 0), (17, .iload_n 3, 1, 0, 0, 0), (18, .aload_n 0, 1, 0, 0, 0), (19, .getfield 9, 3, 8, 0, 4),
  (22, .arraylength, 1, 0, 0, 0), (23, .if_icmp .ge 17, 3, 0, 0, 0), (26, .aload_n 0, 1, 0, 0, 0), (27, .getfield 9, 3, 8, 0, 4),
  (30, .iload_n 3, 1, 0, 0, 0), (31, .aload_n 0, 1, 0, 0, 0), (32, .getfield 20, 3, 8, 1, 4), (35, .iload_n 2, 1, 0, 0, 0),
  (36, .invokevirtual 66, 3, 21, 1, 1), (39, .iastore, 1, 0, 0, 0), (40, .iinc 2 1, 3, 0, 0, 0), (43, .goto (-41), 3, 0, 0, 0),
  (46, .return_, 1, 0, 0, 0)]
def op_X8_recorded : List cv_Q := [
  (0, .iload_n 1, 1, 0, 0, 0), (1, .iconst 4, 1, 0, 0, 0), (2, .imul, 1, 0, 0, 0), (3, .iload_n 2, 1, 0, 0, 0),
  (4, .iadd, 1, 0, 0, 0), (5, .istore_n 3, 1, 0, 0, 0), (6, .iload_n 3, 1, 0, 0, 0), (7, .ifCond .lt 21, 3, 0, 0, 0),
  (10, .iload_n 3, 1, 0, 0, 0), (11, .aload_n 0, 1, 0, 0, 0), (12, .getfield 9, 3, 8, 0, 4), (15, .arraylength, 1, 0, 0, 0),
  (16, .if_icmp .ge 12, 3, 0, 0, 0), (19, .aload_n 0, 1, 0, 0, 0), (20, .getfield 9, 3, 8, 0, 4), (23, .iload_n 3, 1, 0, 0, 0),
  (24, .iaload, 1, 0, 0, 0), (25, .goto 4, 3, 0, 0, 0), (28, .iconst 0, 1, 0, 0, 0), (29, .ireturn, 1, 0, 0, 0)]
def op_X8_weightOfFitting : List cv_Q := [
  (0, .iconst 0, 1, 0, 0, 0), (1, .istore_n 2, 1, 0, 0, 0), (2, .iconst 0, 1, 0, 0, 0), (3, .istore_n 3, 1, 0, 0, 0),
  (4, .iload_n 3, 1, 0, 0, 0), (5, .aload_n 1, 1, 0, 0, 0), (6, .getfield 40, 3, 4, 19, 0), (9, .if_icmp .gt 32, 3, 0, 0, 0),
  (12, .iload_n 2, 1, 0, 0, 0), (13, .aload_n 0, 1, 0, 0, 0), (14, .getfield 36, 3, 8, 2, 0), (17, .iconst 1, 1, 0, 0, 0),
  (18, .iload_n 3, 1, 0, 0, 0), (19, .ishl, 1, 0, 0, 0), (20, .iand, 1, 0, 0, 0), (21, .ifCond .eq 11, 3, 0, 0, 0),
  (24, .aload_n 1, 1, 0, 0, 0), (25, .iload_n 3, 1, 0, 0, 0), (26, .invokevirtual 69, 3, 57, 1, 4), (29, .goto 4, 3, 0, 0, 0),
  (32, .iconst 0, 1, 0, 0, 0), (33, .iadd, 1, 0, 0, 0), (34, .istore_n 2, 1, 0, 0, 0), (35, .iinc 3 1, 3, 0, 0, 0),
  (38, .goto (-34), 3, 0, 0, 0), (41, .iload_n 2, 1, 0, 0, 0), (42, .ireturn, 1, 0, 0, 0)]
def op_X8_heaviestGroup_0 : List cv_Q := [
  (0, .iconst 0, 1, 0, 0, 0), (1, .istore_n 3, 1, 0, 0, 0), (2, .iconst 0, 1, 0, 0, 0), (3, .istore 4, 2, 0, 0, 0),
  (5, .iload 4, 2, 0, 0, 0), (7, .aload_n 1, 1, 0, 0, 0), (8, .getfield 40, 3, 4, 19, 0), (11, .if_icmp .gt 101, 3, 0, 0, 0),
  (14, .iconst 0, 1, 0, 0, 0), (15, .istore 5, 2, 0, 0, 0), (17, .iconst 0, 1, 0, 0, 0), (18, .istore 6, 2, 0, 0, 0),
  (20, .iload 6, 2, 0, 0, 0), (22, .aload_n 1, 1, 0, 0, 0), (23, .getfield 40, 3, 4, 19, 0), (26, .if_icmp .gt 73, 3, 0, 0, 0),
  (29, .aload_n 0, 1, 0, 0, 0), (30, .getfield 36, 3, 8, 2, 0), (33, .iconst 1, 1, 0, 0, 0), (34, .iload 4, 2, 0, 0, 0),
  (36, .ishl, 1, 0, 0, 0), (37, .iand, 1, 0, 0, 0), (38, .ifCond .eq 19, 3, 0, 0, 0), (41, .aload_n 0, 1, 0, 0, 0),
  (42, .getfield 36, 3, 8, 2, 0), (45, .iconst 1, 1, 0, 0, 0), (46, .iload 6, 2, 0, 0, 0), (48, .ishl, 1, 0, 0, 0),
  (49, .iand, 1, 0, 0, 0), (50, .ifCond .eq 7, 3, 0, 0, 0), (53, .iconst 1, 1, 0, 0, 0), (54, .goto 4, 3, 0, 0, 0),
  (57, .iconst 0, 1, 0, 0, 0), (58, .istore 7, 2, 0, 0, 0), (60, .iload 7, 2, 0, 0, 0), (62, .ifCond .eq 31, 3, 0, 0, 0),
  (65, .aload_n 0, 1, 0, 0, 0), (66, .iload 4, 2, 0, 0, 0), (68, .iload_n 2, 1, 0, 0, 0), (69, .invokevirtual 72, 3, 92, 2, 8),
  (72, .aload_n 0, 1, 0, 0, 0), (73, .iload 6, 2, 0, 0, 0), (75, .iload_n 2, 1, 0, 0, 0), (76, .invokevirtual 72, 3, 92, 2, 8),
  (79, .if_icmp .ne 14, 3, 0, 0, 0), (82, .iload 5, 2, 0, 0, 0), (84, .aload_n 1, 1, 0, 0, 0), (85, .iload 6, 2, 0, 0, 0),
  (87, .invokevirtual 69, 3, 57, 1, 4), (90, .iadd, 1, 0, 0, 0), (91, .istore 5, 2, 0, 0, 0), (93, .iinc 6 1, 3, 0, 0, 0),
  (96, .goto (-76), 3, 0, 0, 0), (99, .iload_n 3, 1, 0, 0, 0), (100, .iload 5, 2, 0, 0, 0), (102, .invokestatic 30, 3, 9001, 2, 0),
  (105, .istore_n 3, 1, 0, 0, 0), (106, .iinc 4 1, 3, 0, 0, 0), (109, .goto (-104), 3, 0, 0, 0), (112, .iload_n 3, 1, 0, 0, 0)]
def op_X8_heaviestGroup_1 : List cv_Q := [
  (113, .ireturn, 1, 0, 0, 0)]
def op_X8_heaviestGroup : List cv_Q := op_X8_heaviestGroup_0 ++ (op_X8_heaviestGroup_1)
def op_X9_init : List cv_Q := [
  (0, .aload_n 0, 1, 0, 0, 0), (1, .invokespecial 3, 3, 9999, 0, 0), (4, .aload_n 0, 1, 0, 0, 0), (5, .bipush 16, 2, 0, 0, 0),
  (7, .newarray .int, 2, 0, 0, 0), (9, .putfield 9, 3, 9, 0, 4), (12, .aload_n 0, 1, 0, 0, 0), (13, .iconst 4, 1, 0, 0, 0),
  (14, .newarray .int, 2, 0, 0, 0), (16, .putfield 15, 3, 9, 1, 4), (19, .aload_n 0, 1, 0, 0, 0), (20, .iconst 4, 1, 0, 0, 0),
  (21, .newarray .int, 2, 0, 0, 0), (23, .putfield 18, 3, 9, 2, 4), (26, .return_, 1, 0, 0, 0)]
def op_X9_tell : List cv_Q := [
  (0, .iload_n 1, 1, 0, 0, 0), (1, .iconst 4, 1, 0, 0, 0), (2, .imul, 1, 0, 0, 0), (3, .iload_n 2, 1, 0, 0, 0),
  (4, .iadd, 1, 0, 0, 0), (5, .istore 4, 2, 0, 0, 0), (7, .iload 4, 2, 0, 0, 0), (9, .ifCond .lt 21, 3, 0, 0, 0),
  (12, .iload 4, 2, 0, 0, 0), (14, .aload_n 0, 1, 0, 0, 0), (15, .getfield 9, 3, 9, 0, 4), (18, .arraylength, 1, 0, 0, 0),
  (19, .if_icmp .ge 11, 3, 0, 0, 0), (22, .aload_n 0, 1, 0, 0, 0), (23, .getfield 9, 3, 9, 0, 4), (26, .iload 4, 2, 0, 0, 0),
  (28, .iload_n 3, 1, 0, 0, 0), (29, .iastore, 1, 0, 0, 0), (30, .return_, 1, 0, 0, 0)]
def op_X9_choose : List cv_Q := [
  (0, .iconst 1, 1, 0, 0, 0), (1, .istore_n 2, 1, 0, 0, 0), (2, .iconst 0, 1, 0, 0, 0), (3, .istore_n 3, 1, 0, 0, 0),
  (4, .iload_n 3, 1, 0, 0, 0), (5, .iload_n 1, 1, 0, 0, 0), (6, .if_icmp .ge 13, 3, 0, 0, 0), (9, .iload_n 2, 1, 0, 0, 0),
  (10, .iconst 4, 1, 0, 0, 0), (11, .imul, 1, 0, 0, 0), (12, .istore_n 2, 1, 0, 0, 0), (13, .iinc 3 1, 3, 0, 0, 0),
  (16, .goto (-12), 3, 0, 0, 0), (19, .aload_n 0, 1, 0, 0, 0), (20, .iconst (-1), 1, 0, 0, 0), (21, .putfield 21, 3, 9, 3, 0),
  (24, .iconst 0, 1, 0, 0, 0), (25, .istore_n 3, 1, 0, 0, 0), (26, .iload_n 3, 1, 0, 0, 0), (27, .iload_n 2, 1, 0, 0, 0),
  (28, .if_icmp .ge 75, 3, 0, 0, 0), (31, .aload_n 0, 1, 0, 0, 0), (32, .iload_n 3, 1, 0, 0, 0), (33, .iload_n 1, 1, 0, 0, 0),
  (34, .invokevirtual 25, 3, 98, 2, 9), (37, .istore 4, 2, 0, 0, 0), (39, .iload 4, 2, 0, 0, 0), (41, .iconst (-1), 1, 0, 0, 0),
  (42, .if_icmp .eq 55, 3, 0, 0, 0), (45, .aload_n 0, 1, 0, 0, 0), (46, .getfield 21, 3, 9, 3, 0), (49, .iconst (-1), 1, 0, 0, 0),
  (50, .if_icmp .eq 12, 3, 0, 0, 0), (53, .iload 4, 2, 0, 0, 0), (55, .aload_n 0, 1, 0, 0, 0), (56, .getfield 21, 3, 9, 3, 0),
  (59, .if_icmp .ge 38, 3, 0, 0, 0), (62, .aload_n 0, 1, 0, 0, 0), (63, .iload 4, 2, 0, 0, 0), (65, .putfield 21, 3, 9, 3, 0),
  (68, .iconst 0, 1, 0, 0, 0), (69, .istore 5, 2, 0, 0, 0), (71, .iload 5, 2, 0, 0, 0), (73, .iconst 4, 1, 0, 0, 0),
  (74, .if_icmp .ge 23, 3, 0, 0, 0), (77, .aload_n 0, 1, 0, 0, 0), (78, .getfield 18, 3, 9, 2, 4), (81, .iload 5, 2, 0, 0, 0),
  (83, .aload_n 0, 1, 0, 0, 0), (84, .getfield 15, 3, 9, 1, 4), (87, .iload 5, 2, 0, 0, 0), (89, .iaload, 1, 0, 0, 0),
  (90, .iastore, 1, 0, 0, 0), (91, .iinc 5 1, 3, 0, 0, 0), (94, .goto (-23), 3, 0, 0, 0), (97, .iinc 3 1, 3, 0, 0, 0),
  (100, .goto (-74), 3, 0, 0, 0), (103, .return_, 1, 0, 0, 0)]
def op_X9_sumOf_0 : List cv_Q := [
  (0, .iconst 0, 1, 0, 0, 0), (1, .istore_n 3, 1, 0, 0, 0), (2, .iconst 0, 1, 0, 0, 0), (3, .istore 4, 2, 0, 0, 0),
  (5, .iload_n 1, 1, 0, 0, 0), (6, .istore 5, 2, 0, 0, 0), (8, .iload_n 2, 1, 0, 0, 0), (9, .iconst 4, 1, 0, 0, 0),
  (10, .invokestatic 29, 3, 9002, 2, 0), (13, .iconst 1, 1, 0, 0, 0), (14, .isub, 1, 0, 0, 0), (15, .istore 6, 2, 0, 0, 0),
  (17, .iload 6, 2, 0, 0, 0), (19, .ifCond .lt 76, 3, 0, 0, 0), (22, .iload 5, 2, 0, 0, 0), (24, .iconst 4, 1, 0, 0, 0),
  (25, .irem, 1, 0, 0, 0), (26, .istore 7, 2, 0, 0, 0), (28, .iload 5, 2, 0, 0, 0), (30, .iconst 4, 1, 0, 0, 0),
  (31, .idiv, 1, 0, 0, 0), (32, .istore 5, 2, 0, 0, 0), (34, .iload 7, 2, 0, 0, 0), (36, .ifCond .lt 18, 3, 0, 0, 0),
  (39, .iload 7, 2, 0, 0, 0), (41, .iload_n 2, 1, 0, 0, 0), (42, .if_icmp .ge 12, 3, 0, 0, 0), (45, .iload_n 3, 1, 0, 0, 0),
  (46, .iconst 1, 1, 0, 0, 0), (47, .iload 7, 2, 0, 0, 0), (49, .ishl, 1, 0, 0, 0), (50, .iand, 1, 0, 0, 0),
  (51, .ifCond .eq 5, 3, 0, 0, 0), (54, .iconst (-1), 1, 0, 0, 0), (55, .ireturn, 1, 0, 0, 0), (56, .iload_n 3, 1, 0, 0, 0),
  (57, .iconst 1, 1, 0, 0, 0), (58, .iload 7, 2, 0, 0, 0), (60, .ishl, 1, 0, 0, 0), (61, .ior, 1, 0, 0, 0),
  (62, .istore_n 3, 1, 0, 0, 0), (63, .aload_n 0, 1, 0, 0, 0), (64, .getfield 15, 3, 9, 1, 4), (67, .iload 6, 2, 0, 0, 0),
  (69, .iload 7, 2, 0, 0, 0), (71, .iastore, 1, 0, 0, 0), (72, .iload 4, 2, 0, 0, 0), (74, .aload_n 0, 1, 0, 0, 0),
  (75, .getfield 9, 3, 9, 0, 4), (78, .iload 7, 2, 0, 0, 0), (80, .iconst 4, 1, 0, 0, 0), (81, .imul, 1, 0, 0, 0),
  (82, .iload 6, 2, 0, 0, 0), (84, .iadd, 1, 0, 0, 0), (85, .iaload, 1, 0, 0, 0), (86, .iadd, 1, 0, 0, 0),
  (87, .istore 4, 2, 0, 0, 0), (89, .iinc 6 (-1), 3, 0, 0, 0), (92, .goto (-75), 3, 0, 0, 0), (95, .iload 4, 2, 0, 0, 0)]
def op_X9_sumOf_1 : List cv_Q := [
  (97, .ireturn, 1, 0, 0, 0)]
def op_X9_sumOf : List cv_Q := op_X9_sumOf_0 ++ (op_X9_sumOf_1)
def op_X9_gateAt : List cv_Q := [
  (0, .iload_n 1, 1, 0, 0, 0), (1, .ifCond .lt 17, 3, 0, 0, 0), (4, .iload_n 1, 1, 0, 0, 0), (5, .iconst 4, 1, 0, 0, 0),
  (6, .if_icmp .ge 12, 3, 0, 0, 0), (9, .aload_n 0, 1, 0, 0, 0), (10, .getfield 18, 3, 9, 2, 4), (13, .iload_n 1, 1, 0, 0, 0),
  (14, .iaload, 1, 0, 0, 0), (15, .goto 4, 3, 0, 0, 0), (18, .iconst (-1), 1, 0, 0, 0), (19, .ireturn, 1, 0, 0, 0)]
def op_X10_init : List cv_Q := [
  (0, .aload_n 0, 1, 0, 0, 0), (1, .invokespecial 3, 3, 9999, 0, 0), (4, .aload_n 0, 1, 0, 0, 0), (5, .bipush 20, 2, 0, 0, 0),
  (7, .anewarray 9, 3, 4, 0, 0), (10, .putfield 11, 3, 10, 0, 4), (13, .aload_n 0, 1, 0, 0, 0), (14, .bipush 20, 2, 0, 0, 0),
  (16, .newarray .int, 2, 0, 0, 0), (18, .putfield 17, 3, 10, 1, 4), (21, .iconst 0, 1, 0, 0, 0), (22, .istore_n 2, 1, 0, 0, 0),
  (23, .iload_n 2, 1, 0, 0, 0), (24, .bipush 20, 2, 0, 0, 0), (26, .if_icmp .ge 23, 3, 0, 0, 0), (29, .aload_n 0, 1, 0, 0, 0),
  (30, .getfield 11, 3, 10, 0, 4), (33, .iload_n 2, 1, 0, 0, 0), (34, .new 9, 3, 1, 0, 0), (37, .dup, 1, 0, 0, 0),
  (38, .aload_n 1, 1, 0, 0, 0), (39, .invokespecial 21, 3, 13, 1, 0), (42, .aastore, 1, 0, 0, 0), (43, .iinc 2 1, 3, 0, 0, 0),
  (46, .goto (-23), 3, 0, 0, 0), (49, .return_, 1, 0, 0, 0)]
def op_X10_clear : List cv_Q := [
  (0, .aload_n 0, 1, 0, 0, 0), (1, .iconst 0, 1, 0, 0, 0), (2, .putfield 24, 3, 10, 2, 0), (5, .return_, 1, 0, 0, 0)]
def op_X10_push : List cv_Q := [
  (0, .aload_n 0, 1, 0, 0, 0), (1, .getfield 24, 3, 10, 2, 0), (4, .bipush 20, 2, 0, 0, 0), (6, .if_icmp .lt 7, 3, 0, 0, 0),
  (9, .aload_n 0, 1, 0, 0, 0), (10, .invokevirtual 28, 3, 103, 0, 10), (13, .aload_n 0, 1, 0, 0, 0), (14, .getfield 24, 3, 10, 2, 0),
  (17, .ifCond .lt 45, 3, 0, 0, 0), (20, .aload_n 0, 1, 0, 0, 0), (21, .getfield 24, 3, 10, 2, 0), (24, .bipush 20, 2, 0, 0, 0),
  (26, .if_icmp .ge 36, 3, 0, 0, 0), (29, .aload_n 0, 1, 0, 0, 0), (30, .getfield 11, 3, 10, 0, 4), (33, .aload_n 0, 1, 0, 0, 0),
  (34, .getfield 24, 3, 10, 2, 0), (37, .aaload, 1, 0, 0, 0), (38, .aload_n 2, 1, 0, 0, 0), (39, .invokevirtual 31, 3, 16, 1, 1),
  (42, .aload_n 0, 1, 0, 0, 0), (43, .getfield 17, 3, 10, 1, 4), (46, .aload_n 0, 1, 0, 0, 0), (47, .getfield 24, 3, 10, 2, 0),
  (50, .iload_n 1, 1, 0, 0, 0), (51, .iastore, 1, 0, 0, 0), (52, .aload_n 0, 1, 0, 0, 0), (53, .dup, 1, 0, 0, 0),
  (54, .getfield 24, 3, 10, 2, 0), (57, .iconst 1, 1, 0, 0, 0), (58, .iadd, 1, 0, 0, 0), (59, .putfield 24, 3, 10, 2, 0),
  (62, .return_, 1, 0, 0, 0)]
def op_X10_dropEarliest : List cv_Q := [
  (0, .aload_n 0, 1, 0, 0, 0), (1, .getfield 11, 3, 10, 0, 4), (4, .iconst 0, 1, 0, 0, 0), (5, .aaload, 1, 0, 0, 0),
  (6, .astore_n 1, 1, 0, 0, 0), (7, .iconst 1, 1, 0, 0, 0), (8, .istore_n 2, 1, 0, 0, 0), (9, .iload_n 2, 1, 0, 0, 0),
  (10, .bipush 20, 2, 0, 0, 0), (12, .if_icmp .ge 37, 3, 0, 0, 0), (15, .aload_n 0, 1, 0, 0, 0), (16, .getfield 11, 3, 10, 0, 4),
  (19, .iload_n 2, 1, 0, 0, 0), (20, .iconst 1, 1, 0, 0, 0), (21, .isub, 1, 0, 0, 0), (22, .aload_n 0, 1, 0, 0, 0),
  (23, .getfield 11, 3, 10, 0, 4), (26, .iload_n 2, 1, 0, 0, 0), (27, .aaload, 1, 0, 0, 0), (28, .aastore, 1, 0, 0, 0),
  (29, .aload_n 0, 1, 0, 0, 0), (30, .getfield 17, 3, 10, 1, 4), (33, .iload_n 2, 1, 0, 0, 0), (34, .iconst 1, 1, 0, 0, 0),
  (35, .isub, 1, 0, 0, 0), (36, .aload_n 0, 1, 0, 0, 0), (37, .getfield 17, 3, 10, 1, 4), (40, .iload_n 2, 1, 0, 0, 0),
  (41, .iaload, 1, 0, 0, 0), (42, .iastore, 1, 0, 0, 0), (43, .iinc 2 1, 3, 0, 0, 0), (46, .goto (-37), 3, 0, 0, 0),
  (49, .aload_n 0, 1, 0, 0, 0), (50, .getfield 11, 3, 10, 0, 4), (53, .bipush 19, 2, 0, 0, 0), (55, .aload_n 1, 1, 0, 0, 0),
  (56, .aastore, 1, 0, 0, 0), (57, .aload_n 0, 1, 0, 0, 0), (58, .bipush 19, 2, 0, 0, 0), (60, .putfield 24, 3, 10, 2, 0),
  (63, .return_, 1, 0, 0, 0)]
def op_X10_latestGate : List cv_Q := [
  (0, .aload_n 0, 1, 0, 0, 0), (1, .getfield 24, 3, 10, 2, 0), (4, .ifCond .le 26, 3, 0, 0, 0), (7, .aload_n 0, 1, 0, 0, 0),
  (8, .getfield 24, 3, 10, 2, 0), (11, .bipush 20, 2, 0, 0, 0), (13, .if_icmp .gt 17, 3, 0, 0, 0), (16, .aload_n 0, 1, 0, 0, 0),
  (17, .getfield 17, 3, 10, 1, 4), (20, .aload_n 0, 1, 0, 0, 0), (21, .getfield 24, 3, 10, 2, 0), (24, .iconst 1, 1, 0, 0, 0),
  (25, .isub, 1, 0, 0, 0), (26, .iaload, 1, 0, 0, 0), (27, .goto 4, 3, 0, 0, 0), (30, .iconst (-1), 1, 0, 0, 0),
  (31, .ireturn, 1, 0, 0, 0)]
def op_X10_popInto : List cv_Q := [
  (0, .aload_n 0, 1, 0, 0, 0), (1, .getfield 24, 3, 10, 2, 0), (4, .ifCond .le 35, 3, 0, 0, 0), (7, .aload_n 0, 1, 0, 0, 0),
  (8, .getfield 24, 3, 10, 2, 0), (11, .bipush 20, 2, 0, 0, 0), (13, .if_icmp .gt 26, 3, 0, 0, 0), (16, .aload_n 0, 1, 0, 0, 0),
  (17, .dup, 1, 0, 0, 0), (18, .getfield 24, 3, 10, 2, 0), (21, .iconst 1, 1, 0, 0, 0), (22, .isub, 1, 0, 0, 0),
  (23, .putfield 24, 3, 10, 2, 0), (26, .aload_n 1, 1, 0, 0, 0), (27, .aload_n 0, 1, 0, 0, 0), (28, .getfield 11, 3, 10, 0, 4),
  (31, .aload_n 0, 1, 0, 0, 0), (32, .getfield 24, 3, 10, 2, 0), (35, .aaload, 1, 0, 0, 0), (36, .invokevirtual 31, 3, 16, 1, 1),
  (39, .return_, 1, 0, 0, 0)]
def op_X11_init_0 : List cv_Q := [
  (0, .aload_n 0, 1, 0, 0, 0), (1, .invokespecial 3, 3, 9999, 0, 0), (4, .aload_n 0, 1, 0, 0, 0), (5, .sipush 900, 3, 0, 0, 0),
  (8, .newarray .byte, 2, 1, 0, 0), (10, .putfield 11, 3, 11, 0, 4), (13, .aload_n 0, 1, 0, 0, 0), (14, .new 15, 3, 4, 0, 0),
  (17, .dup, 1, 0, 0, 0), (18, .invokespecial 17, 3, 48, 0, 0), (21, .putfield 18, 3, 11, 2, 4), (24, .aload_n 0, 1, 0, 0, 0),
  (25, .new 15, 3, 4, 0, 0), (28, .dup, 1, 0, 0, 0), (29, .invokespecial 17, 3, 48, 0, 0), (32, .putfield 22, 3, 11, 3, 4),
  (35, .aload_n 0, 1, 0, 0, 0), (36, .new 25, 3, 5, 0, 0), (39, .dup, 1, 0, 0, 0), (40, .aload_n 0, 1, 0, 0, 0),
  (41, .getfield 11, 3, 11, 0, 4), (44, .aload_n 0, 1, 0, 0, 0), (45, .getfield 22, 3, 11, 3, 4), (48, .invokespecial 27, 3, 59, 2, 0),
  (51, .putfield 30, 3, 11, 4, 4), (54, .aload_n 0, 1, 0, 0, 0), (55, .new 34, 3, 2, 0, 0), (58, .dup, 1, 0, 0, 0),
  (59, .invokespecial 36, 3, 28, 0, 0), (62, .putfield 37, 3, 11, 5, 4), (65, .aload_n 0, 1, 0, 0, 0), (66, .new 41, 3, 7, 0, 0),
  (69, .dup, 1, 0, 0, 0), (70, .invokespecial 43, 3, 85, 0, 0), (73, .putfield 44, 3, 11, 6, 4), (76, .aload_n 0, 1, 0, 0, 0),
  (77, .iconst 4, 1, 0, 0, 0), (78, .anewarray 48, 3, 4, 0, 0), (81, .putfield 50, 3, 11, 7, 4), (84, .aload_n 0, 1, 0, 0, 0),
  (85, .iconst 4, 1, 0, 0, 0), (86, .anewarray 48, 3, 4, 0, 0), (89, .putfield 54, 3, 11, 9, 4), (92, .aload_n 0, 1, 0, 0, 0),
  (93, .iconst (-1), 1, 0, 0, 0), (94, .putfield 57, 3, 11, 10, 0), (97, .aload_n 0, 1, 0, 0, 0), (98, .new 61, 3, 10, 0, 0),
  (101, .dup, 1, 0, 0, 0), (102, .aload_n 0, 1, 0, 0, 0), (103, .getfield 44, 3, 11, 6, 4), (106, .invokespecial 63, 3, 100, 1, 0),
  (109, .putfield 66, 3, 11, 11, 4), (112, .aload_n 0, 1, 0, 0, 0), (113, .new 70, 3, 3, 0, 0), (116, .dup, 1, 0, 0, 0),
  (117, .invokespecial 72, 3, 40, 0, 0), (120, .putfield 73, 3, 11, 12, 4), (123, .aload_n 0, 1, 0, 0, 0), (124, .new 77, 3, 8, 0, 0)]
def op_X11_init_1 : List cv_Q := [
  (127, .dup, 1, 0, 0, 0), (128, .aload_n 0, 1, 0, 0, 0), (129, .getfield 44, 3, 11, 6, 4), (132, .invokespecial 79, 3, 89, 1, 0),
  (135, .putfield 80, 3, 11, 13, 4), (138, .aload_n 0, 1, 0, 0, 0), (139, .new 48, 3, 1, 0, 0), (142, .dup, 1, 0, 0, 0),
  (143, .aload_n 0, 1, 0, 0, 0), (144, .getfield 44, 3, 11, 6, 4), (147, .invokespecial 84, 3, 13, 1, 0), (150, .putfield 85, 3, 11, 14, 4),
  (153, .aload_n 0, 1, 0, 0, 0), (154, .new 89, 3, 9, 0, 0), (157, .dup, 1, 0, 0, 0), (158, .invokespecial 91, 3, 95, 0, 0),
  (161, .putfield 92, 3, 11, 15, 4), (164, .iconst 0, 1, 0, 0, 0), (165, .istore_n 1, 1, 0, 0, 0), (166, .iload_n 1, 1, 0, 0, 0),
  (167, .iconst 4, 1, 0, 0, 0), (168, .if_icmp .ge 43, 3, 0, 0, 0), (171, .aload_n 0, 1, 0, 0, 0), (172, .getfield 50, 3, 11, 7, 4),
  (175, .iload_n 1, 1, 0, 0, 0), (176, .new 48, 3, 1, 0, 0), (179, .dup, 1, 0, 0, 0), (180, .aload_n 0, 1, 0, 0, 0),
  (181, .getfield 44, 3, 11, 6, 4), (184, .invokespecial 84, 3, 13, 1, 0), (187, .aastore, 1, 0, 0, 0), (188, .aload_n 0, 1, 0, 0, 0),
  (189, .getfield 54, 3, 11, 9, 4), (192, .iload_n 1, 1, 0, 0, 0), (193, .new 48, 3, 1, 0, 0), (196, .dup, 1, 0, 0, 0),
  (197, .aload_n 0, 1, 0, 0, 0), (198, .getfield 44, 3, 11, 6, 4), (201, .invokespecial 84, 3, 13, 1, 0), (204, .aastore, 1, 0, 0, 0),
  (205, .iinc 1 1, 3, 0, 0, 0), (208, .goto (-42), 3, 0, 0, 0), (211, .return_, 1, 0, 0, 0)]
def op_X11_init : List cv_Q := op_X11_init_0 ++ (op_X11_init_1)
def op_X11_feed : List cv_Q := [
  (0, .aload_n 0, 1, 0, 0, 0), (1, .getfield 96, 3, 11, 1, 0), (4, .sipush 880, 3, 0, 0, 0), (7, .if_icmp .le 5, 3, 0, 0, 0),
  (10, .iconst (-1), 1, 0, 0, 0), (11, .ireturn, 1, 0, 0, 0), (12, .aload_n 0, 1, 0, 0, 0), (13, .iload_n 1, 1, 0, 0, 0),
  (14, .invokevirtual 99, 3, 108, 1, 11), (17, .aload_n 0, 1, 0, 0, 0), (18, .iload_n 2, 1, 0, 0, 0), (19, .invokevirtual 99, 3, 108, 1, 11),
  (22, .aload_n 0, 1, 0, 0, 0), (23, .iload_n 3, 1, 0, 0, 0), (24, .invokevirtual 99, 3, 108, 1, 11), (27, .aload_n 0, 1, 0, 0, 0),
  (28, .iload 4, 2, 0, 0, 0), (30, .invokevirtual 99, 3, 108, 1, 11), (33, .aload_n 0, 1, 0, 0, 0), (34, .iload 5, 2, 0, 0, 0),
  (36, .invokevirtual 99, 3, 108, 1, 11), (39, .aload_n 0, 1, 0, 0, 0), (40, .getfield 96, 3, 11, 1, 0), (43, .ireturn, 1, 0, 0, 0)]
def op_X11_putOnTape : List cv_Q := [
  (0, .bipush 24, 2, 0, 0, 0), (2, .istore_n 2, 1, 0, 0, 0), (3, .iload_n 2, 1, 0, 0, 0), (4, .ifCond .lt 51, 3, 0, 0, 0),
  (7, .aload_n 0, 1, 0, 0, 0), (8, .getfield 96, 3, 11, 1, 0), (11, .ifCond .lt 38, 3, 0, 0, 0), (14, .aload_n 0, 1, 0, 0, 0),
  (15, .getfield 96, 3, 11, 1, 0), (18, .aload_n 0, 1, 0, 0, 0), (19, .getfield 11, 3, 11, 0, 4), (22, .arraylength, 1, 0, 0, 0),
  (23, .if_icmp .ge 26, 3, 0, 0, 0), (26, .aload_n 0, 1, 0, 0, 0), (27, .getfield 11, 3, 11, 0, 4), (30, .aload_n 0, 1, 0, 0, 0),
  (31, .getfield 96, 3, 11, 1, 0), (34, .iload_n 1, 1, 0, 0, 0), (35, .iload_n 2, 1, 0, 0, 0), (36, .iushr, 1, 0, 0, 0),
  (37, .i2b, 1, 0, 0, 0), (38, .bastore, 1, 0, 0, 0), (39, .aload_n 0, 1, 0, 0, 0), (40, .dup, 1, 0, 0, 0),
  (41, .getfield 96, 3, 11, 1, 0), (44, .iconst 1, 1, 0, 0, 0), (45, .iadd, 1, 0, 0, 0), (46, .putfield 96, 3, 11, 1, 0),
  (49, .iinc 2 (-8), 3, 0, 0, 0), (52, .goto (-49), 3, 0, 0, 0), (55, .return_, 1, 0, 0, 0)]
def op_X11_text : List cv_Q := [
  (0, .iload_n 1, 1, 0, 0, 0), (1, .ifCond .lt 11, 3, 0, 0, 0), (4, .iload_n 1, 1, 0, 0, 0), (5, .aload_n 0, 1, 0, 0, 0),
  (6, .getfield 96, 3, 11, 1, 0), (9, .if_icmp .le 6, 3, 0, 0, 0), (12, .bipush (-2), 2, 0, 0, 0), (14, .ireturn, 1, 0, 0, 0),
  (15, .aload_n 0, 1, 0, 0, 0), (16, .iconst 0, 1, 0, 0, 0), (17, .putfield 96, 3, 11, 1, 0), (20, .aload_n 0, 1, 0, 0, 0),
  (21, .getfield 30, 3, 11, 4, 4), (24, .aload_n 0, 1, 0, 0, 0), (25, .getfield 22, 3, 11, 3, 4), (28, .iload_n 1, 1, 0, 0, 0),
  (29, .invokevirtual 103, 3, 60, 2, 5), (32, .istore_n 2, 1, 0, 0, 0), (33, .iload_n 2, 1, 0, 0, 0), (34, .iconst (-1), 1, 0, 0, 0),
  (35, .if_icmp .eq 7, 3, 0, 0, 0), (38, .aload_n 0, 1, 0, 0, 0), (39, .invokevirtual 107, 3, 110, 0, 11), (42, .iload_n 2, 1, 0, 0, 0),
  (43, .ireturn, 1, 0, 0, 0)]
def op_X11_takeSpare : List cv_Q := [
  (0, .aload_n 0, 1, 0, 0, 0), (1, .getfield 18, 3, 11, 2, 4), (4, .astore_n 1, 1, 0, 0, 0), (5, .aload_n 0, 1, 0, 0, 0),
  (6, .aload_n 0, 1, 0, 0, 0), (7, .getfield 22, 3, 11, 3, 4), (10, .putfield 18, 3, 11, 2, 4), (13, .aload_n 0, 1, 0, 0, 0),
  (14, .aload_n 1, 1, 0, 0, 0), (15, .putfield 22, 3, 11, 3, 4), (18, .aload_n 0, 1, 0, 0, 0), (19, .getfield 37, 3, 11, 5, 4),
  (22, .invokevirtual 110, 3, 29, 0, 2), (25, .iconst 0, 1, 0, 0, 0), (26, .istore_n 2, 1, 0, 0, 0), (27, .iload_n 2, 1, 0, 0, 0),
  (28, .iconst 4, 1, 0, 0, 0), (29, .if_icmp .ge 23, 3, 0, 0, 0), (32, .aload_n 0, 1, 0, 0, 0), (33, .getfield 50, 3, 11, 7, 4),
  (36, .iload_n 2, 1, 0, 0, 0), (37, .aaload, 1, 0, 0, 0), (38, .aload_n 0, 1, 0, 0, 0), (39, .getfield 18, 3, 11, 2, 4),
  (42, .iload_n 2, 1, 0, 0, 0), (43, .invokevirtual 113, 3, 14, 2, 1), (46, .iinc 2 1, 3, 0, 0, 0), (49, .goto (-22), 3, 0, 0, 0),
  (52, .aload_n 0, 1, 0, 0, 0), (53, .iconst 0, 1, 0, 0, 0), (54, .putfield 117, 3, 11, 8, 0), (57, .aload_n 0, 1, 0, 0, 0),
  (58, .iconst (-1), 1, 0, 0, 0), (59, .putfield 57, 3, 11, 10, 0), (62, .aload_n 0, 1, 0, 0, 0), (63, .getfield 66, 3, 11, 11, 4),
  (66, .invokevirtual 120, 3, 101, 0, 10), (69, .aload_n 0, 1, 0, 0, 0), (70, .getfield 73, 3, 11, 12, 4), (73, .invokevirtual 123, 3, 41, 0, 3),
  (76, .return_, 1, 0, 0, 0)]
def op_X11_fault : List cv_Q := [
  (0, .iload_n 1, 1, 0, 0, 0), (1, .ifCond .ne 11, 3, 0, 0, 0), (4, .aload_n 0, 1, 0, 0, 0), (5, .getfield 30, 3, 11, 4, 4),
  (8, .getfield 124, 3, 5, 4, 0), (11, .ireturn, 1, 0, 0, 0), (12, .iload_n 1, 1, 0, 0, 0), (13, .iconst 1, 1, 0, 0, 0),
  (14, .if_icmp .ne 13, 3, 0, 0, 0), (17, .aload_n 0, 1, 0, 0, 0), (18, .getfield 30, 3, 11, 4, 4), (21, .getfield 127, 3, 5, 5, 0),
  (24, .goto 4, 3, 0, 0, 0), (27, .iconst (-1), 1, 0, 0, 0), (28, .ireturn, 1, 0, 0, 0)]
def op_X11_named : List cv_Q := [
  (0, .iload_n 1, 1, 0, 0, 0), (1, .ifCond .ne 22, 3, 0, 0, 0), (4, .iload_n 2, 1, 0, 0, 0), (5, .aload_n 0, 1, 0, 0, 0),
  (6, .getfield 18, 3, 11, 2, 4), (9, .getfield 130, 3, 4, 8, 4), (12, .aload_n 0, 1, 0, 0, 0), (13, .getfield 18, 3, 11, 2, 4),
  (16, .getfield 134, 3, 4, 9, 0), (19, .invokestatic 137, 3, 113, 3, 0), (22, .ireturn, 1, 0, 0, 0), (23, .iload_n 1, 1, 0, 0, 0),
  (24, .iconst 1, 1, 0, 0, 0), (25, .if_icmp .ne 22, 3, 0, 0, 0), (28, .iload_n 2, 1, 0, 0, 0), (29, .aload_n 0, 1, 0, 0, 0),
  (30, .getfield 18, 3, 11, 2, 4), (33, .getfield 141, 3, 4, 10, 4), (36, .aload_n 0, 1, 0, 0, 0), (37, .getfield 18, 3, 11, 2, 4),
  (40, .getfield 144, 3, 4, 14, 0), (43, .invokestatic 137, 3, 113, 3, 0), (46, .ireturn, 1, 0, 0, 0), (47, .iload_n 1, 1, 0, 0, 0),
  (48, .iconst 2, 1, 0, 0, 0), (49, .if_icmp .ne 24, 3, 0, 0, 0), (52, .iload_n 2, 1, 0, 0, 0), (53, .aload_n 0, 1, 0, 0, 0),
  (54, .getfield 18, 3, 11, 2, 4), (57, .getfield 147, 3, 4, 15, 4), (60, .aload_n 0, 1, 0, 0, 0), (61, .getfield 18, 3, 11, 2, 4),
  (64, .getfield 150, 3, 4, 19, 0), (67, .invokestatic 137, 3, 113, 3, 0), (70, .goto 4, 3, 0, 0, 0), (73, .iconst (-1), 1, 0, 0, 0),
  (74, .ireturn, 1, 0, 0, 0)]
def op_X11_placeOf : List cv_Q := [
  (0, .iconst 0, 1, 0, 0, 0), (1, .istore_n 3, 1, 0, 0, 0), (2, .iload_n 3, 1, 0, 0, 0), (3, .iload_n 2, 1, 0, 0, 0),
  (4, .if_icmp .ge 24, 3, 0, 0, 0), (7, .iload_n 3, 1, 0, 0, 0), (8, .aload_n 1, 1, 0, 0, 0), (9, .arraylength, 1, 0, 0, 0),
  (10, .if_icmp .ge 18, 3, 0, 0, 0), (13, .aload_n 1, 1, 0, 0, 0), (14, .iload_n 3, 1, 0, 0, 0), (15, .iaload, 1, 0, 0, 0),
  (16, .iload_n 0, 1, 0, 0, 0), (17, .if_icmp .ne 5, 3, 0, 0, 0), (20, .iload_n 3, 1, 0, 0, 0), (21, .ireturn, 1, 0, 0, 0),
  (22, .iinc 3 1, 3, 0, 0, 0), (25, .goto (-23), 3, 0, 0, 0), (28, .iconst (-1), 1, 0, 0, 0), (29, .ireturn, 1, 0, 0, 0)]
def op_X11_isGate : List cv_Q := [
  (0, .iload_n 1, 1, 0, 0, 0), (1, .ifCond .lt 27, 3, 0, 0, 0), (4, .iload_n 1, 1, 0, 0, 0), (5, .aload_n 0, 1, 0, 0, 0),
  (6, .getfield 18, 3, 11, 2, 4), (9, .getfield 134, 3, 4, 9, 0), (12, .if_icmp .ge 16, 3, 0, 0, 0), (15, .iload_n 1, 1, 0, 0, 0),
  (16, .aload_n 0, 1, 0, 0, 0), (17, .getfield 50, 3, 11, 7, 4), (20, .arraylength, 1, 0, 0, 0), (21, .if_icmp .ge 7, 3, 0, 0, 0),
  (24, .iconst 1, 1, 0, 0, 0), (25, .goto 4, 3, 0, 0, 0), (28, .iconst 0, 1, 0, 0, 0), (29, .ireturn, 1, 0, 0, 0)]
def op_X11_isBound : List cv_Q := [
  (0, .iload_n 0, 1, 0, 0, 0), (1, .ldc 153, 2, 0, 0, (-99999)), (3, .if_icmp .lt 13, 3, 0, 0, 0), (6, .iload_n 0, 1, 0, 0, 0),
  (7, .ldc 154, 2, 0, 0, 99999), (9, .if_icmp .gt 7, 3, 0, 0, 0), (12, .iconst 1, 1, 0, 0, 0), (13, .goto 4, 3, 0, 0, 0),
  (16, .iconst 0, 1, 0, 0, 0), (17, .ireturn, 1, 0, 0, 0)]
def op_X11_isAhead : List cv_Q := [
  (0, .iload_n 0, 1, 0, 0, 0), (1, .ifCond .lt 14, 3, 0, 0, 0), (4, .iload_n 0, 1, 0, 0, 0), (5, .sipush 520, 3, 0, 0, 0),
  (8, .if_icmp .gt 7, 3, 0, 0, 0), (11, .iconst 1, 1, 0, 0, 0), (12, .goto 4, 3, 0, 0, 0), (15, .iconst 0, 1, 0, 0, 0),
  (16, .ireturn, 1, 0, 0, 0)]
def op_X11_isAngle : List cv_Q := [
  (0, .iload_n 0, 1, 0, 0, 0), (1, .ifCond .lt 13, 3, 0, 0, 0), (4, .iload_n 0, 1, 0, 0, 0), (5, .bipush 9, 2, 0, 0, 0),
  (7, .if_icmp .ge 7, 3, 0, 0, 0), (10, .iconst 1, 1, 0, 0, 0), (11, .goto 4, 3, 0, 0, 0), (14, .iconst 0, 1, 0, 0, 0),
  (15, .ireturn, 1, 0, 0, 0)]
def op_X11_isWeek : List cv_Q := [
  (0, .iload_n 0, 1, 0, 0, 0), (1, .ifCond .lt 14, 3, 0, 0, 0), (4, .iload_n 0, 1, 0, 0, 0), (5, .sipush 2000, 3, 0, 0, 0),
  (8, .if_icmp .ge 7, 3, 0, 0, 0), (11, .iconst 1, 1, 0, 0, 0), (12, .goto 4, 3, 0, 0, 0), (15, .iconst 0, 1, 0, 0, 0),
  (16, .ireturn, 1, 0, 0, 0)]
def op_X11_works : List cv_Q := [
  (0, .aload_n 0, 1, 0, 0, 0), (1, .getfield 18, 3, 11, 2, 4), (4, .iload_n 1, 1, 0, 0, 0), (5, .invokevirtual 208, 3, 50, 1, 4),
  (8, .ifCond .eq 12, 3, 0, 0, 0), (11, .iload_n 2, 1, 0, 0, 0), (12, .ifCond .lt 8, 3, 0, 0, 0), (15, .iload_n 2, 1, 0, 0, 0),
  (16, .iconst 2, 1, 0, 0, 0), (17, .if_icmp .le 5, 3, 0, 0, 0), (20, .iconst (-1), 1, 0, 0, 0), (21, .ireturn, 1, 0, 0, 0),
  (22, .iload_n 2, 1, 0, 0, 0), (23, .ifCond .ne 13, 3, 0, 0, 0), (26, .aload_n 0, 1, 0, 0, 0), (27, .getfield 18, 3, 11, 2, 4),
  (30, .getfield 211, 3, 4, 11, 4), (33, .iload_n 1, 1, 0, 0, 0), (34, .iaload, 1, 0, 0, 0), (35, .ireturn, 1, 0, 0, 0),
  (36, .iload_n 2, 1, 0, 0, 0), (37, .iconst 1, 1, 0, 0, 0), (38, .if_icmp .ne 15, 3, 0, 0, 0), (41, .aload_n 0, 1, 0, 0, 0),
  (42, .getfield 18, 3, 11, 2, 4), (45, .getfield 214, 3, 4, 12, 4), (48, .iload_n 1, 1, 0, 0, 0), (49, .iaload, 1, 0, 0, 0),
  (50, .goto 12, 3, 0, 0, 0), (53, .aload_n 0, 1, 0, 0, 0), (54, .getfield 18, 3, 11, 2, 4), (57, .getfield 217, 3, 4, 13, 4),
  (60, .iload_n 1, 1, 0, 0, 0), (61, .iaload, 1, 0, 0, 0), (62, .ireturn, 1, 0, 0, 0)]
def op_X11_firm : List cv_Q := [
  (0, .iload_n 1, 1, 0, 0, 0), (1, .invokestatic 220, 3, 118, 1, 0), (4, .ifCond .eq 14, 3, 0, 0, 0), (7, .aload_n 0, 1, 0, 0, 0),
  (8, .getfield 18, 3, 11, 2, 4), (11, .iload_n 1, 1, 0, 0, 0), (12, .invokevirtual 223, 3, 53, 1, 4), (15, .goto 4, 3, 0, 0, 0),
  (18, .iconst (-1), 1, 0, 0, 0), (19, .ireturn, 1, 0, 0, 0)]
def op_X11_weeks : List cv_Q := [
  (0, .iload_n 1, 1, 0, 0, 0), (1, .invokestatic 227, 3, 116, 1, 0), (4, .ifCond .eq 15, 3, 0, 0, 0), (7, .aload_n 0, 1, 0, 0, 0),
  (8, .getfield 117, 3, 11, 8, 0), (11, .iload_n 1, 1, 0, 0, 0), (12, .iadd, 1, 0, 0, 0), (13, .sipush 2000, 3, 0, 0, 0),
  (16, .if_icmp .le 5, 3, 0, 0, 0), (19, .iconst (-1), 1, 0, 0, 0), (20, .ireturn, 1, 0, 0, 0), (21, .iconst 0, 1, 0, 0, 0),
  (22, .istore_n 2, 1, 0, 0, 0), (23, .iload_n 2, 1, 0, 0, 0), (24, .aload_n 0, 1, 0, 0, 0), (25, .getfield 18, 3, 11, 2, 4),
  (28, .getfield 134, 3, 4, 9, 0), (31, .if_icmp .ge 40, 3, 0, 0, 0), (34, .iload_n 2, 1, 0, 0, 0), (35, .aload_n 0, 1, 0, 0, 0),
  (36, .getfield 50, 3, 11, 7, 4), (39, .arraylength, 1, 0, 0, 0), (40, .if_icmp .ge 31, 3, 0, 0, 0), (43, .aload_n 0, 1, 0, 0, 0),
  (44, .getfield 37, 3, 11, 5, 4), (47, .aload_n 0, 1, 0, 0, 0), (48, .getfield 18, 3, 11, 2, 4), (51, .aload_n 0, 1, 0, 0, 0),
  (52, .getfield 50, 3, 11, 7, 4), (55, .iload_n 2, 1, 0, 0, 0), (56, .aaload, 1, 0, 0, 0), (57, .aload_n 0, 1, 0, 0, 0),
  (58, .getfield 117, 3, 11, 8, 0), (61, .iload_n 1, 1, 0, 0, 0), (62, .invokevirtual 230, 3, 32, 4, 2), (65, .iinc 2 1, 3, 0, 0, 0),
  (68, .goto (-45), 3, 0, 0, 0), (71, .aload_n 0, 1, 0, 0, 0), (72, .dup, 1, 0, 0, 0), (73, .getfield 117, 3, 11, 8, 0),
  (76, .iload_n 1, 1, 0, 0, 0), (77, .iadd, 1, 0, 0, 0), (78, .putfield 117, 3, 11, 8, 0), (81, .aload_n 0, 1, 0, 0, 0),
  (82, .getfield 117, 3, 11, 8, 0), (85, .ireturn, 1, 0, 0, 0)]
def op_X11_sags : List cv_Q := [
  (0, .aload_n 0, 1, 0, 0, 0), (1, .iload_n 1, 1, 0, 0, 0), (2, .invokevirtual 155, 3, 114, 1, 11), (5, .ifCond .ne 6, 3, 0, 0, 0),
  (8, .ldc 234, 2, 0, 0, (-2147483648)), (10, .ireturn, 1, 0, 0, 0), (11, .aload_n 0, 1, 0, 0, 0), (12, .getfield 50, 3, 11, 7, 4),
  (15, .iload_n 1, 1, 0, 0, 0), (16, .aaload, 1, 0, 0, 0), (17, .astore_n 3, 1, 0, 0, 0), (18, .iload_n 2, 1, 0, 0, 0),
  (19, .tableswitch 85 0 7 #[45, 50, 55, 60, 65, 70, 75, 80], 45, 0, 0, 0), (64, .aload_n 3, 1, 0, 0, 0), (65, .invokevirtual 235, 3, 20, 0, 1), (68, .ireturn, 1, 0, 0, 0),
  (69, .aload_n 3, 1, 0, 0, 0), (70, .getfield 238, 3, 1, 1, 0), (73, .ireturn, 1, 0, 0, 0), (74, .aload_n 3, 1, 0, 0, 0),
  (75, .getfield 241, 3, 1, 2, 0), (78, .ireturn, 1, 0, 0, 0), (79, .aload_n 3, 1, 0, 0, 0), (80, .getfield 244, 3, 1, 3, 0),
  (83, .ireturn, 1, 0, 0, 0), (84, .aload_n 3, 1, 0, 0, 0), (85, .getfield 247, 3, 1, 4, 0), (88, .ireturn, 1, 0, 0, 0),
  (89, .aload_n 3, 1, 0, 0, 0), (90, .invokevirtual 250, 3, 18, 0, 1), (93, .ireturn, 1, 0, 0, 0), (94, .aload_n 3, 1, 0, 0, 0),
  (95, .getfield 241, 3, 1, 2, 0), (98, .ireturn, 1, 0, 0, 0), (99, .aload_n 3, 1, 0, 0, 0), (100, .invokevirtual 253, 3, 19, 0, 1),
  (103, .ireturn, 1, 0, 0, 0), (104, .ldc 234, 2, 0, 0, (-2147483648)), (106, .ireturn, 1, 0, 0, 0)]
def op_X11_latched : List cv_Q := [
  (0, .aload_n 0, 1, 0, 0, 0), (1, .iload_n 1, 1, 0, 0, 0), (2, .invokevirtual 155, 3, 114, 1, 11), (5, .ifCond .ne 5, 3, 0, 0, 0),
  (8, .iconst (-1), 1, 0, 0, 0), (9, .ireturn, 1, 0, 0, 0), (10, .aload_n 0, 1, 0, 0, 0), (11, .getfield 50, 3, 11, 7, 4),
  (14, .iload_n 1, 1, 0, 0, 0), (15, .aaload, 1, 0, 0, 0), (16, .invokevirtual 256, 3, 22, 0, 1), (19, .ifCond .eq 7, 3, 0, 0, 0),
  (22, .iconst 1, 1, 0, 0, 0), (23, .goto 4, 3, 0, 0, 0), (26, .iconst 0, 1, 0, 0, 0), (27, .ireturn, 1, 0, 0, 0)]
def op_X11_gives : List cv_Q := [
  (0, .aload_n 0, 1, 0, 0, 0), (1, .iload_n 1, 1, 0, 0, 0), (2, .invokevirtual 155, 3, 114, 1, 11), (5, .ifCond .ne 5, 3, 0, 0, 0),
  (8, .iconst (-1), 1, 0, 0, 0), (9, .ireturn, 1, 0, 0, 0), (10, .aload_n 0, 1, 0, 0, 0), (11, .getfield 50, 3, 11, 7, 4),
  (14, .iload_n 1, 1, 0, 0, 0), (15, .aaload, 1, 0, 0, 0), (16, .astore_n 2, 1, 0, 0, 0), (17, .aload_n 2, 1, 0, 0, 0),
  (18, .invokevirtual 250, 3, 18, 0, 1), (21, .aload_n 2, 1, 0, 0, 0), (22, .getfield 241, 3, 1, 2, 0), (25, .aload_n 2, 1, 0, 0, 0),
  (26, .invokevirtual 253, 3, 19, 0, 1), (29, .invokestatic 260, 3, 9001, 2, 0), (32, .invokestatic 260, 3, 9001, 2, 0), (35, .istore_n 3, 1, 0, 0, 0),
  (36, .aload_n 2, 1, 0, 0, 0), (37, .invokevirtual 250, 3, 18, 0, 1), (40, .iload_n 3, 1, 0, 0, 0), (41, .if_icmp .ne 5, 3, 0, 0, 0),
  (44, .iconst 0, 1, 0, 0, 0), (45, .ireturn, 1, 0, 0, 0), (46, .aload_n 2, 1, 0, 0, 0), (47, .getfield 241, 3, 1, 2, 0),
  (50, .iload_n 3, 1, 0, 0, 0), (51, .if_icmp .ne 7, 3, 0, 0, 0), (54, .iconst 1, 1, 0, 0, 0), (55, .goto 4, 3, 0, 0, 0),
  (58, .iconst 2, 1, 0, 0, 0), (59, .ireturn, 1, 0, 0, 0)]
def op_X11_work : List cv_Q := [
  (0, .aload_n 0, 1, 0, 0, 0), (1, .iload_n 1, 1, 0, 0, 0), (2, .invokevirtual 155, 3, 114, 1, 11), (5, .ifCond .eq 14, 3, 0, 0, 0),
  (8, .aload_n 0, 1, 0, 0, 0), (9, .getfield 18, 3, 11, 2, 4), (12, .iload_n 2, 1, 0, 0, 0), (13, .invokevirtual 208, 3, 50, 1, 4),
  (16, .ifCond .ne 5, 3, 0, 0, 0), (19, .iconst 0, 1, 0, 0, 0), (20, .ireturn, 1, 0, 0, 0), (21, .aload_n 0, 1, 0, 0, 0),
  (22, .getfield 50, 3, 11, 7, 4), (25, .iload_n 1, 1, 0, 0, 0), (26, .aaload, 1, 0, 0, 0), (27, .astore_n 3, 1, 0, 0, 0),
  (28, .aload_n 3, 1, 0, 0, 0), (29, .getfield 202, 3, 1, 10, 0), (32, .iconst 1, 1, 0, 0, 0), (33, .iload_n 2, 1, 0, 0, 0),
  (34, .ishl, 1, 0, 0, 0), (35, .iand, 1, 0, 0, 0), (36, .ifCond .eq 5, 3, 0, 0, 0), (39, .iconst 0, 1, 0, 0, 0),
  (40, .ireturn, 1, 0, 0, 0), (41, .aload_n 0, 1, 0, 0, 0), (42, .getfield 66, 3, 11, 11, 4), (45, .iload_n 1, 1, 0, 0, 0),
  (46, .aload_n 3, 1, 0, 0, 0), (47, .invokevirtual 266, 3, 102, 2, 10), (50, .aload_n 3, 1, 0, 0, 0), (51, .aload_n 0, 1, 0, 0, 0),
  (52, .getfield 18, 3, 11, 2, 4), (55, .iload_n 2, 1, 0, 0, 0), (56, .invokevirtual 270, 3, 23, 2, 1), (59, .iconst 1, 1, 0, 0, 0),
  (60, .ireturn, 1, 0, 0, 0)]
def op_X11_undo : List cv_Q := [
  (0, .aload_n 0, 1, 0, 0, 0), (1, .getfield 66, 3, 11, 11, 4), (4, .getfield 273, 3, 10, 2, 0), (7, .ifCond .gt 5, 3, 0, 0, 0),
  (10, .iconst (-1), 1, 0, 0, 0), (11, .ireturn, 1, 0, 0, 0), (12, .aload_n 0, 1, 0, 0, 0), (13, .getfield 66, 3, 11, 11, 4),
  (16, .invokevirtual 276, 3, 104, 0, 10), (19, .istore_n 1, 1, 0, 0, 0), (20, .aload_n 0, 1, 0, 0, 0), (21, .iload_n 1, 1, 0, 0, 0),
  (22, .invokevirtual 155, 3, 114, 1, 11), (25, .ifCond .eq 16, 3, 0, 0, 0), (28, .aload_n 0, 1, 0, 0, 0), (29, .getfield 66, 3, 11, 11, 4),
  (32, .aload_n 0, 1, 0, 0, 0), (33, .getfield 50, 3, 11, 7, 4), (36, .iload_n 1, 1, 0, 0, 0), (37, .aaload, 1, 0, 0, 0),
  (38, .invokevirtual 279, 3, 105, 1, 10), (41, .aload_n 0, 1, 0, 0, 0), (42, .getfield 66, 3, 11, 11, 4), (45, .getfield 273, 3, 10, 2, 0),
  (48, .ireturn, 1, 0, 0, 0)]
def op_X11_lasts : List cv_Q := [
  (0, .aload_n 0, 1, 0, 0, 0), (1, .iload_n 1, 1, 0, 0, 0), (2, .invokevirtual 155, 3, 114, 1, 11), (5, .ifCond .eq 10, 3, 0, 0, 0),
  (8, .iload_n 2, 1, 0, 0, 0), (9, .invokestatic 283, 3, 115, 1, 0), (12, .ifCond .ne 5, 3, 0, 0, 0), (15, .iconst (-1), 1, 0, 0, 0),
  (16, .ireturn, 1, 0, 0, 0), (17, .aload_n 0, 1, 0, 0, 0), (18, .getfield 85, 3, 11, 14, 4), (21, .aload_n 0, 1, 0, 0, 0),
  (22, .getfield 50, 3, 11, 7, 4), (25, .iload_n 1, 1, 0, 0, 0), (26, .aaload, 1, 0, 0, 0), (27, .invokevirtual 286, 3, 16, 1, 1),
  (30, .iconst 1, 1, 0, 0, 0), (31, .istore_n 3, 1, 0, 0, 0), (32, .iload_n 3, 1, 0, 0, 0), (33, .sipush 1000, 3, 0, 0, 0),
  (36, .if_icmp .gt 46, 3, 0, 0, 0), (39, .aload_n 0, 1, 0, 0, 0), (40, .getfield 37, 3, 11, 5, 4), (43, .aload_n 0, 1, 0, 0, 0),
  (44, .getfield 18, 3, 11, 2, 4), (47, .aload_n 0, 1, 0, 0, 0), (48, .getfield 85, 3, 11, 14, 4), (51, .aload_n 0, 1, 0, 0, 0),
  (52, .getfield 117, 3, 11, 8, 0), (55, .iload_n 3, 1, 0, 0, 0), (56, .iadd, 1, 0, 0, 0), (57, .iconst 1, 1, 0, 0, 0),
  (58, .isub, 1, 0, 0, 0), (59, .iconst 1, 1, 0, 0, 0), (60, .invokevirtual 230, 3, 32, 4, 2), (63, .aload_n 0, 1, 0, 0, 0),
  (64, .getfield 85, 3, 11, 14, 4), (67, .invokevirtual 235, 3, 20, 0, 1), (70, .iload_n 2, 1, 0, 0, 0), (71, .if_icmp .le 5, 3, 0, 0, 0),
  (74, .iload_n 3, 1, 0, 0, 0), (75, .ireturn, 1, 0, 0, 0), (76, .iinc 3 1, 3, 0, 0, 0), (79, .goto (-47), 3, 0, 0, 0),
  (82, .iconst 0, 1, 0, 0, 0), (83, .ireturn, 1, 0, 0, 0)]
def op_X11_least_0 : List cv_Q := [
  (0, .aload_n 0, 1, 0, 0, 0), (1, .iload_n 1, 1, 0, 0, 0), (2, .invokevirtual 155, 3, 114, 1, 11), (5, .ifCond .eq 28, 3, 0, 0, 0),
  (8, .iload_n 2, 1, 0, 0, 0), (9, .invokestatic 227, 3, 116, 1, 0), (12, .ifCond .eq 21, 3, 0, 0, 0), (15, .iload_n 3, 1, 0, 0, 0),
  (16, .invokestatic 283, 3, 115, 1, 0), (19, .ifCond .eq 14, 3, 0, 0, 0), (22, .iload 4, 2, 0, 0, 0), (24, .ifCond .lt 9, 3, 0, 0, 0),
  (27, .iload 4, 2, 0, 0, 0), (29, .iconst 1, 1, 0, 0, 0), (30, .if_icmp .le 5, 3, 0, 0, 0), (33, .iconst (-1), 1, 0, 0, 0),
  (34, .ireturn, 1, 0, 0, 0), (35, .bipush (-2), 2, 0, 0, 0), (37, .istore 5, 2, 0, 0, 0), (39, .bipush (-2), 2, 0, 0, 0),
  (41, .istore 6, 2, 0, 0, 0), (43, .iconst 0, 1, 0, 0, 0), (44, .istore 7, 2, 0, 0, 0), (46, .iload 7, 2, 0, 0, 0),
  (48, .iconst 1, 1, 0, 0, 0), (49, .aload_n 0, 1, 0, 0, 0), (50, .getfield 18, 3, 11, 2, 4), (53, .getfield 144, 3, 4, 14, 0),
  (56, .ishl, 1, 0, 0, 0), (57, .if_icmp .ge 79, 3, 0, 0, 0), (60, .aload_n 0, 1, 0, 0, 0), (61, .getfield 18, 3, 11, 2, 4),
  (64, .iload 7, 2, 0, 0, 0), (66, .invokevirtual 289, 3, 55, 1, 4), (69, .istore 8, 2, 0, 0, 0), (71, .iload 6, 2, 0, 0, 0),
  (73, .ifCond .lt 14, 3, 0, 0, 0), (76, .iload 8, 2, 0, 0, 0), (78, .iload 5, 2, 0, 0, 0), (80, .if_icmp .lt 7, 3, 0, 0, 0),
  (83, .iconst 1, 1, 0, 0, 0), (84, .goto 4, 3, 0, 0, 0), (87, .iconst 0, 1, 0, 0, 0), (88, .istore 9, 2, 0, 0, 0),
  (90, .iload 7, 2, 0, 0, 0), (92, .aload_n 0, 1, 0, 0, 0), (93, .getfield 50, 3, 11, 7, 4), (96, .iload_n 1, 1, 0, 0, 0),
  (97, .aaload, 1, 0, 0, 0), (98, .getfield 202, 3, 1, 10, 0), (101, .iand, 1, 0, 0, 0), (102, .ifCond .ne 28, 3, 0, 0, 0),
  (105, .iload 9, 2, 0, 0, 0), (107, .ifCond .ne 23, 3, 0, 0, 0), (110, .aload_n 0, 1, 0, 0, 0), (111, .iload_n 1, 1, 0, 0, 0),
  (112, .iload 7, 2, 0, 0, 0), (114, .iload_n 2, 1, 0, 0, 0), (115, .iload_n 3, 1, 0, 0, 0), (116, .invokevirtual 292, 3, 129, 4, 11)]
def op_X11_least_1 : List cv_Q := [
  (119, .ifCond .eq 11, 3, 0, 0, 0), (122, .iload 8, 2, 0, 0, 0), (124, .istore 5, 2, 0, 0, 0), (126, .iload 7, 2, 0, 0, 0),
  (128, .istore 6, 2, 0, 0, 0), (130, .iinc 7 1, 3, 0, 0, 0), (133, .goto (-87), 3, 0, 0, 0), (136, .iload 4, 2, 0, 0, 0),
  (138, .ifCond .ne 8, 3, 0, 0, 0), (141, .iload 5, 2, 0, 0, 0), (143, .goto 5, 3, 0, 0, 0), (146, .iload 6, 2, 0, 0, 0),
  (148, .ireturn, 1, 0, 0, 0)]
def op_X11_least : List cv_Q := op_X11_least_0 ++ (op_X11_least_1)
def op_X11_holds : List cv_Q := [
  (0, .aload_n 0, 1, 0, 0, 0), (1, .getfield 85, 3, 11, 14, 4), (4, .aload_n 0, 1, 0, 0, 0), (5, .getfield 50, 3, 11, 7, 4),
  (8, .iload_n 1, 1, 0, 0, 0), (9, .aaload, 1, 0, 0, 0), (10, .invokevirtual 286, 3, 16, 1, 1), (13, .iconst 0, 1, 0, 0, 0),
  (14, .istore 5, 2, 0, 0, 0), (16, .iload 5, 2, 0, 0, 0), (18, .aload_n 0, 1, 0, 0, 0), (19, .getfield 18, 3, 11, 2, 4),
  (22, .getfield 144, 3, 4, 14, 0), (25, .if_icmp .ge 31, 3, 0, 0, 0), (28, .iload_n 2, 1, 0, 0, 0), (29, .iconst 1, 1, 0, 0, 0),
  (30, .iload 5, 2, 0, 0, 0), (32, .ishl, 1, 0, 0, 0), (33, .iand, 1, 0, 0, 0), (34, .ifCond .eq 16, 3, 0, 0, 0),
  (37, .aload_n 0, 1, 0, 0, 0), (38, .getfield 85, 3, 11, 14, 4), (41, .aload_n 0, 1, 0, 0, 0), (42, .getfield 18, 3, 11, 2, 4),
  (45, .iload 5, 2, 0, 0, 0), (47, .invokevirtual 270, 3, 23, 2, 1), (50, .iinc 5 1, 3, 0, 0, 0), (53, .goto (-37), 3, 0, 0, 0),
  (56, .aload_n 0, 1, 0, 0, 0), (57, .getfield 37, 3, 11, 5, 4), (60, .aload_n 0, 1, 0, 0, 0), (61, .getfield 18, 3, 11, 2, 4),
  (64, .aload_n 0, 1, 0, 0, 0), (65, .getfield 85, 3, 11, 14, 4), (68, .aload_n 0, 1, 0, 0, 0), (69, .getfield 117, 3, 11, 8, 0),
  (72, .iload_n 3, 1, 0, 0, 0), (73, .invokevirtual 230, 3, 32, 4, 2), (76, .aload_n 0, 1, 0, 0, 0), (77, .getfield 85, 3, 11, 14, 4),
  (80, .invokevirtual 235, 3, 20, 0, 1), (83, .iload 4, 2, 0, 0, 0), (85, .if_icmp .gt 7, 3, 0, 0, 0), (88, .iconst 1, 1, 0, 0, 0),
  (89, .goto 4, 3, 0, 0, 0), (92, .iconst 0, 1, 0, 0, 0), (93, .ireturn, 1, 0, 0, 0)]
def op_X11_way : List cv_Q := [
  (0, .aload_n 0, 1, 0, 0, 0), (1, .iload_n 1, 1, 0, 0, 0), (2, .invokevirtual 155, 3, 114, 1, 11), (5, .ifCond .eq 10, 3, 0, 0, 0),
  (8, .iload_n 2, 1, 0, 0, 0), (9, .invokestatic 227, 3, 116, 1, 0), (12, .ifCond .ne 6, 3, 0, 0, 0), (15, .ldc 234, 2, 0, 0, (-2147483648)),
  (17, .ireturn, 1, 0, 0, 0), (18, .aload_n 0, 1, 0, 0, 0), (19, .iload_n 1, 1, 0, 0, 0), (20, .iload_n 2, 1, 0, 0, 0),
  (21, .iconst 1, 1, 0, 0, 0), (22, .invokevirtual 296, 3, 131, 3, 11), (25, .aload_n 0, 1, 0, 0, 0), (26, .iload_n 1, 1, 0, 0, 0),
  (27, .iload_n 2, 1, 0, 0, 0), (28, .iconst 2, 1, 0, 0, 0), (29, .invokevirtual 296, 3, 131, 3, 11), (32, .isub, 1, 0, 0, 0),
  (33, .ireturn, 1, 0, 0, 0)]
def op_X11_dropWithBrace : List cv_Q := [
  (0, .aload_n 0, 1, 0, 0, 0), (1, .getfield 85, 3, 11, 14, 4), (4, .aload_n 0, 1, 0, 0, 0), (5, .getfield 50, 3, 11, 7, 4),
  (8, .iload_n 1, 1, 0, 0, 0), (9, .aaload, 1, 0, 0, 0), (10, .invokevirtual 286, 3, 16, 1, 1), (13, .aload_n 0, 1, 0, 0, 0),
  (14, .getfield 85, 3, 11, 14, 4), (17, .iload_n 3, 1, 0, 0, 0), (18, .putfield 196, 3, 1, 6, 0), (21, .aload_n 0, 1, 0, 0, 0),
  (22, .getfield 37, 3, 11, 5, 4), (25, .aload_n 0, 1, 0, 0, 0), (26, .getfield 18, 3, 11, 2, 4), (29, .aload_n 0, 1, 0, 0, 0),
  (30, .getfield 85, 3, 11, 14, 4), (33, .aload_n 0, 1, 0, 0, 0), (34, .getfield 117, 3, 11, 8, 0), (37, .iload_n 2, 1, 0, 0, 0),
  (38, .invokevirtual 230, 3, 32, 4, 2), (41, .aload_n 0, 1, 0, 0, 0), (42, .getfield 85, 3, 11, 14, 4), (45, .invokevirtual 235, 3, 20, 0, 1),
  (48, .ireturn, 1, 0, 0, 0)]
def op_X11_enough_0 : List cv_Q := [
  (0, .aload_n 0, 1, 0, 0, 0), (1, .iload_n 1, 1, 0, 0, 0), (2, .invokevirtual 155, 3, 114, 1, 11), (5, .ifCond .eq 17, 3, 0, 0, 0),
  (8, .iload_n 2, 1, 0, 0, 0), (9, .invokestatic 227, 3, 116, 1, 0), (12, .ifCond .eq 10, 3, 0, 0, 0), (15, .iload_n 3, 1, 0, 0, 0),
  (16, .invokestatic 283, 3, 115, 1, 0), (19, .ifCond .ne 5, 3, 0, 0, 0), (22, .iconst (-1), 1, 0, 0, 0), (23, .ireturn, 1, 0, 0, 0),
  (24, .aload_n 0, 1, 0, 0, 0), (25, .getfield 18, 3, 11, 2, 4), (28, .invokevirtual 300, 3, 54, 0, 4), (31, .iconst 4, 1, 0, 0, 0),
  (32, .iand, 1, 0, 0, 0), (33, .ifCond .eq 7, 3, 0, 0, 0), (36, .iconst 1, 1, 0, 0, 0), (37, .goto 4, 3, 0, 0, 0),
  (40, .iconst 0, 1, 0, 0, 0), (41, .istore 4, 2, 0, 0, 0), (43, .bipush 12, 2, 0, 0, 0), (45, .istore 5, 2, 0, 0, 0),
  (47, .iload 5, 2, 0, 0, 0), (49, .bipush 60, 2, 0, 0, 0), (51, .if_icmp .gt 73, 3, 0, 0, 0), (54, .aload_n 0, 1, 0, 0, 0),
  (55, .getfield 85, 3, 11, 14, 4), (58, .aload_n 0, 1, 0, 0, 0), (59, .getfield 50, 3, 11, 7, 4), (62, .iload_n 1, 1, 0, 0, 0),
  (63, .aaload, 1, 0, 0, 0), (64, .invokevirtual 286, 3, 16, 1, 1), (67, .aload_n 0, 1, 0, 0, 0), (68, .getfield 85, 3, 11, 14, 4),
  (71, .iload 5, 2, 0, 0, 0), (73, .putfield 190, 3, 1, 5, 0), (76, .aload_n 0, 1, 0, 0, 0), (77, .getfield 37, 3, 11, 5, 4),
  (80, .aload_n 0, 1, 0, 0, 0), (81, .getfield 18, 3, 11, 2, 4), (84, .aload_n 0, 1, 0, 0, 0), (85, .getfield 85, 3, 11, 14, 4),
  (88, .aload_n 0, 1, 0, 0, 0), (89, .getfield 117, 3, 11, 8, 0), (92, .iload_n 2, 1, 0, 0, 0), (93, .invokevirtual 230, 3, 32, 4, 2),
  (96, .aload_n 0, 1, 0, 0, 0), (97, .getfield 85, 3, 11, 14, 4), (100, .getfield 238, 3, 1, 1, 0), (103, .iload_n 3, 1, 0, 0, 0),
  (104, .if_icmp .gt 6, 3, 0, 0, 0), (107, .iload 5, 2, 0, 0, 0), (109, .ireturn, 1, 0, 0, 0), (110, .iload 4, 2, 0, 0, 0),
  (112, .ifCond .ne 6, 3, 0, 0, 0), (115, .bipush (-2), 2, 0, 0, 0), (117, .ireturn, 1, 0, 0, 0), (118, .iinc 5 1, 3, 0, 0, 0)]
def op_X11_enough_1 : List cv_Q := [
  (121, .goto (-74), 3, 0, 0, 0), (124, .bipush (-2), 2, 0, 0, 0), (126, .ireturn, 1, 0, 0, 0)]
def op_X11_enough : List cv_Q := op_X11_enough_0 ++ (op_X11_enough_1)
def op_X11_bears_0 : List cv_Q := [
  (0, .aload_n 0, 1, 0, 0, 0), (1, .iload_n 1, 1, 0, 0, 0), (2, .invokevirtual 155, 3, 114, 1, 11), (5, .ifCond .eq 17, 3, 0, 0, 0),
  (8, .iload_n 2, 1, 0, 0, 0), (9, .invokestatic 227, 3, 116, 1, 0), (12, .ifCond .eq 10, 3, 0, 0, 0), (15, .iload_n 3, 1, 0, 0, 0),
  (16, .invokestatic 283, 3, 115, 1, 0), (19, .ifCond .ne 5, 3, 0, 0, 0), (22, .iconst (-1), 1, 0, 0, 0), (23, .ireturn, 1, 0, 0, 0),
  (24, .aload_n 0, 1, 0, 0, 0), (25, .getfield 18, 3, 11, 2, 4), (28, .invokevirtual 300, 3, 54, 0, 4), (31, .sipush 256, 3, 0, 0, 0),
  (34, .iand, 1, 0, 0, 0), (35, .ifCond .eq 7, 3, 0, 0, 0), (38, .iconst 1, 1, 0, 0, 0), (39, .goto 4, 3, 0, 0, 0),
  (42, .iconst 0, 1, 0, 0, 0), (43, .istore 4, 2, 0, 0, 0), (45, .aload_n 0, 1, 0, 0, 0), (46, .getfield 18, 3, 11, 2, 4),
  (49, .invokevirtual 300, 3, 54, 0, 4), (52, .iconst 1, 1, 0, 0, 0), (53, .iand, 1, 0, 0, 0), (54, .ifCond .eq 7, 3, 0, 0, 0),
  (57, .iconst 1, 1, 0, 0, 0), (58, .goto 4, 3, 0, 0, 0), (61, .iconst 0, 1, 0, 0, 0), (62, .istore 5, 2, 0, 0, 0),
  (64, .iconst 0, 1, 0, 0, 0), (65, .istore 6, 2, 0, 0, 0), (67, .sipush 200, 3, 0, 0, 0), (70, .istore 7, 2, 0, 0, 0),
  (72, .iload 7, 2, 0, 0, 0), (74, .ifCond .lt 103, 3, 0, 0, 0), (77, .aload_n 0, 1, 0, 0, 0), (78, .getfield 85, 3, 11, 14, 4),
  (81, .aload_n 0, 1, 0, 0, 0), (82, .getfield 50, 3, 11, 7, 4), (85, .iload_n 1, 1, 0, 0, 0), (86, .aaload, 1, 0, 0, 0),
  (87, .invokevirtual 286, 3, 16, 1, 1), (90, .aload_n 0, 1, 0, 0, 0), (91, .getfield 85, 3, 11, 14, 4), (94, .iload 7, 2, 0, 0, 0),
  (96, .putfield 199, 3, 1, 9, 0), (99, .aload_n 0, 1, 0, 0, 0), (100, .getfield 85, 3, 11, 14, 4), (103, .invokevirtual 187, 3, 17, 0, 1),
  (106, .istore 8, 2, 0, 0, 0), (108, .iload 7, 2, 0, 0, 0), (110, .sipush 200, 3, 0, 0, 0), (113, .if_icmp .eq 20, 3, 0, 0, 0),
  (116, .iload 4, 2, 0, 0, 0), (118, .ifCond .ne 15, 3, 0, 0, 0), (121, .iload 5, 2, 0, 0, 0), (123, .ifCond .eq 48, 3, 0, 0, 0)]
def op_X11_bears_1 : List cv_Q := [
  (126, .iload 8, 2, 0, 0, 0), (128, .iload 6, 2, 0, 0, 0), (130, .if_icmp .eq 41, 3, 0, 0, 0), (133, .iload 8, 2, 0, 0, 0),
  (135, .istore 6, 2, 0, 0, 0), (137, .aload_n 0, 1, 0, 0, 0), (138, .getfield 37, 3, 11, 5, 4), (141, .aload_n 0, 1, 0, 0, 0),
  (142, .getfield 18, 3, 11, 2, 4), (145, .aload_n 0, 1, 0, 0, 0), (146, .getfield 85, 3, 11, 14, 4), (149, .aload_n 0, 1, 0, 0, 0),
  (150, .getfield 117, 3, 11, 8, 0), (153, .iload_n 2, 1, 0, 0, 0), (154, .invokevirtual 230, 3, 32, 4, 2), (157, .aload_n 0, 1, 0, 0, 0),
  (158, .getfield 85, 3, 11, 14, 4), (161, .invokevirtual 235, 3, 20, 0, 1), (164, .iload_n 3, 1, 0, 0, 0), (165, .if_icmp .gt 6, 3, 0, 0, 0),
  (168, .iload 7, 2, 0, 0, 0), (170, .ireturn, 1, 0, 0, 0), (171, .iinc 7 (-1), 3, 0, 0, 0), (174, .goto (-102), 3, 0, 0, 0),
  (177, .bipush (-2), 2, 0, 0, 0), (179, .ireturn, 1, 0, 0, 0)]
def op_X11_bears : List cv_Q := op_X11_bears_0 ++ (op_X11_bears_1)
def op_X11_knock : List cv_Q := [
  (0, .aload_n 0, 1, 0, 0, 0), (1, .iload_n 1, 1, 0, 0, 0), (2, .invokevirtual 155, 3, 114, 1, 11), (5, .ifCond .eq 24, 3, 0, 0, 0),
  (8, .iload_n 2, 1, 0, 0, 0), (9, .ifCond .lt 20, 3, 0, 0, 0), (12, .iload_n 2, 1, 0, 0, 0), (13, .bipush 99, 2, 0, 0, 0),
  (15, .if_icmp .gt 14, 3, 0, 0, 0), (18, .aload_n 0, 1, 0, 0, 0), (19, .getfield 18, 3, 11, 2, 4), (22, .iconst 3, 1, 0, 0, 0),
  (23, .invokevirtual 303, 3, 52, 1, 4), (26, .ifCond .ne 7, 3, 0, 0, 0), (29, .ldc2_w 308, 3, 0, 0, (-9223372036854775808)), (32, .lreturn, 1, 0, 0, 0),
  (33, .aload_n 0, 1, 0, 0, 0), (34, .getfield 37, 3, 11, 5, 4), (37, .aload_n 0, 1, 0, 0, 0), (38, .getfield 18, 3, 11, 2, 4),
  (41, .aload_n 0, 1, 0, 0, 0), (42, .getfield 50, 3, 11, 7, 4), (45, .iload_n 1, 1, 0, 0, 0), (46, .aaload, 1, 0, 0, 0),
  (47, .aload_n 0, 1, 0, 0, 0), (48, .getfield 117, 3, 11, 8, 0), (51, .iload_n 2, 1, 0, 0, 0), (52, .invokevirtual 310, 3, 31, 4, 2),
  (55, .aload_n 0, 1, 0, 0, 0), (56, .getfield 37, 3, 11, 5, 4), (59, .aload_n 0, 1, 0, 0, 0), (60, .getfield 18, 3, 11, 2, 4),
  (63, .iconst 3, 1, 0, 0, 0), (64, .invokevirtual 313, 3, 34, 2, 2), (67, .lstore_n 3, 1, 0, 0, 0), (68, .aload_n 0, 1, 0, 0, 0),
  (69, .getfield 37, 3, 11, 5, 4), (72, .getfield 317, 3, 2, 4, 2), (75, .ifCond .eq 9, 3, 0, 0, 0), (78, .ldc2_w 308, 3, 0, 0, (-9223372036854775808)),
  (81, .goto 4, 3, 0, 0, 0), (84, .lload_n 3, 1, 0, 0, 0), (85, .lreturn, 1, 0, 0, 0)]
def op_X11_measure : List cv_Q := [
  (0, .iload 4, 2, 0, 0, 0), (2, .ldc_w 321, 3, 0, 0, (-9999999)), (5, .if_icmp .lt 22, 3, 0, 0, 0), (8, .iload 4, 2, 0, 0, 0),
  (10, .iload 5, 2, 0, 0, 0), (12, .if_icmp .gt 15, 3, 0, 0, 0), (15, .iload 5, 2, 0, 0, 0), (17, .ldc_w 322, 3, 0, 0, 9999999),
  (20, .if_icmp .gt 7, 3, 0, 0, 0), (23, .iconst 1, 1, 0, 0, 0), (24, .goto 4, 3, 0, 0, 0), (27, .iconst 0, 1, 0, 0, 0),
  (28, .istore 6, 2, 0, 0, 0), (30, .aload_n 0, 1, 0, 0, 0), (31, .iload_n 1, 1, 0, 0, 0), (32, .invokevirtual 155, 3, 114, 1, 11),
  (35, .ifCond .eq 24, 3, 0, 0, 0), (38, .iload_n 2, 1, 0, 0, 0), (39, .invokestatic 220, 3, 118, 1, 0), (42, .ifCond .eq 17, 3, 0, 0, 0),
  (45, .iload_n 3, 1, 0, 0, 0), (46, .ifCond .lt 13, 3, 0, 0, 0), (49, .iload_n 3, 1, 0, 0, 0), (50, .iconst 4, 1, 0, 0, 0),
  (51, .if_icmp .ge 8, 3, 0, 0, 0), (54, .iload 6, 2, 0, 0, 0), (56, .ifCond .ne 5, 3, 0, 0, 0), (59, .iconst (-1), 1, 0, 0, 0),
  (60, .ireturn, 1, 0, 0, 0), (61, .aload_n 0, 1, 0, 0, 0), (62, .getfield 73, 3, 11, 12, 4), (65, .iload_n 1, 1, 0, 0, 0),
  (66, .iload_n 2, 1, 0, 0, 0), (67, .iload_n 3, 1, 0, 0, 0), (68, .iload 4, 2, 0, 0, 0), (70, .iload 5, 2, 0, 0, 0),
  (72, .invokevirtual 323, 3, 43, 5, 3), (75, .ireturn, 1, 0, 0, 0)]
def op_X11_strike : List cv_Q := [
  (0, .iload_n 1, 1, 0, 0, 0), (1, .ifCond .lt 25, 3, 0, 0, 0), (4, .iload_n 1, 1, 0, 0, 0), (5, .aload_n 0, 1, 0, 0, 0),
  (6, .getfield 73, 3, 11, 12, 4), (9, .getfield 327, 3, 3, 9, 0), (12, .if_icmp .ge 14, 3, 0, 0, 0), (15, .aload_n 0, 1, 0, 0, 0),
  (16, .getfield 73, 3, 11, 12, 4), (19, .iload_n 1, 1, 0, 0, 0), (20, .invokevirtual 328, 3, 44, 1, 3), (23, .goto 4, 3, 0, 0, 0),
  (26, .iconst (-1), 1, 0, 0, 0), (27, .ireturn, 1, 0, 0, 0)]
def op_X11_known : List cv_Q := [
  (0, .iload_n 1, 1, 0, 0, 0), (1, .iconst (-1), 1, 0, 0, 0), (2, .if_icmp .lt 14, 3, 0, 0, 0), (5, .iload_n 1, 1, 0, 0, 0),
  (6, .aload_n 0, 1, 0, 0, 0), (7, .getfield 73, 3, 11, 12, 4), (10, .getfield 327, 3, 3, 9, 0), (13, .if_icmp .le 5, 3, 0, 0, 0),
  (16, .iconst 0, 1, 0, 0, 0), (17, .ireturn, 1, 0, 0, 0), (18, .aload_n 0, 1, 0, 0, 0), (19, .getfield 73, 3, 11, 12, 4),
  (22, .iload_n 1, 1, 0, 0, 0), (23, .putfield 331, 3, 3, 10, 0), (26, .iconst 1, 1, 0, 0, 0), (27, .ireturn, 1, 0, 0, 0)]
def op_X11_fits : List cv_Q := [
  (0, .aload_n 0, 1, 0, 0, 0), (1, .iload_n 1, 1, 0, 0, 0), (2, .invokevirtual 155, 3, 114, 1, 11), (5, .ifCond .ne 5, 3, 0, 0, 0),
  (8, .iconst (-1), 1, 0, 0, 0), (9, .ireturn, 1, 0, 0, 0), (10, .aload_n 0, 1, 0, 0, 0), (11, .getfield 80, 3, 11, 13, 4),
  (14, .aload_n 0, 1, 0, 0, 0), (15, .getfield 18, 3, 11, 2, 4), (18, .aload_n 0, 1, 0, 0, 0), (19, .getfield 37, 3, 11, 5, 4),
  (22, .aload_n 0, 1, 0, 0, 0), (23, .getfield 73, 3, 11, 12, 4), (26, .iload_n 1, 1, 0, 0, 0), (27, .iconst 0, 1, 0, 0, 0),
  (28, .invokevirtual 334, 3, 90, 5, 8), (31, .aload_n 0, 1, 0, 0, 0), (32, .getfield 80, 3, 11, 13, 4), (35, .getfield 338, 3, 8, 2, 0),
  (38, .ireturn, 1, 0, 0, 0)]
def op_X11_odds : List cv_Q := [
  (0, .aload_n 0, 1, 0, 0, 0), (1, .iload_n 1, 1, 0, 0, 0), (2, .invokevirtual 155, 3, 114, 1, 11), (5, .ifCond .eq 27, 3, 0, 0, 0),
  (8, .iload_n 2, 1, 0, 0, 0), (9, .ifCond .lt 23, 3, 0, 0, 0), (12, .iload_n 2, 1, 0, 0, 0), (13, .aload_n 0, 1, 0, 0, 0),
  (14, .getfield 18, 3, 11, 2, 4), (17, .getfield 150, 3, 4, 19, 0), (20, .if_icmp .gt 12, 3, 0, 0, 0), (23, .iload_n 3, 1, 0, 0, 0),
  (24, .ifCond .lt 8, 3, 0, 0, 0), (27, .iload_n 3, 1, 0, 0, 0), (28, .iconst 1, 1, 0, 0, 0), (29, .if_icmp .le 5, 3, 0, 0, 0),
  (32, .iconst (-1), 1, 0, 0, 0), (33, .ireturn, 1, 0, 0, 0), (34, .aload_n 0, 1, 0, 0, 0), (35, .getfield 80, 3, 11, 13, 4),
  (38, .aload_n 0, 1, 0, 0, 0), (39, .getfield 18, 3, 11, 2, 4), (42, .aload_n 0, 1, 0, 0, 0), (43, .getfield 37, 3, 11, 5, 4),
  (46, .aload_n 0, 1, 0, 0, 0), (47, .getfield 73, 3, 11, 12, 4), (50, .iload_n 1, 1, 0, 0, 0), (51, .iconst 0, 1, 0, 0, 0),
  (52, .invokevirtual 334, 3, 90, 5, 8), (55, .aload_n 0, 1, 0, 0, 0), (56, .getfield 80, 3, 11, 13, 4), (59, .getfield 338, 3, 8, 2, 0),
  (62, .ifCond .ne 5, 3, 0, 0, 0), (65, .iconst 0, 1, 0, 0, 0), (66, .ireturn, 1, 0, 0, 0), (67, .aload_n 0, 1, 0, 0, 0),
  (68, .getfield 80, 3, 11, 13, 4), (71, .getfield 338, 3, 8, 2, 0), (74, .iconst 1, 1, 0, 0, 0), (75, .iload_n 2, 1, 0, 0, 0),
  (76, .ishl, 1, 0, 0, 0), (77, .iand, 1, 0, 0, 0), (78, .ifCond .ne 5, 3, 0, 0, 0), (81, .iload_n 3, 1, 0, 0, 0),
  (82, .ireturn, 1, 0, 0, 0), (83, .iload_n 3, 1, 0, 0, 0), (84, .ifCond .ne 14, 3, 0, 0, 0), (87, .aload_n 0, 1, 0, 0, 0),
  (88, .getfield 18, 3, 11, 2, 4), (91, .iload_n 2, 1, 0, 0, 0), (92, .invokevirtual 341, 3, 57, 1, 4), (95, .goto 14, 3, 0, 0, 0),
  (98, .aload_n 0, 1, 0, 0, 0), (99, .getfield 80, 3, 11, 13, 4), (102, .aload_n 0, 1, 0, 0, 0), (103, .getfield 18, 3, 11, 2, 4),
  (106, .invokevirtual 344, 3, 93, 1, 8), (109, .ireturn, 1, 0, 0, 0)]
def op_X11_test_0 : List cv_Q := [
  (0, .aload_n 0, 1, 0, 0, 0), (1, .iload_n 1, 1, 0, 0, 0), (2, .invokevirtual 155, 3, 114, 1, 11), (5, .ifCond .eq 12, 3, 0, 0, 0),
  (8, .iload_n 2, 1, 0, 0, 0), (9, .ifCond .lt 8, 3, 0, 0, 0), (12, .iload_n 2, 1, 0, 0, 0), (13, .iconst 1, 1, 0, 0, 0),
  (14, .if_icmp .le 5, 3, 0, 0, 0), (17, .iconst (-1), 1, 0, 0, 0), (18, .ireturn, 1, 0, 0, 0), (19, .aload_n 0, 1, 0, 0, 0),
  (20, .getfield 80, 3, 11, 13, 4), (23, .aload_n 0, 1, 0, 0, 0), (24, .getfield 18, 3, 11, 2, 4), (27, .aload_n 0, 1, 0, 0, 0),
  (28, .getfield 37, 3, 11, 5, 4), (31, .aload_n 0, 1, 0, 0, 0), (32, .getfield 73, 3, 11, 12, 4), (35, .iload_n 1, 1, 0, 0, 0),
  (36, .aload_n 0, 1, 0, 0, 0), (37, .getfield 117, 3, 11, 8, 0), (40, .invokevirtual 334, 3, 90, 5, 8), (43, .aload_n 0, 1, 0, 0, 0),
  (44, .getfield 80, 3, 11, 13, 4), (47, .getfield 338, 3, 8, 2, 0), (50, .invokestatic 348, 3, 273, 1, 0), (53, .iconst 2, 1, 0, 0, 0),
  (54, .if_icmp .ge 5, 3, 0, 0, 0), (57, .iconst (-1), 1, 0, 0, 0), (58, .ireturn, 1, 0, 0, 0), (59, .iconst 0, 1, 0, 0, 0),
  (60, .istore_n 3, 1, 0, 0, 0), (61, .iconst 1, 1, 0, 0, 0), (62, .istore 4, 2, 0, 0, 0), (64, .iload 4, 2, 0, 0, 0),
  (66, .iconst 4, 1, 0, 0, 0), (67, .if_icmp .ge 40, 3, 0, 0, 0), (70, .aload_n 0, 1, 0, 0, 0), (71, .getfield 80, 3, 11, 13, 4),
  (74, .aload_n 0, 1, 0, 0, 0), (75, .getfield 18, 3, 11, 2, 4), (78, .iload 4, 2, 0, 0, 0), (80, .invokevirtual 351, 3, 94, 2, 8),
  (83, .aload_n 0, 1, 0, 0, 0), (84, .getfield 80, 3, 11, 13, 4), (87, .aload_n 0, 1, 0, 0, 0), (88, .getfield 18, 3, 11, 2, 4),
  (91, .iload_n 3, 1, 0, 0, 0), (92, .invokevirtual 351, 3, 94, 2, 8), (95, .if_icmp .ge 6, 3, 0, 0, 0), (98, .iload 4, 2, 0, 0, 0),
  (100, .istore_n 3, 1, 0, 0, 0), (101, .iinc 4 1, 3, 0, 0, 0), (104, .goto (-40), 3, 0, 0, 0), (107, .iload_n 2, 1, 0, 0, 0),
  (108, .ifCond .ne 7, 3, 0, 0, 0), (111, .iload_n 3, 1, 0, 0, 0), (112, .goto 15, 3, 0, 0, 0), (115, .aload_n 0, 1, 0, 0, 0)]
def op_X11_test_1 : List cv_Q := [
  (116, .getfield 80, 3, 11, 13, 4), (119, .aload_n 0, 1, 0, 0, 0), (120, .getfield 18, 3, 11, 2, 4), (123, .iload_n 3, 1, 0, 0, 0),
  (124, .invokevirtual 351, 3, 94, 2, 8), (127, .ireturn, 1, 0, 0, 0)]
def op_X11_test : List cv_Q := op_X11_test_0 ++ (op_X11_test_1)
def op_X11_low : List cv_Q := [
  (0, .aload_n 0, 1, 0, 0, 0), (1, .iload_n 1, 1, 0, 0, 0), (2, .invokevirtual 155, 3, 114, 1, 11), (5, .ifCond .eq 10, 3, 0, 0, 0),
  (8, .iload_n 2, 1, 0, 0, 0), (9, .invokestatic 354, 3, 117, 1, 0), (12, .ifCond .ne 6, 3, 0, 0, 0), (15, .ldc 234, 2, 0, 0, (-2147483648)),
  (17, .ireturn, 1, 0, 0, 0), (18, .aload_n 0, 1, 0, 0, 0), (19, .getfield 50, 3, 11, 7, 4), (22, .iload_n 1, 1, 0, 0, 0),
  (23, .aaload, 1, 0, 0, 0), (24, .iload_n 2, 1, 0, 0, 0), (25, .invokevirtual 357, 3, 25, 1, 1), (28, .ireturn, 1, 0, 0, 0)]
def op_X11_rest : List cv_Q := [
  (0, .aload_n 0, 1, 0, 0, 0), (1, .iload_n 1, 1, 0, 0, 0), (2, .invokevirtual 155, 3, 114, 1, 11), (5, .ifCond .ne 5, 3, 0, 0, 0),
  (8, .iconst (-1), 1, 0, 0, 0), (9, .ireturn, 1, 0, 0, 0), (10, .iconst 0, 1, 0, 0, 0), (11, .istore_n 2, 1, 0, 0, 0),
  (12, .iconst 1, 1, 0, 0, 0), (13, .istore_n 3, 1, 0, 0, 0), (14, .iload_n 3, 1, 0, 0, 0), (15, .bipush 9, 2, 0, 0, 0),
  (17, .if_icmp .ge 34, 3, 0, 0, 0), (20, .aload_n 0, 1, 0, 0, 0), (21, .getfield 50, 3, 11, 7, 4), (24, .iload_n 1, 1, 0, 0, 0),
  (25, .aaload, 1, 0, 0, 0), (26, .iload_n 3, 1, 0, 0, 0), (27, .invokevirtual 357, 3, 25, 1, 1), (30, .aload_n 0, 1, 0, 0, 0),
  (31, .getfield 50, 3, 11, 7, 4), (34, .iload_n 1, 1, 0, 0, 0), (35, .aaload, 1, 0, 0, 0), (36, .iload_n 2, 1, 0, 0, 0),
  (37, .invokevirtual 357, 3, 25, 1, 1), (40, .if_icmp .le 5, 3, 0, 0, 0), (43, .iload_n 3, 1, 0, 0, 0), (44, .istore_n 2, 1, 0, 0, 0),
  (45, .iinc 3 1, 3, 0, 0, 0), (48, .goto (-34), 3, 0, 0, 0), (51, .iload_n 2, 1, 0, 0, 0), (52, .ireturn, 1, 0, 0, 0)]
def op_X11_shuts : List cv_Q := [
  (0, .aload_n 0, 1, 0, 0, 0), (1, .iload_n 1, 1, 0, 0, 0), (2, .invokevirtual 155, 3, 114, 1, 11), (5, .ifCond .ne 5, 3, 0, 0, 0),
  (8, .iconst (-1), 1, 0, 0, 0), (9, .ireturn, 1, 0, 0, 0), (10, .iconst 1, 1, 0, 0, 0), (11, .istore_n 2, 1, 0, 0, 0),
  (12, .iconst 1, 1, 0, 0, 0), (13, .istore_n 3, 1, 0, 0, 0), (14, .iload_n 3, 1, 0, 0, 0), (15, .bipush 9, 2, 0, 0, 0),
  (17, .if_icmp .ge 42, 3, 0, 0, 0), (20, .aload_n 0, 1, 0, 0, 0), (21, .getfield 50, 3, 11, 7, 4), (24, .iload_n 1, 1, 0, 0, 0),
  (25, .aaload, 1, 0, 0, 0), (26, .iload_n 3, 1, 0, 0, 0), (27, .iconst 1, 1, 0, 0, 0), (28, .isub, 1, 0, 0, 0),
  (29, .invokevirtual 357, 3, 25, 1, 1), (32, .aload_n 0, 1, 0, 0, 0), (33, .getfield 50, 3, 11, 7, 4), (36, .iload_n 1, 1, 0, 0, 0),
  (37, .aaload, 1, 0, 0, 0), (38, .iload_n 3, 1, 0, 0, 0), (39, .invokevirtual 357, 3, 25, 1, 1), (42, .if_icmp .gt 5, 3, 0, 0, 0),
  (45, .iload_n 2, 1, 0, 0, 0), (46, .ireturn, 1, 0, 0, 0), (47, .iload_n 2, 1, 0, 0, 0), (48, .iconst 1, 1, 0, 0, 0),
  (49, .iload_n 3, 1, 0, 0, 0), (50, .ishl, 1, 0, 0, 0), (51, .ior, 1, 0, 0, 0), (52, .istore_n 2, 1, 0, 0, 0),
  (53, .iinc 3 1, 3, 0, 0, 0), (56, .goto (-42), 3, 0, 0, 0), (59, .iload_n 2, 1, 0, 0, 0), (60, .ireturn, 1, 0, 0, 0)]
def op_X11_above : List cv_Q := [
  (0, .aload_n 0, 1, 0, 0, 0), (1, .iload_n 1, 1, 0, 0, 0), (2, .invokevirtual 155, 3, 114, 1, 11), (5, .ifCond .eq 10, 3, 0, 0, 0),
  (8, .iload_n 2, 1, 0, 0, 0), (9, .invokestatic 354, 3, 117, 1, 0), (12, .ifCond .ne 6, 3, 0, 0, 0), (15, .ldc 234, 2, 0, 0, (-2147483648)),
  (17, .ireturn, 1, 0, 0, 0), (18, .aload_n 0, 1, 0, 0, 0), (19, .getfield 50, 3, 11, 7, 4), (22, .iload_n 1, 1, 0, 0, 0),
  (23, .aaload, 1, 0, 0, 0), (24, .iload_n 2, 1, 0, 0, 0), (25, .invokevirtual 360, 3, 26, 1, 1), (28, .ireturn, 1, 0, 0, 0)]
def op_X11_opens : List cv_Q := [
  (0, .aload_n 0, 1, 0, 0, 0), (1, .iload_n 1, 1, 0, 0, 0), (2, .invokevirtual 155, 3, 114, 1, 11), (5, .ifCond .ne 6, 3, 0, 0, 0),
  (8, .bipush (-2), 2, 0, 0, 0), (10, .ireturn, 1, 0, 0, 0), (11, .iconst 0, 1, 0, 0, 0), (12, .istore_n 2, 1, 0, 0, 0),
  (13, .iload_n 2, 1, 0, 0, 0), (14, .bipush 9, 2, 0, 0, 0), (16, .if_icmp .ge 26, 3, 0, 0, 0), (19, .aload_n 0, 1, 0, 0, 0),
  (20, .getfield 50, 3, 11, 7, 4), (23, .iload_n 1, 1, 0, 0, 0), (24, .aaload, 1, 0, 0, 0), (25, .iload_n 2, 1, 0, 0, 0),
  (26, .invokevirtual 360, 3, 26, 1, 1), (29, .ifCond .ge 7, 3, 0, 0, 0), (32, .iload_n 2, 1, 0, 0, 0), (33, .iconst 1, 1, 0, 0, 0),
  (34, .isub, 1, 0, 0, 0), (35, .ireturn, 1, 0, 0, 0), (36, .iinc 2 1, 3, 0, 0, 0), (39, .goto (-26), 3, 0, 0, 0),
  (42, .bipush 8, 2, 0, 0, 0), (44, .ireturn, 1, 0, 0, 0)]
def op_X11_stand_0 : List cv_Q := [
  (0, .aload_n 0, 1, 0, 0, 0), (1, .iload_n 1, 1, 0, 0, 0), (2, .invokevirtual 155, 3, 114, 1, 11), (5, .ifCond .eq 19, 3, 0, 0, 0),
  (8, .iload_n 2, 1, 0, 0, 0), (9, .invokestatic 354, 3, 117, 1, 0), (12, .ifCond .eq 12, 3, 0, 0, 0), (15, .iload_n 3, 1, 0, 0, 0),
  (16, .ifCond .lt 8, 3, 0, 0, 0), (19, .iload_n 3, 1, 0, 0, 0), (20, .iconst 1, 1, 0, 0, 0), (21, .if_icmp .le 6, 3, 0, 0, 0),
  (24, .ldc 234, 2, 0, 0, (-2147483648)), (26, .ireturn, 1, 0, 0, 0), (27, .aload_n 0, 1, 0, 0, 0), (28, .getfield 85, 3, 11, 14, 4),
  (31, .aload_n 0, 1, 0, 0, 0), (32, .getfield 50, 3, 11, 7, 4), (35, .iload_n 1, 1, 0, 0, 0), (36, .aaload, 1, 0, 0, 0),
  (37, .invokevirtual 286, 3, 16, 1, 1), (40, .iconst 0, 1, 0, 0, 0), (41, .istore 4, 2, 0, 0, 0), (43, .iload 4, 2, 0, 0, 0),
  (45, .bipush 60, 2, 0, 0, 0), (47, .if_icmp .gt 101, 3, 0, 0, 0), (50, .bipush (-30), 2, 0, 0, 0), (52, .istore 5, 2, 0, 0, 0),
  (54, .iload 5, 2, 0, 0, 0), (56, .bipush 30, 2, 0, 0, 0), (58, .if_icmp .gt 84, 3, 0, 0, 0), (61, .iload 4, 2, 0, 0, 0),
  (63, .iload 5, 2, 0, 0, 0), (65, .invokestatic 363, 3, 9003, 1, 0), (68, .isub, 1, 0, 0, 0), (69, .istore 6, 2, 0, 0, 0),
  (71, .iload 6, 2, 0, 0, 0), (73, .ifCond .lt 63, 3, 0, 0, 0), (76, .iload 6, 2, 0, 0, 0), (78, .bipush 30, 2, 0, 0, 0),
  (80, .if_icmp .gt 56, 3, 0, 0, 0), (83, .aload_n 0, 1, 0, 0, 0), (84, .getfield 85, 3, 11, 14, 4), (87, .iload 5, 2, 0, 0, 0),
  (89, .iload 6, 2, 0, 0, 0), (91, .ineg, 1, 0, 0, 0), (92, .iload_n 2, 1, 0, 0, 0), (93, .invokevirtual 366, 3, 27, 3, 1),
  (96, .ifCond .ne 18, 3, 0, 0, 0), (99, .aload_n 0, 1, 0, 0, 0), (100, .getfield 85, 3, 11, 14, 4), (103, .iload 5, 2, 0, 0, 0),
  (105, .iload 6, 2, 0, 0, 0), (107, .iload_n 2, 1, 0, 0, 0), (108, .invokevirtual 366, 3, 27, 3, 1), (111, .ifCond .eq 25, 3, 0, 0, 0),
  (114, .iload_n 3, 1, 0, 0, 0), (115, .ifCond .ne 13, 3, 0, 0, 0), (118, .aload_n 0, 1, 0, 0, 0), (119, .getfield 85, 3, 11, 14, 4)]
def op_X11_stand_1 : List cv_Q := [
  (122, .getfield 370, 3, 1, 15, 0), (125, .goto 10, 3, 0, 0, 0), (128, .aload_n 0, 1, 0, 0, 0), (129, .getfield 85, 3, 11, 14, 4),
  (132, .getfield 373, 3, 1, 16, 0), (135, .ireturn, 1, 0, 0, 0), (136, .iinc 5 1, 3, 0, 0, 0), (139, .goto (-85), 3, 0, 0, 0),
  (142, .iinc 4 1, 3, 0, 0, 0), (145, .goto (-102), 3, 0, 0, 0), (148, .ldc 234, 2, 0, 0, (-2147483648)), (150, .ireturn, 1, 0, 0, 0)]
def op_X11_stand : List cv_Q := op_X11_stand_0 ++ (op_X11_stand_1)
def op_X11_first_0 : List cv_Q := [
  (0, .aload_n 0, 1, 0, 0, 0), (1, .getfield 18, 3, 11, 2, 4), (4, .getfield 134, 3, 4, 9, 0), (7, .ifCond .eq 29, 3, 0, 0, 0),
  (10, .iload_n 1, 1, 0, 0, 0), (11, .iconst 1, 1, 0, 0, 0), (12, .if_icmp .lt 24, 3, 0, 0, 0), (15, .iload_n 1, 1, 0, 0, 0),
  (16, .bipush 100, 2, 0, 0, 0), (18, .if_icmp .gt 18, 3, 0, 0, 0), (21, .iload_n 2, 1, 0, 0, 0), (22, .ifCond .lt 14, 3, 0, 0, 0),
  (25, .iload_n 2, 1, 0, 0, 0), (26, .aload_n 0, 1, 0, 0, 0), (27, .getfield 18, 3, 11, 2, 4), (30, .getfield 134, 3, 4, 9, 0),
  (33, .if_icmp .le 5, 3, 0, 0, 0), (36, .iconst (-1), 1, 0, 0, 0), (37, .ireturn, 1, 0, 0, 0), (38, .iconst 0, 1, 0, 0, 0),
  (39, .istore_n 3, 1, 0, 0, 0), (40, .iload_n 3, 1, 0, 0, 0), (41, .aload_n 0, 1, 0, 0, 0), (42, .getfield 18, 3, 11, 2, 4),
  (45, .getfield 134, 3, 4, 9, 0), (48, .if_icmp .ge 48, 3, 0, 0, 0), (51, .iconst 0, 1, 0, 0, 0), (52, .istore 4, 2, 0, 0, 0),
  (54, .iload 4, 2, 0, 0, 0), (56, .aload_n 0, 1, 0, 0, 0), (57, .getfield 18, 3, 11, 2, 4), (60, .getfield 134, 3, 4, 9, 0),
  (63, .if_icmp .ge 27, 3, 0, 0, 0), (66, .aload_n 0, 1, 0, 0, 0), (67, .getfield 92, 3, 11, 15, 4), (70, .iload_n 3, 1, 0, 0, 0),
  (71, .iload 4, 2, 0, 0, 0), (73, .aload_n 0, 1, 0, 0, 0), (74, .iload_n 3, 1, 0, 0, 0), (75, .iload 4, 2, 0, 0, 0),
  (77, .iload_n 1, 1, 0, 0, 0), (78, .invokevirtual 376, 3, 148, 3, 11), (81, .invokevirtual 379, 3, 96, 3, 9), (84, .iinc 4 1, 3, 0, 0, 0),
  (87, .goto (-33), 3, 0, 0, 0), (90, .iinc 3 1, 3, 0, 0, 0), (93, .goto (-53), 3, 0, 0, 0), (96, .aload_n 0, 1, 0, 0, 0),
  (97, .getfield 92, 3, 11, 15, 4), (100, .aload_n 0, 1, 0, 0, 0), (101, .getfield 18, 3, 11, 2, 4), (104, .getfield 134, 3, 4, 9, 0),
  (107, .invokevirtual 383, 3, 97, 1, 9), (110, .iload_n 2, 1, 0, 0, 0), (111, .ifCond .ne 13, 3, 0, 0, 0), (114, .aload_n 0, 1, 0, 0, 0),
  (115, .getfield 92, 3, 11, 15, 4), (118, .getfield 386, 3, 9, 3, 0), (121, .goto 13, 3, 0, 0, 0), (124, .aload_n 0, 1, 0, 0, 0)]
def op_X11_first_1 : List cv_Q := [
  (125, .getfield 92, 3, 11, 15, 4), (128, .iload_n 2, 1, 0, 0, 0), (129, .iconst 1, 1, 0, 0, 0), (130, .isub, 1, 0, 0, 0),
  (131, .invokevirtual 389, 3, 99, 1, 9), (134, .ireturn, 1, 0, 0, 0)]
def op_X11_first : List cv_Q := op_X11_first_0 ++ (op_X11_first_1)
def op_X11_unlatchedWeeks : List cv_Q := [
  (0, .aload_n 0, 1, 0, 0, 0), (1, .iload_n 1, 1, 0, 0, 0), (2, .invokevirtual 155, 3, 114, 1, 11), (5, .ifCond .ne 5, 3, 0, 0, 0),
  (8, .iconst 0, 1, 0, 0, 0), (9, .ireturn, 1, 0, 0, 0), (10, .aload_n 0, 1, 0, 0, 0), (11, .getfield 85, 3, 11, 14, 4),
  (14, .aload_n 0, 1, 0, 0, 0), (15, .getfield 50, 3, 11, 7, 4), (18, .iload_n 1, 1, 0, 0, 0), (19, .aaload, 1, 0, 0, 0),
  (20, .invokevirtual 286, 3, 16, 1, 1), (23, .iconst 0, 1, 0, 0, 0), (24, .istore 4, 2, 0, 0, 0), (26, .iconst 0, 1, 0, 0, 0),
  (27, .istore 5, 2, 0, 0, 0), (29, .iload 5, 2, 0, 0, 0), (31, .aload_n 0, 1, 0, 0, 0), (32, .getfield 18, 3, 11, 2, 4),
  (35, .getfield 134, 3, 4, 9, 0), (38, .iload_n 3, 1, 0, 0, 0), (39, .imul, 1, 0, 0, 0), (40, .if_icmp .ge 72, 3, 0, 0, 0),
  (43, .iload 5, 2, 0, 0, 0), (45, .iload_n 2, 1, 0, 0, 0), (46, .iload_n 3, 1, 0, 0, 0), (47, .imul, 1, 0, 0, 0),
  (48, .if_icmp .ne 22, 3, 0, 0, 0), (51, .aload_n 0, 1, 0, 0, 0), (52, .getfield 85, 3, 11, 14, 4), (55, .dup, 1, 0, 0, 0),
  (56, .getfield 247, 3, 1, 4, 0), (59, .aload_n 0, 1, 0, 0, 0), (60, .getfield 85, 3, 11, 14, 4), (63, .invokevirtual 235, 3, 20, 0, 1),
  (66, .iadd, 1, 0, 0, 0), (67, .putfield 247, 3, 1, 4, 0), (70, .aload_n 0, 1, 0, 0, 0), (71, .getfield 37, 3, 11, 5, 4),
  (74, .aload_n 0, 1, 0, 0, 0), (75, .getfield 18, 3, 11, 2, 4), (78, .aload_n 0, 1, 0, 0, 0), (79, .getfield 85, 3, 11, 14, 4),
  (82, .aload_n 0, 1, 0, 0, 0), (83, .getfield 117, 3, 11, 8, 0), (86, .iload 5, 2, 0, 0, 0), (88, .iadd, 1, 0, 0, 0),
  (89, .iconst 1, 1, 0, 0, 0), (90, .invokevirtual 230, 3, 32, 4, 2), (93, .aload_n 0, 1, 0, 0, 0), (94, .getfield 85, 3, 11, 14, 4),
  (97, .invokevirtual 256, 3, 22, 0, 1), (100, .ifCond .ne 6, 3, 0, 0, 0), (103, .iinc 4 1, 3, 0, 0, 0), (106, .iinc 5 1, 3, 0, 0, 0),
  (109, .goto (-80), 3, 0, 0, 0), (112, .iload 4, 2, 0, 0, 0), (114, .ireturn, 1, 0, 0, 0)]
def op_X11_wind_0 : List cv_Q := [
  (0, .iload_n 3, 1, 0, 0, 0), (1, .iconst 1, 1, 0, 0, 0), (2, .if_icmp .lt 13, 3, 0, 0, 0), (5, .iload_n 3, 1, 0, 0, 0),
  (6, .bipush 100, 2, 0, 0, 0), (8, .if_icmp .gt 7, 3, 0, 0, 0), (11, .iconst 1, 1, 0, 0, 0), (12, .goto 4, 3, 0, 0, 0),
  (15, .iconst 0, 1, 0, 0, 0), (16, .istore 6, 2, 0, 0, 0), (18, .iload 4, 2, 0, 0, 0), (20, .iconst 1, 1, 0, 0, 0),
  (21, .if_icmp .lt 14, 3, 0, 0, 0), (24, .iload 4, 2, 0, 0, 0), (26, .bipush 99, 2, 0, 0, 0), (28, .if_icmp .gt 7, 3, 0, 0, 0),
  (31, .iconst 1, 1, 0, 0, 0), (32, .goto 4, 3, 0, 0, 0), (35, .iconst 0, 1, 0, 0, 0), (36, .istore 7, 2, 0, 0, 0),
  (38, .aload_n 0, 1, 0, 0, 0), (39, .iload_n 1, 1, 0, 0, 0), (40, .invokevirtual 155, 3, 114, 1, 11), (43, .ifCond .eq 25, 3, 0, 0, 0),
  (46, .iload_n 2, 1, 0, 0, 0), (47, .ifCond .lt 21, 3, 0, 0, 0), (50, .iload 6, 2, 0, 0, 0), (52, .ifCond .eq 16, 3, 0, 0, 0),
  (55, .iload 7, 2, 0, 0, 0), (57, .ifCond .eq 11, 3, 0, 0, 0), (60, .iload 5, 2, 0, 0, 0), (62, .invokestatic 283, 3, 115, 1, 0),
  (65, .ifCond .ne 5, 3, 0, 0, 0), (68, .iconst (-1), 1, 0, 0, 0), (69, .ireturn, 1, 0, 0, 0), (70, .iload_n 2, 1, 0, 0, 0),
  (71, .i2l, 1, 0, 0, 0), (72, .lstore 8, 2, 0, 0, 0), (74, .iconst 0, 1, 0, 0, 0), (75, .istore 10, 2, 0, 0, 0),
  (77, .iconst 0, 1, 0, 0, 0), (78, .istore 11, 2, 0, 0, 0), (80, .iload 11, 2, 0, 0, 0), (82, .bipush 10, 2, 0, 0, 0),
  (84, .if_icmp .ge 131, 3, 0, 0, 0), (87, .aload_n 0, 1, 0, 0, 0), (88, .getfield 85, 3, 11, 14, 4), (91, .aload_n 0, 1, 0, 0, 0),
  (92, .getfield 50, 3, 11, 7, 4), (95, .iload_n 1, 1, 0, 0, 0), (96, .aaload, 1, 0, 0, 0), (97, .invokevirtual 286, 3, 16, 1, 1),
  (100, .aload_n 0, 1, 0, 0, 0), (101, .getfield 85, 3, 11, 14, 4), (104, .getfield 199, 3, 1, 9, 0), (107, .istore 12, 2, 0, 0, 0),
  (109, .iconst 0, 1, 0, 0, 0), (110, .istore 13, 2, 0, 0, 0), (112, .iload 13, 2, 0, 0, 0), (114, .iload_n 3, 1, 0, 0, 0)]
def op_X11_wind_1 : List cv_Q := [
  (115, .if_icmp .ge 79, 3, 0, 0, 0), (118, .lload 8, 2, 0, 0, 0), (120, .ldc2_w 392, 3, 0, 0, 1103515245), (123, .lmul, 1, 0, 0, 0),
  (124, .ldc2_w 394, 3, 0, 0, 12345), (127, .ladd, 1, 0, 0, 0), (128, .ldc2_w 396, 3, 0, 0, 2147483647), (131, .land, 1, 0, 0, 0),
  (132, .lstore 8, 2, 0, 0, 0), (134, .aload_n 0, 1, 0, 0, 0), (135, .getfield 85, 3, 11, 14, 4), (138, .lload 8, 2, 0, 0, 0),
  (140, .bipush 16, 2, 0, 0, 0), (142, .lshr, 1, 0, 0, 0), (143, .iload 4, 2, 0, 0, 0), (145, .i2l, 1, 0, 0, 0),
  (146, .lrem, 1, 0, 0, 0), (147, .lconst 0, 1, 0, 0, 0), (148, .lcmp, 1, 0, 0, 0), (149, .ifCond .ne 11, 3, 0, 0, 0),
  (152, .iload 12, 2, 0, 0, 0), (154, .bipush 100, 2, 0, 0, 0), (156, .iadd, 1, 0, 0, 0), (157, .goto 5, 3, 0, 0, 0),
  (160, .iload 12, 2, 0, 0, 0), (162, .putfield 199, 3, 1, 9, 0), (165, .aload_n 0, 1, 0, 0, 0), (166, .getfield 37, 3, 11, 5, 4),
  (169, .aload_n 0, 1, 0, 0, 0), (170, .getfield 18, 3, 11, 2, 4), (173, .aload_n 0, 1, 0, 0, 0), (174, .getfield 85, 3, 11, 14, 4),
  (177, .aload_n 0, 1, 0, 0, 0), (178, .getfield 117, 3, 11, 8, 0), (181, .iload 13, 2, 0, 0, 0), (183, .iadd, 1, 0, 0, 0),
  (184, .iconst 1, 1, 0, 0, 0), (185, .invokevirtual 230, 3, 32, 4, 2), (188, .iinc 13 1, 3, 0, 0, 0), (191, .goto (-79), 3, 0, 0, 0),
  (194, .aload_n 0, 1, 0, 0, 0), (195, .getfield 85, 3, 11, 14, 4), (198, .invokevirtual 235, 3, 20, 0, 1), (201, .iload 5, 2, 0, 0, 0),
  (203, .if_icmp .le 6, 3, 0, 0, 0), (206, .iinc 10 1, 3, 0, 0, 0), (209, .iinc 11 1, 3, 0, 0, 0), (212, .goto (-132), 3, 0, 0, 0),
  (215, .iload 10, 2, 0, 0, 0), (217, .ireturn, 1, 0, 0, 0)]
def op_X11_wind : List cv_Q := op_X11_wind_0 ++ (op_X11_wind_1)
def op_X11_keep : List cv_Q := [
  (0, .iconst 0, 1, 0, 0, 0), (1, .istore_n 1, 1, 0, 0, 0), (2, .iload_n 1, 1, 0, 0, 0), (3, .iconst 4, 1, 0, 0, 0),
  (4, .if_icmp .ge 24, 3, 0, 0, 0), (7, .aload_n 0, 1, 0, 0, 0), (8, .getfield 54, 3, 11, 9, 4), (11, .iload_n 1, 1, 0, 0, 0),
  (12, .aaload, 1, 0, 0, 0), (13, .aload_n 0, 1, 0, 0, 0), (14, .getfield 50, 3, 11, 7, 4), (17, .iload_n 1, 1, 0, 0, 0),
  (18, .aaload, 1, 0, 0, 0), (19, .invokevirtual 286, 3, 16, 1, 1), (22, .iinc 1 1, 3, 0, 0, 0), (25, .goto (-23), 3, 0, 0, 0),
  (28, .aload_n 0, 1, 0, 0, 0), (29, .aload_n 0, 1, 0, 0, 0), (30, .getfield 117, 3, 11, 8, 0), (33, .putfield 57, 3, 11, 10, 0),
  (36, .aload_n 0, 1, 0, 0, 0), (37, .getfield 117, 3, 11, 8, 0), (40, .ireturn, 1, 0, 0, 0)]
def op_X11_back : List cv_Q := [
  (0, .aload_n 0, 1, 0, 0, 0), (1, .getfield 57, 3, 11, 10, 0), (4, .iconst (-1), 1, 0, 0, 0), (5, .if_icmp .ne 5, 3, 0, 0, 0),
  (8, .iconst (-1), 1, 0, 0, 0), (9, .ireturn, 1, 0, 0, 0), (10, .iconst 0, 1, 0, 0, 0), (11, .istore_n 1, 1, 0, 0, 0),
  (12, .iload_n 1, 1, 0, 0, 0), (13, .iconst 4, 1, 0, 0, 0), (14, .if_icmp .ge 24, 3, 0, 0, 0), (17, .aload_n 0, 1, 0, 0, 0),
  (18, .getfield 50, 3, 11, 7, 4), (21, .iload_n 1, 1, 0, 0, 0), (22, .aaload, 1, 0, 0, 0), (23, .aload_n 0, 1, 0, 0, 0),
  (24, .getfield 54, 3, 11, 9, 4), (27, .iload_n 1, 1, 0, 0, 0), (28, .aaload, 1, 0, 0, 0), (29, .invokevirtual 286, 3, 16, 1, 1),
  (32, .iinc 1 1, 3, 0, 0, 0), (35, .goto (-23), 3, 0, 0, 0), (38, .aload_n 0, 1, 0, 0, 0), (39, .aload_n 0, 1, 0, 0, 0),
  (40, .getfield 57, 3, 11, 10, 0), (43, .putfield 117, 3, 11, 8, 0), (46, .aload_n 0, 1, 0, 0, 0), (47, .getfield 66, 3, 11, 11, 4),
  (50, .invokevirtual 120, 3, 101, 0, 10), (53, .aload_n 0, 1, 0, 0, 0), (54, .getfield 117, 3, 11, 8, 0), (57, .ireturn, 1, 0, 0, 0)]
def op_X11_count : List cv_Q := [
  (0, .iload_n 1, 1, 0, 0, 0), (1, .tableswitch 117 0 8 #[51, 59, 67, 75, 83, 88, 96, 104, 112], 51, 0, 0, 0), (52, .aload_n 0, 1, 0, 0, 0), (53, .getfield 18, 3, 11, 2, 4),
  (56, .getfield 134, 3, 4, 9, 0), (59, .ireturn, 1, 0, 0, 0), (60, .aload_n 0, 1, 0, 0, 0), (61, .getfield 18, 3, 11, 2, 4),
  (64, .getfield 144, 3, 4, 14, 0), (67, .ireturn, 1, 0, 0, 0), (68, .aload_n 0, 1, 0, 0, 0), (69, .getfield 18, 3, 11, 2, 4),
  (72, .getfield 150, 3, 4, 19, 0), (75, .ireturn, 1, 0, 0, 0), (76, .aload_n 0, 1, 0, 0, 0), (77, .getfield 18, 3, 11, 2, 4),
  (80, .getfield 398, 3, 4, 3, 0), (83, .ireturn, 1, 0, 0, 0), (84, .aload_n 0, 1, 0, 0, 0), (85, .getfield 117, 3, 11, 8, 0),
  (88, .ireturn, 1, 0, 0, 0), (89, .aload_n 0, 1, 0, 0, 0), (90, .getfield 73, 3, 11, 12, 4), (93, .getfield 327, 3, 3, 9, 0),
  (96, .ireturn, 1, 0, 0, 0), (97, .aload_n 0, 1, 0, 0, 0), (98, .getfield 73, 3, 11, 12, 4), (101, .invokevirtual 401, 3, 42, 0, 3),
  (104, .ireturn, 1, 0, 0, 0), (105, .aload_n 0, 1, 0, 0, 0), (106, .getfield 66, 3, 11, 11, 4), (109, .getfield 273, 3, 10, 2, 0),
  (112, .ireturn, 1, 0, 0, 0), (113, .aload_n 0, 1, 0, 0, 0), (114, .invokevirtual 404, 3, 153, 0, 11), (117, .ireturn, 1, 0, 0, 0),
  (118, .iconst (-1), 1, 0, 0, 0), (119, .ireturn, 1, 0, 0, 0)]
def op_X11_costOfAllDone : List cv_Q := [
  (0, .iconst 0, 1, 0, 0, 0), (1, .istore_n 1, 1, 0, 0, 0), (2, .iconst 0, 1, 0, 0, 0), (3, .istore_n 2, 1, 0, 0, 0),
  (4, .iload_n 2, 1, 0, 0, 0), (5, .aload_n 0, 1, 0, 0, 0), (6, .getfield 18, 3, 11, 2, 4), (9, .getfield 134, 3, 4, 9, 0),
  (12, .if_icmp .ge 37, 3, 0, 0, 0), (15, .iload_n 2, 1, 0, 0, 0), (16, .aload_n 0, 1, 0, 0, 0), (17, .getfield 50, 3, 11, 7, 4),
  (20, .arraylength, 1, 0, 0, 0), (21, .if_icmp .ge 28, 3, 0, 0, 0), (24, .iload_n 1, 1, 0, 0, 0), (25, .aload_n 0, 1, 0, 0, 0),
  (26, .getfield 18, 3, 11, 2, 4), (29, .aload_n 0, 1, 0, 0, 0), (30, .getfield 50, 3, 11, 7, 4), (33, .iload_n 2, 1, 0, 0, 0),
  (34, .aaload, 1, 0, 0, 0), (35, .getfield 202, 3, 1, 10, 0), (38, .invokevirtual 289, 3, 55, 1, 4), (41, .iadd, 1, 0, 0, 0),
  (42, .istore_n 1, 1, 0, 0, 0), (43, .iinc 2 1, 3, 0, 0, 0), (46, .goto (-42), 3, 0, 0, 0), (49, .iload_n 1, 1, 0, 0, 0),
  (50, .ireturn, 1, 0, 0, 0)]
def op_X12_init_0 : List cv_Q := [
  (0, .aload_n 0, 1, 0, 0, 0), (1, .invokespecial 1, 3, 9999, 0, 0), (4, .aload_n 0, 1, 0, 0, 0), (5, .sipush 900, 3, 0, 0, 0),
  (8, .newarray .int, 2, 0, 0, 0), (10, .putfield 7, 3, 12, 0, 4), (13, .aload_n 0, 1, 0, 0, 0), (14, .sipush 177, 3, 0, 0, 0),
  (17, .newarray .int, 2, 0, 0, 0), (19, .dup, 1, 0, 0, 0), (20, .iconst 0, 1, 0, 0, 0), (21, .bipush 103, 2, 0, 0, 0),
  (23, .iastore, 1, 0, 0, 0), (24, .dup, 1, 0, 0, 0), (25, .iconst 1, 1, 0, 0, 0), (26, .bipush 114, 2, 0, 0, 0),
  (28, .iastore, 1, 0, 0, 0), (29, .dup, 1, 0, 0, 0), (30, .iconst 2, 1, 0, 0, 0), (31, .bipush 111, 2, 0, 0, 0),
  (33, .iastore, 1, 0, 0, 0), (34, .dup, 1, 0, 0, 0), (35, .iconst 3, 1, 0, 0, 0), (36, .bipush 117, 2, 0, 0, 0),
  (38, .iastore, 1, 0, 0, 0), (39, .dup, 1, 0, 0, 0), (40, .iconst 4, 1, 0, 0, 0), (41, .bipush 110, 2, 0, 0, 0),
  (43, .iastore, 1, 0, 0, 0), (44, .dup, 1, 0, 0, 0), (45, .iconst 5, 1, 0, 0, 0), (46, .bipush 100, 2, 0, 0, 0),
  (48, .iastore, 1, 0, 0, 0), (49, .dup, 1, 0, 0, 0), (50, .bipush 6, 2, 0, 0, 0), (52, .bipush 32, 2, 0, 0, 0),
  (54, .iastore, 1, 0, 0, 0), (55, .dup, 1, 0, 0, 0), (56, .bipush 7, 2, 0, 0, 0), (58, .bipush 108, 2, 0, 0, 0),
  (60, .iastore, 1, 0, 0, 0), (61, .dup, 1, 0, 0, 0), (62, .bipush 8, 2, 0, 0, 0), (64, .bipush 97, 2, 0, 0, 0),
  (66, .iastore, 1, 0, 0, 0), (67, .dup, 1, 0, 0, 0), (68, .bipush 9, 2, 0, 0, 0), (70, .bipush 119, 2, 0, 0, 0),
  (72, .iastore, 1, 0, 0, 0), (73, .dup, 1, 0, 0, 0), (74, .bipush 10, 2, 0, 0, 0), (76, .bipush 32, 2, 0, 0, 0),
  (78, .iastore, 1, 0, 0, 0), (79, .dup, 1, 0, 0, 0), (80, .bipush 11, 2, 0, 0, 0), (82, .bipush 103, 2, 0, 0, 0),
  (84, .iastore, 1, 0, 0, 0), (85, .dup, 1, 0, 0, 0), (86, .bipush 12, 2, 0, 0, 0), (88, .bipush 97, 2, 0, 0, 0)]
def op_X12_init_1 : List cv_Q := [
  (90, .iastore, 1, 0, 0, 0), (91, .dup, 1, 0, 0, 0), (92, .bipush 13, 2, 0, 0, 0), (94, .bipush 116, 2, 0, 0, 0),
  (96, .iastore, 1, 0, 0, 0), (97, .dup, 1, 0, 0, 0), (98, .bipush 14, 2, 0, 0, 0), (100, .bipush 101, 2, 0, 0, 0),
  (102, .iastore, 1, 0, 0, 0), (103, .dup, 1, 0, 0, 0), (104, .bipush 15, 2, 0, 0, 0), (106, .bipush 32, 2, 0, 0, 0),
  (108, .iastore, 1, 0, 0, 0), (109, .dup, 1, 0, 0, 0), (110, .bipush 16, 2, 0, 0, 0), (112, .bipush 119, 2, 0, 0, 0),
  (114, .iastore, 1, 0, 0, 0), (115, .dup, 1, 0, 0, 0), (116, .bipush 17, 2, 0, 0, 0), (118, .bipush 111, 2, 0, 0, 0),
  (120, .iastore, 1, 0, 0, 0), (121, .dup, 1, 0, 0, 0), (122, .bipush 18, 2, 0, 0, 0), (124, .bipush 114, 2, 0, 0, 0),
  (126, .iastore, 1, 0, 0, 0), (127, .dup, 1, 0, 0, 0), (128, .bipush 19, 2, 0, 0, 0), (130, .bipush 107, 2, 0, 0, 0),
  (132, .iastore, 1, 0, 0, 0), (133, .dup, 1, 0, 0, 0), (134, .bipush 20, 2, 0, 0, 0), (136, .bipush 32, 2, 0, 0, 0),
  (138, .iastore, 1, 0, 0, 0), (139, .dup, 1, 0, 0, 0), (140, .bipush 21, 2, 0, 0, 0), (142, .bipush 99, 2, 0, 0, 0),
  (144, .iastore, 1, 0, 0, 0), (145, .dup, 1, 0, 0, 0), (146, .bipush 22, 2, 0, 0, 0), (148, .bipush 97, 2, 0, 0, 0),
  (150, .iastore, 1, 0, 0, 0), (151, .dup, 1, 0, 0, 0), (152, .bipush 23, 2, 0, 0, 0), (154, .bipush 117, 2, 0, 0, 0),
  (156, .iastore, 1, 0, 0, 0), (157, .dup, 1, 0, 0, 0), (158, .bipush 24, 2, 0, 0, 0), (160, .bipush 115, 2, 0, 0, 0),
  (162, .iastore, 1, 0, 0, 0), (163, .dup, 1, 0, 0, 0), (164, .bipush 25, 2, 0, 0, 0), (166, .bipush 101, 2, 0, 0, 0),
  (168, .iastore, 1, 0, 0, 0), (169, .dup, 1, 0, 0, 0), (170, .bipush 26, 2, 0, 0, 0), (172, .bipush 32, 2, 0, 0, 0),
  (174, .iastore, 1, 0, 0, 0), (175, .dup, 1, 0, 0, 0), (176, .bipush 27, 2, 0, 0, 0), (178, .bipush 108, 2, 0, 0, 0)]
def op_X12_init_2 : List cv_Q := [
  (180, .iastore, 1, 0, 0, 0), (181, .dup, 1, 0, 0, 0), (182, .bipush 28, 2, 0, 0, 0), (184, .bipush 101, 2, 0, 0, 0),
  (186, .iastore, 1, 0, 0, 0), (187, .dup, 1, 0, 0, 0), (188, .bipush 29, 2, 0, 0, 0), (190, .bipush 97, 2, 0, 0, 0),
  (192, .iastore, 1, 0, 0, 0), (193, .dup, 1, 0, 0, 0), (194, .bipush 30, 2, 0, 0, 0), (196, .bipush 110, 2, 0, 0, 0),
  (198, .iastore, 1, 0, 0, 0), (199, .dup, 1, 0, 0, 0), (200, .bipush 31, 2, 0, 0, 0), (202, .bipush 32, 2, 0, 0, 0),
  (204, .iastore, 1, 0, 0, 0), (205, .dup, 1, 0, 0, 0), (206, .bipush 32, 2, 0, 0, 0), (208, .bipush 111, 2, 0, 0, 0),
  (210, .iastore, 1, 0, 0, 0), (211, .dup, 1, 0, 0, 0), (212, .bipush 33, 2, 0, 0, 0), (214, .bipush 112, 2, 0, 0, 0),
  (216, .iastore, 1, 0, 0, 0), (217, .dup, 1, 0, 0, 0), (218, .bipush 34, 2, 0, 0, 0), (220, .bipush 101, 2, 0, 0, 0),
  (222, .iastore, 1, 0, 0, 0), (223, .dup, 1, 0, 0, 0), (224, .bipush 35, 2, 0, 0, 0), (226, .bipush 110, 2, 0, 0, 0),
  (228, .iastore, 1, 0, 0, 0), (229, .dup, 1, 0, 0, 0), (230, .bipush 36, 2, 0, 0, 0), (232, .bipush 32, 2, 0, 0, 0),
  (234, .iastore, 1, 0, 0, 0), (235, .dup, 1, 0, 0, 0), (236, .bipush 37, 2, 0, 0, 0), (238, .bipush 98, 2, 0, 0, 0),
  (240, .iastore, 1, 0, 0, 0), (241, .dup, 1, 0, 0, 0), (242, .bipush 38, 2, 0, 0, 0), (244, .bipush 101, 2, 0, 0, 0),
  (246, .iastore, 1, 0, 0, 0), (247, .dup, 1, 0, 0, 0), (248, .bipush 39, 2, 0, 0, 0), (250, .bipush 110, 2, 0, 0, 0),
  (252, .iastore, 1, 0, 0, 0), (253, .dup, 1, 0, 0, 0), (254, .bipush 40, 2, 0, 0, 0), (256, .bipush 100, 2, 0, 0, 0),
  (258, .iastore, 1, 0, 0, 0), (259, .dup, 1, 0, 0, 0), (260, .bipush 41, 2, 0, 0, 0), (262, .bipush 32, 2, 0, 0, 0),
  (264, .iastore, 1, 0, 0, 0), (265, .dup, 1, 0, 0, 0), (266, .bipush 42, 2, 0, 0, 0), (268, .bipush 107, 2, 0, 0, 0)]
def op_X12_init_3 : List cv_Q := [
  (270, .iastore, 1, 0, 0, 0), (271, .dup, 1, 0, 0, 0), (272, .bipush 43, 2, 0, 0, 0), (274, .bipush 110, 2, 0, 0, 0),
  (276, .iastore, 1, 0, 0, 0), (277, .dup, 1, 0, 0, 0), (278, .bipush 44, 2, 0, 0, 0), (280, .bipush 111, 2, 0, 0, 0),
  (282, .iastore, 1, 0, 0, 0), (283, .dup, 1, 0, 0, 0), (284, .bipush 45, 2, 0, 0, 0), (286, .bipush 99, 2, 0, 0, 0),
  (288, .iastore, 1, 0, 0, 0), (289, .dup, 1, 0, 0, 0), (290, .bipush 46, 2, 0, 0, 0), (292, .bipush 107, 2, 0, 0, 0),
  (294, .iastore, 1, 0, 0, 0), (295, .dup, 1, 0, 0, 0), (296, .bipush 47, 2, 0, 0, 0), (298, .bipush 32, 2, 0, 0, 0),
  (300, .iastore, 1, 0, 0, 0), (301, .dup, 1, 0, 0, 0), (302, .bipush 48, 2, 0, 0, 0), (304, .bipush 104, 2, 0, 0, 0),
  (306, .iastore, 1, 0, 0, 0), (307, .dup, 1, 0, 0, 0), (308, .bipush 49, 2, 0, 0, 0), (310, .bipush 111, 2, 0, 0, 0),
  (312, .iastore, 1, 0, 0, 0), (313, .dup, 1, 0, 0, 0), (314, .bipush 50, 2, 0, 0, 0), (316, .bipush 111, 2, 0, 0, 0),
  (318, .iastore, 1, 0, 0, 0), (319, .dup, 1, 0, 0, 0), (320, .bipush 51, 2, 0, 0, 0), (322, .bipush 107, 2, 0, 0, 0),
  (324, .iastore, 1, 0, 0, 0), (325, .dup, 1, 0, 0, 0), (326, .bipush 52, 2, 0, 0, 0), (328, .bipush 115, 2, 0, 0, 0),
  (330, .iastore, 1, 0, 0, 0), (331, .dup, 1, 0, 0, 0), (332, .bipush 53, 2, 0, 0, 0), (334, .bipush 32, 2, 0, 0, 0),
  (336, .iastore, 1, 0, 0, 0), (337, .dup, 1, 0, 0, 0), (338, .bipush 54, 2, 0, 0, 0), (340, .bipush 112, 2, 0, 0, 0),
  (342, .iastore, 1, 0, 0, 0), (343, .dup, 1, 0, 0, 0), (344, .bipush 55, 2, 0, 0, 0), (346, .bipush 111, 2, 0, 0, 0),
  (348, .iastore, 1, 0, 0, 0), (349, .dup, 1, 0, 0, 0), (350, .bipush 56, 2, 0, 0, 0), (352, .bipush 115, 2, 0, 0, 0),
  (354, .iastore, 1, 0, 0, 0), (355, .dup, 1, 0, 0, 0), (356, .bipush 57, 2, 0, 0, 0), (358, .bipush 116, 2, 0, 0, 0)]
def op_X12_init_4 : List cv_Q := [
  (360, .iastore, 1, 0, 0, 0), (361, .dup, 1, 0, 0, 0), (362, .bipush 58, 2, 0, 0, 0), (364, .bipush 32, 2, 0, 0, 0),
  (366, .iastore, 1, 0, 0, 0), (367, .dup, 1, 0, 0, 0), (368, .bipush 59, 2, 0, 0, 0), (370, .bipush 98, 2, 0, 0, 0),
  (372, .iastore, 1, 0, 0, 0), (373, .dup, 1, 0, 0, 0), (374, .bipush 60, 2, 0, 0, 0), (376, .bipush 114, 2, 0, 0, 0),
  (378, .iastore, 1, 0, 0, 0), (379, .dup, 1, 0, 0, 0), (380, .bipush 61, 2, 0, 0, 0), (382, .bipush 97, 2, 0, 0, 0),
  (384, .iastore, 1, 0, 0, 0), (385, .dup, 1, 0, 0, 0), (386, .bipush 62, 2, 0, 0, 0), (388, .bipush 99, 2, 0, 0, 0),
  (390, .iastore, 1, 0, 0, 0), (391, .dup, 1, 0, 0, 0), (392, .bipush 63, 2, 0, 0, 0), (394, .bipush 101, 2, 0, 0, 0),
  (396, .iastore, 1, 0, 0, 0), (397, .dup, 1, 0, 0, 0), (398, .bipush 64, 2, 0, 0, 0), (400, .bipush 32, 2, 0, 0, 0),
  (402, .iastore, 1, 0, 0, 0), (403, .dup, 1, 0, 0, 0), (404, .bipush 65, 2, 0, 0, 0), (406, .bipush 108, 2, 0, 0, 0),
  (408, .iastore, 1, 0, 0, 0), (409, .dup, 1, 0, 0, 0), (410, .bipush 66, 2, 0, 0, 0), (412, .bipush 97, 2, 0, 0, 0),
  (414, .iastore, 1, 0, 0, 0), (415, .dup, 1, 0, 0, 0), (416, .bipush 67, 2, 0, 0, 0), (418, .bipush 116, 2, 0, 0, 0),
  (420, .iastore, 1, 0, 0, 0), (421, .dup, 1, 0, 0, 0), (422, .bipush 68, 2, 0, 0, 0), (424, .bipush 99, 2, 0, 0, 0),
  (426, .iastore, 1, 0, 0, 0), (427, .dup, 1, 0, 0, 0), (428, .bipush 69, 2, 0, 0, 0), (430, .bipush 104, 2, 0, 0, 0),
  (432, .iastore, 1, 0, 0, 0), (433, .dup, 1, 0, 0, 0), (434, .bipush 70, 2, 0, 0, 0), (436, .bipush 32, 2, 0, 0, 0),
  (438, .iastore, 1, 0, 0, 0), (439, .dup, 1, 0, 0, 0), (440, .bipush 71, 2, 0, 0, 0), (442, .bipush 103, 2, 0, 0, 0),
  (444, .iastore, 1, 0, 0, 0), (445, .dup, 1, 0, 0, 0), (446, .bipush 72, 2, 0, 0, 0), (448, .bipush 97, 2, 0, 0, 0)]
def op_X12_init_5 : List cv_Q := [
  (450, .iastore, 1, 0, 0, 0), (451, .dup, 1, 0, 0, 0), (452, .bipush 73, 2, 0, 0, 0), (454, .bipush 112, 2, 0, 0, 0),
  (456, .iastore, 1, 0, 0, 0), (457, .dup, 1, 0, 0, 0), (458, .bipush 74, 2, 0, 0, 0), (460, .bipush 32, 2, 0, 0, 0),
  (462, .iastore, 1, 0, 0, 0), (463, .dup, 1, 0, 0, 0), (464, .bipush 75, 2, 0, 0, 0), (466, .bipush 114, 2, 0, 0, 0),
  (468, .iastore, 1, 0, 0, 0), (469, .dup, 1, 0, 0, 0), (470, .bipush 76, 2, 0, 0, 0), (472, .bipush 105, 2, 0, 0, 0),
  (474, .iastore, 1, 0, 0, 0), (475, .dup, 1, 0, 0, 0), (476, .bipush 77, 2, 0, 0, 0), (478, .bipush 115, 2, 0, 0, 0),
  (480, .iastore, 1, 0, 0, 0), (481, .dup, 1, 0, 0, 0), (482, .bipush 78, 2, 0, 0, 0), (484, .bipush 101, 2, 0, 0, 0),
  (486, .iastore, 1, 0, 0, 0), (487, .dup, 1, 0, 0, 0), (488, .bipush 79, 2, 0, 0, 0), (490, .bipush 32, 2, 0, 0, 0),
  (492, .iastore, 1, 0, 0, 0), (493, .dup, 1, 0, 0, 0), (494, .bipush 80, 2, 0, 0, 0), (496, .bipush 104, 2, 0, 0, 0),
  (498, .iastore, 1, 0, 0, 0), (499, .dup, 1, 0, 0, 0), (500, .bipush 81, 2, 0, 0, 0), (502, .bipush 97, 2, 0, 0, 0),
  (504, .iastore, 1, 0, 0, 0), (505, .dup, 1, 0, 0, 0), (506, .bipush 82, 2, 0, 0, 0), (508, .bipush 115, 2, 0, 0, 0),
  (510, .iastore, 1, 0, 0, 0), (511, .dup, 1, 0, 0, 0), (512, .bipush 83, 2, 0, 0, 0), (514, .bipush 32, 2, 0, 0, 0),
  (516, .iastore, 1, 0, 0, 0), (517, .dup, 1, 0, 0, 0), (518, .bipush 84, 2, 0, 0, 0), (520, .bipush 115, 2, 0, 0, 0),
  (522, .iastore, 1, 0, 0, 0), (523, .dup, 1, 0, 0, 0), (524, .bipush 85, 2, 0, 0, 0), (526, .bipush 113, 2, 0, 0, 0),
  (528, .iastore, 1, 0, 0, 0), (529, .dup, 1, 0, 0, 0), (530, .bipush 86, 2, 0, 0, 0), (532, .bipush 117, 2, 0, 0, 0),
  (534, .iastore, 1, 0, 0, 0), (535, .dup, 1, 0, 0, 0), (536, .bipush 87, 2, 0, 0, 0), (538, .bipush 97, 2, 0, 0, 0)]
def op_X12_init_6 : List cv_Q := [
  (540, .iastore, 1, 0, 0, 0), (541, .dup, 1, 0, 0, 0), (542, .bipush 88, 2, 0, 0, 0), (544, .bipush 114, 2, 0, 0, 0),
  (546, .iastore, 1, 0, 0, 0), (547, .dup, 1, 0, 0, 0), (548, .bipush 89, 2, 0, 0, 0), (550, .bipush 101, 2, 0, 0, 0),
  (552, .iastore, 1, 0, 0, 0), (553, .dup, 1, 0, 0, 0), (554, .bipush 90, 2, 0, 0, 0), (556, .bipush 32, 2, 0, 0, 0),
  (558, .iastore, 1, 0, 0, 0), (559, .dup, 1, 0, 0, 0), (560, .bipush 91, 2, 0, 0, 0), (562, .bipush 119, 2, 0, 0, 0),
  (564, .iastore, 1, 0, 0, 0), (565, .dup, 1, 0, 0, 0), (566, .bipush 92, 2, 0, 0, 0), (568, .bipush 105, 2, 0, 0, 0),
  (570, .iastore, 1, 0, 0, 0), (571, .dup, 1, 0, 0, 0), (572, .bipush 93, 2, 0, 0, 0), (574, .bipush 114, 2, 0, 0, 0),
  (576, .iastore, 1, 0, 0, 0), (577, .dup, 1, 0, 0, 0), (578, .bipush 94, 2, 0, 0, 0), (580, .bipush 101, 2, 0, 0, 0),
  (582, .iastore, 1, 0, 0, 0), (583, .dup, 1, 0, 0, 0), (584, .bipush 95, 2, 0, 0, 0), (586, .bipush 32, 2, 0, 0, 0),
  (588, .iastore, 1, 0, 0, 0), (589, .dup, 1, 0, 0, 0), (590, .bipush 96, 2, 0, 0, 0), (592, .bipush 119, 2, 0, 0, 0),
  (594, .iastore, 1, 0, 0, 0), (595, .dup, 1, 0, 0, 0), (596, .bipush 97, 2, 0, 0, 0), (598, .bipush 104, 2, 0, 0, 0),
  (600, .iastore, 1, 0, 0, 0), (601, .dup, 1, 0, 0, 0), (602, .bipush 98, 2, 0, 0, 0), (604, .bipush 101, 2, 0, 0, 0),
  (606, .iastore, 1, 0, 0, 0), (607, .dup, 1, 0, 0, 0), (608, .bipush 99, 2, 0, 0, 0), (610, .bipush 101, 2, 0, 0, 0),
  (612, .iastore, 1, 0, 0, 0), (613, .dup, 1, 0, 0, 0), (614, .bipush 100, 2, 0, 0, 0), (616, .bipush 108, 2, 0, 0, 0),
  (618, .iastore, 1, 0, 0, 0), (619, .dup, 1, 0, 0, 0), (620, .bipush 101, 2, 0, 0, 0), (622, .bipush 32, 2, 0, 0, 0),
  (624, .iastore, 1, 0, 0, 0), (625, .dup, 1, 0, 0, 0), (626, .bipush 102, 2, 0, 0, 0), (628, .bipush 115, 2, 0, 0, 0)]
def op_X12_init_7 : List cv_Q := [
  (630, .iastore, 1, 0, 0, 0), (631, .dup, 1, 0, 0, 0), (632, .bipush 103, 2, 0, 0, 0), (634, .bipush 116, 2, 0, 0, 0),
  (636, .iastore, 1, 0, 0, 0), (637, .dup, 1, 0, 0, 0), (638, .bipush 104, 2, 0, 0, 0), (640, .bipush 111, 2, 0, 0, 0),
  (642, .iastore, 1, 0, 0, 0), (643, .dup, 1, 0, 0, 0), (644, .bipush 105, 2, 0, 0, 0), (646, .bipush 110, 2, 0, 0, 0),
  (648, .iastore, 1, 0, 0, 0), (649, .dup, 1, 0, 0, 0), (650, .bipush 106, 2, 0, 0, 0), (652, .bipush 101, 2, 0, 0, 0),
  (654, .iastore, 1, 0, 0, 0), (655, .dup, 1, 0, 0, 0), (656, .bipush 107, 2, 0, 0, 0), (658, .bipush 115, 2, 0, 0, 0),
  (660, .iastore, 1, 0, 0, 0), (661, .dup, 1, 0, 0, 0), (662, .bipush 108, 2, 0, 0, 0), (664, .bipush 32, 2, 0, 0, 0),
  (666, .iastore, 1, 0, 0, 0), (667, .dup, 1, 0, 0, 0), (668, .bipush 109, 2, 0, 0, 0), (670, .bipush 114, 2, 0, 0, 0),
  (672, .iastore, 1, 0, 0, 0), (673, .dup, 1, 0, 0, 0), (674, .bipush 110, 2, 0, 0, 0), (676, .bipush 101, 2, 0, 0, 0),
  (678, .iastore, 1, 0, 0, 0), (679, .dup, 1, 0, 0, 0), (680, .bipush 111, 2, 0, 0, 0), (682, .bipush 104, 2, 0, 0, 0),
  (684, .iastore, 1, 0, 0, 0), (685, .dup, 1, 0, 0, 0), (686, .bipush 112, 2, 0, 0, 0), (688, .bipush 97, 2, 0, 0, 0),
  (690, .iastore, 1, 0, 0, 0), (691, .dup, 1, 0, 0, 0), (692, .bipush 113, 2, 0, 0, 0), (694, .bipush 110, 2, 0, 0, 0),
  (696, .iastore, 1, 0, 0, 0), (697, .dup, 1, 0, 0, 0), (698, .bipush 114, 2, 0, 0, 0), (700, .bipush 103, 2, 0, 0, 0),
  (702, .iastore, 1, 0, 0, 0), (703, .dup, 1, 0, 0, 0), (704, .bipush 115, 2, 0, 0, 0), (706, .bipush 32, 2, 0, 0, 0),
  (708, .iastore, 1, 0, 0, 0), (709, .dup, 1, 0, 0, 0), (710, .bipush 116, 2, 0, 0, 0), (712, .bipush 97, 2, 0, 0, 0),
  (714, .iastore, 1, 0, 0, 0), (715, .dup, 1, 0, 0, 0), (716, .bipush 117, 2, 0, 0, 0), (718, .bipush 110, 2, 0, 0, 0)]
def op_X12_init_8 : List cv_Q := [
  (720, .iastore, 1, 0, 0, 0), (721, .dup, 1, 0, 0, 0), (722, .bipush 118, 2, 0, 0, 0), (724, .bipush 100, 2, 0, 0, 0),
  (726, .iastore, 1, 0, 0, 0), (727, .dup, 1, 0, 0, 0), (728, .bipush 119, 2, 0, 0, 0), (730, .bipush 32, 2, 0, 0, 0),
  (732, .iastore, 1, 0, 0, 0), (733, .dup, 1, 0, 0, 0), (734, .bipush 120, 2, 0, 0, 0), (736, .bipush 111, 2, 0, 0, 0),
  (738, .iastore, 1, 0, 0, 0), (739, .dup, 1, 0, 0, 0), (740, .bipush 121, 2, 0, 0, 0), (742, .bipush 114, 2, 0, 0, 0),
  (744, .iastore, 1, 0, 0, 0), (745, .dup, 1, 0, 0, 0), (746, .bipush 122, 2, 0, 0, 0), (748, .bipush 32, 2, 0, 0, 0),
  (750, .iastore, 1, 0, 0, 0), (751, .dup, 1, 0, 0, 0), (752, .bipush 123, 2, 0, 0, 0), (754, .bipush 110, 2, 0, 0, 0),
  (756, .iastore, 1, 0, 0, 0), (757, .dup, 1, 0, 0, 0), (758, .bipush 124, 2, 0, 0, 0), (760, .bipush 111, 2, 0, 0, 0),
  (762, .iastore, 1, 0, 0, 0), (763, .dup, 1, 0, 0, 0), (764, .bipush 125, 2, 0, 0, 0), (766, .bipush 116, 2, 0, 0, 0),
  (768, .iastore, 1, 0, 0, 0), (769, .dup, 1, 0, 0, 0), (770, .bipush 126, 2, 0, 0, 0), (772, .bipush 32, 2, 0, 0, 0),
  (774, .iastore, 1, 0, 0, 0), (775, .dup, 1, 0, 0, 0), (776, .bipush 127, 2, 0, 0, 0), (778, .bipush 112, 2, 0, 0, 0),
  (780, .iastore, 1, 0, 0, 0), (781, .dup, 1, 0, 0, 0), (782, .sipush 128, 3, 0, 0, 0), (785, .bipush 117, 2, 0, 0, 0),
  (787, .iastore, 1, 0, 0, 0), (788, .dup, 1, 0, 0, 0), (789, .sipush 129, 3, 0, 0, 0), (792, .bipush 108, 2, 0, 0, 0),
  (794, .iastore, 1, 0, 0, 0), (795, .dup, 1, 0, 0, 0), (796, .sipush 130, 3, 0, 0, 0), (799, .bipush 108, 2, 0, 0, 0),
  (801, .iastore, 1, 0, 0, 0), (802, .dup, 1, 0, 0, 0), (803, .sipush 131, 3, 0, 0, 0), (806, .bipush 32, 2, 0, 0, 0),
  (808, .iastore, 1, 0, 0, 0), (809, .dup, 1, 0, 0, 0), (810, .sipush 132, 3, 0, 0, 0), (813, .bipush 102, 2, 0, 0, 0)]
def op_X12_init_9 : List cv_Q := [
  (815, .iastore, 1, 0, 0, 0), (816, .dup, 1, 0, 0, 0), (817, .sipush 133, 3, 0, 0, 0), (820, .bipush 105, 2, 0, 0, 0),
  (822, .iastore, 1, 0, 0, 0), (823, .dup, 1, 0, 0, 0), (824, .sipush 134, 3, 0, 0, 0), (827, .bipush 114, 2, 0, 0, 0),
  (829, .iastore, 1, 0, 0, 0), (830, .dup, 1, 0, 0, 0), (831, .sipush 135, 3, 0, 0, 0), (834, .bipush 109, 2, 0, 0, 0),
  (836, .iastore, 1, 0, 0, 0), (837, .dup, 1, 0, 0, 0), (838, .sipush 136, 3, 0, 0, 0), (841, .bipush 32, 2, 0, 0, 0),
  (843, .iastore, 1, 0, 0, 0), (844, .dup, 1, 0, 0, 0), (845, .sipush 137, 3, 0, 0, 0), (848, .bipush 100, 2, 0, 0, 0),
  (850, .iastore, 1, 0, 0, 0), (851, .dup, 1, 0, 0, 0), (852, .sipush 138, 3, 0, 0, 0), (855, .bipush 101, 2, 0, 0, 0),
  (857, .iastore, 1, 0, 0, 0), (858, .dup, 1, 0, 0, 0), (859, .sipush 139, 3, 0, 0, 0), (862, .bipush 101, 2, 0, 0, 0),
  (864, .iastore, 1, 0, 0, 0), (865, .dup, 1, 0, 0, 0), (866, .sipush 140, 3, 0, 0, 0), (869, .bipush 112, 2, 0, 0, 0),
  (871, .iastore, 1, 0, 0, 0), (872, .dup, 1, 0, 0, 0), (873, .sipush 141, 3, 0, 0, 0), (876, .bipush 32, 2, 0, 0, 0),
  (878, .iastore, 1, 0, 0, 0), (879, .dup, 1, 0, 0, 0), (880, .sipush 142, 3, 0, 0, 0), (883, .bipush 116, 2, 0, 0, 0),
  (885, .iastore, 1, 0, 0, 0), (886, .dup, 1, 0, 0, 0), (887, .sipush 143, 3, 0, 0, 0), (890, .bipush 104, 2, 0, 0, 0),
  (892, .iastore, 1, 0, 0, 0), (893, .dup, 1, 0, 0, 0), (894, .sipush 144, 3, 0, 0, 0), (897, .bipush 105, 2, 0, 0, 0),
  (899, .iastore, 1, 0, 0, 0), (900, .dup, 1, 0, 0, 0), (901, .sipush 145, 3, 0, 0, 0), (904, .bipush 99, 2, 0, 0, 0),
  (906, .iastore, 1, 0, 0, 0), (907, .dup, 1, 0, 0, 0), (908, .sipush 146, 3, 0, 0, 0), (911, .bipush 107, 2, 0, 0, 0),
  (913, .iastore, 1, 0, 0, 0), (914, .dup, 1, 0, 0, 0), (915, .sipush 147, 3, 0, 0, 0), (918, .bipush 32, 2, 0, 0, 0)]
def op_X12_init_10 : List cv_Q := [
  (920, .iastore, 1, 0, 0, 0), (921, .dup, 1, 0, 0, 0), (922, .sipush 148, 3, 0, 0, 0), (925, .bipush 117, 2, 0, 0, 0),
  (927, .iastore, 1, 0, 0, 0), (928, .dup, 1, 0, 0, 0), (929, .sipush 149, 3, 0, 0, 0), (932, .bipush 112, 2, 0, 0, 0),
  (934, .iastore, 1, 0, 0, 0), (935, .dup, 1, 0, 0, 0), (936, .sipush 150, 3, 0, 0, 0), (939, .bipush 32, 2, 0, 0, 0),
  (941, .iastore, 1, 0, 0, 0), (942, .dup, 1, 0, 0, 0), (943, .sipush 151, 3, 0, 0, 0), (946, .bipush 100, 2, 0, 0, 0),
  (948, .iastore, 1, 0, 0, 0), (949, .dup, 1, 0, 0, 0), (950, .sipush 152, 3, 0, 0, 0), (953, .bipush 111, 2, 0, 0, 0),
  (955, .iastore, 1, 0, 0, 0), (956, .dup, 1, 0, 0, 0), (957, .sipush 153, 3, 0, 0, 0), (960, .bipush 119, 2, 0, 0, 0),
  (962, .iastore, 1, 0, 0, 0), (963, .dup, 1, 0, 0, 0), (964, .sipush 154, 3, 0, 0, 0), (967, .bipush 110, 2, 0, 0, 0),
  (969, .iastore, 1, 0, 0, 0), (970, .dup, 1, 0, 0, 0), (971, .sipush 155, 3, 0, 0, 0), (974, .bipush 32, 2, 0, 0, 0),
  (976, .iastore, 1, 0, 0, 0), (977, .dup, 1, 0, 0, 0), (978, .sipush 156, 3, 0, 0, 0), (981, .bipush 100, 2, 0, 0, 0),
  (983, .iastore, 1, 0, 0, 0), (984, .dup, 1, 0, 0, 0), (985, .sipush 157, 3, 0, 0, 0), (988, .bipush 114, 2, 0, 0, 0),
  (990, .iastore, 1, 0, 0, 0), (991, .dup, 1, 0, 0, 0), (992, .sipush 158, 3, 0, 0, 0), (995, .bipush 111, 2, 0, 0, 0),
  (997, .iastore, 1, 0, 0, 0), (998, .dup, 1, 0, 0, 0), (999, .sipush 159, 3, 0, 0, 0), (1002, .bipush 112, 2, 0, 0, 0),
  (1004, .iastore, 1, 0, 0, 0), (1005, .dup, 1, 0, 0, 0), (1006, .sipush 160, 3, 0, 0, 0), (1009, .bipush 32, 2, 0, 0, 0),
  (1011, .iastore, 1, 0, 0, 0), (1012, .dup, 1, 0, 0, 0), (1013, .sipush 161, 3, 0, 0, 0), (1016, .bipush 119, 2, 0, 0, 0),
  (1018, .iastore, 1, 0, 0, 0), (1019, .dup, 1, 0, 0, 0), (1020, .sipush 162, 3, 0, 0, 0), (1023, .bipush 101, 2, 0, 0, 0)]
def op_X12_init_11 : List cv_Q := [
  (1025, .iastore, 1, 0, 0, 0), (1026, .dup, 1, 0, 0, 0), (1027, .sipush 163, 3, 0, 0, 0), (1030, .bipush 101, 2, 0, 0, 0),
  (1032, .iastore, 1, 0, 0, 0), (1033, .dup, 1, 0, 0, 0), (1034, .sipush 164, 3, 0, 0, 0), (1037, .bipush 107, 2, 0, 0, 0),
  (1039, .iastore, 1, 0, 0, 0), (1040, .dup, 1, 0, 0, 0), (1041, .sipush 165, 3, 0, 0, 0), (1044, .bipush 32, 2, 0, 0, 0),
  (1046, .iastore, 1, 0, 0, 0), (1047, .dup, 1, 0, 0, 0), (1048, .sipush 166, 3, 0, 0, 0), (1051, .bipush 99, 2, 0, 0, 0),
  (1053, .iastore, 1, 0, 0, 0), (1054, .dup, 1, 0, 0, 0), (1055, .sipush 167, 3, 0, 0, 0), (1058, .bipush 104, 2, 0, 0, 0),
  (1060, .iastore, 1, 0, 0, 0), (1061, .dup, 1, 0, 0, 0), (1062, .sipush 168, 3, 0, 0, 0), (1065, .bipush 105, 2, 0, 0, 0),
  (1067, .iastore, 1, 0, 0, 0), (1068, .dup, 1, 0, 0, 0), (1069, .sipush 169, 3, 0, 0, 0), (1072, .bipush 108, 2, 0, 0, 0),
  (1074, .iastore, 1, 0, 0, 0), (1075, .dup, 1, 0, 0, 0), (1076, .sipush 170, 3, 0, 0, 0), (1079, .bipush 100, 2, 0, 0, 0),
  (1081, .iastore, 1, 0, 0, 0), (1082, .dup, 1, 0, 0, 0), (1083, .sipush 171, 3, 0, 0, 0), (1086, .bipush 32, 2, 0, 0, 0),
  (1088, .iastore, 1, 0, 0, 0), (1089, .dup, 1, 0, 0, 0), (1090, .sipush 172, 3, 0, 0, 0), (1093, .bipush 102, 2, 0, 0, 0),
  (1095, .iastore, 1, 0, 0, 0), (1096, .dup, 1, 0, 0, 0), (1097, .sipush 173, 3, 0, 0, 0), (1100, .bipush 97, 2, 0, 0, 0),
  (1102, .iastore, 1, 0, 0, 0), (1103, .dup, 1, 0, 0, 0), (1104, .sipush 174, 3, 0, 0, 0), (1107, .bipush 108, 2, 0, 0, 0),
  (1109, .iastore, 1, 0, 0, 0), (1110, .dup, 1, 0, 0, 0), (1111, .sipush 175, 3, 0, 0, 0), (1114, .bipush 108, 2, 0, 0, 0),
  (1116, .iastore, 1, 0, 0, 0), (1117, .dup, 1, 0, 0, 0), (1118, .sipush 176, 3, 0, 0, 0), (1121, .bipush 32, 2, 0, 0, 0),
  (1123, .iastore, 1, 0, 0, 0), (1124, .putfield 13, 3, 12, 3, 4), (1127, .aload_n 0, 1, 0, 0, 0), (1128, .iconst (-1), 1, 0, 0, 0)]
def op_X12_init_12 : List cv_Q := [
  (1129, .putfield 16, 3, 12, 5, 0), (1132, .aload_n 0, 1, 0, 0, 0), (1133, .bipush 24, 2, 0, 0, 0), (1135, .newarray .int, 2, 0, 0, 0),
  (1137, .putfield 20, 3, 12, 21, 4), (1140, .aload_n 0, 1, 0, 0, 0), (1141, .bipush 8, 2, 0, 0, 0), (1143, .newarray .int, 2, 0, 0, 0),
  (1145, .putfield 23, 3, 12, 22, 4), (1148, .aload_n 0, 1, 0, 0, 0), (1149, .bipush 8, 2, 0, 0, 0), (1151, .newarray .int, 2, 0, 0, 0),
  (1153, .putfield 26, 3, 12, 23, 4), (1156, .aload_n 0, 1, 0, 0, 0), (1157, .bipush 8, 2, 0, 0, 0), (1159, .newarray .boolean, 2, 2, 0, 0),
  (1161, .putfield 29, 3, 12, 24, 4), (1164, .aload_n 0, 1, 0, 0, 0), (1165, .bipush 8, 2, 0, 0, 0), (1167, .newarray .int, 2, 0, 0, 0),
  (1169, .putfield 33, 3, 12, 25, 4), (1172, .aload_n 0, 1, 0, 0, 0), (1173, .sipush 128, 3, 0, 0, 0), (1176, .newarray .int, 2, 0, 0, 0),
  (1178, .putfield 36, 3, 12, 26, 4), (1181, .aload_n 0, 1, 0, 0, 0), (1182, .bipush 72, 2, 0, 0, 0), (1184, .newarray .int, 2, 0, 0, 0),
  (1186, .putfield 39, 3, 12, 27, 4), (1189, .aload_n 0, 1, 0, 0, 0), (1190, .bipush 12, 2, 0, 0, 0), (1192, .newarray .int, 2, 0, 0, 0),
  (1194, .putfield 42, 3, 12, 28, 4), (1197, .aload_n 0, 1, 0, 0, 0), (1198, .bipush 36, 2, 0, 0, 0), (1200, .newarray .int, 2, 0, 0, 0),
  (1202, .putfield 45, 3, 12, 29, 4), (1205, .aload_n 0, 1, 0, 0, 0), (1206, .bipush 12, 2, 0, 0, 0), (1208, .newarray .int, 2, 0, 0, 0),
  (1210, .putfield 48, 3, 12, 30, 4), (1213, .aload_n 0, 1, 0, 0, 0), (1214, .bipush 36, 2, 0, 0, 0), (1216, .newarray .int, 2, 0, 0, 0),
  (1218, .putfield 51, 3, 12, 31, 4), (1221, .aload_n 0, 1, 0, 0, 0), (1222, .sipush 128, 3, 0, 0, 0), (1225, .newarray .int, 2, 0, 0, 0),
  (1227, .putfield 54, 3, 12, 32, 4), (1230, .aload_n 0, 1, 0, 0, 0), (1231, .sipush 128, 3, 0, 0, 0), (1234, .newarray .int, 2, 0, 0, 0),
  (1236, .putfield 57, 3, 12, 33, 4), (1239, .aload_n 0, 1, 0, 0, 0), (1240, .sipush 128, 3, 0, 0, 0), (1243, .newarray .int, 2, 0, 0, 0),
  (1245, .putfield 60, 3, 12, 34, 4), (1248, .aload_n 0, 1, 0, 0, 0), (1249, .bipush 96, 2, 0, 0, 0), (1251, .newarray .int, 2, 0, 0, 0)]
def op_X12_init_13 : List cv_Q := [
  (1253, .putfield 63, 3, 12, 35, 4), (1256, .aload_n 0, 1, 0, 0, 0), (1257, .bipush 96, 2, 0, 0, 0), (1259, .newarray .int, 2, 0, 0, 0),
  (1261, .putfield 66, 3, 12, 36, 4), (1264, .aload_n 0, 1, 0, 0, 0), (1265, .bipush 64, 2, 0, 0, 0), (1267, .newarray .int, 2, 0, 0, 0),
  (1269, .putfield 69, 3, 12, 44, 4), (1272, .aload_n 0, 1, 0, 0, 0), (1273, .bipush 16, 2, 0, 0, 0), (1275, .newarray .int, 2, 0, 0, 0),
  (1277, .putfield 72, 3, 12, 45, 4), (1280, .aload_n 0, 1, 0, 0, 0), (1281, .bipush 10, 2, 0, 0, 0), (1283, .newarray .long, 2, 3, 0, 0),
  (1285, .putfield 75, 3, 12, 46, 4), (1288, .aload_n 0, 1, 0, 0, 0), (1289, .bipush 64, 2, 0, 0, 0), (1291, .newarray .long, 2, 3, 0, 0),
  (1293, .putfield 79, 3, 12, 47, 4), (1296, .aload_n 0, 1, 0, 0, 0), (1297, .iconst 3, 1, 0, 0, 0), (1298, .newarray .long, 2, 3, 0, 0),
  (1300, .putfield 82, 3, 12, 49, 4), (1303, .aload_n 0, 1, 0, 0, 0), (1304, .sipush 340, 3, 0, 0, 0), (1307, .newarray .int, 2, 0, 0, 0),
  (1309, .putfield 85, 3, 12, 51, 4), (1312, .aload_n 0, 1, 0, 0, 0), (1313, .iconst (-1), 1, 0, 0, 0), (1314, .putfield 88, 3, 12, 53, 0),
  (1317, .aload_n 0, 1, 0, 0, 0), (1318, .bipush 40, 2, 0, 0, 0), (1320, .newarray .int, 2, 0, 0, 0), (1322, .putfield 91, 3, 12, 54, 4),
  (1325, .aload_n 0, 1, 0, 0, 0), (1326, .bipush 40, 2, 0, 0, 0), (1328, .newarray .int, 2, 0, 0, 0), (1330, .putfield 94, 3, 12, 55, 4),
  (1333, .aload_n 0, 1, 0, 0, 0), (1334, .bipush 40, 2, 0, 0, 0), (1336, .newarray .int, 2, 0, 0, 0), (1338, .putfield 97, 3, 12, 56, 4),
  (1341, .aload_n 0, 1, 0, 0, 0), (1342, .bipush 40, 2, 0, 0, 0), (1344, .newarray .int, 2, 0, 0, 0), (1346, .putfield 100, 3, 12, 57, 4),
  (1349, .aload_n 0, 1, 0, 0, 0), (1350, .bipush 40, 2, 0, 0, 0), (1352, .newarray .int, 2, 0, 0, 0), (1354, .putfield 103, 3, 12, 58, 4),
  (1357, .aload_n 0, 1, 0, 0, 0), (1358, .bipush 40, 2, 0, 0, 0), (1360, .newarray .boolean, 2, 2, 0, 0), (1362, .putfield 106, 3, 12, 59, 4),
  (1365, .aload_n 0, 1, 0, 0, 0), (1366, .bipush 7, 2, 0, 0, 0), (1368, .newarray .int, 2, 0, 0, 0), (1370, .putfield 109, 3, 12, 60, 4)]
def op_X12_init_14 : List cv_Q := [
  (1373, .aload_n 0, 1, 0, 0, 0), (1374, .bipush 9, 2, 0, 0, 0), (1376, .newarray .int, 2, 0, 0, 0), (1378, .dup, 1, 0, 0, 0),
  (1379, .iconst 0, 1, 0, 0, 0), (1380, .sipush 1000, 3, 0, 0, 0), (1383, .iastore, 1, 0, 0, 0), (1384, .dup, 1, 0, 0, 0),
  (1385, .iconst 1, 1, 0, 0, 0), (1386, .sipush 924, 3, 0, 0, 0), (1389, .iastore, 1, 0, 0, 0), (1390, .dup, 1, 0, 0, 0),
  (1391, .iconst 2, 1, 0, 0, 0), (1392, .sipush 707, 3, 0, 0, 0), (1395, .iastore, 1, 0, 0, 0), (1396, .dup, 1, 0, 0, 0),
  (1397, .iconst 3, 1, 0, 0, 0), (1398, .sipush 383, 3, 0, 0, 0), (1401, .iastore, 1, 0, 0, 0), (1402, .dup, 1, 0, 0, 0),
  (1403, .iconst 4, 1, 0, 0, 0), (1404, .iconst 0, 1, 0, 0, 0), (1405, .iastore, 1, 0, 0, 0), (1406, .dup, 1, 0, 0, 0),
  (1407, .iconst 5, 1, 0, 0, 0), (1408, .sipush (-383), 3, 0, 0, 0), (1411, .iastore, 1, 0, 0, 0), (1412, .dup, 1, 0, 0, 0),
  (1413, .bipush 6, 2, 0, 0, 0), (1415, .sipush (-707), 3, 0, 0, 0), (1418, .iastore, 1, 0, 0, 0), (1419, .dup, 1, 0, 0, 0),
  (1420, .bipush 7, 2, 0, 0, 0), (1422, .sipush (-924), 3, 0, 0, 0), (1425, .iastore, 1, 0, 0, 0), (1426, .dup, 1, 0, 0, 0),
  (1427, .bipush 8, 2, 0, 0, 0), (1429, .sipush (-1000), 3, 0, 0, 0), (1432, .iastore, 1, 0, 0, 0), (1433, .putfield 112, 3, 12, 61, 4),
  (1436, .aload_n 0, 1, 0, 0, 0), (1437, .bipush 9, 2, 0, 0, 0), (1439, .newarray .int, 2, 0, 0, 0), (1441, .dup, 1, 0, 0, 0),
  (1442, .iconst 0, 1, 0, 0, 0), (1443, .iconst 0, 1, 0, 0, 0), (1444, .iastore, 1, 0, 0, 0), (1445, .dup, 1, 0, 0, 0),
  (1446, .iconst 1, 1, 0, 0, 0), (1447, .sipush 383, 3, 0, 0, 0), (1450, .iastore, 1, 0, 0, 0), (1451, .dup, 1, 0, 0, 0),
  (1452, .iconst 2, 1, 0, 0, 0), (1453, .sipush 707, 3, 0, 0, 0), (1456, .iastore, 1, 0, 0, 0), (1457, .dup, 1, 0, 0, 0),
  (1458, .iconst 3, 1, 0, 0, 0), (1459, .sipush 924, 3, 0, 0, 0), (1462, .iastore, 1, 0, 0, 0), (1463, .dup, 1, 0, 0, 0)]
def op_X12_init_15 : List cv_Q := [
  (1464, .iconst 4, 1, 0, 0, 0), (1465, .sipush 1000, 3, 0, 0, 0), (1468, .iastore, 1, 0, 0, 0), (1469, .dup, 1, 0, 0, 0),
  (1470, .iconst 5, 1, 0, 0, 0), (1471, .sipush 924, 3, 0, 0, 0), (1474, .iastore, 1, 0, 0, 0), (1475, .dup, 1, 0, 0, 0),
  (1476, .bipush 6, 2, 0, 0, 0), (1478, .sipush 707, 3, 0, 0, 0), (1481, .iastore, 1, 0, 0, 0), (1482, .dup, 1, 0, 0, 0),
  (1483, .bipush 7, 2, 0, 0, 0), (1485, .sipush 383, 3, 0, 0, 0), (1488, .iastore, 1, 0, 0, 0), (1489, .dup, 1, 0, 0, 0),
  (1490, .bipush 8, 2, 0, 0, 0), (1492, .iconst 0, 1, 0, 0, 0), (1493, .iastore, 1, 0, 0, 0), (1494, .putfield 115, 3, 12, 62, 4),
  (1497, .aload_n 0, 1, 0, 0, 0), (1498, .iconst 4, 1, 0, 0, 0), (1499, .newarray .int, 2, 0, 0, 0), (1501, .putfield 118, 3, 12, 63, 4),
  (1504, .aload_n 0, 1, 0, 0, 0), (1505, .iconst 4, 1, 0, 0, 0), (1506, .newarray .int, 2, 0, 0, 0), (1508, .putfield 121, 3, 12, 64, 4),
  (1511, .aload_n 0, 1, 0, 0, 0), (1512, .bipush 64, 2, 0, 0, 0), (1514, .newarray .int, 2, 0, 0, 0), (1516, .putfield 124, 3, 12, 65, 4),
  (1519, .aload_n 0, 1, 0, 0, 0), (1520, .bipush 64, 2, 0, 0, 0), (1522, .newarray .int, 2, 0, 0, 0), (1524, .putfield 127, 3, 12, 68, 4),
  (1527, .aload_n 0, 1, 0, 0, 0), (1528, .invokevirtual 130, 3, 171, 0, 12), (1531, .aload_n 0, 1, 0, 0, 0), (1532, .invokevirtual 133, 3, 173, 0, 12),
  (1535, .return_, 1, 0, 0, 0)]
def op_X12_init : List cv_Q := op_X12_init_0 ++ (op_X12_init_1 ++ (op_X12_init_2 ++ (op_X12_init_3 ++ (op_X12_init_4 ++ (op_X12_init_5 ++ (op_X12_init_6 ++ (op_X12_init_7 ++ (op_X12_init_8 ++ (op_X12_init_9 ++ (op_X12_init_10 ++ (op_X12_init_11 ++ (op_X12_init_12 ++ (op_X12_init_13 ++ (op_X12_init_14 ++ (op_X12_init_15)))))))))))))))
def op_X12_feed_0 : List cv_Q := [
  (0, .aload_n 0, 1, 0, 0, 0), (1, .iconst 0, 1, 0, 0, 0), (2, .putfield 136, 3, 12, 2, 0), (5, .aload_n 0, 1, 0, 0, 0),
  (6, .getfield 139, 3, 12, 1, 0), (9, .bipush 20, 2, 0, 0, 0), (11, .iadd, 1, 0, 0, 0), (12, .sipush 900, 3, 0, 0, 0),
  (15, .if_icmp .le 5, 3, 0, 0, 0), (18, .iconst (-1), 1, 0, 0, 0), (19, .ireturn, 1, 0, 0, 0), (20, .iconst 0, 1, 0, 0, 0),
  (21, .istore 6, 2, 0, 0, 0), (23, .iload 6, 2, 0, 0, 0), (25, .bipush 20, 2, 0, 0, 0), (27, .if_icmp .ge 86, 3, 0, 0, 0),
  (30, .iload 6, 2, 0, 0, 0), (32, .iconst 4, 1, 0, 0, 0), (33, .if_icmp .ge 7, 3, 0, 0, 0), (36, .iload_n 1, 1, 0, 0, 0),
  (37, .goto 39, 3, 0, 0, 0), (40, .iload 6, 2, 0, 0, 0), (42, .bipush 8, 2, 0, 0, 0), (44, .if_icmp .ge 7, 3, 0, 0, 0),
  (47, .iload_n 2, 1, 0, 0, 0), (48, .goto 28, 3, 0, 0, 0), (51, .iload 6, 2, 0, 0, 0), (53, .bipush 12, 2, 0, 0, 0),
  (55, .if_icmp .ge 7, 3, 0, 0, 0), (58, .iload_n 3, 1, 0, 0, 0), (59, .goto 17, 3, 0, 0, 0), (62, .iload 6, 2, 0, 0, 0),
  (64, .bipush 16, 2, 0, 0, 0), (66, .if_icmp .ge 8, 3, 0, 0, 0), (69, .iload 4, 2, 0, 0, 0), (71, .goto 5, 3, 0, 0, 0),
  (74, .iload 5, 2, 0, 0, 0), (76, .istore 7, 2, 0, 0, 0), (78, .aload_n 0, 1, 0, 0, 0), (79, .getfield 7, 3, 12, 0, 4),
  (82, .aload_n 0, 1, 0, 0, 0), (83, .getfield 139, 3, 12, 1, 0), (86, .iload 6, 2, 0, 0, 0), (88, .iadd, 1, 0, 0, 0),
  (89, .iload 7, 2, 0, 0, 0), (91, .bipush 24, 2, 0, 0, 0), (93, .bipush 8, 2, 0, 0, 0), (95, .iload 6, 2, 0, 0, 0),
  (97, .iconst 4, 1, 0, 0, 0), (98, .irem, 1, 0, 0, 0), (99, .imul, 1, 0, 0, 0), (100, .isub, 1, 0, 0, 0),
  (101, .ishr, 1, 0, 0, 0), (102, .sipush 255, 3, 0, 0, 0), (105, .iand, 1, 0, 0, 0), (106, .iastore, 1, 0, 0, 0),
  (107, .iinc 6 1, 3, 0, 0, 0), (110, .goto (-87), 3, 0, 0, 0), (113, .aload_n 0, 1, 0, 0, 0), (114, .dup, 1, 0, 0, 0)]
def op_X12_feed_1 : List cv_Q := [
  (115, .getfield 139, 3, 12, 1, 0), (118, .bipush 20, 2, 0, 0, 0), (120, .iadd, 1, 0, 0, 0), (121, .putfield 139, 3, 12, 1, 0),
  (124, .aload_n 0, 1, 0, 0, 0), (125, .getfield 139, 3, 12, 1, 0), (128, .ireturn, 1, 0, 0, 0)]
def op_X12_feed : List cv_Q := op_X12_feed_0 ++ (op_X12_feed_1)
def op_X12_isIn : List cv_Q := [
  (0, .iload_n 0, 1, 0, 0, 0), (1, .iload_n 1, 1, 0, 0, 0), (2, .if_icmp .lt 12, 3, 0, 0, 0), (5, .iload_n 0, 1, 0, 0, 0),
  (6, .iload_n 2, 1, 0, 0, 0), (7, .if_icmp .gt 7, 3, 0, 0, 0), (10, .iconst 1, 1, 0, 0, 0), (11, .goto 4, 3, 0, 0, 0),
  (14, .iconst 0, 1, 0, 0, 0), (15, .ireturn, 1, 0, 0, 0)]
def op_X12_isOf : List cv_Q := [
  (0, .iload_n 0, 1, 0, 0, 0), (1, .iload_n 1, 1, 0, 0, 0), (2, .ishr, 1, 0, 0, 0), (3, .iconst 1, 1, 0, 0, 0),
  (4, .iand, 1, 0, 0, 0), (5, .iconst 1, 1, 0, 0, 0), (6, .if_icmp .ne 7, 3, 0, 0, 0), (9, .iconst 1, 1, 0, 0, 0),
  (10, .goto 4, 3, 0, 0, 0), (13, .iconst 0, 1, 0, 0, 0), (14, .ireturn, 1, 0, 0, 0)]
def op_X12_sizeOf : List cv_Q := [
  (0, .iload_n 0, 1, 0, 0, 0), (1, .ifCond .ge 8, 3, 0, 0, 0), (4, .iload_n 0, 1, 0, 0, 0), (5, .ineg, 1, 0, 0, 0),
  (6, .goto 4, 3, 0, 0, 0), (9, .iload_n 0, 1, 0, 0, 0), (10, .ireturn, 1, 0, 0, 0)]
def op_X12_wrong : List cv_Q := [
  (0, .aload_n 0, 1, 0, 0, 0), (1, .iload_n 1, 1, 0, 0, 0), (2, .putfield 142, 3, 12, 4, 0), (5, .aload_n 0, 1, 0, 0, 0),
  (6, .aload_n 0, 1, 0, 0, 0), (7, .getfield 145, 3, 12, 10, 0), (10, .putfield 16, 3, 12, 5, 0), (13, .iconst 0, 1, 0, 0, 0),
  (14, .ireturn, 1, 0, 0, 0)]
def op_X12_wordAt_0 : List cv_Q := [
  (0, .iconst 0, 1, 0, 0, 0), (1, .istore_n 3, 1, 0, 0, 0), (2, .iconst 0, 1, 0, 0, 0), (3, .istore 4, 2, 0, 0, 0),
  (5, .iload 4, 2, 0, 0, 0), (7, .aload_n 0, 1, 0, 0, 0), (8, .getfield 13, 3, 12, 3, 4), (11, .arraylength, 1, 0, 0, 0),
  (12, .if_icmp .ge 114, 3, 0, 0, 0), (15, .iconst 0, 1, 0, 0, 0), (16, .istore 5, 2, 0, 0, 0), (18, .aload_n 0, 1, 0, 0, 0),
  (19, .getfield 13, 3, 12, 3, 4), (22, .iload 4, 2, 0, 0, 0), (24, .iload 5, 2, 0, 0, 0), (26, .iadd, 1, 0, 0, 0),
  (27, .iaload, 1, 0, 0, 0), (28, .bipush 32, 2, 0, 0, 0), (30, .if_icmp .eq 9, 3, 0, 0, 0), (33, .iinc 5 1, 3, 0, 0, 0),
  (36, .goto (-18), 3, 0, 0, 0), (39, .iload 5, 2, 0, 0, 0), (41, .iload_n 2, 1, 0, 0, 0), (42, .iload_n 1, 1, 0, 0, 0),
  (43, .isub, 1, 0, 0, 0), (44, .if_icmp .ne 7, 3, 0, 0, 0), (47, .iconst 1, 1, 0, 0, 0), (48, .goto 4, 3, 0, 0, 0),
  (51, .iconst 0, 1, 0, 0, 0), (52, .istore 6, 2, 0, 0, 0), (54, .iconst 0, 1, 0, 0, 0), (55, .istore 7, 2, 0, 0, 0),
  (57, .iload 7, 2, 0, 0, 0), (59, .iload 5, 2, 0, 0, 0), (61, .if_icmp .ge 43, 3, 0, 0, 0), (64, .iload 6, 2, 0, 0, 0),
  (66, .ifCond .eq 38, 3, 0, 0, 0), (69, .aload_n 0, 1, 0, 0, 0), (70, .getfield 13, 3, 12, 3, 4), (73, .iload 4, 2, 0, 0, 0),
  (75, .iload 7, 2, 0, 0, 0), (77, .iadd, 1, 0, 0, 0), (78, .iaload, 1, 0, 0, 0), (79, .aload_n 0, 1, 0, 0, 0),
  (80, .getfield 7, 3, 12, 0, 4), (83, .iload_n 1, 1, 0, 0, 0), (84, .iload 7, 2, 0, 0, 0), (86, .iadd, 1, 0, 0, 0),
  (87, .iaload, 1, 0, 0, 0), (88, .if_icmp .ne 7, 3, 0, 0, 0), (91, .iconst 1, 1, 0, 0, 0), (92, .goto 4, 3, 0, 0, 0),
  (95, .iconst 0, 1, 0, 0, 0), (96, .istore 6, 2, 0, 0, 0), (98, .iinc 7 1, 3, 0, 0, 0), (101, .goto (-44), 3, 0, 0, 0),
  (104, .iload 6, 2, 0, 0, 0), (106, .ifCond .eq 5, 3, 0, 0, 0), (109, .iload_n 3, 1, 0, 0, 0), (110, .ireturn, 1, 0, 0, 0)]
def op_X12_wordAt_1 : List cv_Q := [
  (111, .iload 4, 2, 0, 0, 0), (113, .iload 5, 2, 0, 0, 0), (115, .iconst 1, 1, 0, 0, 0), (116, .iadd, 1, 0, 0, 0),
  (117, .iadd, 1, 0, 0, 0), (118, .istore 4, 2, 0, 0, 0), (120, .iinc 3 1, 3, 0, 0, 0), (123, .goto (-118), 3, 0, 0, 0),
  (126, .iconst (-1), 1, 0, 0, 0), (127, .ireturn, 1, 0, 0, 0)]
def op_X12_wordAt : List cv_Q := op_X12_wordAt_0 ++ (op_X12_wordAt_1)
def op_X12_isSmall : List cv_Q := [
  (0, .iload_n 1, 1, 0, 0, 0), (1, .aload_n 0, 1, 0, 0, 0), (2, .getfield 148, 3, 12, 6, 0), (5, .if_icmp .ge 29, 3, 0, 0, 0),
  (8, .aload_n 0, 1, 0, 0, 0), (9, .getfield 7, 3, 12, 0, 4), (12, .iload_n 1, 1, 0, 0, 0), (13, .iaload, 1, 0, 0, 0),
  (14, .bipush 97, 2, 0, 0, 0), (16, .if_icmp .lt 18, 3, 0, 0, 0), (19, .aload_n 0, 1, 0, 0, 0), (20, .getfield 7, 3, 12, 0, 4),
  (23, .iload_n 1, 1, 0, 0, 0), (24, .iaload, 1, 0, 0, 0), (25, .bipush 122, 2, 0, 0, 0), (27, .if_icmp .gt 7, 3, 0, 0, 0),
  (30, .iconst 1, 1, 0, 0, 0), (31, .goto 4, 3, 0, 0, 0), (34, .iconst 0, 1, 0, 0, 0), (35, .ireturn, 1, 0, 0, 0)]
def op_X12_isDigit : List cv_Q := [
  (0, .iload_n 1, 1, 0, 0, 0), (1, .aload_n 0, 1, 0, 0, 0), (2, .getfield 148, 3, 12, 6, 0), (5, .if_icmp .ge 29, 3, 0, 0, 0),
  (8, .aload_n 0, 1, 0, 0, 0), (9, .getfield 7, 3, 12, 0, 4), (12, .iload_n 1, 1, 0, 0, 0), (13, .iaload, 1, 0, 0, 0),
  (14, .bipush 48, 2, 0, 0, 0), (16, .if_icmp .lt 18, 3, 0, 0, 0), (19, .aload_n 0, 1, 0, 0, 0), (20, .getfield 7, 3, 12, 0, 4),
  (23, .iload_n 1, 1, 0, 0, 0), (24, .iaload, 1, 0, 0, 0), (25, .bipush 57, 2, 0, 0, 0), (27, .if_icmp .gt 7, 3, 0, 0, 0),
  (30, .iconst 1, 1, 0, 0, 0), (31, .goto 4, 3, 0, 0, 0), (34, .iconst 0, 1, 0, 0, 0), (35, .ireturn, 1, 0, 0, 0)]
def op_X12_token_0 : List cv_Q := [
  (0, .aload_n 0, 1, 0, 0, 0), (1, .getfield 151, 3, 12, 7, 0), (4, .aload_n 0, 1, 0, 0, 0), (5, .getfield 148, 3, 12, 6, 0),
  (8, .if_icmp .ge 44, 3, 0, 0, 0), (11, .aload_n 0, 1, 0, 0, 0), (12, .getfield 7, 3, 12, 0, 4), (15, .aload_n 0, 1, 0, 0, 0),
  (16, .getfield 151, 3, 12, 7, 0), (19, .iaload, 1, 0, 0, 0), (20, .bipush 10, 2, 0, 0, 0), (22, .if_icmp .eq 17, 3, 0, 0, 0),
  (25, .aload_n 0, 1, 0, 0, 0), (26, .getfield 7, 3, 12, 0, 4), (29, .aload_n 0, 1, 0, 0, 0), (30, .getfield 151, 3, 12, 7, 0),
  (33, .iaload, 1, 0, 0, 0), (34, .bipush 32, 2, 0, 0, 0), (36, .if_icmp .ne 16, 3, 0, 0, 0), (39, .aload_n 0, 1, 0, 0, 0),
  (40, .dup, 1, 0, 0, 0), (41, .getfield 151, 3, 12, 7, 0), (44, .iconst 1, 1, 0, 0, 0), (45, .iadd, 1, 0, 0, 0),
  (46, .putfield 151, 3, 12, 7, 0), (49, .goto (-49), 3, 0, 0, 0), (52, .aload_n 0, 1, 0, 0, 0), (53, .aload_n 0, 1, 0, 0, 0),
  (54, .getfield 151, 3, 12, 7, 0), (57, .putfield 145, 3, 12, 10, 0), (60, .aload_n 0, 1, 0, 0, 0), (61, .getfield 151, 3, 12, 7, 0),
  (64, .aload_n 0, 1, 0, 0, 0), (65, .getfield 148, 3, 12, 6, 0), (68, .if_icmp .ne 11, 3, 0, 0, 0), (71, .aload_n 0, 1, 0, 0, 0),
  (72, .iconst 0, 1, 0, 0, 0), (73, .putfield 154, 3, 12, 8, 0), (76, .goto 206, 3, 0, 0, 0), (79, .aload_n 0, 1, 0, 0, 0),
  (80, .aload_n 0, 1, 0, 0, 0), (81, .getfield 151, 3, 12, 7, 0), (84, .invokevirtual 157, 3, 161, 1, 12), (87, .ifCond .eq 105, 3, 0, 0, 0),
  (90, .aload_n 0, 1, 0, 0, 0), (91, .aload_n 0, 1, 0, 0, 0), (92, .getfield 151, 3, 12, 7, 0), (95, .invokevirtual 157, 3, 161, 1, 12),
  (98, .ifCond .eq 16, 3, 0, 0, 0), (101, .aload_n 0, 1, 0, 0, 0), (102, .dup, 1, 0, 0, 0), (103, .getfield 151, 3, 12, 7, 0),
  (106, .iconst 1, 1, 0, 0, 0), (107, .iadd, 1, 0, 0, 0), (108, .putfield 151, 3, 12, 7, 0), (111, .goto (-21), 3, 0, 0, 0),
  (114, .aload_n 0, 1, 0, 0, 0), (115, .aload_n 0, 1, 0, 0, 0), (116, .aload_n 0, 1, 0, 0, 0), (117, .getfield 145, 3, 12, 10, 0)]
def op_X12_token_1 : List cv_Q := [
  (120, .aload_n 0, 1, 0, 0, 0), (121, .getfield 151, 3, 12, 7, 0), (124, .invokevirtual 161, 3, 160, 2, 12), (127, .putfield 165, 3, 12, 9, 0),
  (130, .aload_n 0, 1, 0, 0, 0), (131, .aload_n 0, 1, 0, 0, 0), (132, .getfield 165, 3, 12, 9, 0), (135, .ifCond .lt 7, 3, 0, 0, 0),
  (138, .iconst 1, 1, 0, 0, 0), (139, .goto 23, 3, 0, 0, 0), (142, .aload_n 0, 1, 0, 0, 0), (143, .getfield 151, 3, 12, 7, 0),
  (146, .aload_n 0, 1, 0, 0, 0), (147, .getfield 145, 3, 12, 10, 0), (150, .isub, 1, 0, 0, 0), (151, .bipush 6, 2, 0, 0, 0),
  (153, .if_icmp .le 8, 3, 0, 0, 0), (156, .bipush 6, 2, 0, 0, 0), (158, .goto 4, 3, 0, 0, 0), (161, .iconst 2, 1, 0, 0, 0),
  (162, .putfield 154, 3, 12, 8, 0), (165, .aload_n 0, 1, 0, 0, 0), (166, .getfield 154, 3, 12, 8, 0), (169, .iconst 2, 1, 0, 0, 0),
  (170, .if_icmp .ne 112, 3, 0, 0, 0), (173, .aload_n 0, 1, 0, 0, 0), (174, .aload_n 0, 1, 0, 0, 0), (175, .aload_n 0, 1, 0, 0, 0),
  (176, .getfield 145, 3, 12, 10, 0), (179, .aload_n 0, 1, 0, 0, 0), (180, .getfield 151, 3, 12, 7, 0), (183, .invokevirtual 168, 3, 165, 2, 12),
  (186, .putfield 165, 3, 12, 9, 0), (189, .goto 93, 3, 0, 0, 0), (192, .aload_n 0, 1, 0, 0, 0), (193, .aload_n 0, 1, 0, 0, 0),
  (194, .getfield 151, 3, 12, 7, 0), (197, .invokevirtual 171, 3, 162, 1, 12), (200, .ifCond .eq 78, 3, 0, 0, 0), (203, .aload_n 0, 1, 0, 0, 0),
  (204, .iconst 3, 1, 0, 0, 0), (205, .putfield 154, 3, 12, 8, 0), (208, .aload_n 0, 1, 0, 0, 0), (209, .iconst 0, 1, 0, 0, 0),
  (210, .putfield 165, 3, 12, 9, 0), (213, .aload_n 0, 1, 0, 0, 0), (214, .aload_n 0, 1, 0, 0, 0), (215, .getfield 151, 3, 12, 7, 0),
  (218, .invokevirtual 171, 3, 162, 1, 12), (221, .ifCond .eq 61, 3, 0, 0, 0), (224, .aload_n 0, 1, 0, 0, 0), (225, .aload_n 0, 1, 0, 0, 0),
  (226, .getfield 165, 3, 12, 9, 0), (229, .sipush 9999, 3, 0, 0, 0), (232, .if_icmp .le 10, 3, 0, 0, 0), (235, .aload_n 0, 1, 0, 0, 0),
  (236, .getfield 165, 3, 12, 9, 0), (239, .goto 23, 3, 0, 0, 0), (242, .bipush 10, 2, 0, 0, 0), (244, .aload_n 0, 1, 0, 0, 0)]
def op_X12_token_2 : List cv_Q := [
  (245, .getfield 165, 3, 12, 9, 0), (248, .imul, 1, 0, 0, 0), (249, .aload_n 0, 1, 0, 0, 0), (250, .getfield 7, 3, 12, 0, 4),
  (253, .aload_n 0, 1, 0, 0, 0), (254, .getfield 151, 3, 12, 7, 0), (257, .iaload, 1, 0, 0, 0), (258, .iadd, 1, 0, 0, 0),
  (259, .bipush 48, 2, 0, 0, 0), (261, .isub, 1, 0, 0, 0), (262, .putfield 165, 3, 12, 9, 0), (265, .aload_n 0, 1, 0, 0, 0),
  (266, .dup, 1, 0, 0, 0), (267, .getfield 151, 3, 12, 7, 0), (270, .iconst 1, 1, 0, 0, 0), (271, .iadd, 1, 0, 0, 0),
  (272, .putfield 151, 3, 12, 7, 0), (275, .goto (-62), 3, 0, 0, 0), (278, .aload_n 0, 1, 0, 0, 0), (279, .invokevirtual 174, 3, 164, 0, 12),
  (282, .return_, 1, 0, 0, 0)]
def op_X12_token : List cv_Q := op_X12_token_0 ++ (op_X12_token_1 ++ (op_X12_token_2))
def op_X12_signToken_0 : List cv_Q := [
  (0, .aload_n 0, 1, 0, 0, 0), (1, .aload_n 0, 1, 0, 0, 0), (2, .getfield 7, 3, 12, 0, 4), (5, .aload_n 0, 1, 0, 0, 0),
  (6, .getfield 151, 3, 12, 7, 0), (9, .iaload, 1, 0, 0, 0), (10, .putfield 165, 3, 12, 9, 0), (13, .aload_n 0, 1, 0, 0, 0),
  (14, .dup, 1, 0, 0, 0), (15, .getfield 151, 3, 12, 7, 0), (18, .iconst 1, 1, 0, 0, 0), (19, .iadd, 1, 0, 0, 0),
  (20, .putfield 151, 3, 12, 7, 0), (23, .aload_n 0, 1, 0, 0, 0), (24, .getfield 165, 3, 12, 9, 0), (27, .bipush 60, 2, 0, 0, 0),
  (29, .if_icmp .eq 21, 3, 0, 0, 0), (32, .aload_n 0, 1, 0, 0, 0), (33, .getfield 165, 3, 12, 9, 0), (36, .bipush 62, 2, 0, 0, 0),
  (38, .if_icmp .eq 12, 3, 0, 0, 0), (41, .aload_n 0, 1, 0, 0, 0), (42, .getfield 165, 3, 12, 9, 0), (45, .bipush 61, 2, 0, 0, 0),
  (47, .if_icmp .ne 151, 3, 0, 0, 0), (50, .aload_n 0, 1, 0, 0, 0), (51, .getfield 151, 3, 12, 7, 0), (54, .aload_n 0, 1, 0, 0, 0),
  (55, .getfield 148, 3, 12, 6, 0), (58, .if_icmp .ge 15, 3, 0, 0, 0), (61, .aload_n 0, 1, 0, 0, 0), (62, .getfield 7, 3, 12, 0, 4),
  (65, .aload_n 0, 1, 0, 0, 0), (66, .getfield 151, 3, 12, 7, 0), (69, .iaload, 1, 0, 0, 0), (70, .goto 4, 3, 0, 0, 0),
  (73, .iconst 0, 1, 0, 0, 0), (74, .istore_n 1, 1, 0, 0, 0), (75, .aload_n 0, 1, 0, 0, 0), (76, .getfield 165, 3, 12, 9, 0),
  (79, .bipush 61, 2, 0, 0, 0), (81, .if_icmp .eq 13, 3, 0, 0, 0), (84, .iload_n 1, 1, 0, 0, 0), (85, .bipush 61, 2, 0, 0, 0),
  (87, .if_icmp .ne 7, 3, 0, 0, 0), (90, .iconst 1, 1, 0, 0, 0), (91, .goto 4, 3, 0, 0, 0), (94, .iconst 0, 1, 0, 0, 0),
  (95, .istore_n 2, 1, 0, 0, 0), (96, .aload_n 0, 1, 0, 0, 0), (97, .getfield 165, 3, 12, 9, 0), (100, .bipush 60, 2, 0, 0, 0),
  (102, .if_icmp .ne 13, 3, 0, 0, 0), (105, .iload_n 1, 1, 0, 0, 0), (106, .bipush 62, 2, 0, 0, 0), (108, .if_icmp .ne 7, 3, 0, 0, 0),
  (111, .iconst 1, 1, 0, 0, 0), (112, .goto 4, 3, 0, 0, 0), (115, .iconst 0, 1, 0, 0, 0), (116, .istore_n 3, 1, 0, 0, 0)]
def op_X12_signToken_1 : List cv_Q := [
  (117, .iload_n 2, 1, 0, 0, 0), (118, .ifCond .ne 7, 3, 0, 0, 0), (121, .iload_n 3, 1, 0, 0, 0), (122, .ifCond .eq 13, 3, 0, 0, 0),
  (125, .aload_n 0, 1, 0, 0, 0), (126, .dup, 1, 0, 0, 0), (127, .getfield 151, 3, 12, 7, 0), (130, .iconst 1, 1, 0, 0, 0),
  (131, .iadd, 1, 0, 0, 0), (132, .putfield 151, 3, 12, 7, 0), (135, .aload_n 0, 1, 0, 0, 0), (136, .iconst 5, 1, 0, 0, 0),
  (137, .putfield 154, 3, 12, 8, 0), (140, .aload_n 0, 1, 0, 0, 0), (141, .aload_n 0, 1, 0, 0, 0), (142, .getfield 165, 3, 12, 9, 0),
  (145, .bipush 61, 2, 0, 0, 0), (147, .if_icmp .ne 7, 3, 0, 0, 0), (150, .iconst 2, 1, 0, 0, 0), (151, .goto 41, 3, 0, 0, 0),
  (154, .aload_n 0, 1, 0, 0, 0), (155, .getfield 165, 3, 12, 9, 0), (158, .bipush 60, 2, 0, 0, 0), (160, .if_icmp .ne 23, 3, 0, 0, 0),
  (163, .iload_n 2, 1, 0, 0, 0), (164, .ifCond .eq 7, 3, 0, 0, 0), (167, .iconst 1, 1, 0, 0, 0), (168, .goto 24, 3, 0, 0, 0),
  (171, .iload_n 3, 1, 0, 0, 0), (172, .ifCond .eq 7, 3, 0, 0, 0), (175, .iconst 3, 1, 0, 0, 0), (176, .goto 16, 3, 0, 0, 0),
  (179, .iconst 0, 1, 0, 0, 0), (180, .goto 12, 3, 0, 0, 0), (183, .iload_n 2, 1, 0, 0, 0), (184, .ifCond .eq 7, 3, 0, 0, 0),
  (187, .iconst 4, 1, 0, 0, 0), (188, .goto 4, 3, 0, 0, 0), (191, .iconst 5, 1, 0, 0, 0), (192, .putfield 165, 3, 12, 9, 0),
  (195, .goto 86, 3, 0, 0, 0), (198, .aload_n 0, 1, 0, 0, 0), (199, .getfield 165, 3, 12, 9, 0), (202, .bipush 59, 2, 0, 0, 0),
  (204, .if_icmp .eq 57, 3, 0, 0, 0), (207, .aload_n 0, 1, 0, 0, 0), (208, .getfield 165, 3, 12, 9, 0), (211, .bipush 40, 2, 0, 0, 0),
  (213, .if_icmp .eq 48, 3, 0, 0, 0), (216, .aload_n 0, 1, 0, 0, 0), (217, .getfield 165, 3, 12, 9, 0), (220, .bipush 41, 2, 0, 0, 0),
  (222, .if_icmp .eq 39, 3, 0, 0, 0), (225, .aload_n 0, 1, 0, 0, 0), (226, .getfield 165, 3, 12, 9, 0), (229, .bipush 43, 2, 0, 0, 0),
  (231, .if_icmp .eq 30, 3, 0, 0, 0), (234, .aload_n 0, 1, 0, 0, 0), (235, .getfield 165, 3, 12, 9, 0), (238, .bipush 45, 2, 0, 0, 0)]
def op_X12_signToken_2 : List cv_Q := [
  (240, .if_icmp .eq 21, 3, 0, 0, 0), (243, .aload_n 0, 1, 0, 0, 0), (244, .getfield 165, 3, 12, 9, 0), (247, .bipush 42, 2, 0, 0, 0),
  (249, .if_icmp .eq 12, 3, 0, 0, 0), (252, .aload_n 0, 1, 0, 0, 0), (253, .getfield 165, 3, 12, 9, 0), (256, .bipush 47, 2, 0, 0, 0),
  (258, .if_icmp .ne 7, 3, 0, 0, 0), (261, .iconst 1, 1, 0, 0, 0), (262, .goto 4, 3, 0, 0, 0), (265, .iconst 0, 1, 0, 0, 0),
  (266, .istore_n 1, 1, 0, 0, 0), (267, .aload_n 0, 1, 0, 0, 0), (268, .iload_n 1, 1, 0, 0, 0), (269, .ifCond .eq 7, 3, 0, 0, 0),
  (272, .iconst 4, 1, 0, 0, 0), (273, .goto 5, 3, 0, 0, 0), (276, .bipush 6, 2, 0, 0, 0), (278, .putfield 154, 3, 12, 8, 0),
  (281, .return_, 1, 0, 0, 0)]
def op_X12_signToken : List cv_Q := op_X12_signToken_0 ++ (op_X12_signToken_1 ++ (op_X12_signToken_2))
def op_X12_packed : List cv_Q := [
  (0, .iconst 0, 1, 0, 0, 0), (1, .istore_n 3, 1, 0, 0, 0), (2, .iload_n 1, 1, 0, 0, 0), (3, .istore 4, 2, 0, 0, 0),
  (5, .iload 4, 2, 0, 0, 0), (7, .iload_n 1, 1, 0, 0, 0), (8, .bipush 6, 2, 0, 0, 0), (10, .iadd, 1, 0, 0, 0),
  (11, .if_icmp .ge 34, 3, 0, 0, 0), (14, .iload_n 3, 1, 0, 0, 0), (15, .iconst 5, 1, 0, 0, 0), (16, .ishl, 1, 0, 0, 0),
  (17, .iload 4, 2, 0, 0, 0), (19, .iload_n 2, 1, 0, 0, 0), (20, .if_icmp .ge 16, 3, 0, 0, 0), (23, .aload_n 0, 1, 0, 0, 0),
  (24, .getfield 7, 3, 12, 0, 4), (27, .iload 4, 2, 0, 0, 0), (29, .iaload, 1, 0, 0, 0), (30, .bipush 96, 2, 0, 0, 0),
  (32, .isub, 1, 0, 0, 0), (33, .goto 4, 3, 0, 0, 0), (36, .iconst 0, 1, 0, 0, 0), (37, .ior, 1, 0, 0, 0),
  (38, .istore_n 3, 1, 0, 0, 0), (39, .iinc 4 1, 3, 0, 0, 0), (42, .goto (-37), 3, 0, 0, 0), (45, .iload_n 3, 1, 0, 0, 0),
  (46, .ireturn, 1, 0, 0, 0)]
def op_X12_isKey : List cv_Q := [
  (0, .aload_n 0, 1, 0, 0, 0), (1, .getfield 154, 3, 12, 8, 0), (4, .iconst 1, 1, 0, 0, 0), (5, .if_icmp .ne 15, 3, 0, 0, 0),
  (8, .aload_n 0, 1, 0, 0, 0), (9, .getfield 165, 3, 12, 9, 0), (12, .iload_n 1, 1, 0, 0, 0), (13, .if_icmp .ne 7, 3, 0, 0, 0),
  (16, .iconst 1, 1, 0, 0, 0), (17, .goto 4, 3, 0, 0, 0), (20, .iconst 0, 1, 0, 0, 0), (21, .ireturn, 1, 0, 0, 0)]
def op_X12_isSign : List cv_Q := [
  (0, .aload_n 0, 1, 0, 0, 0), (1, .getfield 154, 3, 12, 8, 0), (4, .iconst 4, 1, 0, 0, 0), (5, .if_icmp .ne 15, 3, 0, 0, 0),
  (8, .aload_n 0, 1, 0, 0, 0), (9, .getfield 165, 3, 12, 9, 0), (12, .iload_n 1, 1, 0, 0, 0), (13, .if_icmp .ne 7, 3, 0, 0, 0),
  (16, .iconst 1, 1, 0, 0, 0), (17, .goto 4, 3, 0, 0, 0), (20, .iconst 0, 1, 0, 0, 0), (21, .ireturn, 1, 0, 0, 0)]
def op_X12_number : List cv_Q := [
  (0, .aload_n 0, 1, 0, 0, 0), (1, .getfield 154, 3, 12, 8, 0), (4, .iconst 3, 1, 0, 0, 0), (5, .if_icmp .eq 9, 3, 0, 0, 0),
  (8, .aload_n 0, 1, 0, 0, 0), (9, .iconst 1, 1, 0, 0, 0), (10, .invokevirtual 177, 3, 159, 1, 12), (13, .ireturn, 1, 0, 0, 0),
  (14, .aload_n 0, 1, 0, 0, 0), (15, .getfield 165, 3, 12, 9, 0), (18, .iload_n 1, 1, 0, 0, 0), (19, .iload_n 2, 1, 0, 0, 0),
  (20, .invokestatic 180, 3, 156, 3, 0), (23, .ifCond .ne 9, 3, 0, 0, 0), (26, .aload_n 0, 1, 0, 0, 0), (27, .iconst 2, 1, 0, 0, 0),
  (28, .invokevirtual 177, 3, 159, 1, 12), (31, .ireturn, 1, 0, 0, 0), (32, .aload_n 0, 1, 0, 0, 0), (33, .aload_n 0, 1, 0, 0, 0),
  (34, .getfield 165, 3, 12, 9, 0), (37, .putfield 184, 3, 12, 11, 0), (40, .aload_n 0, 1, 0, 0, 0), (41, .invokevirtual 187, 3, 163, 0, 12),
  (44, .iconst 1, 1, 0, 0, 0), (45, .ireturn, 1, 0, 0, 0)]
def op_X12_signed : List cv_Q := [
  (0, .aload_n 0, 1, 0, 0, 0), (1, .bipush 45, 2, 0, 0, 0), (3, .invokevirtual 190, 3, 167, 1, 12), (6, .istore_n 2, 1, 0, 0, 0),
  (7, .iload_n 2, 1, 0, 0, 0), (8, .ifCond .eq 7, 3, 0, 0, 0), (11, .aload_n 0, 1, 0, 0, 0), (12, .invokevirtual 187, 3, 163, 0, 12),
  (15, .aload_n 0, 1, 0, 0, 0), (16, .iconst 0, 1, 0, 0, 0), (17, .iload_n 1, 1, 0, 0, 0), (18, .invokevirtual 193, 3, 168, 2, 12),
  (21, .ifCond .ne 5, 3, 0, 0, 0), (24, .iconst 0, 1, 0, 0, 0), (25, .ireturn, 1, 0, 0, 0), (26, .aload_n 0, 1, 0, 0, 0),
  (27, .iload_n 2, 1, 0, 0, 0), (28, .ifCond .eq 11, 3, 0, 0, 0), (31, .aload_n 0, 1, 0, 0, 0), (32, .getfield 184, 3, 12, 11, 0),
  (35, .ineg, 1, 0, 0, 0), (36, .goto 7, 3, 0, 0, 0), (39, .aload_n 0, 1, 0, 0, 0), (40, .getfield 184, 3, 12, 11, 0),
  (43, .putfield 184, 3, 12, 11, 0), (46, .iconst 1, 1, 0, 0, 0), (47, .ireturn, 1, 0, 0, 0)]
def op_X12_numbers : List cv_Q := [
  (0, .iconst 0, 1, 0, 0, 0), (1, .istore 6, 2, 0, 0, 0), (3, .iload 6, 2, 0, 0, 0), (5, .iload_n 3, 1, 0, 0, 0),
  (6, .if_icmp .ge 32, 3, 0, 0, 0), (9, .aload_n 0, 1, 0, 0, 0), (10, .iload 4, 2, 0, 0, 0), (12, .iload 5, 2, 0, 0, 0),
  (14, .invokevirtual 193, 3, 168, 2, 12), (17, .ifCond .ne 5, 3, 0, 0, 0), (20, .iconst 0, 1, 0, 0, 0), (21, .ireturn, 1, 0, 0, 0),
  (22, .aload_n 1, 1, 0, 0, 0), (23, .iload_n 2, 1, 0, 0, 0), (24, .iload 6, 2, 0, 0, 0), (26, .iadd, 1, 0, 0, 0),
  (27, .aload_n 0, 1, 0, 0, 0), (28, .getfield 184, 3, 12, 11, 0), (31, .iastore, 1, 0, 0, 0), (32, .iinc 6 1, 3, 0, 0, 0),
  (35, .goto (-32), 3, 0, 0, 0), (38, .iconst 1, 1, 0, 0, 0), (39, .ireturn, 1, 0, 0, 0)]
def op_X12_plain : List cv_Q := [
  (0, .aload_n 0, 1, 0, 0, 0), (1, .iconst 0, 1, 0, 0, 0), (2, .putfield 197, 3, 12, 16, 0), (5, .aload_n 0, 1, 0, 0, 0),
  (6, .iconst 0, 1, 0, 0, 0), (7, .putfield 200, 3, 12, 17, 0), (10, .aload_n 0, 1, 0, 0, 0), (11, .iconst 0, 1, 0, 0, 0),
  (12, .putfield 203, 3, 12, 18, 0), (15, .aload_n 0, 1, 0, 0, 0), (16, .iconst 0, 1, 0, 0, 0), (17, .putfield 206, 3, 12, 19, 0),
  (20, .aload_n 0, 1, 0, 0, 0), (21, .iconst 0, 1, 0, 0, 0), (22, .putfield 209, 3, 12, 40, 0), (25, .aload_n 0, 1, 0, 0, 0),
  (26, .iconst 0, 1, 0, 0, 0), (27, .putfield 212, 3, 12, 20, 2), (30, .iconst 0, 1, 0, 0, 0), (31, .istore_n 1, 1, 0, 0, 0),
  (32, .iload_n 1, 1, 0, 0, 0), (33, .bipush 12, 2, 0, 0, 0), (35, .if_icmp .ge 20, 3, 0, 0, 0), (38, .aload_n 0, 1, 0, 0, 0),
  (39, .getfield 20, 3, 12, 21, 4), (42, .bipush 12, 2, 0, 0, 0), (44, .iload_n 1, 1, 0, 0, 0), (45, .iadd, 1, 0, 0, 0),
  (46, .bipush 50, 2, 0, 0, 0), (48, .iastore, 1, 0, 0, 0), (49, .iinc 1 1, 3, 0, 0, 0), (52, .goto (-20), 3, 0, 0, 0),
  (55, .iconst 0, 1, 0, 0, 0), (56, .istore_n 1, 1, 0, 0, 0), (57, .iload_n 1, 1, 0, 0, 0), (58, .iconst 4, 1, 0, 0, 0),
  (59, .if_icmp .ge 18, 3, 0, 0, 0), (62, .aload_n 0, 1, 0, 0, 0), (63, .getfield 29, 3, 12, 24, 4), (66, .iconst 4, 1, 0, 0, 0),
  (67, .iload_n 1, 1, 0, 0, 0), (68, .iadd, 1, 0, 0, 0), (69, .iconst 0, 1, 0, 0, 0), (70, .bastore, 1, 0, 0, 0),
  (71, .iinc 1 1, 3, 0, 0, 0), (74, .goto (-17), 3, 0, 0, 0), (77, .return_, 1, 0, 0, 0)]
def op_X12_copies : List cv_Q := [
  (0, .iconst 0, 1, 0, 0, 0), (1, .istore_n 2, 1, 0, 0, 0), (2, .iload_n 2, 1, 0, 0, 0), (3, .iload_n 1, 1, 0, 0, 0),
  (4, .if_icmp .ge 17, 3, 0, 0, 0), (7, .aload_n 0, 1, 0, 0, 0), (8, .iload_n 2, 1, 0, 0, 0), (9, .aload_n 0, 1, 0, 0, 0),
  (10, .iload_n 1, 1, 0, 0, 0), (11, .iload_n 2, 1, 0, 0, 0), (12, .iadd, 1, 0, 0, 0), (13, .iaload, 1, 0, 0, 0),
  (14, .iastore, 1, 0, 0, 0), (15, .iinc 2 1, 3, 0, 0, 0), (18, .goto (-16), 3, 0, 0, 0), (21, .return_, 1, 0, 0, 0)]
def op_X12_keepText_0 : List cv_Q := [
  (0, .aload_n 0, 1, 0, 0, 0), (1, .aload_n 0, 1, 0, 0, 0), (2, .getfield 197, 3, 12, 16, 0), (5, .putfield 216, 3, 12, 12, 0),
  (8, .aload_n 0, 1, 0, 0, 0), (9, .aload_n 0, 1, 0, 0, 0), (10, .getfield 200, 3, 12, 17, 0), (13, .putfield 219, 3, 12, 13, 0),
  (16, .aload_n 0, 1, 0, 0, 0), (17, .aload_n 0, 1, 0, 0, 0), (18, .getfield 203, 3, 12, 18, 0), (21, .putfield 222, 3, 12, 14, 0),
  (24, .aload_n 0, 1, 0, 0, 0), (25, .aload_n 0, 1, 0, 0, 0), (26, .getfield 206, 3, 12, 19, 0), (29, .putfield 225, 3, 12, 15, 0),
  (32, .aload_n 0, 1, 0, 0, 0), (33, .getfield 20, 3, 12, 21, 4), (36, .bipush 12, 2, 0, 0, 0), (38, .invokestatic 228, 3, 172, 2, 0),
  (41, .aload_n 0, 1, 0, 0, 0), (42, .getfield 23, 3, 12, 22, 4), (45, .iconst 4, 1, 0, 0, 0), (46, .invokestatic 228, 3, 172, 2, 0),
  (49, .aload_n 0, 1, 0, 0, 0), (50, .getfield 26, 3, 12, 23, 4), (53, .iconst 4, 1, 0, 0, 0), (54, .invokestatic 228, 3, 172, 2, 0),
  (57, .iconst 0, 1, 0, 0, 0), (58, .istore_n 1, 1, 0, 0, 0), (59, .iload_n 1, 1, 0, 0, 0), (60, .iconst 4, 1, 0, 0, 0),
  (61, .if_icmp .ge 23, 3, 0, 0, 0), (64, .aload_n 0, 1, 0, 0, 0), (65, .getfield 29, 3, 12, 24, 4), (68, .iload_n 1, 1, 0, 0, 0),
  (69, .aload_n 0, 1, 0, 0, 0), (70, .getfield 29, 3, 12, 24, 4), (73, .iconst 4, 1, 0, 0, 0), (74, .iload_n 1, 1, 0, 0, 0),
  (75, .iadd, 1, 0, 0, 0), (76, .baload, 1, 0, 0, 0), (77, .bastore, 1, 0, 0, 0), (78, .iinc 1 1, 3, 0, 0, 0),
  (81, .goto (-22), 3, 0, 0, 0), (84, .aload_n 0, 1, 0, 0, 0), (85, .getfield 33, 3, 12, 25, 4), (88, .iconst 4, 1, 0, 0, 0),
  (89, .invokestatic 228, 3, 172, 2, 0), (92, .aload_n 0, 1, 0, 0, 0), (93, .getfield 36, 3, 12, 26, 4), (96, .bipush 64, 2, 0, 0, 0),
  (98, .invokestatic 228, 3, 172, 2, 0), (101, .aload_n 0, 1, 0, 0, 0), (102, .getfield 39, 3, 12, 27, 4), (105, .bipush 36, 2, 0, 0, 0),
  (107, .invokestatic 228, 3, 172, 2, 0), (110, .aload_n 0, 1, 0, 0, 0), (111, .getfield 42, 3, 12, 28, 4), (114, .bipush 6, 2, 0, 0, 0)]
def op_X12_keepText_1 : List cv_Q := [
  (116, .invokestatic 228, 3, 172, 2, 0), (119, .aload_n 0, 1, 0, 0, 0), (120, .getfield 45, 3, 12, 29, 4), (123, .bipush 18, 2, 0, 0, 0),
  (125, .invokestatic 228, 3, 172, 2, 0), (128, .aload_n 0, 1, 0, 0, 0), (129, .getfield 48, 3, 12, 30, 4), (132, .bipush 6, 2, 0, 0, 0),
  (134, .invokestatic 228, 3, 172, 2, 0), (137, .aload_n 0, 1, 0, 0, 0), (138, .getfield 51, 3, 12, 31, 4), (141, .bipush 18, 2, 0, 0, 0),
  (143, .invokestatic 228, 3, 172, 2, 0), (146, .aload_n 0, 1, 0, 0, 0), (147, .getfield 54, 3, 12, 32, 4), (150, .bipush 64, 2, 0, 0, 0),
  (152, .invokestatic 228, 3, 172, 2, 0), (155, .aload_n 0, 1, 0, 0, 0), (156, .getfield 57, 3, 12, 33, 4), (159, .bipush 64, 2, 0, 0, 0),
  (161, .invokestatic 228, 3, 172, 2, 0), (164, .aload_n 0, 1, 0, 0, 0), (165, .getfield 60, 3, 12, 34, 4), (168, .bipush 64, 2, 0, 0, 0),
  (170, .invokestatic 228, 3, 172, 2, 0), (173, .iconst 0, 1, 0, 0, 0), (174, .istore_n 1, 1, 0, 0, 0), (175, .iload_n 1, 1, 0, 0, 0),
  (176, .iconst 4, 1, 0, 0, 0), (177, .if_icmp .ge 30, 3, 0, 0, 0), (180, .aload_n 0, 1, 0, 0, 0), (181, .iload_n 1, 1, 0, 0, 0),
  (182, .invokevirtual 232, 3, 201, 1, 12), (185, .aload_n 0, 1, 0, 0, 0), (186, .getfield 69, 3, 12, 44, 4), (189, .bipush 16, 2, 0, 0, 0),
  (191, .iload_n 1, 1, 0, 0, 0), (192, .imul, 1, 0, 0, 0), (193, .aload_n 0, 1, 0, 0, 0), (194, .getfield 72, 3, 12, 45, 4),
  (197, .iconst 0, 1, 0, 0, 0), (198, .invokestatic 236, 3, 200, 4, 0), (201, .iinc 1 1, 3, 0, 0, 0), (204, .goto (-29), 3, 0, 0, 0),
  (207, .aload_n 0, 1, 0, 0, 0), (208, .iconst 0, 1, 0, 0, 0), (209, .putfield 240, 3, 12, 43, 0), (212, .aload_n 0, 1, 0, 0, 0),
  (213, .iconst 0, 1, 0, 0, 0), (214, .putfield 243, 3, 12, 52, 0), (217, .aload_n 0, 1, 0, 0, 0), (218, .iconst (-1), 1, 0, 0, 0),
  (219, .putfield 88, 3, 12, 53, 0), (222, .aload_n 0, 1, 0, 0, 0), (223, .iconst 0, 1, 0, 0, 0), (224, .putfield 246, 3, 12, 50, 0),
  (227, .aload_n 0, 1, 0, 0, 0), (228, .iconst 0, 1, 0, 0, 0), (229, .putfield 249, 3, 12, 66, 2), (232, .return_, 1, 0, 0, 0)]
def op_X12_keepText : List cv_Q := op_X12_keepText_0 ++ (op_X12_keepText_1)
def op_X12_find : List cv_Q := [
  (0, .iconst 0, 1, 0, 0, 0), (1, .istore 4, 2, 0, 0, 0), (3, .iload 4, 2, 0, 0, 0), (5, .iload_n 2, 1, 0, 0, 0),
  (6, .if_icmp .ge 22, 3, 0, 0, 0), (9, .aload_n 0, 1, 0, 0, 0), (10, .iload_n 1, 1, 0, 0, 0), (11, .iload 4, 2, 0, 0, 0),
  (13, .iadd, 1, 0, 0, 0), (14, .iaload, 1, 0, 0, 0), (15, .iload_n 3, 1, 0, 0, 0), (16, .if_icmp .ne 6, 3, 0, 0, 0),
  (19, .iload 4, 2, 0, 0, 0), (21, .ireturn, 1, 0, 0, 0), (22, .iinc 4 1, 3, 0, 0, 0), (25, .goto (-22), 3, 0, 0, 0),
  (28, .iconst (-1), 1, 0, 0, 0), (29, .ireturn, 1, 0, 0, 0)]
def op_X12_newName : List cv_Q := [
  (0, .aload_n 0, 1, 0, 0, 0), (1, .getfield 154, 3, 12, 8, 0), (4, .iconst 2, 1, 0, 0, 0), (5, .if_icmp .eq 9, 3, 0, 0, 0),
  (8, .aload_n 0, 1, 0, 0, 0), (9, .iconst 1, 1, 0, 0, 0), (10, .invokevirtual 177, 3, 159, 1, 12), (13, .ireturn, 1, 0, 0, 0),
  (14, .aload_n 1, 1, 0, 0, 0), (15, .iload_n 2, 1, 0, 0, 0), (16, .iload_n 3, 1, 0, 0, 0), (17, .aload_n 0, 1, 0, 0, 0),
  (18, .getfield 165, 3, 12, 9, 0), (21, .invokestatic 252, 3, 174, 4, 0), (24, .ifCond .lt 9, 3, 0, 0, 0), (27, .aload_n 0, 1, 0, 0, 0),
  (28, .iconst 3, 1, 0, 0, 0), (29, .invokevirtual 177, 3, 159, 1, 12), (32, .ireturn, 1, 0, 0, 0), (33, .aload_n 1, 1, 0, 0, 0),
  (34, .iload_n 2, 1, 0, 0, 0), (35, .iload_n 3, 1, 0, 0, 0), (36, .iadd, 1, 0, 0, 0), (37, .aload_n 0, 1, 0, 0, 0),
  (38, .getfield 165, 3, 12, 9, 0), (41, .iastore, 1, 0, 0, 0), (42, .aload_n 0, 1, 0, 0, 0), (43, .invokevirtual 187, 3, 163, 0, 12),
  (46, .iconst 1, 1, 0, 0, 0), (47, .ireturn, 1, 0, 0, 0)]
def op_X12_groundLine : List cv_Q := [
  (0, .aload_n 0, 1, 0, 0, 0), (1, .getfield 212, 3, 12, 20, 2), (4, .ifCond .eq 9, 3, 0, 0, 0), (7, .aload_n 0, 1, 0, 0, 0),
  (8, .iconst 3, 1, 0, 0, 0), (9, .invokevirtual 177, 3, 159, 1, 12), (12, .ireturn, 1, 0, 0, 0), (13, .aload_n 0, 1, 0, 0, 0),
  (14, .iconst 1, 1, 0, 0, 0), (15, .putfield 212, 3, 12, 20, 2), (18, .aload_n 0, 1, 0, 0, 0), (19, .invokevirtual 187, 3, 163, 0, 12),
  (22, .aload_n 0, 1, 0, 0, 0), (23, .aload_n 0, 1, 0, 0, 0), (24, .getfield 20, 3, 12, 21, 4), (27, .bipush 12, 2, 0, 0, 0),
  (29, .bipush 12, 2, 0, 0, 0), (31, .iconst 1, 1, 0, 0, 0), (32, .bipush 99, 2, 0, 0, 0), (34, .invokevirtual 256, 3, 170, 5, 12),
  (37, .ireturn, 1, 0, 0, 0)]
def op_X12_lawLine : List cv_Q := [
  (0, .aload_n 0, 1, 0, 0, 0), (1, .invokevirtual 187, 3, 163, 0, 12), (4, .aload_n 0, 1, 0, 0, 0), (5, .getfield 154, 3, 12, 8, 0),
  (8, .iconst 1, 1, 0, 0, 0), (9, .if_icmp .ne 16, 3, 0, 0, 0), (12, .aload_n 0, 1, 0, 0, 0), (13, .getfield 165, 3, 12, 9, 0),
  (16, .iconst 5, 1, 0, 0, 0), (17, .bipush 8, 2, 0, 0, 0), (19, .invokestatic 180, 3, 156, 3, 0), (22, .ifCond .ne 9, 3, 0, 0, 0),
  (25, .aload_n 0, 1, 0, 0, 0), (26, .iconst 1, 1, 0, 0, 0), (27, .invokevirtual 177, 3, 159, 1, 12), (30, .ireturn, 1, 0, 0, 0),
  (31, .iconst 4, 1, 0, 0, 0), (32, .aload_n 0, 1, 0, 0, 0), (33, .getfield 165, 3, 12, 9, 0), (36, .iadd, 1, 0, 0, 0),
  (37, .iconst 5, 1, 0, 0, 0), (38, .isub, 1, 0, 0, 0), (39, .istore_n 1, 1, 0, 0, 0), (40, .aload_n 0, 1, 0, 0, 0),
  (41, .getfield 29, 3, 12, 24, 4), (44, .iload_n 1, 1, 0, 0, 0), (45, .baload, 1, 0, 0, 0), (46, .ifCond .eq 9, 3, 0, 0, 0),
  (49, .aload_n 0, 1, 0, 0, 0), (50, .iconst 3, 1, 0, 0, 0), (51, .invokevirtual 177, 3, 159, 1, 12), (54, .ireturn, 1, 0, 0, 0),
  (55, .aload_n 0, 1, 0, 0, 0), (56, .getfield 29, 3, 12, 24, 4), (59, .iload_n 1, 1, 0, 0, 0), (60, .iconst 1, 1, 0, 0, 0),
  (61, .bastore, 1, 0, 0, 0), (62, .aload_n 0, 1, 0, 0, 0), (63, .invokevirtual 187, 3, 163, 0, 12), (66, .aload_n 0, 1, 0, 0, 0),
  (67, .getfield 23, 3, 12, 22, 4), (70, .iload_n 1, 1, 0, 0, 0), (71, .aload_n 0, 1, 0, 0, 0), (72, .getfield 206, 3, 12, 19, 0),
  (75, .iastore, 1, 0, 0, 0), (76, .aload_n 0, 1, 0, 0, 0), (77, .invokevirtual 260, 3, 199, 0, 12), (80, .istore_n 2, 1, 0, 0, 0),
  (81, .aload_n 0, 1, 0, 0, 0), (82, .getfield 26, 3, 12, 23, 4), (85, .iload_n 1, 1, 0, 0, 0), (86, .aload_n 0, 1, 0, 0, 0),
  (87, .getfield 206, 3, 12, 19, 0), (90, .iastore, 1, 0, 0, 0), (91, .iload_n 2, 1, 0, 0, 0), (92, .ireturn, 1, 0, 0, 0)]
def op_X12_hasWord : List cv_Q := [
  (0, .aload_n 0, 1, 0, 0, 0), (1, .getfield 154, 3, 12, 8, 0), (4, .iconst 1, 1, 0, 0, 0), (5, .if_icmp .eq 7, 3, 0, 0, 0),
  (8, .iconst (-1), 1, 0, 0, 0), (9, .goto 42, 3, 0, 0, 0), (12, .aload_n 0, 1, 0, 0, 0), (13, .getfield 165, 3, 12, 9, 0),
  (16, .bipush 9, 2, 0, 0, 0), (18, .bipush 15, 2, 0, 0, 0), (20, .invokestatic 180, 3, 156, 3, 0), (23, .ifCond .eq 13, 3, 0, 0, 0),
  (26, .aload_n 0, 1, 0, 0, 0), (27, .getfield 165, 3, 12, 9, 0), (30, .bipush 9, 2, 0, 0, 0), (32, .isub, 1, 0, 0, 0),
  (33, .goto 18, 3, 0, 0, 0), (36, .aload_n 0, 1, 0, 0, 0), (37, .getfield 165, 3, 12, 9, 0), (40, .bipush 32, 2, 0, 0, 0),
  (42, .if_icmp .ne 8, 3, 0, 0, 0), (45, .bipush 7, 2, 0, 0, 0), (47, .goto 4, 3, 0, 0, 0), (50, .iconst (-1), 1, 0, 0, 0),
  (51, .ireturn, 1, 0, 0, 0)]
def op_X12_gateLine_0 : List cv_Q := [
  (0, .aload_n 0, 1, 0, 0, 0), (1, .getfield 197, 3, 12, 16, 0), (4, .iconst 4, 1, 0, 0, 0), (5, .if_icmp .ne 9, 3, 0, 0, 0),
  (8, .aload_n 0, 1, 0, 0, 0), (9, .iconst 2, 1, 0, 0, 0), (10, .invokevirtual 177, 3, 159, 1, 12), (13, .ireturn, 1, 0, 0, 0),
  (14, .aload_n 0, 1, 0, 0, 0), (15, .invokevirtual 187, 3, 163, 0, 12), (18, .aload_n 0, 1, 0, 0, 0), (19, .aload_n 0, 1, 0, 0, 0),
  (20, .getfield 33, 3, 12, 25, 4), (23, .iconst 4, 1, 0, 0, 0), (24, .aload_n 0, 1, 0, 0, 0), (25, .getfield 197, 3, 12, 16, 0),
  (28, .invokevirtual 264, 3, 175, 3, 12), (31, .ifCond .ne 5, 3, 0, 0, 0), (34, .iconst 0, 1, 0, 0, 0), (35, .ireturn, 1, 0, 0, 0),
  (36, .bipush 64, 2, 0, 0, 0), (38, .bipush 16, 2, 0, 0, 0), (40, .aload_n 0, 1, 0, 0, 0), (41, .getfield 197, 3, 12, 16, 0),
  (44, .imul, 1, 0, 0, 0), (45, .iadd, 1, 0, 0, 0), (46, .istore_n 1, 1, 0, 0, 0), (47, .aload_n 0, 1, 0, 0, 0),
  (48, .bipush 24, 2, 0, 0, 0), (50, .sipush 144, 3, 0, 0, 0), (53, .invokevirtual 193, 3, 168, 2, 12), (56, .ifCond .ne 5, 3, 0, 0, 0),
  (59, .iconst 0, 1, 0, 0, 0), (60, .ireturn, 1, 0, 0, 0), (61, .aload_n 0, 1, 0, 0, 0), (62, .getfield 36, 3, 12, 26, 4),
  (65, .iload_n 1, 1, 0, 0, 0), (66, .aload_n 0, 1, 0, 0, 0), (67, .getfield 184, 3, 12, 11, 0), (70, .iastore, 1, 0, 0, 0),
  (71, .aload_n 0, 1, 0, 0, 0), (72, .bipush 24, 2, 0, 0, 0), (74, .bipush 72, 2, 0, 0, 0), (76, .invokevirtual 193, 3, 168, 2, 12),
  (79, .ifCond .ne 5, 3, 0, 0, 0), (82, .iconst 0, 1, 0, 0, 0), (83, .ireturn, 1, 0, 0, 0), (84, .aload_n 0, 1, 0, 0, 0),
  (85, .getfield 36, 3, 12, 26, 4), (88, .iload_n 1, 1, 0, 0, 0), (89, .iconst 1, 1, 0, 0, 0), (90, .iadd, 1, 0, 0, 0),
  (91, .aload_n 0, 1, 0, 0, 0), (92, .getfield 184, 3, 12, 11, 0), (95, .iastore, 1, 0, 0, 0), (96, .aload_n 0, 1, 0, 0, 0),
  (97, .bipush 20, 2, 0, 0, 0), (99, .sipush 400, 3, 0, 0, 0), (102, .invokevirtual 193, 3, 168, 2, 12), (105, .ifCond .ne 5, 3, 0, 0, 0)]
def op_X12_gateLine_1 : List cv_Q := [
  (108, .iconst 0, 1, 0, 0, 0), (109, .ireturn, 1, 0, 0, 0), (110, .aload_n 0, 1, 0, 0, 0), (111, .getfield 36, 3, 12, 26, 4),
  (114, .iload_n 1, 1, 0, 0, 0), (115, .iconst 2, 1, 0, 0, 0), (116, .iadd, 1, 0, 0, 0), (117, .aload_n 0, 1, 0, 0, 0),
  (118, .getfield 184, 3, 12, 11, 0), (121, .iastore, 1, 0, 0, 0), (122, .aload_n 0, 1, 0, 0, 0), (123, .getfield 36, 3, 12, 26, 4),
  (126, .iload_n 1, 1, 0, 0, 0), (127, .iconst 3, 1, 0, 0, 0), (128, .iadd, 1, 0, 0, 0), (129, .bipush 6, 2, 0, 0, 0),
  (131, .iastore, 1, 0, 0, 0), (132, .aload_n 0, 1, 0, 0, 0), (133, .getfield 36, 3, 12, 26, 4), (136, .iload_n 1, 1, 0, 0, 0),
  (137, .iconst 4, 1, 0, 0, 0), (138, .iadd, 1, 0, 0, 0), (139, .aload_n 0, 1, 0, 0, 0), (140, .getfield 36, 3, 12, 26, 4),
  (143, .iload_n 1, 1, 0, 0, 0), (144, .iconst 1, 1, 0, 0, 0), (145, .iadd, 1, 0, 0, 0), (146, .iaload, 1, 0, 0, 0),
  (147, .bipush 6, 2, 0, 0, 0), (149, .isub, 1, 0, 0, 0), (150, .iastore, 1, 0, 0, 0), (151, .aload_n 0, 1, 0, 0, 0),
  (152, .getfield 36, 3, 12, 26, 4), (155, .iload_n 1, 1, 0, 0, 0), (156, .iconst 5, 1, 0, 0, 0), (157, .iadd, 1, 0, 0, 0),
  (158, .iconst 0, 1, 0, 0, 0), (159, .iastore, 1, 0, 0, 0), (160, .aload_n 0, 1, 0, 0, 0), (161, .getfield 36, 3, 12, 26, 4),
  (164, .iload_n 1, 1, 0, 0, 0), (165, .bipush 6, 2, 0, 0, 0), (167, .iadd, 1, 0, 0, 0), (168, .iconst 0, 1, 0, 0, 0),
  (169, .iastore, 1, 0, 0, 0), (170, .aload_n 0, 1, 0, 0, 0), (171, .getfield 36, 3, 12, 26, 4), (174, .iload_n 1, 1, 0, 0, 0),
  (175, .bipush 7, 2, 0, 0, 0), (177, .iadd, 1, 0, 0, 0), (178, .bipush 36, 2, 0, 0, 0), (180, .iastore, 1, 0, 0, 0),
  (181, .aload_n 0, 1, 0, 0, 0), (182, .getfield 36, 3, 12, 26, 4), (185, .iload_n 1, 1, 0, 0, 0), (186, .bipush 8, 2, 0, 0, 0),
  (188, .iadd, 1, 0, 0, 0), (189, .bipush 8, 2, 0, 0, 0), (191, .iastore, 1, 0, 0, 0), (192, .aload_n 0, 1, 0, 0, 0)]
def op_X12_gateLine_2 : List cv_Q := [
  (193, .getfield 36, 3, 12, 26, 4), (196, .iload_n 1, 1, 0, 0, 0), (197, .bipush 9, 2, 0, 0, 0), (199, .iadd, 1, 0, 0, 0),
  (200, .iconst 0, 1, 0, 0, 0), (201, .iastore, 1, 0, 0, 0), (202, .aload_n 0, 1, 0, 0, 0), (203, .getfield 36, 3, 12, 26, 4),
  (206, .iload_n 1, 1, 0, 0, 0), (207, .bipush 10, 2, 0, 0, 0), (209, .iadd, 1, 0, 0, 0), (210, .sipush 1000, 3, 0, 0, 0),
  (213, .iastore, 1, 0, 0, 0), (214, .aload_n 0, 1, 0, 0, 0), (215, .getfield 36, 3, 12, 26, 4), (218, .iload_n 1, 1, 0, 0, 0),
  (219, .bipush 11, 2, 0, 0, 0), (221, .iadd, 1, 0, 0, 0), (222, .sipush 1000, 3, 0, 0, 0), (225, .iastore, 1, 0, 0, 0),
  (226, .aload_n 0, 1, 0, 0, 0), (227, .getfield 36, 3, 12, 26, 4), (230, .iload_n 1, 1, 0, 0, 0), (231, .bipush 12, 2, 0, 0, 0),
  (233, .iadd, 1, 0, 0, 0), (234, .iconst 0, 1, 0, 0, 0), (235, .iastore, 1, 0, 0, 0), (236, .aload_n 0, 1, 0, 0, 0),
  (237, .getfield 36, 3, 12, 26, 4), (240, .iload_n 1, 1, 0, 0, 0), (241, .bipush 13, 2, 0, 0, 0), (243, .iadd, 1, 0, 0, 0),
  (244, .sipush 3000, 3, 0, 0, 0), (247, .iastore, 1, 0, 0, 0), (248, .aload_n 0, 1, 0, 0, 0), (249, .getfield 36, 3, 12, 26, 4),
  (252, .iload_n 1, 1, 0, 0, 0), (253, .bipush 14, 2, 0, 0, 0), (255, .iadd, 1, 0, 0, 0), (256, .iconst 0, 1, 0, 0, 0),
  (257, .iastore, 1, 0, 0, 0), (258, .iconst 0, 1, 0, 0, 0), (259, .istore_n 2, 1, 0, 0, 0), (260, .iload_n 2, 1, 0, 0, 0),
  (261, .bipush 9, 2, 0, 0, 0), (263, .if_icmp .ge 27, 3, 0, 0, 0), (266, .aload_n 0, 1, 0, 0, 0), (267, .getfield 39, 3, 12, 27, 4),
  (270, .bipush 36, 2, 0, 0, 0), (272, .bipush 9, 2, 0, 0, 0), (274, .aload_n 0, 1, 0, 0, 0), (275, .getfield 197, 3, 12, 16, 0),
  (278, .imul, 1, 0, 0, 0), (279, .iadd, 1, 0, 0, 0), (280, .iload_n 2, 1, 0, 0, 0), (281, .iadd, 1, 0, 0, 0),
  (282, .iconst 0, 1, 0, 0, 0), (283, .iastore, 1, 0, 0, 0), (284, .iinc 2 1, 3, 0, 0, 0), (287, .goto (-27), 3, 0, 0, 0)]
def op_X12_gateLine_3 : List cv_Q := [
  (290, .iconst 0, 1, 0, 0, 0), (291, .istore_n 2, 1, 0, 0, 0), (292, .aload_n 0, 1, 0, 0, 0), (293, .invokevirtual 268, 3, 178, 0, 12),
  (296, .istore_n 3, 1, 0, 0, 0), (297, .iload_n 3, 1, 0, 0, 0), (298, .ifCond .lt 52, 3, 0, 0, 0), (301, .iload_n 3, 1, 0, 0, 0),
  (302, .bipush 6, 2, 0, 0, 0), (304, .if_icmp .eq 17, 3, 0, 0, 0), (307, .iload_n 2, 1, 0, 0, 0), (308, .iload_n 3, 1, 0, 0, 0),
  (309, .invokestatic 272, 3, 157, 2, 0), (312, .ifCond .eq 9, 3, 0, 0, 0), (315, .aload_n 0, 1, 0, 0, 0), (316, .iconst 3, 1, 0, 0, 0),
  (317, .invokevirtual 177, 3, 159, 1, 12), (320, .ireturn, 1, 0, 0, 0), (321, .iload_n 2, 1, 0, 0, 0), (322, .iconst 1, 1, 0, 0, 0),
  (323, .iload_n 3, 1, 0, 0, 0), (324, .ishl, 1, 0, 0, 0), (325, .ior, 1, 0, 0, 0), (326, .istore_n 2, 1, 0, 0, 0),
  (327, .aload_n 0, 1, 0, 0, 0), (328, .invokevirtual 187, 3, 163, 0, 12), (331, .aload_n 0, 1, 0, 0, 0), (332, .iload_n 1, 1, 0, 0, 0),
  (333, .iload_n 3, 1, 0, 0, 0), (334, .invokevirtual 275, 3, 180, 2, 12), (337, .ifCond .ne 5, 3, 0, 0, 0), (340, .iconst 0, 1, 0, 0, 0),
  (341, .ireturn, 1, 0, 0, 0), (342, .aload_n 0, 1, 0, 0, 0), (343, .invokevirtual 268, 3, 178, 0, 12), (346, .istore_n 3, 1, 0, 0, 0),
  (347, .goto (-50), 3, 0, 0, 0), (350, .aload_n 0, 1, 0, 0, 0), (351, .dup, 1, 0, 0, 0), (352, .getfield 197, 3, 12, 16, 0),
  (355, .iconst 1, 1, 0, 0, 0), (356, .iadd, 1, 0, 0, 0), (357, .putfield 197, 3, 12, 16, 0), (360, .iconst 1, 1, 0, 0, 0),
  (361, .ireturn, 1, 0, 0, 0)]
def op_X12_gateLine : List cv_Q := op_X12_gateLine_0 ++ (op_X12_gateLine_1 ++ (op_X12_gateLine_2 ++ (op_X12_gateLine_3)))
def op_X12_hasRead_0 : List cv_Q := [
  (0, .iload_n 2, 1, 0, 0, 0), (1, .tableswitch 212 0 6 #[43, 49, 92, 145, 163, 181, 206], 43, 0, 0, 0), (44, .aload_n 0, 1, 0, 0, 0), (45, .iload_n 1, 1, 0, 0, 0),
  (46, .invokevirtual 278, 3, 181, 1, 12), (49, .ireturn, 1, 0, 0, 0), (50, .aload_n 0, 1, 0, 0, 0), (51, .bipush 12, 2, 0, 0, 0),
  (53, .bipush 60, 2, 0, 0, 0), (55, .invokevirtual 193, 3, 168, 2, 12), (58, .ifCond .ne 5, 3, 0, 0, 0), (61, .iconst 0, 1, 0, 0, 0),
  (62, .ireturn, 1, 0, 0, 0), (63, .aload_n 0, 1, 0, 0, 0), (64, .getfield 36, 3, 12, 26, 4), (67, .iload_n 1, 1, 0, 0, 0),
  (68, .bipush 7, 2, 0, 0, 0), (70, .iadd, 1, 0, 0, 0), (71, .aload_n 0, 1, 0, 0, 0), (72, .getfield 184, 3, 12, 11, 0),
  (75, .iastore, 1, 0, 0, 0), (76, .aload_n 0, 1, 0, 0, 0), (77, .aload_n 0, 1, 0, 0, 0), (78, .getfield 36, 3, 12, 26, 4),
  (81, .iload_n 1, 1, 0, 0, 0), (82, .bipush 8, 2, 0, 0, 0), (84, .iadd, 1, 0, 0, 0), (85, .iconst 1, 1, 0, 0, 0),
  (86, .iconst 3, 1, 0, 0, 0), (87, .bipush 14, 2, 0, 0, 0), (89, .invokevirtual 256, 3, 170, 5, 12), (92, .ireturn, 1, 0, 0, 0),
  (93, .aload_n 0, 1, 0, 0, 0), (94, .bipush 28, 2, 0, 0, 0), (96, .invokevirtual 281, 3, 166, 1, 12), (99, .ifCond .ne 18, 3, 0, 0, 0),
  (102, .aload_n 0, 1, 0, 0, 0), (103, .bipush 29, 2, 0, 0, 0), (105, .invokevirtual 281, 3, 166, 1, 12), (108, .ifCond .ne 9, 3, 0, 0, 0),
  (111, .aload_n 0, 1, 0, 0, 0), (112, .iconst 1, 1, 0, 0, 0), (113, .invokevirtual 177, 3, 159, 1, 12), (116, .ireturn, 1, 0, 0, 0),
  (117, .aload_n 0, 1, 0, 0, 0), (118, .getfield 36, 3, 12, 26, 4), (121, .iload_n 1, 1, 0, 0, 0), (122, .bipush 9, 2, 0, 0, 0),
  (124, .iadd, 1, 0, 0, 0), (125, .aload_n 0, 1, 0, 0, 0), (126, .bipush 28, 2, 0, 0, 0), (128, .invokevirtual 281, 3, 166, 1, 12),
  (131, .ifCond .eq 7, 3, 0, 0, 0), (134, .iconst 1, 1, 0, 0, 0), (135, .goto 4, 3, 0, 0, 0), (138, .iconst 2, 1, 0, 0, 0),
  (139, .iastore, 1, 0, 0, 0), (140, .aload_n 0, 1, 0, 0, 0), (141, .invokevirtual 187, 3, 163, 0, 12), (144, .iconst 1, 1, 0, 0, 0)]
def op_X12_hasRead_1 : List cv_Q := [
  (145, .ireturn, 1, 0, 0, 0), (146, .aload_n 0, 1, 0, 0, 0), (147, .aload_n 0, 1, 0, 0, 0), (148, .getfield 36, 3, 12, 26, 4),
  (151, .iload_n 1, 1, 0, 0, 0), (152, .bipush 10, 2, 0, 0, 0), (154, .iadd, 1, 0, 0, 0), (155, .iconst 2, 1, 0, 0, 0),
  (156, .iconst 0, 1, 0, 0, 0), (157, .sipush 9999, 3, 0, 0, 0), (160, .invokevirtual 256, 3, 170, 5, 12), (163, .ireturn, 1, 0, 0, 0),
  (164, .aload_n 0, 1, 0, 0, 0), (165, .aload_n 0, 1, 0, 0, 0), (166, .getfield 36, 3, 12, 26, 4), (169, .iload_n 1, 1, 0, 0, 0),
  (170, .bipush 13, 2, 0, 0, 0), (172, .iadd, 1, 0, 0, 0), (173, .iconst 1, 1, 0, 0, 0), (174, .iconst 0, 1, 0, 0, 0),
  (175, .sipush 9999, 3, 0, 0, 0), (178, .invokevirtual 256, 3, 170, 5, 12), (181, .ireturn, 1, 0, 0, 0), (182, .aload_n 0, 1, 0, 0, 0),
  (183, .aload_n 0, 1, 0, 0, 0), (184, .getfield 39, 3, 12, 27, 4), (187, .bipush 36, 2, 0, 0, 0), (189, .bipush 9, 2, 0, 0, 0),
  (191, .aload_n 0, 1, 0, 0, 0), (192, .getfield 197, 3, 12, 16, 0), (195, .imul, 1, 0, 0, 0), (196, .iadd, 1, 0, 0, 0),
  (197, .bipush 9, 2, 0, 0, 0), (199, .iconst 0, 1, 0, 0, 0), (200, .sipush 200, 3, 0, 0, 0), (203, .invokevirtual 256, 3, 170, 5, 12),
  (206, .ireturn, 1, 0, 0, 0), (207, .aload_n 0, 1, 0, 0, 0), (208, .iload_n 1, 1, 0, 0, 0), (209, .invokevirtual 284, 3, 182, 1, 12),
  (212, .ireturn, 1, 0, 0, 0), (213, .aload_n 0, 1, 0, 0, 0), (214, .aload_n 0, 1, 0, 0, 0), (215, .getfield 36, 3, 12, 26, 4),
  (218, .iload_n 1, 1, 0, 0, 0), (219, .bipush 12, 2, 0, 0, 0), (221, .iadd, 1, 0, 0, 0), (222, .iconst 1, 1, 0, 0, 0),
  (223, .iconst 0, 1, 0, 0, 0), (224, .sipush 200, 3, 0, 0, 0), (227, .invokevirtual 256, 3, 170, 5, 12), (230, .ireturn, 1, 0, 0, 0)]
def op_X12_hasRead : List cv_Q := op_X12_hasRead_0 ++ (op_X12_hasRead_1)
def op_X12_hooksRead_0 : List cv_Q := [
  (0, .aload_n 0, 1, 0, 0, 0), (1, .iconst 0, 1, 0, 0, 0), (2, .aload_n 0, 1, 0, 0, 0), (3, .getfield 36, 3, 12, 26, 4),
  (6, .iload_n 1, 1, 0, 0, 0), (7, .iconst 1, 1, 0, 0, 0), (8, .iadd, 1, 0, 0, 0), (9, .iaload, 1, 0, 0, 0),
  (10, .invokevirtual 193, 3, 168, 2, 12), (13, .ifCond .ne 5, 3, 0, 0, 0), (16, .iconst 0, 1, 0, 0, 0), (17, .ireturn, 1, 0, 0, 0),
  (18, .aload_n 0, 1, 0, 0, 0), (19, .getfield 36, 3, 12, 26, 4), (22, .iload_n 1, 1, 0, 0, 0), (23, .iconst 3, 1, 0, 0, 0),
  (24, .iadd, 1, 0, 0, 0), (25, .aload_n 0, 1, 0, 0, 0), (26, .getfield 184, 3, 12, 11, 0), (29, .iastore, 1, 0, 0, 0),
  (30, .aload_n 0, 1, 0, 0, 0), (31, .aload_n 0, 1, 0, 0, 0), (32, .getfield 184, 3, 12, 11, 0), (35, .iconst 1, 1, 0, 0, 0),
  (36, .iadd, 1, 0, 0, 0), (37, .aload_n 0, 1, 0, 0, 0), (38, .getfield 36, 3, 12, 26, 4), (41, .iload_n 1, 1, 0, 0, 0),
  (42, .iconst 1, 1, 0, 0, 0), (43, .iadd, 1, 0, 0, 0), (44, .iaload, 1, 0, 0, 0), (45, .invokevirtual 193, 3, 168, 2, 12),
  (48, .ifCond .ne 5, 3, 0, 0, 0), (51, .iconst 0, 1, 0, 0, 0), (52, .ireturn, 1, 0, 0, 0), (53, .aload_n 0, 1, 0, 0, 0),
  (54, .getfield 36, 3, 12, 26, 4), (57, .iload_n 1, 1, 0, 0, 0), (58, .iconst 4, 1, 0, 0, 0), (59, .iadd, 1, 0, 0, 0),
  (60, .aload_n 0, 1, 0, 0, 0), (61, .getfield 184, 3, 12, 11, 0), (64, .iastore, 1, 0, 0, 0), (65, .aload_n 0, 1, 0, 0, 0),
  (66, .bipush 30, 2, 0, 0, 0), (68, .invokevirtual 287, 3, 169, 1, 12), (71, .ifCond .ne 5, 3, 0, 0, 0), (74, .iconst 0, 1, 0, 0, 0),
  (75, .ireturn, 1, 0, 0, 0), (76, .aload_n 0, 1, 0, 0, 0), (77, .getfield 36, 3, 12, 26, 4), (80, .iload_n 1, 1, 0, 0, 0),
  (81, .iconst 5, 1, 0, 0, 0), (82, .iadd, 1, 0, 0, 0), (83, .aload_n 0, 1, 0, 0, 0), (84, .getfield 184, 3, 12, 11, 0),
  (87, .iastore, 1, 0, 0, 0), (88, .aload_n 0, 1, 0, 0, 0), (89, .bipush 30, 2, 0, 0, 0), (91, .invokevirtual 287, 3, 169, 1, 12)]
def op_X12_hooksRead_1 : List cv_Q := [
  (94, .ifCond .ne 5, 3, 0, 0, 0), (97, .iconst 0, 1, 0, 0, 0), (98, .ireturn, 1, 0, 0, 0), (99, .aload_n 0, 1, 0, 0, 0),
  (100, .getfield 36, 3, 12, 26, 4), (103, .iload_n 1, 1, 0, 0, 0), (104, .bipush 6, 2, 0, 0, 0), (106, .iadd, 1, 0, 0, 0),
  (107, .aload_n 0, 1, 0, 0, 0), (108, .getfield 184, 3, 12, 11, 0), (111, .iastore, 1, 0, 0, 0), (112, .iconst 1, 1, 0, 0, 0),
  (113, .ireturn, 1, 0, 0, 0)]
def op_X12_hooksRead : List cv_Q := op_X12_hooksRead_0 ++ (op_X12_hooksRead_1)
def op_X12_causeRead : List cv_Q := [
  (0, .aload_n 0, 1, 0, 0, 0), (1, .getfield 154, 3, 12, 8, 0), (4, .iconst 2, 1, 0, 0, 0), (5, .if_icmp .eq 9, 3, 0, 0, 0),
  (8, .aload_n 0, 1, 0, 0, 0), (9, .iconst 1, 1, 0, 0, 0), (10, .invokevirtual 177, 3, 159, 1, 12), (13, .ireturn, 1, 0, 0, 0),
  (14, .aload_n 0, 1, 0, 0, 0), (15, .getfield 48, 3, 12, 30, 4), (18, .bipush 6, 2, 0, 0, 0), (20, .aload_n 0, 1, 0, 0, 0),
  (21, .getfield 203, 3, 12, 18, 0), (24, .aload_n 0, 1, 0, 0, 0), (25, .getfield 165, 3, 12, 9, 0), (28, .invokestatic 252, 3, 174, 4, 0),
  (31, .istore_n 2, 1, 0, 0, 0), (32, .iload_n 2, 1, 0, 0, 0), (33, .ifCond .ge 9, 3, 0, 0, 0), (36, .aload_n 0, 1, 0, 0, 0),
  (37, .iconst 4, 1, 0, 0, 0), (38, .invokevirtual 177, 3, 159, 1, 12), (41, .ireturn, 1, 0, 0, 0), (42, .aload_n 0, 1, 0, 0, 0),
  (43, .getfield 36, 3, 12, 26, 4), (46, .iload_n 1, 1, 0, 0, 0), (47, .bipush 14, 2, 0, 0, 0), (49, .iadd, 1, 0, 0, 0),
  (50, .iaload, 1, 0, 0, 0), (51, .iload_n 2, 1, 0, 0, 0), (52, .invokestatic 272, 3, 157, 2, 0), (55, .ifCond .eq 9, 3, 0, 0, 0),
  (58, .aload_n 0, 1, 0, 0, 0), (59, .iconst 3, 1, 0, 0, 0), (60, .invokevirtual 177, 3, 159, 1, 12), (63, .ireturn, 1, 0, 0, 0),
  (64, .aload_n 0, 1, 0, 0, 0), (65, .getfield 36, 3, 12, 26, 4), (68, .iload_n 1, 1, 0, 0, 0), (69, .bipush 14, 2, 0, 0, 0),
  (71, .iadd, 1, 0, 0, 0), (72, .dup2, 1, 0, 0, 0), (73, .iaload, 1, 0, 0, 0), (74, .iconst 1, 1, 0, 0, 0),
  (75, .iload_n 2, 1, 0, 0, 0), (76, .ishl, 1, 0, 0, 0), (77, .ior, 1, 0, 0, 0), (78, .iastore, 1, 0, 0, 0),
  (79, .aload_n 0, 1, 0, 0, 0), (80, .invokevirtual 187, 3, 163, 0, 12), (83, .iconst 1, 1, 0, 0, 0), (84, .ireturn, 1, 0, 0, 0)]
def op_X12_workWord : List cv_Q := [
  (0, .aload_n 0, 1, 0, 0, 0), (1, .getfield 154, 3, 12, 8, 0), (4, .iconst 1, 1, 0, 0, 0), (5, .if_icmp .eq 5, 3, 0, 0, 0),
  (8, .iconst (-1), 1, 0, 0, 0), (9, .ireturn, 1, 0, 0, 0), (10, .aload_n 0, 1, 0, 0, 0), (11, .getfield 165, 3, 12, 9, 0),
  (14, .bipush 11, 2, 0, 0, 0), (16, .if_icmp .ne 7, 3, 0, 0, 0), (19, .iconst 0, 1, 0, 0, 0), (20, .goto 57, 3, 0, 0, 0),
  (23, .aload_n 0, 1, 0, 0, 0), (24, .getfield 165, 3, 12, 9, 0), (27, .bipush 10, 2, 0, 0, 0), (29, .if_icmp .ne 7, 3, 0, 0, 0),
  (32, .iconst 5, 1, 0, 0, 0), (33, .goto 44, 3, 0, 0, 0), (36, .aload_n 0, 1, 0, 0, 0), (37, .getfield 165, 3, 12, 9, 0),
  (40, .bipush 20, 2, 0, 0, 0), (42, .if_icmp .ne 8, 3, 0, 0, 0), (45, .bipush 6, 2, 0, 0, 0), (47, .goto 30, 3, 0, 0, 0),
  (50, .aload_n 0, 1, 0, 0, 0), (51, .getfield 165, 3, 12, 9, 0), (54, .bipush 16, 2, 0, 0, 0), (56, .bipush 19, 2, 0, 0, 0),
  (58, .invokestatic 180, 3, 156, 3, 0), (61, .ifCond .eq 15, 3, 0, 0, 0), (64, .aload_n 0, 1, 0, 0, 0), (65, .getfield 165, 3, 12, 9, 0),
  (68, .bipush 16, 2, 0, 0, 0), (70, .isub, 1, 0, 0, 0), (71, .iconst 1, 1, 0, 0, 0), (72, .iadd, 1, 0, 0, 0),
  (73, .goto 4, 3, 0, 0, 0), (76, .iconst (-1), 1, 0, 0, 0), (77, .ireturn, 1, 0, 0, 0)]
def op_X12_mostOf : List cv_Q := [
  (0, .iload_n 0, 1, 0, 0, 0), (1, .iconst 3, 1, 0, 0, 0), (2, .if_icmp .ne 8, 3, 0, 0, 0), (5, .bipush 100, 2, 0, 0, 0),
  (7, .goto 26, 3, 0, 0, 0), (10, .iload_n 0, 1, 0, 0, 0), (11, .iconst 4, 1, 0, 0, 0), (12, .if_icmp .ne 8, 3, 0, 0, 0),
  (15, .bipush 99, 2, 0, 0, 0), (17, .goto 16, 3, 0, 0, 0), (20, .iload_n 0, 1, 0, 0, 0), (21, .iconst 5, 1, 0, 0, 0),
  (22, .if_icmp .ne 8, 3, 0, 0, 0), (25, .bipush 60, 2, 0, 0, 0), (27, .goto 6, 3, 0, 0, 0), (30, .sipush 9999, 3, 0, 0, 0),
  (33, .ireturn, 1, 0, 0, 0)]
def op_X12_workLine_0 : List cv_Q := [
  (0, .aload_n 0, 1, 0, 0, 0), (1, .getfield 200, 3, 12, 17, 0), (4, .bipush 6, 2, 0, 0, 0), (6, .if_icmp .ne 9, 3, 0, 0, 0),
  (9, .aload_n 0, 1, 0, 0, 0), (10, .iconst 2, 1, 0, 0, 0), (11, .invokevirtual 177, 3, 159, 1, 12), (14, .ireturn, 1, 0, 0, 0),
  (15, .aload_n 0, 1, 0, 0, 0), (16, .invokevirtual 187, 3, 163, 0, 12), (19, .aload_n 0, 1, 0, 0, 0), (20, .aload_n 0, 1, 0, 0, 0),
  (21, .getfield 42, 3, 12, 28, 4), (24, .bipush 6, 2, 0, 0, 0), (26, .aload_n 0, 1, 0, 0, 0), (27, .getfield 200, 3, 12, 17, 0),
  (30, .invokevirtual 264, 3, 175, 3, 12), (33, .ifCond .eq 14, 3, 0, 0, 0), (36, .aload_n 0, 1, 0, 0, 0), (37, .iconst 1, 1, 0, 0, 0),
  (38, .sipush 999, 3, 0, 0, 0), (41, .invokevirtual 193, 3, 168, 2, 12), (44, .ifCond .ne 5, 3, 0, 0, 0), (47, .iconst 0, 1, 0, 0, 0),
  (48, .ireturn, 1, 0, 0, 0), (49, .bipush 18, 2, 0, 0, 0), (51, .iconst 3, 1, 0, 0, 0), (52, .aload_n 0, 1, 0, 0, 0),
  (53, .getfield 200, 3, 12, 17, 0), (56, .imul, 1, 0, 0, 0), (57, .iadd, 1, 0, 0, 0), (58, .istore_n 1, 1, 0, 0, 0),
  (59, .aload_n 0, 1, 0, 0, 0), (60, .getfield 45, 3, 12, 29, 4), (63, .iload_n 1, 1, 0, 0, 0), (64, .aload_n 0, 1, 0, 0, 0),
  (65, .getfield 184, 3, 12, 11, 0), (68, .iastore, 1, 0, 0, 0), (69, .aload_n 0, 1, 0, 0, 0), (70, .invokevirtual 290, 3, 183, 0, 12),
  (73, .istore_n 2, 1, 0, 0, 0), (74, .iload_n 2, 1, 0, 0, 0), (75, .ifCond .ge 9, 3, 0, 0, 0), (78, .aload_n 0, 1, 0, 0, 0),
  (79, .iconst 1, 1, 0, 0, 0), (80, .invokevirtual 177, 3, 159, 1, 12), (83, .ireturn, 1, 0, 0, 0), (84, .aload_n 0, 1, 0, 0, 0),
  (85, .getfield 45, 3, 12, 29, 4), (88, .iload_n 1, 1, 0, 0, 0), (89, .iconst 1, 1, 0, 0, 0), (90, .iadd, 1, 0, 0, 0),
  (91, .iload_n 2, 1, 0, 0, 0), (92, .iastore, 1, 0, 0, 0), (93, .aload_n 0, 1, 0, 0, 0), (94, .getfield 45, 3, 12, 29, 4),
  (97, .iload_n 1, 1, 0, 0, 0), (98, .iconst 2, 1, 0, 0, 0), (99, .iadd, 1, 0, 0, 0), (100, .iconst 0, 1, 0, 0, 0)]
def op_X12_workLine_1 : List cv_Q := [
  (101, .iastore, 1, 0, 0, 0), (102, .aload_n 0, 1, 0, 0, 0), (103, .invokevirtual 187, 3, 163, 0, 12), (106, .iload_n 2, 1, 0, 0, 0),
  (107, .iconst 1, 1, 0, 0, 0), (108, .if_icmp .le 29, 3, 0, 0, 0), (111, .aload_n 0, 1, 0, 0, 0), (112, .iconst 0, 1, 0, 0, 0),
  (113, .iload_n 2, 1, 0, 0, 0), (114, .invokestatic 293, 3, 184, 1, 0), (117, .invokevirtual 193, 3, 168, 2, 12), (120, .ifCond .ne 5, 3, 0, 0, 0),
  (123, .iconst 0, 1, 0, 0, 0), (124, .ireturn, 1, 0, 0, 0), (125, .aload_n 0, 1, 0, 0, 0), (126, .getfield 45, 3, 12, 29, 4),
  (129, .iload_n 1, 1, 0, 0, 0), (130, .iconst 2, 1, 0, 0, 0), (131, .iadd, 1, 0, 0, 0), (132, .aload_n 0, 1, 0, 0, 0),
  (133, .getfield 184, 3, 12, 11, 0), (136, .iastore, 1, 0, 0, 0), (137, .aload_n 0, 1, 0, 0, 0), (138, .dup, 1, 0, 0, 0),
  (139, .getfield 200, 3, 12, 17, 0), (142, .iconst 1, 1, 0, 0, 0), (143, .iadd, 1, 0, 0, 0), (144, .putfield 200, 3, 12, 17, 0),
  (147, .iconst 1, 1, 0, 0, 0), (148, .ireturn, 1, 0, 0, 0)]
def op_X12_workLine : List cv_Q := op_X12_workLine_0 ++ (op_X12_workLine_1)
def op_X12_causeLine_0 : List cv_Q := [
  (0, .aload_n 0, 1, 0, 0, 0), (1, .getfield 203, 3, 12, 18, 0), (4, .bipush 6, 2, 0, 0, 0), (6, .if_icmp .ne 9, 3, 0, 0, 0),
  (9, .aload_n 0, 1, 0, 0, 0), (10, .iconst 2, 1, 0, 0, 0), (11, .invokevirtual 177, 3, 159, 1, 12), (14, .ireturn, 1, 0, 0, 0),
  (15, .aload_n 0, 1, 0, 0, 0), (16, .invokevirtual 187, 3, 163, 0, 12), (19, .aload_n 0, 1, 0, 0, 0), (20, .aload_n 0, 1, 0, 0, 0),
  (21, .getfield 48, 3, 12, 30, 4), (24, .bipush 6, 2, 0, 0, 0), (26, .aload_n 0, 1, 0, 0, 0), (27, .getfield 203, 3, 12, 18, 0),
  (30, .invokevirtual 264, 3, 175, 3, 12), (33, .ifCond .eq 13, 3, 0, 0, 0), (36, .aload_n 0, 1, 0, 0, 0), (37, .iconst 1, 1, 0, 0, 0),
  (38, .bipush 99, 2, 0, 0, 0), (40, .invokevirtual 193, 3, 168, 2, 12), (43, .ifCond .ne 5, 3, 0, 0, 0), (46, .iconst 0, 1, 0, 0, 0),
  (47, .ireturn, 1, 0, 0, 0), (48, .bipush 18, 2, 0, 0, 0), (50, .iconst 3, 1, 0, 0, 0), (51, .aload_n 0, 1, 0, 0, 0),
  (52, .getfield 203, 3, 12, 18, 0), (55, .imul, 1, 0, 0, 0), (56, .iadd, 1, 0, 0, 0), (57, .istore_n 1, 1, 0, 0, 0),
  (58, .aload_n 0, 1, 0, 0, 0), (59, .getfield 51, 3, 12, 31, 4), (62, .iload_n 1, 1, 0, 0, 0), (63, .aload_n 0, 1, 0, 0, 0),
  (64, .getfield 184, 3, 12, 11, 0), (67, .iastore, 1, 0, 0, 0), (68, .aload_n 0, 1, 0, 0, 0), (69, .getfield 154, 3, 12, 8, 0),
  (72, .iconst 1, 1, 0, 0, 0), (73, .if_icmp .ne 16, 3, 0, 0, 0), (76, .aload_n 0, 1, 0, 0, 0), (77, .getfield 165, 3, 12, 9, 0),
  (80, .iconst 5, 1, 0, 0, 0), (81, .bipush 7, 2, 0, 0, 0), (83, .invokestatic 180, 3, 156, 3, 0), (86, .ifCond .ne 9, 3, 0, 0, 0),
  (89, .aload_n 0, 1, 0, 0, 0), (90, .iconst 1, 1, 0, 0, 0), (91, .invokevirtual 177, 3, 159, 1, 12), (94, .ireturn, 1, 0, 0, 0),
  (95, .aload_n 0, 1, 0, 0, 0), (96, .getfield 51, 3, 12, 31, 4), (99, .iload_n 1, 1, 0, 0, 0), (100, .iconst 1, 1, 0, 0, 0),
  (101, .iadd, 1, 0, 0, 0), (102, .aload_n 0, 1, 0, 0, 0), (103, .getfield 165, 3, 12, 9, 0), (106, .iconst 5, 1, 0, 0, 0)]
def op_X12_causeLine_1 : List cv_Q := [
  (107, .isub, 1, 0, 0, 0), (108, .iastore, 1, 0, 0, 0), (109, .aload_n 0, 1, 0, 0, 0), (110, .invokevirtual 187, 3, 163, 0, 12),
  (113, .aload_n 0, 1, 0, 0, 0), (114, .iconst 1, 1, 0, 0, 0), (115, .sipush 999, 3, 0, 0, 0), (118, .invokevirtual 193, 3, 168, 2, 12),
  (121, .ifCond .ne 5, 3, 0, 0, 0), (124, .iconst 0, 1, 0, 0, 0), (125, .ireturn, 1, 0, 0, 0), (126, .aload_n 0, 1, 0, 0, 0),
  (127, .getfield 51, 3, 12, 31, 4), (130, .iload_n 1, 1, 0, 0, 0), (131, .iconst 2, 1, 0, 0, 0), (132, .iadd, 1, 0, 0, 0),
  (133, .aload_n 0, 1, 0, 0, 0), (134, .getfield 184, 3, 12, 11, 0), (137, .iastore, 1, 0, 0, 0), (138, .aload_n 0, 1, 0, 0, 0),
  (139, .dup, 1, 0, 0, 0), (140, .getfield 203, 3, 12, 18, 0), (143, .iconst 1, 1, 0, 0, 0), (144, .iadd, 1, 0, 0, 0),
  (145, .putfield 203, 3, 12, 18, 0), (148, .iconst 1, 1, 0, 0, 0), (149, .ireturn, 1, 0, 0, 0)]
def op_X12_causeLine : List cv_Q := op_X12_causeLine_0 ++ (op_X12_causeLine_1)
def op_X12_lineRead : List cv_Q := [
  (0, .aload_n 0, 1, 0, 0, 0), (1, .getfield 154, 3, 12, 8, 0), (4, .iconst 1, 1, 0, 0, 0), (5, .if_icmp .ne 11, 3, 0, 0, 0),
  (8, .aload_n 0, 1, 0, 0, 0), (9, .getfield 165, 3, 12, 9, 0), (12, .iconst 4, 1, 0, 0, 0), (13, .if_icmp .le 9, 3, 0, 0, 0),
  (16, .aload_n 0, 1, 0, 0, 0), (17, .iconst 1, 1, 0, 0, 0), (18, .invokevirtual 177, 3, 159, 1, 12), (21, .ireturn, 1, 0, 0, 0),
  (22, .aload_n 0, 1, 0, 0, 0), (23, .getfield 165, 3, 12, 9, 0), (26, .tableswitch 62 0 3 #[30, 38, 46, 54], 30, 0, 0, 0), (56, .aload_n 0, 1, 0, 0, 0),
  (57, .invokevirtual 297, 3, 176, 0, 12), (60, .istore_n 1, 1, 0, 0, 0), (61, .goto 32, 3, 0, 0, 0), (64, .aload_n 0, 1, 0, 0, 0),
  (65, .invokevirtual 300, 3, 177, 0, 12), (68, .istore_n 1, 1, 0, 0, 0), (69, .goto 24, 3, 0, 0, 0), (72, .aload_n 0, 1, 0, 0, 0),
  (73, .invokevirtual 303, 3, 179, 0, 12), (76, .istore_n 1, 1, 0, 0, 0), (77, .goto 16, 3, 0, 0, 0), (80, .aload_n 0, 1, 0, 0, 0),
  (81, .invokevirtual 306, 3, 185, 0, 12), (84, .istore_n 1, 1, 0, 0, 0), (85, .goto 8, 3, 0, 0, 0), (88, .aload_n 0, 1, 0, 0, 0),
  (89, .invokevirtual 309, 3, 186, 0, 12), (92, .istore_n 1, 1, 0, 0, 0), (93, .iload_n 1, 1, 0, 0, 0), (94, .ifCond .ne 5, 3, 0, 0, 0),
  (97, .iconst 0, 1, 0, 0, 0), (98, .ireturn, 1, 0, 0, 0), (99, .aload_n 0, 1, 0, 0, 0), (100, .bipush 59, 2, 0, 0, 0),
  (102, .invokevirtual 190, 3, 167, 1, 12), (105, .ifCond .ne 9, 3, 0, 0, 0), (108, .aload_n 0, 1, 0, 0, 0), (109, .iconst 1, 1, 0, 0, 0),
  (110, .invokevirtual 177, 3, 159, 1, 12), (113, .ireturn, 1, 0, 0, 0), (114, .aload_n 0, 1, 0, 0, 0), (115, .invokevirtual 187, 3, 163, 0, 12),
  (118, .iconst 1, 1, 0, 0, 0), (119, .ireturn, 1, 0, 0, 0)]
def op_X12_text : List cv_Q := [
  (0, .aload_n 0, 1, 0, 0, 0), (1, .iconst 0, 1, 0, 0, 0), (2, .putfield 136, 3, 12, 2, 0), (5, .iload_n 1, 1, 0, 0, 0),
  (6, .ifCond .lt 11, 3, 0, 0, 0), (9, .iload_n 1, 1, 0, 0, 0), (10, .aload_n 0, 1, 0, 0, 0), (11, .getfield 139, 3, 12, 1, 0),
  (14, .if_icmp .le 6, 3, 0, 0, 0), (17, .bipush (-2), 2, 0, 0, 0), (19, .ireturn, 1, 0, 0, 0), (20, .aload_n 0, 1, 0, 0, 0),
  (21, .iload_n 1, 1, 0, 0, 0), (22, .putfield 148, 3, 12, 6, 0), (25, .aload_n 0, 1, 0, 0, 0), (26, .iconst 0, 1, 0, 0, 0),
  (27, .putfield 139, 3, 12, 1, 0), (30, .aload_n 0, 1, 0, 0, 0), (31, .iconst 0, 1, 0, 0, 0), (32, .putfield 142, 3, 12, 4, 0),
  (35, .aload_n 0, 1, 0, 0, 0), (36, .iconst (-1), 1, 0, 0, 0), (37, .putfield 16, 3, 12, 5, 0), (40, .aload_n 0, 1, 0, 0, 0),
  (41, .iconst 0, 1, 0, 0, 0), (42, .putfield 151, 3, 12, 7, 0), (45, .aload_n 0, 1, 0, 0, 0), (46, .invokevirtual 130, 3, 171, 0, 12),
  (49, .aload_n 0, 1, 0, 0, 0), (50, .invokevirtual 187, 3, 163, 0, 12), (53, .iconst 0, 1, 0, 0, 0), (54, .istore_n 2, 1, 0, 0, 0),
  (55, .aload_n 0, 1, 0, 0, 0), (56, .getfield 154, 3, 12, 8, 0), (59, .ifCond .eq 18, 3, 0, 0, 0), (62, .aload_n 0, 1, 0, 0, 0),
  (63, .invokevirtual 312, 3, 187, 0, 12), (66, .ifCond .ne 5, 3, 0, 0, 0), (69, .iconst (-1), 1, 0, 0, 0), (70, .ireturn, 1, 0, 0, 0),
  (71, .iinc 2 1, 3, 0, 0, 0), (74, .goto (-19), 3, 0, 0, 0), (77, .aload_n 0, 1, 0, 0, 0), (78, .invokevirtual 133, 3, 173, 0, 12),
  (81, .iload_n 2, 1, 0, 0, 0), (82, .ireturn, 1, 0, 0, 0)]
def op_X12_fault : List cv_Q := [
  (0, .aload_n 0, 1, 0, 0, 0), (1, .iconst 0, 1, 0, 0, 0), (2, .putfield 136, 3, 12, 2, 0), (5, .iload_n 1, 1, 0, 0, 0),
  (6, .ifCond .ne 10, 3, 0, 0, 0), (9, .aload_n 0, 1, 0, 0, 0), (10, .getfield 142, 3, 12, 4, 0), (13, .goto 16, 3, 0, 0, 0),
  (16, .iload_n 1, 1, 0, 0, 0), (17, .iconst 1, 1, 0, 0, 0), (18, .if_icmp .ne 10, 3, 0, 0, 0), (21, .aload_n 0, 1, 0, 0, 0),
  (22, .getfield 16, 3, 12, 5, 0), (25, .goto 4, 3, 0, 0, 0), (28, .iconst (-1), 1, 0, 0, 0), (29, .ireturn, 1, 0, 0, 0)]
def op_X12_named : List cv_Q := [
  (0, .aload_n 0, 1, 0, 0, 0), (1, .iconst 0, 1, 0, 0, 0), (2, .putfield 136, 3, 12, 2, 0), (5, .iload_n 1, 1, 0, 0, 0),
  (6, .ifCond .ne 19, 3, 0, 0, 0), (9, .aload_n 0, 1, 0, 0, 0), (10, .getfield 33, 3, 12, 25, 4), (13, .iconst 0, 1, 0, 0, 0),
  (14, .aload_n 0, 1, 0, 0, 0), (15, .getfield 216, 3, 12, 12, 0), (18, .iload_n 2, 1, 0, 0, 0), (19, .invokestatic 252, 3, 174, 4, 0),
  (22, .goto 46, 3, 0, 0, 0), (25, .iload_n 1, 1, 0, 0, 0), (26, .iconst 1, 1, 0, 0, 0), (27, .if_icmp .ne 19, 3, 0, 0, 0),
  (30, .aload_n 0, 1, 0, 0, 0), (31, .getfield 42, 3, 12, 28, 4), (34, .iconst 0, 1, 0, 0, 0), (35, .aload_n 0, 1, 0, 0, 0),
  (36, .getfield 219, 3, 12, 13, 0), (39, .iload_n 2, 1, 0, 0, 0), (40, .invokestatic 252, 3, 174, 4, 0), (43, .goto 25, 3, 0, 0, 0),
  (46, .iload_n 1, 1, 0, 0, 0), (47, .iconst 2, 1, 0, 0, 0), (48, .if_icmp .ne 19, 3, 0, 0, 0), (51, .aload_n 0, 1, 0, 0, 0),
  (52, .getfield 48, 3, 12, 30, 4), (55, .iconst 0, 1, 0, 0, 0), (56, .aload_n 0, 1, 0, 0, 0), (57, .getfield 222, 3, 12, 14, 0),
  (60, .iload_n 2, 1, 0, 0, 0), (61, .invokestatic 252, 3, 174, 4, 0), (64, .goto 4, 3, 0, 0, 0), (67, .iconst (-1), 1, 0, 0, 0),
  (68, .ireturn, 1, 0, 0, 0)]
def op_X12_rank : List cv_Q := [
  (0, .iload_n 0, 1, 0, 0, 0), (1, .bipush 13, 2, 0, 0, 0), (3, .if_icmp .lt 8, 3, 0, 0, 0), (6, .bipush 6, 2, 0, 0, 0),
  (8, .goto 50, 3, 0, 0, 0), (11, .iload_n 0, 1, 0, 0, 0), (12, .bipush 11, 2, 0, 0, 0), (14, .if_icmp .lt 7, 3, 0, 0, 0),
  (17, .iconst 5, 1, 0, 0, 0), (18, .goto 40, 3, 0, 0, 0), (21, .iload_n 0, 1, 0, 0, 0), (22, .iconst 5, 1, 0, 0, 0),
  (23, .if_icmp .lt 7, 3, 0, 0, 0), (26, .iconst 4, 1, 0, 0, 0), (27, .goto 31, 3, 0, 0, 0), (30, .iload_n 0, 1, 0, 0, 0),
  (31, .iconst 2, 1, 0, 0, 0), (32, .if_icmp .ne 7, 3, 0, 0, 0), (35, .iconst 3, 1, 0, 0, 0), (36, .goto 22, 3, 0, 0, 0),
  (39, .iload_n 0, 1, 0, 0, 0), (40, .iconst 3, 1, 0, 0, 0), (41, .if_icmp .ne 7, 3, 0, 0, 0), (44, .iconst 2, 1, 0, 0, 0),
  (45, .goto 13, 3, 0, 0, 0), (48, .iload_n 0, 1, 0, 0, 0), (49, .iconst 4, 1, 0, 0, 0), (50, .if_icmp .ne 7, 3, 0, 0, 0),
  (53, .iconst 1, 1, 0, 0, 0), (54, .goto 4, 3, 0, 0, 0), (57, .iconst 0, 1, 0, 0, 0), (58, .ireturn, 1, 0, 0, 0)]
def op_X12_grown : List cv_Q := [
  (0, .aload_n 0, 1, 0, 0, 0), (1, .getfield 54, 3, 12, 32, 4), (4, .bipush 64, 2, 0, 0, 0), (6, .aload_n 0, 1, 0, 0, 0),
  (7, .getfield 206, 3, 12, 19, 0), (10, .iadd, 1, 0, 0, 0), (11, .iload_n 1, 1, 0, 0, 0), (12, .iastore, 1, 0, 0, 0),
  (13, .aload_n 0, 1, 0, 0, 0), (14, .getfield 57, 3, 12, 33, 4), (17, .bipush 64, 2, 0, 0, 0), (19, .aload_n 0, 1, 0, 0, 0),
  (20, .getfield 206, 3, 12, 19, 0), (23, .iadd, 1, 0, 0, 0), (24, .iload_n 2, 1, 0, 0, 0), (25, .iastore, 1, 0, 0, 0),
  (26, .aload_n 0, 1, 0, 0, 0), (27, .getfield 60, 3, 12, 34, 4), (30, .bipush 64, 2, 0, 0, 0), (32, .aload_n 0, 1, 0, 0, 0),
  (33, .getfield 206, 3, 12, 19, 0), (36, .iadd, 1, 0, 0, 0), (37, .iload_n 3, 1, 0, 0, 0), (38, .iastore, 1, 0, 0, 0),
  (39, .aload_n 0, 1, 0, 0, 0), (40, .getfield 66, 3, 12, 36, 4), (43, .aload_n 0, 1, 0, 0, 0), (44, .getfield 315, 3, 12, 38, 0),
  (47, .aload_n 0, 1, 0, 0, 0), (48, .getfield 206, 3, 12, 19, 0), (51, .iastore, 1, 0, 0, 0), (52, .aload_n 0, 1, 0, 0, 0),
  (53, .dup, 1, 0, 0, 0), (54, .getfield 315, 3, 12, 38, 0), (57, .iconst 1, 1, 0, 0, 0), (58, .iadd, 1, 0, 0, 0),
  (59, .putfield 315, 3, 12, 38, 0), (62, .aload_n 0, 1, 0, 0, 0), (63, .dup, 1, 0, 0, 0), (64, .getfield 206, 3, 12, 19, 0),
  (67, .iconst 1, 1, 0, 0, 0), (68, .iadd, 1, 0, 0, 0), (69, .putfield 206, 3, 12, 19, 0), (72, .return_, 1, 0, 0, 0)]
def op_X12_dropHeld : List cv_Q := [
  (0, .aload_n 0, 1, 0, 0, 0), (1, .dup, 1, 0, 0, 0), (2, .getfield 315, 3, 12, 38, 0), (5, .iconst 1, 1, 0, 0, 0),
  (6, .isub, 1, 0, 0, 0), (7, .putfield 315, 3, 12, 38, 0), (10, .aload_n 0, 1, 0, 0, 0), (11, .getfield 66, 3, 12, 36, 4),
  (14, .aload_n 0, 1, 0, 0, 0), (15, .getfield 315, 3, 12, 38, 0), (18, .iaload, 1, 0, 0, 0), (19, .ireturn, 1, 0, 0, 0)]
def op_X12_bind : List cv_Q := [
  (0, .aload_n 0, 1, 0, 0, 0), (1, .getfield 318, 3, 12, 37, 0), (4, .ifCond .le 72, 3, 0, 0, 0), (7, .aload_n 0, 1, 0, 0, 0),
  (8, .getfield 63, 3, 12, 35, 4), (11, .aload_n 0, 1, 0, 0, 0), (12, .getfield 318, 3, 12, 37, 0), (15, .iconst 1, 1, 0, 0, 0),
  (16, .isub, 1, 0, 0, 0), (17, .iaload, 1, 0, 0, 0), (18, .invokestatic 321, 3, 191, 1, 0), (21, .iload_n 1, 1, 0, 0, 0),
  (22, .if_icmp .lt 54, 3, 0, 0, 0), (25, .aload_n 0, 1, 0, 0, 0), (26, .dup, 1, 0, 0, 0), (27, .getfield 318, 3, 12, 37, 0),
  (30, .iconst 1, 1, 0, 0, 0), (31, .isub, 1, 0, 0, 0), (32, .putfield 318, 3, 12, 37, 0), (35, .aload_n 0, 1, 0, 0, 0),
  (36, .getfield 63, 3, 12, 35, 4), (39, .aload_n 0, 1, 0, 0, 0), (40, .getfield 318, 3, 12, 37, 0), (43, .iaload, 1, 0, 0, 0),
  (44, .istore_n 2, 1, 0, 0, 0), (45, .iload_n 2, 1, 0, 0, 0), (46, .iconst 2, 1, 0, 0, 0), (47, .if_icmp .ne 7, 3, 0, 0, 0),
  (50, .iconst (-1), 1, 0, 0, 0), (51, .goto 7, 3, 0, 0, 0), (54, .aload_n 0, 1, 0, 0, 0), (55, .invokevirtual 324, 3, 193, 0, 12),
  (58, .istore_n 3, 1, 0, 0, 0), (59, .aload_n 0, 1, 0, 0, 0), (60, .invokevirtual 324, 3, 193, 0, 12), (63, .istore 4, 2, 0, 0, 0),
  (65, .aload_n 0, 1, 0, 0, 0), (66, .iload_n 2, 1, 0, 0, 0), (67, .iload 4, 2, 0, 0, 0), (69, .iload_n 3, 1, 0, 0, 0),
  (70, .invokevirtual 327, 3, 192, 3, 12), (73, .goto (-73), 3, 0, 0, 0), (76, .return_, 1, 0, 0, 0)]
def op_X12_isCounted : List cv_Q := [
  (0, .aload_n 0, 1, 0, 0, 0), (1, .getfield 209, 3, 12, 40, 0), (4, .bipush 64, 2, 0, 0, 0), (6, .if_icmp .ne 9, 3, 0, 0, 0),
  (9, .aload_n 0, 1, 0, 0, 0), (10, .iconst 2, 1, 0, 0, 0), (11, .invokevirtual 177, 3, 159, 1, 12), (14, .ireturn, 1, 0, 0, 0),
  (15, .aload_n 0, 1, 0, 0, 0), (16, .dup, 1, 0, 0, 0), (17, .getfield 209, 3, 12, 40, 0), (20, .iconst 1, 1, 0, 0, 0),
  (21, .iadd, 1, 0, 0, 0), (22, .putfield 209, 3, 12, 40, 0), (25, .iconst 1, 1, 0, 0, 0), (26, .ireturn, 1, 0, 0, 0)]
def op_X12_waitsFor : List cv_Q := [
  (0, .aload_n 0, 1, 0, 0, 0), (1, .getfield 63, 3, 12, 35, 4), (4, .aload_n 0, 1, 0, 0, 0), (5, .getfield 318, 3, 12, 37, 0),
  (8, .iload_n 1, 1, 0, 0, 0), (9, .iastore, 1, 0, 0, 0), (10, .aload_n 0, 1, 0, 0, 0), (11, .dup, 1, 0, 0, 0),
  (12, .getfield 318, 3, 12, 37, 0), (15, .iconst 1, 1, 0, 0, 0), (16, .iadd, 1, 0, 0, 0), (17, .putfield 318, 3, 12, 37, 0),
  (20, .return_, 1, 0, 0, 0)]
def op_X12_leafRead_0 : List cv_Q := [
  (0, .aload_n 0, 1, 0, 0, 0), (1, .bipush 40, 2, 0, 0, 0), (3, .invokevirtual 190, 3, 167, 1, 12), (6, .ifCond .eq 44, 3, 0, 0, 0),
  (9, .aload_n 0, 1, 0, 0, 0), (10, .getfield 331, 3, 12, 39, 0), (13, .bipush 8, 2, 0, 0, 0), (15, .if_icmp .ne 9, 3, 0, 0, 0),
  (18, .aload_n 0, 1, 0, 0, 0), (19, .iconst 2, 1, 0, 0, 0), (20, .invokevirtual 177, 3, 159, 1, 12), (23, .ireturn, 1, 0, 0, 0),
  (24, .aload_n 0, 1, 0, 0, 0), (25, .dup, 1, 0, 0, 0), (26, .getfield 331, 3, 12, 39, 0), (29, .iconst 1, 1, 0, 0, 0),
  (30, .iadd, 1, 0, 0, 0), (31, .putfield 331, 3, 12, 39, 0), (34, .aload_n 0, 1, 0, 0, 0), (35, .iconst 0, 1, 0, 0, 0),
  (36, .invokevirtual 334, 3, 196, 1, 12), (39, .aload_n 0, 1, 0, 0, 0), (40, .iconst 1, 1, 0, 0, 0), (41, .putfield 337, 3, 12, 42, 2),
  (44, .aload_n 0, 1, 0, 0, 0), (45, .invokevirtual 187, 3, 163, 0, 12), (48, .iconst 1, 1, 0, 0, 0), (49, .ireturn, 1, 0, 0, 0),
  (50, .aload_n 0, 1, 0, 0, 0), (51, .bipush 23, 2, 0, 0, 0), (53, .invokevirtual 281, 3, 166, 1, 12), (56, .ifCond .eq 30, 3, 0, 0, 0),
  (59, .aload_n 0, 1, 0, 0, 0), (60, .getfield 337, 3, 12, 42, 2), (63, .ifCond .eq 23, 3, 0, 0, 0), (66, .aload_n 0, 1, 0, 0, 0),
  (67, .invokevirtual 340, 3, 195, 0, 12), (70, .ifCond .ne 5, 3, 0, 0, 0), (73, .iconst 0, 1, 0, 0, 0), (74, .ireturn, 1, 0, 0, 0),
  (75, .aload_n 0, 1, 0, 0, 0), (76, .iconst 2, 1, 0, 0, 0), (77, .invokevirtual 334, 3, 196, 1, 12), (80, .aload_n 0, 1, 0, 0, 0),
  (81, .invokevirtual 187, 3, 163, 0, 12), (84, .iconst 1, 1, 0, 0, 0), (85, .ireturn, 1, 0, 0, 0), (86, .aload_n 0, 1, 0, 0, 0),
  (87, .getfield 154, 3, 12, 8, 0), (90, .iconst 1, 1, 0, 0, 0), (91, .if_icmp .ne 16, 3, 0, 0, 0), (94, .aload_n 0, 1, 0, 0, 0),
  (95, .getfield 165, 3, 12, 9, 0), (98, .bipush 24, 2, 0, 0, 0), (100, .if_icmp .lt 7, 3, 0, 0, 0), (103, .iconst 1, 1, 0, 0, 0),
  (104, .goto 4, 3, 0, 0, 0), (107, .iconst 0, 1, 0, 0, 0), (108, .istore_n 1, 1, 0, 0, 0), (109, .iload_n 1, 1, 0, 0, 0)]
def op_X12_leafRead_1 : List cv_Q := [
  (110, .ifCond .ne 17, 3, 0, 0, 0), (113, .aload_n 0, 1, 0, 0, 0), (114, .getfield 154, 3, 12, 8, 0), (117, .iconst 3, 1, 0, 0, 0),
  (118, .if_icmp .eq 9, 3, 0, 0, 0), (121, .aload_n 0, 1, 0, 0, 0), (122, .iconst 1, 1, 0, 0, 0), (123, .invokevirtual 177, 3, 159, 1, 12),
  (126, .ireturn, 1, 0, 0, 0), (127, .iload_n 1, 1, 0, 0, 0), (128, .ifCond .ne 19, 3, 0, 0, 0), (131, .aload_n 0, 1, 0, 0, 0),
  (132, .getfield 165, 3, 12, 9, 0), (135, .sipush 9999, 3, 0, 0, 0), (138, .if_icmp .le 9, 3, 0, 0, 0), (141, .aload_n 0, 1, 0, 0, 0),
  (142, .iconst 2, 1, 0, 0, 0), (143, .invokevirtual 177, 3, 159, 1, 12), (146, .ireturn, 1, 0, 0, 0), (147, .aload_n 0, 1, 0, 0, 0),
  (148, .invokevirtual 340, 3, 195, 0, 12), (151, .ifCond .ne 5, 3, 0, 0, 0), (154, .iconst 0, 1, 0, 0, 0), (155, .ireturn, 1, 0, 0, 0),
  (156, .aload_n 0, 1, 0, 0, 0), (157, .iload_n 1, 1, 0, 0, 0), (158, .ifCond .eq 7, 3, 0, 0, 0), (161, .iconst 1, 1, 0, 0, 0),
  (162, .goto 4, 3, 0, 0, 0), (165, .iconst 0, 1, 0, 0, 0), (166, .iload_n 1, 1, 0, 0, 0), (167, .ifCond .eq 13, 3, 0, 0, 0),
  (170, .aload_n 0, 1, 0, 0, 0), (171, .getfield 165, 3, 12, 9, 0), (174, .bipush 24, 2, 0, 0, 0), (176, .isub, 1, 0, 0, 0),
  (177, .goto 7, 3, 0, 0, 0), (180, .aload_n 0, 1, 0, 0, 0), (181, .getfield 165, 3, 12, 9, 0), (184, .iconst 0, 1, 0, 0, 0),
  (185, .invokevirtual 327, 3, 192, 3, 12), (188, .aload_n 0, 1, 0, 0, 0), (189, .iconst 0, 1, 0, 0, 0), (190, .putfield 343, 3, 12, 41, 2),
  (193, .aload_n 0, 1, 0, 0, 0), (194, .invokevirtual 187, 3, 163, 0, 12), (197, .iconst 1, 1, 0, 0, 0), (198, .ireturn, 1, 0, 0, 0)]
def op_X12_leafRead : List cv_Q := op_X12_leafRead_0 ++ (op_X12_leafRead_1)
def op_X12_signs_0 : List cv_Q := [
  (0, .aload_n 0, 1, 0, 0, 0), (1, .bipush 41, 2, 0, 0, 0), (3, .invokevirtual 190, 3, 167, 1, 12), (6, .ifCond .eq 41, 3, 0, 0, 0),
  (9, .aload_n 0, 1, 0, 0, 0), (10, .getfield 331, 3, 12, 39, 0), (13, .ifCond .le 34, 3, 0, 0, 0), (16, .aload_n 0, 1, 0, 0, 0),
  (17, .iconst 1, 1, 0, 0, 0), (18, .invokevirtual 346, 3, 194, 1, 12), (21, .aload_n 0, 1, 0, 0, 0), (22, .dup, 1, 0, 0, 0),
  (23, .getfield 318, 3, 12, 37, 0), (26, .iconst 1, 1, 0, 0, 0), (27, .isub, 1, 0, 0, 0), (28, .putfield 318, 3, 12, 37, 0),
  (31, .aload_n 0, 1, 0, 0, 0), (32, .dup, 1, 0, 0, 0), (33, .getfield 331, 3, 12, 39, 0), (36, .iconst 1, 1, 0, 0, 0),
  (37, .isub, 1, 0, 0, 0), (38, .putfield 331, 3, 12, 39, 0), (41, .aload_n 0, 1, 0, 0, 0), (42, .invokevirtual 187, 3, 163, 0, 12),
  (45, .iconst 1, 1, 0, 0, 0), (46, .ireturn, 1, 0, 0, 0), (47, .aload_n 0, 1, 0, 0, 0), (48, .bipush 21, 2, 0, 0, 0),
  (50, .invokevirtual 281, 3, 166, 1, 12), (53, .ifCond .eq 7, 3, 0, 0, 0), (56, .iconst 3, 1, 0, 0, 0), (57, .goto 90, 3, 0, 0, 0),
  (60, .aload_n 0, 1, 0, 0, 0), (61, .bipush 22, 2, 0, 0, 0), (63, .invokevirtual 281, 3, 166, 1, 12), (66, .ifCond .eq 7, 3, 0, 0, 0),
  (69, .iconst 4, 1, 0, 0, 0), (70, .goto 77, 3, 0, 0, 0), (73, .aload_n 0, 1, 0, 0, 0), (74, .getfield 154, 3, 12, 8, 0),
  (77, .iconst 5, 1, 0, 0, 0), (78, .if_icmp .ne 12, 3, 0, 0, 0), (81, .iconst 5, 1, 0, 0, 0), (82, .aload_n 0, 1, 0, 0, 0),
  (83, .getfield 165, 3, 12, 9, 0), (86, .iadd, 1, 0, 0, 0), (87, .goto 60, 3, 0, 0, 0), (90, .aload_n 0, 1, 0, 0, 0),
  (91, .bipush 43, 2, 0, 0, 0), (93, .invokevirtual 190, 3, 167, 1, 12), (96, .ifCond .eq 8, 3, 0, 0, 0), (99, .bipush 11, 2, 0, 0, 0),
  (101, .goto 46, 3, 0, 0, 0), (104, .aload_n 0, 1, 0, 0, 0), (105, .bipush 45, 2, 0, 0, 0), (107, .invokevirtual 190, 3, 167, 1, 12),
  (110, .ifCond .eq 8, 3, 0, 0, 0), (113, .bipush 12, 2, 0, 0, 0), (115, .goto 32, 3, 0, 0, 0), (118, .aload_n 0, 1, 0, 0, 0)]
def op_X12_signs_1 : List cv_Q := [
  (119, .bipush 42, 2, 0, 0, 0), (121, .invokevirtual 190, 3, 167, 1, 12), (124, .ifCond .eq 8, 3, 0, 0, 0), (127, .bipush 13, 2, 0, 0, 0),
  (129, .goto 18, 3, 0, 0, 0), (132, .aload_n 0, 1, 0, 0, 0), (133, .bipush 47, 2, 0, 0, 0), (135, .invokevirtual 190, 3, 167, 1, 12),
  (138, .ifCond .eq 8, 3, 0, 0, 0), (141, .bipush 14, 2, 0, 0, 0), (143, .goto 4, 3, 0, 0, 0), (146, .iconst 0, 1, 0, 0, 0),
  (147, .istore_n 1, 1, 0, 0, 0), (148, .iload_n 1, 1, 0, 0, 0), (149, .ifCond .ne 9, 3, 0, 0, 0), (152, .aload_n 0, 1, 0, 0, 0),
  (153, .iconst 1, 1, 0, 0, 0), (154, .invokevirtual 177, 3, 159, 1, 12), (157, .ireturn, 1, 0, 0, 0), (158, .aload_n 0, 1, 0, 0, 0),
  (159, .iload_n 1, 1, 0, 0, 0), (160, .invokestatic 321, 3, 191, 1, 0), (163, .iconst 4, 1, 0, 0, 0), (164, .if_icmp .ne 7, 3, 0, 0, 0),
  (167, .iconst 5, 1, 0, 0, 0), (168, .goto 7, 3, 0, 0, 0), (171, .iload_n 1, 1, 0, 0, 0), (172, .invokestatic 321, 3, 191, 1, 0),
  (175, .invokevirtual 346, 3, 194, 1, 12), (178, .iload_n 1, 1, 0, 0, 0), (179, .invokestatic 321, 3, 191, 1, 0), (182, .iconst 4, 1, 0, 0, 0),
  (183, .if_icmp .ne 34, 3, 0, 0, 0), (186, .aload_n 0, 1, 0, 0, 0), (187, .getfield 318, 3, 12, 37, 0), (190, .ifCond .le 27, 3, 0, 0, 0),
  (193, .aload_n 0, 1, 0, 0, 0), (194, .getfield 63, 3, 12, 35, 4), (197, .aload_n 0, 1, 0, 0, 0), (198, .getfield 318, 3, 12, 37, 0),
  (201, .iconst 1, 1, 0, 0, 0), (202, .isub, 1, 0, 0, 0), (203, .iaload, 1, 0, 0, 0), (204, .invokestatic 321, 3, 191, 1, 0),
  (207, .iconst 4, 1, 0, 0, 0), (208, .if_icmp .ne 9, 3, 0, 0, 0), (211, .aload_n 0, 1, 0, 0, 0), (212, .iconst 1, 1, 0, 0, 0),
  (213, .invokevirtual 177, 3, 159, 1, 12), (216, .ireturn, 1, 0, 0, 0), (217, .aload_n 0, 1, 0, 0, 0), (218, .invokevirtual 340, 3, 195, 0, 12),
  (221, .ifCond .ne 5, 3, 0, 0, 0), (224, .iconst 0, 1, 0, 0, 0), (225, .ireturn, 1, 0, 0, 0), (226, .aload_n 0, 1, 0, 0, 0),
  (227, .iload_n 1, 1, 0, 0, 0), (228, .invokevirtual 334, 3, 196, 1, 12), (231, .aload_n 0, 1, 0, 0, 0), (232, .iconst 1, 1, 0, 0, 0)]
def op_X12_signs_2 : List cv_Q := [
  (233, .putfield 343, 3, 12, 41, 2), (236, .aload_n 0, 1, 0, 0, 0), (237, .iload_n 1, 1, 0, 0, 0), (238, .invokestatic 321, 3, 191, 1, 0),
  (241, .iconst 3, 1, 0, 0, 0), (242, .if_icmp .ge 7, 3, 0, 0, 0), (245, .iconst 1, 1, 0, 0, 0), (246, .goto 4, 3, 0, 0, 0),
  (249, .iconst 0, 1, 0, 0, 0), (250, .putfield 337, 3, 12, 42, 2), (253, .aload_n 0, 1, 0, 0, 0), (254, .invokevirtual 187, 3, 163, 0, 12),
  (257, .iconst 1, 1, 0, 0, 0), (258, .ireturn, 1, 0, 0, 0)]
def op_X12_signs : List cv_Q := op_X12_signs_0 ++ (op_X12_signs_1 ++ (op_X12_signs_2))
def op_X12_sumRead : List cv_Q := [
  (0, .aload_n 0, 1, 0, 0, 0), (1, .iconst 0, 1, 0, 0, 0), (2, .putfield 318, 3, 12, 37, 0), (5, .aload_n 0, 1, 0, 0, 0),
  (6, .iconst 0, 1, 0, 0, 0), (7, .putfield 315, 3, 12, 38, 0), (10, .aload_n 0, 1, 0, 0, 0), (11, .iconst 0, 1, 0, 0, 0),
  (12, .putfield 331, 3, 12, 39, 0), (15, .aload_n 0, 1, 0, 0, 0), (16, .iconst 1, 1, 0, 0, 0), (17, .putfield 343, 3, 12, 41, 2),
  (20, .aload_n 0, 1, 0, 0, 0), (21, .iconst 1, 1, 0, 0, 0), (22, .putfield 337, 3, 12, 42, 2), (25, .aload_n 0, 1, 0, 0, 0),
  (26, .bipush 59, 2, 0, 0, 0), (28, .invokevirtual 190, 3, 167, 1, 12), (31, .ifCond .eq 17, 3, 0, 0, 0), (34, .aload_n 0, 1, 0, 0, 0),
  (35, .getfield 343, 3, 12, 41, 2), (38, .ifCond .ne 10, 3, 0, 0, 0), (41, .aload_n 0, 1, 0, 0, 0), (42, .getfield 331, 3, 12, 39, 0),
  (45, .ifCond .le 29, 3, 0, 0, 0), (48, .aload_n 0, 1, 0, 0, 0), (49, .getfield 343, 3, 12, 41, 2), (52, .ifCond .eq 13, 3, 0, 0, 0),
  (55, .aload_n 0, 1, 0, 0, 0), (56, .invokevirtual 349, 3, 197, 0, 12), (59, .ifCond .eq 13, 3, 0, 0, 0), (62, .goto (-37), 3, 0, 0, 0),
  (65, .aload_n 0, 1, 0, 0, 0), (66, .invokevirtual 352, 3, 198, 0, 12), (69, .ifCond .ne (-44), 3, 0, 0, 0), (72, .iconst 0, 1, 0, 0, 0),
  (73, .ireturn, 1, 0, 0, 0), (74, .aload_n 0, 1, 0, 0, 0), (75, .iconst 1, 1, 0, 0, 0), (76, .invokevirtual 346, 3, 194, 1, 12),
  (79, .iconst 1, 1, 0, 0, 0), (80, .ireturn, 1, 0, 0, 0)]
def op_X12_lays : List cv_Q := [
  (0, .iconst 0, 1, 0, 0, 0), (1, .istore 4, 2, 0, 0, 0), (3, .iload 4, 2, 0, 0, 0), (5, .bipush 16, 2, 0, 0, 0),
  (7, .if_icmp .ge 21, 3, 0, 0, 0), (10, .aload_n 0, 1, 0, 0, 0), (11, .iload_n 1, 1, 0, 0, 0), (12, .iload 4, 2, 0, 0, 0),
  (14, .iadd, 1, 0, 0, 0), (15, .aload_n 2, 1, 0, 0, 0), (16, .iload_n 3, 1, 0, 0, 0), (17, .iload 4, 2, 0, 0, 0),
  (19, .iadd, 1, 0, 0, 0), (20, .iaload, 1, 0, 0, 0), (21, .iastore, 1, 0, 0, 0), (22, .iinc 4 1, 3, 0, 0, 0),
  (25, .goto (-22), 3, 0, 0, 0), (28, .return_, 1, 0, 0, 0)]
def op_X12_begins_0 : List cv_Q := [
  (0, .iconst 0, 1, 0, 0, 0), (1, .istore_n 2, 1, 0, 0, 0), (2, .iload_n 2, 1, 0, 0, 0), (3, .bipush 16, 2, 0, 0, 0),
  (5, .if_icmp .ge 16, 3, 0, 0, 0), (8, .aload_n 0, 1, 0, 0, 0), (9, .getfield 72, 3, 12, 45, 4), (12, .iload_n 2, 1, 0, 0, 0),
  (13, .iconst 0, 1, 0, 0, 0), (14, .iastore, 1, 0, 0, 0), (15, .iinc 2 1, 3, 0, 0, 0), (18, .goto (-16), 3, 0, 0, 0),
  (21, .aload_n 0, 1, 0, 0, 0), (22, .getfield 72, 3, 12, 45, 4), (25, .bipush 6, 2, 0, 0, 0), (27, .aload_n 0, 1, 0, 0, 0),
  (28, .getfield 36, 3, 12, 26, 4), (31, .bipush 16, 2, 0, 0, 0), (33, .iload_n 1, 1, 0, 0, 0), (34, .imul, 1, 0, 0, 0),
  (35, .bipush 7, 2, 0, 0, 0), (37, .iadd, 1, 0, 0, 0), (38, .iaload, 1, 0, 0, 0), (39, .iastore, 1, 0, 0, 0),
  (40, .aload_n 0, 1, 0, 0, 0), (41, .getfield 72, 3, 12, 45, 4), (44, .bipush 7, 2, 0, 0, 0), (46, .aload_n 0, 1, 0, 0, 0),
  (47, .getfield 36, 3, 12, 26, 4), (50, .bipush 16, 2, 0, 0, 0), (52, .iload_n 1, 1, 0, 0, 0), (53, .imul, 1, 0, 0, 0),
  (54, .bipush 9, 2, 0, 0, 0), (56, .iadd, 1, 0, 0, 0), (57, .iaload, 1, 0, 0, 0), (58, .iastore, 1, 0, 0, 0),
  (59, .aload_n 0, 1, 0, 0, 0), (60, .getfield 72, 3, 12, 45, 4), (63, .bipush 8, 2, 0, 0, 0), (65, .aload_n 0, 1, 0, 0, 0),
  (66, .getfield 36, 3, 12, 26, 4), (69, .bipush 16, 2, 0, 0, 0), (71, .iload_n 1, 1, 0, 0, 0), (72, .imul, 1, 0, 0, 0),
  (73, .bipush 12, 2, 0, 0, 0), (75, .iadd, 1, 0, 0, 0), (76, .iaload, 1, 0, 0, 0), (77, .iastore, 1, 0, 0, 0),
  (78, .aload_n 0, 1, 0, 0, 0), (79, .getfield 72, 3, 12, 45, 4), (82, .bipush 10, 2, 0, 0, 0), (84, .aload_n 0, 1, 0, 0, 0),
  (85, .getfield 36, 3, 12, 26, 4), (88, .bipush 16, 2, 0, 0, 0), (90, .iload_n 1, 1, 0, 0, 0), (91, .imul, 1, 0, 0, 0),
  (92, .bipush 14, 2, 0, 0, 0), (94, .iadd, 1, 0, 0, 0), (95, .iaload, 1, 0, 0, 0), (96, .iastore, 1, 0, 0, 0)]
def op_X12_begins_1 : List cv_Q := [
  (97, .return_, 1, 0, 0, 0)]
def op_X12_begins : List cv_Q := op_X12_begins_0 ++ (op_X12_begins_1)
def op_X12_loads : List cv_Q := [
  (0, .aload_n 0, 1, 0, 0, 0), (1, .getfield 72, 3, 12, 45, 4), (4, .iconst 0, 1, 0, 0, 0), (5, .aload_n 0, 1, 0, 0, 0),
  (6, .getfield 69, 3, 12, 44, 4), (9, .bipush 16, 2, 0, 0, 0), (11, .iload_n 1, 1, 0, 0, 0), (12, .imul, 1, 0, 0, 0),
  (13, .invokestatic 236, 3, 200, 4, 0), (16, .return_, 1, 0, 0, 0)]
def op_X12_spanOf : List cv_Q := [
  (0, .aload_n 0, 1, 0, 0, 0), (1, .getfield 36, 3, 12, 26, 4), (4, .bipush 16, 2, 0, 0, 0), (6, .iload_n 1, 1, 0, 0, 0),
  (7, .imul, 1, 0, 0, 0), (8, .iconst 4, 1, 0, 0, 0), (9, .iadd, 1, 0, 0, 0), (10, .iaload, 1, 0, 0, 0),
  (11, .aload_n 0, 1, 0, 0, 0), (12, .getfield 36, 3, 12, 26, 4), (15, .bipush 16, 2, 0, 0, 0), (17, .iload_n 1, 1, 0, 0, 0),
  (18, .imul, 1, 0, 0, 0), (19, .iconst 3, 1, 0, 0, 0), (20, .iadd, 1, 0, 0, 0), (21, .iaload, 1, 0, 0, 0),
  (22, .isub, 1, 0, 0, 0), (23, .ireturn, 1, 0, 0, 0)]
def op_X12_pullOf : List cv_Q := [
  (0, .aload_n 0, 1, 0, 0, 0), (1, .getfield 36, 3, 12, 26, 4), (4, .bipush 16, 2, 0, 0, 0), (6, .iload_n 1, 1, 0, 0, 0),
  (7, .imul, 1, 0, 0, 0), (8, .iaload, 1, 0, 0, 0), (9, .aload_n 0, 1, 0, 0, 0), (10, .getfield 36, 3, 12, 26, 4),
  (13, .bipush 16, 2, 0, 0, 0), (15, .iload_n 1, 1, 0, 0, 0), (16, .imul, 1, 0, 0, 0), (17, .iconst 2, 1, 0, 0, 0),
  (18, .iadd, 1, 0, 0, 0), (19, .iaload, 1, 0, 0, 0), (20, .iconst 2, 1, 0, 0, 0), (21, .aload_n 0, 1, 0, 0, 0),
  (22, .getfield 72, 3, 12, 45, 4), (25, .bipush 8, 2, 0, 0, 0), (27, .iaload, 1, 0, 0, 0), (28, .imul, 1, 0, 0, 0),
  (29, .iadd, 1, 0, 0, 0), (30, .imul, 1, 0, 0, 0), (31, .iconst 2, 1, 0, 0, 0), (32, .aload_n 0, 1, 0, 0, 0),
  (33, .iload_n 1, 1, 0, 0, 0), (34, .invokevirtual 355, 3, 203, 1, 12), (37, .imul, 1, 0, 0, 0), (38, .idiv, 1, 0, 0, 0),
  (39, .istore_n 2, 1, 0, 0, 0), (40, .iload_n 2, 1, 0, 0, 0), (41, .bipush 100, 2, 0, 0, 0), (43, .aload_n 0, 1, 0, 0, 0),
  (44, .getfield 72, 3, 12, 45, 4), (47, .iconst 4, 1, 0, 0, 0), (48, .iaload, 1, 0, 0, 0), (49, .isub, 1, 0, 0, 0),
  (50, .imul, 1, 0, 0, 0), (51, .bipush 100, 2, 0, 0, 0), (53, .idiv, 1, 0, 0, 0), (54, .ireturn, 1, 0, 0, 0)]
def op_X12_partOf : List cv_Q := [
  (0, .aload_n 0, 1, 0, 0, 0), (1, .getfield 36, 3, 12, 26, 4), (4, .bipush 16, 2, 0, 0, 0), (6, .iload_n 1, 1, 0, 0, 0),
  (7, .imul, 1, 0, 0, 0), (8, .iaload, 1, 0, 0, 0), (9, .i2l, 1, 0, 0, 0), (10, .lstore_n 3, 1, 0, 0, 0),
  (11, .iload_n 2, 1, 0, 0, 0), (12, .ifCond .ne 28, 3, 0, 0, 0), (15, .aload_n 0, 1, 0, 0, 0), (16, .getfield 72, 3, 12, 45, 4),
  (19, .iconst 0, 1, 0, 0, 0), (20, .iaload, 1, 0, 0, 0), (21, .i2l, 1, 0, 0, 0), (22, .lload_n 3, 1, 0, 0, 0),
  (23, .lmul, 1, 0, 0, 0), (24, .aload_n 0, 1, 0, 0, 0), (25, .getfield 36, 3, 12, 26, 4), (28, .bipush 16, 2, 0, 0, 0),
  (30, .iload_n 1, 1, 0, 0, 0), (31, .imul, 1, 0, 0, 0), (32, .iconst 1, 1, 0, 0, 0), (33, .iadd, 1, 0, 0, 0),
  (34, .iaload, 1, 0, 0, 0), (35, .i2l, 1, 0, 0, 0), (36, .ldiv, 1, 0, 0, 0), (37, .goto 34, 3, 0, 0, 0),
  (40, .iload_n 2, 1, 0, 0, 0), (41, .iconst 1, 1, 0, 0, 0), (42, .if_icmp .ne 13, 3, 0, 0, 0), (45, .aload_n 0, 1, 0, 0, 0),
  (46, .getfield 72, 3, 12, 45, 4), (49, .iconst 1, 1, 0, 0, 0), (50, .iaload, 1, 0, 0, 0), (51, .i2l, 1, 0, 0, 0),
  (52, .goto 19, 3, 0, 0, 0), (55, .aload_n 0, 1, 0, 0, 0), (56, .getfield 72, 3, 12, 45, 4), (59, .iconst 2, 1, 0, 0, 0),
  (60, .iaload, 1, 0, 0, 0), (61, .i2l, 1, 0, 0, 0), (62, .lload_n 3, 1, 0, 0, 0), (63, .lmul, 1, 0, 0, 0),
  (64, .aload_n 0, 1, 0, 0, 0), (65, .iload_n 1, 1, 0, 0, 0), (66, .invokevirtual 355, 3, 203, 1, 12), (69, .i2l, 1, 0, 0, 0),
  (70, .ldiv, 1, 0, 0, 0), (71, .l2i, 1, 0, 0, 0), (72, .ireturn, 1, 0, 0, 0)]
def op_X12_dropOf : List cv_Q := [
  (0, .aload_n 0, 1, 0, 0, 0), (1, .iload_n 1, 1, 0, 0, 0), (2, .iconst 0, 1, 0, 0, 0), (3, .invokevirtual 358, 3, 205, 2, 12),
  (6, .aload_n 0, 1, 0, 0, 0), (7, .iload_n 1, 1, 0, 0, 0), (8, .iconst 1, 1, 0, 0, 0), (9, .invokevirtual 358, 3, 205, 2, 12),
  (12, .iadd, 1, 0, 0, 0), (13, .aload_n 0, 1, 0, 0, 0), (14, .iload_n 1, 1, 0, 0, 0), (15, .iconst 2, 1, 0, 0, 0),
  (16, .invokevirtual 358, 3, 205, 2, 12), (19, .iadd, 1, 0, 0, 0), (20, .aload_n 0, 1, 0, 0, 0), (21, .getfield 72, 3, 12, 45, 4),
  (24, .iconst 3, 1, 0, 0, 0), (25, .iaload, 1, 0, 0, 0), (26, .isub, 1, 0, 0, 0), (27, .ireturn, 1, 0, 0, 0)]
def op_X12_firmOf : List cv_Q := [
  (0, .aload_n 0, 1, 0, 0, 0), (1, .getfield 20, 3, 12, 21, 4), (4, .iload_n 1, 1, 0, 0, 0), (5, .bipush 12, 2, 0, 0, 0),
  (7, .imul, 1, 0, 0, 0), (8, .bipush 52, 2, 0, 0, 0), (10, .idiv, 1, 0, 0, 0), (11, .bipush 12, 2, 0, 0, 0),
  (13, .irem, 1, 0, 0, 0), (14, .iaload, 1, 0, 0, 0), (15, .ireturn, 1, 0, 0, 0)]
def op_X12_bounded : List cv_Q := [
  (0, .aload_n 0, 1, 0, 0, 0), (1, .aload_n 0, 1, 0, 0, 0), (2, .getfield 361, 3, 12, 48, 2), (5, .ifCond .ne 19, 3, 0, 0, 0),
  (8, .lload_n 1, 1, 0, 0, 0), (9, .ldc2_w 364, 3, 0, 0, 1000000000000), (12, .lcmp, 1, 0, 0, 0), (13, .ifCond .gt 11, 3, 0, 0, 0),
  (16, .lload_n 1, 1, 0, 0, 0), (17, .ldc2_w 366, 3, 0, 0, (-1000000000000)), (20, .lcmp, 1, 0, 0, 0), (21, .ifCond .ge 7, 3, 0, 0, 0),
  (24, .iconst 1, 1, 0, 0, 0), (25, .goto 4, 3, 0, 0, 0), (28, .iconst 0, 1, 0, 0, 0), (29, .putfield 361, 3, 12, 48, 2),
  (32, .aload_n 0, 1, 0, 0, 0), (33, .getfield 361, 3, 12, 48, 2), (36, .ifCond .eq 7, 3, 0, 0, 0), (39, .lconst 0, 1, 0, 0, 0),
  (40, .goto 4, 3, 0, 0, 0), (43, .lload_n 1, 1, 0, 0, 0), (44, .lreturn, 1, 0, 0, 0)]
def op_X12_compares : List cv_Q := [
  (0, .iload_n 0, 1, 0, 0, 0), (1, .tableswitch 95 5 9 #[35, 47, 59, 71, 83], 35, 0, 0, 0), (36, .lload_n 1, 1, 0, 0, 0), (37, .lload_n 3, 1, 0, 0, 0),
  (38, .lcmp, 1, 0, 0, 0), (39, .ifCond .ge 7, 3, 0, 0, 0), (42, .iconst 1, 1, 0, 0, 0), (43, .goto 4, 3, 0, 0, 0),
  (46, .iconst 0, 1, 0, 0, 0), (47, .ireturn, 1, 0, 0, 0), (48, .lload_n 1, 1, 0, 0, 0), (49, .lload_n 3, 1, 0, 0, 0),
  (50, .lcmp, 1, 0, 0, 0), (51, .ifCond .gt 7, 3, 0, 0, 0), (54, .iconst 1, 1, 0, 0, 0), (55, .goto 4, 3, 0, 0, 0),
  (58, .iconst 0, 1, 0, 0, 0), (59, .ireturn, 1, 0, 0, 0), (60, .lload_n 1, 1, 0, 0, 0), (61, .lload_n 3, 1, 0, 0, 0),
  (62, .lcmp, 1, 0, 0, 0), (63, .ifCond .ne 7, 3, 0, 0, 0), (66, .iconst 1, 1, 0, 0, 0), (67, .goto 4, 3, 0, 0, 0),
  (70, .iconst 0, 1, 0, 0, 0), (71, .ireturn, 1, 0, 0, 0), (72, .lload_n 1, 1, 0, 0, 0), (73, .lload_n 3, 1, 0, 0, 0),
  (74, .lcmp, 1, 0, 0, 0), (75, .ifCond .eq 7, 3, 0, 0, 0), (78, .iconst 1, 1, 0, 0, 0), (79, .goto 4, 3, 0, 0, 0),
  (82, .iconst 0, 1, 0, 0, 0), (83, .ireturn, 1, 0, 0, 0), (84, .lload_n 1, 1, 0, 0, 0), (85, .lload_n 3, 1, 0, 0, 0),
  (86, .lcmp, 1, 0, 0, 0), (87, .ifCond .lt 7, 3, 0, 0, 0), (90, .iconst 1, 1, 0, 0, 0), (91, .goto 4, 3, 0, 0, 0),
  (94, .iconst 0, 1, 0, 0, 0), (95, .ireturn, 1, 0, 0, 0), (96, .lload_n 1, 1, 0, 0, 0), (97, .lload_n 3, 1, 0, 0, 0),
  (98, .lcmp, 1, 0, 0, 0), (99, .ifCond .le 7, 3, 0, 0, 0), (102, .iconst 1, 1, 0, 0, 0), (103, .goto 4, 3, 0, 0, 0),
  (106, .iconst 0, 1, 0, 0, 0), (107, .ireturn, 1, 0, 0, 0)]
def op_X12_times : List cv_Q := [
  (0, .lload_n 1, 1, 0, 0, 0), (1, .lconst 0, 1, 0, 0, 0), (2, .lcmp, 1, 0, 0, 0), (3, .ifCond .eq 45, 3, 0, 0, 0),
  (6, .lload_n 3, 1, 0, 0, 0), (7, .lconst 0, 1, 0, 0, 0), (8, .lcmp, 1, 0, 0, 0), (9, .ifCond .eq 39, 3, 0, 0, 0),
  (12, .lload_n 3, 1, 0, 0, 0), (13, .lconst 0, 1, 0, 0, 0), (14, .lcmp, 1, 0, 0, 0), (15, .ifCond .ge 8, 3, 0, 0, 0),
  (18, .lload_n 3, 1, 0, 0, 0), (19, .lneg, 1, 0, 0, 0), (20, .goto 4, 3, 0, 0, 0), (23, .lload_n 3, 1, 0, 0, 0),
  (24, .ldc2_w 364, 3, 0, 0, 1000000000000), (27, .lload_n 1, 1, 0, 0, 0), (28, .lconst 0, 1, 0, 0, 0), (29, .lcmp, 1, 0, 0, 0),
  (30, .ifCond .ge 8, 3, 0, 0, 0), (33, .lload_n 1, 1, 0, 0, 0), (34, .lneg, 1, 0, 0, 0), (35, .goto 4, 3, 0, 0, 0),
  (38, .lload_n 1, 1, 0, 0, 0), (39, .ldiv, 1, 0, 0, 0), (40, .lcmp, 1, 0, 0, 0), (41, .ifCond .le 7, 3, 0, 0, 0),
  (44, .iconst 1, 1, 0, 0, 0), (45, .goto 4, 3, 0, 0, 0), (48, .iconst 0, 1, 0, 0, 0), (49, .istore 5, 2, 0, 0, 0),
  (51, .aload_n 0, 1, 0, 0, 0), (52, .aload_n 0, 1, 0, 0, 0), (53, .getfield 361, 3, 12, 48, 2), (56, .ifCond .ne 8, 3, 0, 0, 0),
  (59, .iload 5, 2, 0, 0, 0), (61, .ifCond .eq 7, 3, 0, 0, 0), (64, .iconst 1, 1, 0, 0, 0), (65, .goto 4, 3, 0, 0, 0),
  (68, .iconst 0, 1, 0, 0, 0), (69, .putfield 361, 3, 12, 48, 2), (72, .aload_n 0, 1, 0, 0, 0), (73, .getfield 361, 3, 12, 48, 2),
  (76, .ifCond .eq 7, 3, 0, 0, 0), (79, .lconst 0, 1, 0, 0, 0), (80, .goto 6, 3, 0, 0, 0), (83, .lload_n 1, 1, 0, 0, 0),
  (84, .lload_n 3, 1, 0, 0, 0), (85, .lmul, 1, 0, 0, 0), (86, .lreturn, 1, 0, 0, 0)]
def op_X12_valueOf_0 : List cv_Q := [
  (0, .aload_n 0, 1, 0, 0, 0), (1, .getfield 54, 3, 12, 32, 4), (4, .iload_n 1, 1, 0, 0, 0), (5, .iaload, 1, 0, 0, 0),
  (6, .ifCond .ne 11, 3, 0, 0, 0), (9, .aload_n 0, 1, 0, 0, 0), (10, .getfield 57, 3, 12, 33, 4), (13, .iload_n 1, 1, 0, 0, 0),
  (14, .iaload, 1, 0, 0, 0), (15, .i2l, 1, 0, 0, 0), (16, .lreturn, 1, 0, 0, 0), (17, .aload_n 0, 1, 0, 0, 0),
  (18, .getfield 54, 3, 12, 32, 4), (21, .iload_n 1, 1, 0, 0, 0), (22, .iaload, 1, 0, 0, 0), (23, .iconst 1, 1, 0, 0, 0),
  (24, .if_icmp .ne 15, 3, 0, 0, 0), (27, .aload_n 0, 1, 0, 0, 0), (28, .getfield 75, 3, 12, 46, 4), (31, .aload_n 0, 1, 0, 0, 0),
  (32, .getfield 57, 3, 12, 33, 4), (35, .iload_n 1, 1, 0, 0, 0), (36, .iaload, 1, 0, 0, 0), (37, .laload, 1, 0, 0, 0),
  (38, .lreturn, 1, 0, 0, 0), (39, .aload_n 0, 1, 0, 0, 0), (40, .getfield 79, 3, 12, 47, 4), (43, .aload_n 0, 1, 0, 0, 0),
  (44, .getfield 57, 3, 12, 33, 4), (47, .iload_n 1, 1, 0, 0, 0), (48, .iaload, 1, 0, 0, 0), (49, .laload, 1, 0, 0, 0),
  (50, .lstore_n 2, 1, 0, 0, 0), (51, .aload_n 0, 1, 0, 0, 0), (52, .getfield 54, 3, 12, 32, 4), (55, .iload_n 1, 1, 0, 0, 0),
  (56, .iaload, 1, 0, 0, 0), (57, .iconst 2, 1, 0, 0, 0), (58, .if_icmp .ne 15, 3, 0, 0, 0), (61, .lload_n 2, 1, 0, 0, 0),
  (62, .lconst 0, 1, 0, 0, 0), (63, .lcmp, 1, 0, 0, 0), (64, .ifCond .ne 7, 3, 0, 0, 0), (67, .lconst 1, 1, 0, 0, 0),
  (68, .goto 4, 3, 0, 0, 0), (71, .lconst 0, 1, 0, 0, 0), (72, .lreturn, 1, 0, 0, 0), (73, .aload_n 0, 1, 0, 0, 0),
  (74, .getfield 79, 3, 12, 47, 4), (77, .aload_n 0, 1, 0, 0, 0), (78, .getfield 60, 3, 12, 34, 4), (81, .iload_n 1, 1, 0, 0, 0),
  (82, .iaload, 1, 0, 0, 0), (83, .laload, 1, 0, 0, 0), (84, .lstore 4, 2, 0, 0, 0), (86, .aload_n 0, 1, 0, 0, 0),
  (87, .getfield 54, 3, 12, 32, 4), (90, .iload_n 1, 1, 0, 0, 0), (91, .iaload, 1, 0, 0, 0), (92, .tableswitch 167 3 14 #[64, 83, 167, 167, 167, 167, 167, 167, 102, 111, 120, 128], 64, 0, 0, 0)]
def op_X12_valueOf_1 : List cv_Q := [
  (156, .lload_n 2, 1, 0, 0, 0), (157, .lconst 0, 1, 0, 0, 0), (158, .lcmp, 1, 0, 0, 0), (159, .ifCond .eq 14, 3, 0, 0, 0),
  (162, .lload 4, 2, 0, 0, 0), (164, .lconst 0, 1, 0, 0, 0), (165, .lcmp, 1, 0, 0, 0), (166, .ifCond .eq 7, 3, 0, 0, 0),
  (169, .lconst 1, 1, 0, 0, 0), (170, .goto 4, 3, 0, 0, 0), (173, .lconst 0, 1, 0, 0, 0), (174, .lreturn, 1, 0, 0, 0),
  (175, .lload_n 2, 1, 0, 0, 0), (176, .lconst 0, 1, 0, 0, 0), (177, .lcmp, 1, 0, 0, 0), (178, .ifCond .ne 10, 3, 0, 0, 0),
  (181, .lload 4, 2, 0, 0, 0), (183, .lconst 0, 1, 0, 0, 0), (184, .lcmp, 1, 0, 0, 0), (185, .ifCond .eq 7, 3, 0, 0, 0),
  (188, .lconst 1, 1, 0, 0, 0), (189, .goto 4, 3, 0, 0, 0), (192, .lconst 0, 1, 0, 0, 0), (193, .lreturn, 1, 0, 0, 0),
  (194, .aload_n 0, 1, 0, 0, 0), (195, .lload_n 2, 1, 0, 0, 0), (196, .lload 4, 2, 0, 0, 0), (198, .ladd, 1, 0, 0, 0),
  (199, .invokevirtual 368, 3, 208, 1, 12), (202, .lreturn, 1, 0, 0, 0), (203, .aload_n 0, 1, 0, 0, 0), (204, .lload_n 2, 1, 0, 0, 0),
  (205, .lload 4, 2, 0, 0, 0), (207, .lsub, 1, 0, 0, 0), (208, .invokevirtual 368, 3, 208, 1, 12), (211, .lreturn, 1, 0, 0, 0),
  (212, .aload_n 0, 1, 0, 0, 0), (213, .lload_n 2, 1, 0, 0, 0), (214, .lload 4, 2, 0, 0, 0), (216, .invokevirtual 372, 3, 210, 2, 12),
  (219, .lreturn, 1, 0, 0, 0), (220, .aload_n 0, 1, 0, 0, 0), (221, .aload_n 0, 1, 0, 0, 0), (222, .getfield 361, 3, 12, 48, 2),
  (225, .ifCond .ne 10, 3, 0, 0, 0), (228, .lload 4, 2, 0, 0, 0), (230, .lconst 0, 1, 0, 0, 0), (231, .lcmp, 1, 0, 0, 0),
  (232, .ifCond .ne 7, 3, 0, 0, 0), (235, .iconst 1, 1, 0, 0, 0), (236, .goto 4, 3, 0, 0, 0), (239, .iconst 0, 1, 0, 0, 0),
  (240, .putfield 361, 3, 12, 48, 2), (243, .aload_n 0, 1, 0, 0, 0), (244, .getfield 361, 3, 12, 48, 2), (247, .ifCond .eq 7, 3, 0, 0, 0),
  (250, .lconst 0, 1, 0, 0, 0), (251, .goto 7, 3, 0, 0, 0), (254, .lload_n 2, 1, 0, 0, 0), (255, .lload 4, 2, 0, 0, 0)]
def op_X12_valueOf_2 : List cv_Q := [
  (257, .ldiv, 1, 0, 0, 0), (258, .lreturn, 1, 0, 0, 0), (259, .aload_n 0, 1, 0, 0, 0), (260, .getfield 54, 3, 12, 32, 4),
  (263, .iload_n 1, 1, 0, 0, 0), (264, .iaload, 1, 0, 0, 0), (265, .lload_n 2, 1, 0, 0, 0), (266, .lload 4, 2, 0, 0, 0),
  (268, .invokestatic 376, 3, 209, 3, 0), (271, .ifCond .eq 7, 3, 0, 0, 0), (274, .lconst 1, 1, 0, 0, 0), (275, .goto 4, 3, 0, 0, 0),
  (278, .lconst 0, 1, 0, 0, 0), (279, .lreturn, 1, 0, 0, 0)]
def op_X12_valueOf : List cv_Q := op_X12_valueOf_0 ++ (op_X12_valueOf_1 ++ (op_X12_valueOf_2))
def op_X12_layNames_0 : List cv_Q := [
  (0, .aload_n 0, 1, 0, 0, 0), (1, .getfield 75, 3, 12, 46, 4), (4, .iconst 0, 1, 0, 0, 0), (5, .aload_n 0, 1, 0, 0, 0),
  (6, .iload_n 1, 1, 0, 0, 0), (7, .invokevirtual 380, 3, 204, 1, 12), (10, .i2l, 1, 0, 0, 0), (11, .lastore, 1, 0, 0, 0),
  (12, .aload_n 0, 1, 0, 0, 0), (13, .getfield 75, 3, 12, 46, 4), (16, .iconst 1, 1, 0, 0, 0), (17, .aload_n 0, 1, 0, 0, 0),
  (18, .iload_n 2, 1, 0, 0, 0), (19, .invokevirtual 383, 3, 207, 1, 12), (22, .aload_n 0, 1, 0, 0, 0), (23, .getfield 72, 3, 12, 45, 4),
  (26, .iconst 5, 1, 0, 0, 0), (27, .iaload, 1, 0, 0, 0), (28, .iadd, 1, 0, 0, 0), (29, .i2l, 1, 0, 0, 0),
  (30, .lastore, 1, 0, 0, 0), (31, .aload_n 0, 1, 0, 0, 0), (32, .getfield 75, 3, 12, 46, 4), (35, .iconst 2, 1, 0, 0, 0),
  (36, .aload_n 0, 1, 0, 0, 0), (37, .getfield 72, 3, 12, 45, 4), (40, .bipush 6, 2, 0, 0, 0), (42, .iaload, 1, 0, 0, 0),
  (43, .i2l, 1, 0, 0, 0), (44, .lastore, 1, 0, 0, 0), (45, .aload_n 0, 1, 0, 0, 0), (46, .getfield 75, 3, 12, 46, 4),
  (49, .iconst 3, 1, 0, 0, 0), (50, .aload_n 0, 1, 0, 0, 0), (51, .getfield 36, 3, 12, 26, 4), (54, .bipush 16, 2, 0, 0, 0),
  (56, .iload_n 1, 1, 0, 0, 0), (57, .imul, 1, 0, 0, 0), (58, .bipush 8, 2, 0, 0, 0), (60, .iadd, 1, 0, 0, 0),
  (61, .iaload, 1, 0, 0, 0), (62, .i2l, 1, 0, 0, 0), (63, .lastore, 1, 0, 0, 0), (64, .aload_n 0, 1, 0, 0, 0),
  (65, .getfield 75, 3, 12, 46, 4), (68, .iconst 4, 1, 0, 0, 0), (69, .aload_n 0, 1, 0, 0, 0), (70, .getfield 72, 3, 12, 45, 4),
  (73, .bipush 7, 2, 0, 0, 0), (75, .iaload, 1, 0, 0, 0), (76, .iconst 1, 1, 0, 0, 0), (77, .if_icmp .ne 7, 3, 0, 0, 0),
  (80, .lconst 1, 1, 0, 0, 0), (81, .goto 4, 3, 0, 0, 0), (84, .lconst 0, 1, 0, 0, 0), (85, .lastore, 1, 0, 0, 0),
  (86, .aload_n 0, 1, 0, 0, 0), (87, .getfield 75, 3, 12, 46, 4), (90, .iconst 5, 1, 0, 0, 0), (91, .aload_n 0, 1, 0, 0, 0)]
def op_X12_layNames_1 : List cv_Q := [
  (92, .getfield 72, 3, 12, 45, 4), (95, .bipush 7, 2, 0, 0, 0), (97, .iaload, 1, 0, 0, 0), (98, .iconst 2, 1, 0, 0, 0),
  (99, .if_icmp .ne 7, 3, 0, 0, 0), (102, .lconst 1, 1, 0, 0, 0), (103, .goto 4, 3, 0, 0, 0), (106, .lconst 0, 1, 0, 0, 0),
  (107, .lastore, 1, 0, 0, 0), (108, .aload_n 0, 1, 0, 0, 0), (109, .getfield 75, 3, 12, 46, 4), (112, .bipush 6, 2, 0, 0, 0),
  (114, .aload_n 0, 1, 0, 0, 0), (115, .iload_n 1, 1, 0, 0, 0), (116, .invokevirtual 386, 3, 206, 1, 12), (119, .i2l, 1, 0, 0, 0),
  (120, .lastore, 1, 0, 0, 0), (121, .aload_n 0, 1, 0, 0, 0), (122, .getfield 75, 3, 12, 46, 4), (125, .bipush 7, 2, 0, 0, 0),
  (127, .iload_n 2, 1, 0, 0, 0), (128, .i2l, 1, 0, 0, 0), (129, .lastore, 1, 0, 0, 0), (130, .aload_n 0, 1, 0, 0, 0),
  (131, .getfield 75, 3, 12, 46, 4), (134, .bipush 8, 2, 0, 0, 0), (136, .aload_n 0, 1, 0, 0, 0), (137, .getfield 72, 3, 12, 45, 4),
  (140, .bipush 8, 2, 0, 0, 0), (142, .iaload, 1, 0, 0, 0), (143, .i2l, 1, 0, 0, 0), (144, .lastore, 1, 0, 0, 0),
  (145, .aload_n 0, 1, 0, 0, 0), (146, .getfield 75, 3, 12, 46, 4), (149, .bipush 9, 2, 0, 0, 0), (151, .iload_n 3, 1, 0, 0, 0),
  (152, .i2l, 1, 0, 0, 0), (153, .lastore, 1, 0, 0, 0), (154, .return_, 1, 0, 0, 0)]
def op_X12_layNames : List cv_Q := op_X12_layNames_0 ++ (op_X12_layNames_1)
def op_X12_lawOf : List cv_Q := [
  (0, .aload_n 0, 1, 0, 0, 0), (1, .aload_n 0, 1, 0, 0, 0), (2, .getfield 29, 3, 12, 24, 4), (5, .iload_n 1, 1, 0, 0, 0),
  (6, .baload, 1, 0, 0, 0), (7, .ifCond .ne 7, 3, 0, 0, 0), (10, .iconst 1, 1, 0, 0, 0), (11, .goto 4, 3, 0, 0, 0),
  (14, .iconst 0, 1, 0, 0, 0), (15, .putfield 361, 3, 12, 48, 2), (18, .aload_n 0, 1, 0, 0, 0), (19, .getfield 361, 3, 12, 48, 2),
  (22, .ifCond .eq 5, 3, 0, 0, 0), (25, .lconst 0, 1, 0, 0, 0), (26, .lreturn, 1, 0, 0, 0), (27, .aload_n 0, 1, 0, 0, 0),
  (28, .getfield 23, 3, 12, 22, 4), (31, .iload_n 1, 1, 0, 0, 0), (32, .iaload, 1, 0, 0, 0), (33, .istore_n 2, 1, 0, 0, 0),
  (34, .iload_n 2, 1, 0, 0, 0), (35, .aload_n 0, 1, 0, 0, 0), (36, .getfield 26, 3, 12, 23, 4), (39, .iload_n 1, 1, 0, 0, 0),
  (40, .iaload, 1, 0, 0, 0), (41, .if_icmp .ge 20, 3, 0, 0, 0), (44, .aload_n 0, 1, 0, 0, 0), (45, .getfield 79, 3, 12, 47, 4),
  (48, .iload_n 2, 1, 0, 0, 0), (49, .aload_n 0, 1, 0, 0, 0), (50, .iload_n 2, 1, 0, 0, 0), (51, .invokevirtual 389, 3, 211, 1, 12),
  (54, .lastore, 1, 0, 0, 0), (55, .iinc 2 1, 3, 0, 0, 0), (58, .goto (-24), 3, 0, 0, 0), (61, .aload_n 0, 1, 0, 0, 0),
  (62, .getfield 361, 3, 12, 48, 2), (65, .ifCond .eq 7, 3, 0, 0, 0), (68, .lconst 0, 1, 0, 0, 0), (69, .goto 16, 3, 0, 0, 0),
  (72, .aload_n 0, 1, 0, 0, 0), (73, .getfield 79, 3, 12, 47, 4), (76, .aload_n 0, 1, 0, 0, 0), (77, .getfield 26, 3, 12, 23, 4),
  (80, .iload_n 1, 1, 0, 0, 0), (81, .iaload, 1, 0, 0, 0), (82, .iconst 1, 1, 0, 0, 0), (83, .isub, 1, 0, 0, 0),
  (84, .laload, 1, 0, 0, 0), (85, .lreturn, 1, 0, 0, 0)]
def op_X12_goes_0 : List cv_Q := [
  (0, .aload_n 0, 1, 0, 0, 0), (1, .iload_n 1, 1, 0, 0, 0), (2, .iload_n 2, 1, 0, 0, 0), (3, .iconst 0, 1, 0, 0, 0),
  (4, .invokevirtual 393, 3, 212, 3, 12), (7, .iconst 0, 1, 0, 0, 0), (8, .istore_n 3, 1, 0, 0, 0), (9, .iload_n 3, 1, 0, 0, 0),
  (10, .iconst 3, 1, 0, 0, 0), (11, .if_icmp .ge 50, 3, 0, 0, 0), (14, .aload_n 0, 1, 0, 0, 0), (15, .iload_n 3, 1, 0, 0, 0),
  (16, .invokevirtual 396, 3, 213, 1, 12), (19, .lstore 4, 2, 0, 0, 0), (21, .aload_n 0, 1, 0, 0, 0), (22, .getfield 82, 3, 12, 49, 4),
  (25, .iload_n 3, 1, 0, 0, 0), (26, .lload 4, 2, 0, 0, 0), (28, .lconst 0, 1, 0, 0, 0), (29, .lcmp, 1, 0, 0, 0),
  (30, .ifCond .ge 7, 3, 0, 0, 0), (33, .lconst 0, 1, 0, 0, 0), (34, .goto 20, 3, 0, 0, 0), (37, .lload 4, 2, 0, 0, 0),
  (39, .ldc2_w 399, 3, 0, 0, 9999), (42, .lcmp, 1, 0, 0, 0), (43, .ifCond .le 9, 3, 0, 0, 0), (46, .ldc2_w 399, 3, 0, 0, 9999),
  (49, .goto 5, 3, 0, 0, 0), (52, .lload 4, 2, 0, 0, 0), (54, .lastore, 1, 0, 0, 0), (55, .iinc 3 1, 3, 0, 0, 0),
  (58, .goto (-49), 3, 0, 0, 0), (61, .iconst 0, 1, 0, 0, 0), (62, .istore_n 3, 1, 0, 0, 0), (63, .iload_n 3, 1, 0, 0, 0),
  (64, .aload_n 0, 1, 0, 0, 0), (65, .getfield 222, 3, 12, 14, 0), (68, .if_icmp .ge 52, 3, 0, 0, 0), (71, .aload_n 0, 1, 0, 0, 0),
  (72, .getfield 72, 3, 12, 45, 4), (75, .bipush 10, 2, 0, 0, 0), (77, .iaload, 1, 0, 0, 0), (78, .iload_n 3, 1, 0, 0, 0),
  (79, .invokestatic 272, 3, 157, 2, 0), (82, .ifCond .eq 32, 3, 0, 0, 0), (85, .aload_n 0, 1, 0, 0, 0), (86, .getfield 82, 3, 12, 49, 4),
  (89, .aload_n 0, 1, 0, 0, 0), (90, .getfield 51, 3, 12, 31, 4), (93, .iconst 3, 1, 0, 0, 0), (94, .iload_n 3, 1, 0, 0, 0),
  (95, .imul, 1, 0, 0, 0), (96, .iconst 1, 1, 0, 0, 0), (97, .iadd, 1, 0, 0, 0), (98, .iaload, 1, 0, 0, 0),
  (99, .dup2, 1, 0, 0, 0), (100, .laload, 1, 0, 0, 0), (101, .aload_n 0, 1, 0, 0, 0), (102, .getfield 51, 3, 12, 31, 4)]
def op_X12_goes_1 : List cv_Q := [
  (105, .iconst 3, 1, 0, 0, 0), (106, .iload_n 3, 1, 0, 0, 0), (107, .imul, 1, 0, 0, 0), (108, .iconst 2, 1, 0, 0, 0),
  (109, .iadd, 1, 0, 0, 0), (110, .iaload, 1, 0, 0, 0), (111, .i2l, 1, 0, 0, 0), (112, .ladd, 1, 0, 0, 0),
  (113, .lastore, 1, 0, 0, 0), (114, .iinc 3 1, 3, 0, 0, 0), (117, .goto (-54), 3, 0, 0, 0), (120, .iconst 0, 1, 0, 0, 0),
  (121, .istore_n 3, 1, 0, 0, 0), (122, .iload_n 3, 1, 0, 0, 0), (123, .iconst 3, 1, 0, 0, 0), (124, .if_icmp .ge 49, 3, 0, 0, 0),
  (127, .aload_n 0, 1, 0, 0, 0), (128, .getfield 72, 3, 12, 45, 4), (131, .iload_n 3, 1, 0, 0, 0), (132, .iaload, 1, 0, 0, 0),
  (133, .i2l, 1, 0, 0, 0), (134, .aload_n 0, 1, 0, 0, 0), (135, .getfield 82, 3, 12, 49, 4), (138, .iload_n 3, 1, 0, 0, 0),
  (139, .laload, 1, 0, 0, 0), (140, .ladd, 1, 0, 0, 0), (141, .lstore 4, 2, 0, 0, 0), (143, .aload_n 0, 1, 0, 0, 0),
  (144, .getfield 72, 3, 12, 45, 4), (147, .iload_n 3, 1, 0, 0, 0), (148, .lload 4, 2, 0, 0, 0), (150, .ldc2_w 401, 3, 0, 0, 1000000),
  (153, .lcmp, 1, 0, 0, 0), (154, .ifCond .le 9, 3, 0, 0, 0), (157, .ldc2_w 401, 3, 0, 0, 1000000), (160, .goto 5, 3, 0, 0, 0),
  (163, .lload 4, 2, 0, 0, 0), (165, .l2i, 1, 0, 0, 0), (166, .iastore, 1, 0, 0, 0), (167, .iinc 3 1, 3, 0, 0, 0),
  (170, .goto (-48), 3, 0, 0, 0), (173, .return_, 1, 0, 0, 0)]
def op_X12_goes : List cv_Q := op_X12_goes_0 ++ (op_X12_goes_1)
def op_X12_goesOn : List cv_Q := [
  (0, .iconst 0, 1, 0, 0, 0), (1, .istore_n 3, 1, 0, 0, 0), (2, .iload_n 3, 1, 0, 0, 0), (3, .iload_n 2, 1, 0, 0, 0),
  (4, .if_icmp .ge 20, 3, 0, 0, 0), (7, .aload_n 0, 1, 0, 0, 0), (8, .iload_n 1, 1, 0, 0, 0), (9, .aload_n 0, 1, 0, 0, 0),
  (10, .getfield 240, 3, 12, 43, 0), (13, .iload_n 3, 1, 0, 0, 0), (14, .iadd, 1, 0, 0, 0), (15, .invokevirtual 403, 3, 214, 2, 12),
  (18, .iinc 3 1, 3, 0, 0, 0), (21, .goto (-19), 3, 0, 0, 0), (24, .return_, 1, 0, 0, 0)]
def op_X12_isGate : List cv_Q := [
  (0, .iload_n 1, 1, 0, 0, 0), (1, .ifCond .lt 15, 3, 0, 0, 0), (4, .iload_n 1, 1, 0, 0, 0), (5, .aload_n 0, 1, 0, 0, 0),
  (6, .getfield 216, 3, 12, 12, 0), (9, .if_icmp .ge 7, 3, 0, 0, 0), (12, .iconst 1, 1, 0, 0, 0), (13, .goto 4, 3, 0, 0, 0),
  (16, .iconst 0, 1, 0, 0, 0), (17, .ireturn, 1, 0, 0, 0)]
def op_X12_fails : List cv_Q := [
  (0, .aload_n 0, 1, 0, 0, 0), (1, .iload_n 1, 1, 0, 0, 0), (2, .putfield 136, 3, 12, 2, 0), (5, .iconst 0, 1, 0, 0, 0),
  (6, .ireturn, 1, 0, 0, 0)]
def op_X12_look_0 : List cv_Q := [
  (0, .aload_n 0, 1, 0, 0, 0), (1, .iconst 0, 1, 0, 0, 0), (2, .putfield 136, 3, 12, 2, 0), (5, .aload_n 0, 1, 0, 0, 0),
  (6, .iload_n 1, 1, 0, 0, 0), (7, .invokevirtual 407, 3, 216, 1, 12), (10, .ifCond .ne 9, 3, 0, 0, 0), (13, .aload_n 0, 1, 0, 0, 0),
  (14, .iconst 1, 1, 0, 0, 0), (15, .invokevirtual 410, 3, 217, 1, 12), (18, .ireturn, 1, 0, 0, 0), (19, .aload_n 0, 1, 0, 0, 0),
  (20, .iload_n 1, 1, 0, 0, 0), (21, .invokevirtual 413, 3, 202, 1, 12), (24, .iload_n 2, 1, 0, 0, 0), (25, .tableswitch 158 0 10 #[59, 69, 81, 93, 99, 105, 113, 126, 134, 142, 150], 59, 0, 0, 0),
  (84, .aload_n 0, 1, 0, 0, 0), (85, .getfield 36, 3, 12, 26, 4), (88, .bipush 16, 2, 0, 0, 0), (90, .iload_n 1, 1, 0, 0, 0),
  (91, .imul, 1, 0, 0, 0), (92, .iaload, 1, 0, 0, 0), (93, .ireturn, 1, 0, 0, 0), (94, .aload_n 0, 1, 0, 0, 0),
  (95, .getfield 36, 3, 12, 26, 4), (98, .bipush 16, 2, 0, 0, 0), (100, .iload_n 1, 1, 0, 0, 0), (101, .imul, 1, 0, 0, 0),
  (102, .iconst 1, 1, 0, 0, 0), (103, .iadd, 1, 0, 0, 0), (104, .iaload, 1, 0, 0, 0), (105, .ireturn, 1, 0, 0, 0),
  (106, .aload_n 0, 1, 0, 0, 0), (107, .getfield 36, 3, 12, 26, 4), (110, .bipush 16, 2, 0, 0, 0), (112, .iload_n 1, 1, 0, 0, 0),
  (113, .imul, 1, 0, 0, 0), (114, .iconst 2, 1, 0, 0, 0), (115, .iadd, 1, 0, 0, 0), (116, .iaload, 1, 0, 0, 0),
  (117, .ireturn, 1, 0, 0, 0), (118, .aload_n 0, 1, 0, 0, 0), (119, .iload_n 1, 1, 0, 0, 0), (120, .invokevirtual 355, 3, 203, 1, 12),
  (123, .ireturn, 1, 0, 0, 0), (124, .aload_n 0, 1, 0, 0, 0), (125, .iload_n 1, 1, 0, 0, 0), (126, .invokevirtual 380, 3, 204, 1, 12),
  (129, .ireturn, 1, 0, 0, 0), (130, .aload_n 0, 1, 0, 0, 0), (131, .getfield 72, 3, 12, 45, 4), (134, .bipush 6, 2, 0, 0, 0),
  (136, .iaload, 1, 0, 0, 0), (137, .ireturn, 1, 0, 0, 0), (138, .aload_n 0, 1, 0, 0, 0), (139, .getfield 36, 3, 12, 26, 4),
  (142, .bipush 16, 2, 0, 0, 0), (144, .iload_n 1, 1, 0, 0, 0), (145, .imul, 1, 0, 0, 0), (146, .bipush 8, 2, 0, 0, 0)]
def op_X12_look_1 : List cv_Q := [
  (148, .iadd, 1, 0, 0, 0), (149, .iaload, 1, 0, 0, 0), (150, .ireturn, 1, 0, 0, 0), (151, .aload_n 0, 1, 0, 0, 0),
  (152, .getfield 72, 3, 12, 45, 4), (155, .bipush 7, 2, 0, 0, 0), (157, .iaload, 1, 0, 0, 0), (158, .ireturn, 1, 0, 0, 0),
  (159, .aload_n 0, 1, 0, 0, 0), (160, .getfield 72, 3, 12, 45, 4), (163, .bipush 8, 2, 0, 0, 0), (165, .iaload, 1, 0, 0, 0),
  (166, .ireturn, 1, 0, 0, 0), (167, .aload_n 0, 1, 0, 0, 0), (168, .getfield 72, 3, 12, 45, 4), (171, .bipush 9, 2, 0, 0, 0),
  (173, .iaload, 1, 0, 0, 0), (174, .ireturn, 1, 0, 0, 0), (175, .aload_n 0, 1, 0, 0, 0), (176, .getfield 72, 3, 12, 45, 4),
  (179, .bipush 10, 2, 0, 0, 0), (181, .iaload, 1, 0, 0, 0), (182, .ireturn, 1, 0, 0, 0), (183, .aload_n 0, 1, 0, 0, 0),
  (184, .iconst 2, 1, 0, 0, 0), (185, .invokevirtual 410, 3, 217, 1, 12), (188, .ireturn, 1, 0, 0, 0)]
def op_X12_look : List cv_Q := op_X12_look_0 ++ (op_X12_look_1)
def op_X12_works : List cv_Q := [
  (0, .aload_n 0, 1, 0, 0, 0), (1, .iconst 0, 1, 0, 0, 0), (2, .putfield 136, 3, 12, 2, 0), (5, .iload_n 1, 1, 0, 0, 0),
  (6, .ifCond .lt 20, 3, 0, 0, 0), (9, .iload_n 1, 1, 0, 0, 0), (10, .aload_n 0, 1, 0, 0, 0), (11, .getfield 219, 3, 12, 13, 0),
  (14, .if_icmp .ge 12, 3, 0, 0, 0), (17, .iload_n 2, 1, 0, 0, 0), (18, .iconst 0, 1, 0, 0, 0), (19, .iconst 2, 1, 0, 0, 0),
  (20, .invokestatic 180, 3, 156, 3, 0), (23, .ifCond .ne 7, 3, 0, 0, 0), (26, .iconst (-1), 1, 0, 0, 0), (27, .goto 13, 3, 0, 0, 0),
  (30, .aload_n 0, 1, 0, 0, 0), (31, .getfield 45, 3, 12, 29, 4), (34, .iconst 3, 1, 0, 0, 0), (35, .iload_n 1, 1, 0, 0, 0),
  (36, .imul, 1, 0, 0, 0), (37, .iload_n 2, 1, 0, 0, 0), (38, .iadd, 1, 0, 0, 0), (39, .iaload, 1, 0, 0, 0),
  (40, .ireturn, 1, 0, 0, 0)]
def op_X12_firm : List cv_Q := [
  (0, .aload_n 0, 1, 0, 0, 0), (1, .iconst 0, 1, 0, 0, 0), (2, .putfield 136, 3, 12, 2, 0), (5, .iload_n 1, 1, 0, 0, 0),
  (6, .iconst 0, 1, 0, 0, 0), (7, .sipush 1999, 3, 0, 0, 0), (10, .invokestatic 180, 3, 156, 3, 0), (13, .ifCond .eq 11, 3, 0, 0, 0),
  (16, .aload_n 0, 1, 0, 0, 0), (17, .iload_n 1, 1, 0, 0, 0), (18, .invokevirtual 383, 3, 207, 1, 12), (21, .goto 4, 3, 0, 0, 0),
  (24, .iconst (-1), 1, 0, 0, 0), (25, .ireturn, 1, 0, 0, 0)]
def op_X12_weeks : List cv_Q := [
  (0, .aload_n 0, 1, 0, 0, 0), (1, .iconst 0, 1, 0, 0, 0), (2, .putfield 136, 3, 12, 2, 0), (5, .iload_n 1, 1, 0, 0, 0),
  (6, .iconst 0, 1, 0, 0, 0), (7, .sipush 520, 3, 0, 0, 0), (10, .invokestatic 180, 3, 156, 3, 0), (13, .ifCond .eq 15, 3, 0, 0, 0),
  (16, .aload_n 0, 1, 0, 0, 0), (17, .getfield 240, 3, 12, 43, 0), (20, .iload_n 1, 1, 0, 0, 0), (21, .iadd, 1, 0, 0, 0),
  (22, .sipush 2000, 3, 0, 0, 0), (25, .if_icmp .le 5, 3, 0, 0, 0), (28, .iconst (-1), 1, 0, 0, 0), (29, .ireturn, 1, 0, 0, 0),
  (30, .iconst 0, 1, 0, 0, 0), (31, .istore_n 2, 1, 0, 0, 0), (32, .iload_n 2, 1, 0, 0, 0), (33, .aload_n 0, 1, 0, 0, 0),
  (34, .getfield 216, 3, 12, 12, 0), (37, .if_icmp .ge 36, 3, 0, 0, 0), (40, .aload_n 0, 1, 0, 0, 0), (41, .iload_n 2, 1, 0, 0, 0),
  (42, .invokevirtual 413, 3, 202, 1, 12), (45, .aload_n 0, 1, 0, 0, 0), (46, .iload_n 2, 1, 0, 0, 0), (47, .iload_n 1, 1, 0, 0, 0),
  (48, .invokevirtual 416, 3, 215, 2, 12), (51, .aload_n 0, 1, 0, 0, 0), (52, .getfield 69, 3, 12, 44, 4), (55, .bipush 16, 2, 0, 0, 0),
  (57, .iload_n 2, 1, 0, 0, 0), (58, .imul, 1, 0, 0, 0), (59, .aload_n 0, 1, 0, 0, 0), (60, .getfield 72, 3, 12, 45, 4),
  (63, .iconst 0, 1, 0, 0, 0), (64, .invokestatic 236, 3, 200, 4, 0), (67, .iinc 2 1, 3, 0, 0, 0), (70, .goto (-38), 3, 0, 0, 0),
  (73, .aload_n 0, 1, 0, 0, 0), (74, .dup, 1, 0, 0, 0), (75, .getfield 240, 3, 12, 43, 0), (78, .iload_n 1, 1, 0, 0, 0),
  (79, .iadd, 1, 0, 0, 0), (80, .putfield 240, 3, 12, 43, 0), (83, .aload_n 0, 1, 0, 0, 0), (84, .getfield 240, 3, 12, 43, 0),
  (87, .ireturn, 1, 0, 0, 0)]
def op_X12_sags : List cv_Q := [
  (0, .aload_n 0, 1, 0, 0, 0), (1, .iconst 0, 1, 0, 0, 0), (2, .putfield 136, 3, 12, 2, 0), (5, .aload_n 0, 1, 0, 0, 0),
  (6, .iload_n 1, 1, 0, 0, 0), (7, .invokevirtual 407, 3, 216, 1, 12), (10, .ifCond .eq 13, 3, 0, 0, 0), (13, .iload_n 2, 1, 0, 0, 0),
  (14, .iconst 0, 1, 0, 0, 0), (15, .bipush 7, 2, 0, 0, 0), (17, .invokestatic 180, 3, 156, 3, 0), (20, .ifCond .ne 7, 3, 0, 0, 0),
  (23, .ldc_w 419, 3, 0, 0, (-2147483648)), (26, .ireturn, 1, 0, 0, 0), (27, .aload_n 0, 1, 0, 0, 0), (28, .iload_n 1, 1, 0, 0, 0),
  (29, .invokevirtual 413, 3, 202, 1, 12), (32, .iload_n 2, 1, 0, 0, 0), (33, .ifCond .ne 11, 3, 0, 0, 0), (36, .aload_n 0, 1, 0, 0, 0),
  (37, .iload_n 1, 1, 0, 0, 0), (38, .invokevirtual 386, 3, 206, 1, 12), (41, .goto 27, 3, 0, 0, 0), (44, .iload_n 2, 1, 0, 0, 0),
  (45, .iconst 5, 1, 0, 0, 0), (46, .if_icmp .ge 14, 3, 0, 0, 0), (49, .aload_n 0, 1, 0, 0, 0), (50, .getfield 72, 3, 12, 45, 4),
  (53, .iload_n 2, 1, 0, 0, 0), (54, .iconst 1, 1, 0, 0, 0), (55, .isub, 1, 0, 0, 0), (56, .iaload, 1, 0, 0, 0),
  (57, .goto 11, 3, 0, 0, 0), (60, .aload_n 0, 1, 0, 0, 0), (61, .iload_n 1, 1, 0, 0, 0), (62, .iload_n 2, 1, 0, 0, 0),
  (63, .iconst 5, 1, 0, 0, 0), (64, .isub, 1, 0, 0, 0), (65, .invokevirtual 358, 3, 205, 2, 12), (68, .ireturn, 1, 0, 0, 0)]
def op_X12_isLatched : List cv_Q := [
  (0, .aload_n 0, 1, 0, 0, 0), (1, .iload_n 1, 1, 0, 0, 0), (2, .invokevirtual 386, 3, 206, 1, 12), (5, .istore_n 2, 1, 0, 0, 0),
  (6, .iload_n 2, 1, 0, 0, 0), (7, .aload_n 0, 1, 0, 0, 0), (8, .getfield 36, 3, 12, 26, 4), (11, .bipush 16, 2, 0, 0, 0),
  (13, .iload_n 1, 1, 0, 0, 0), (14, .imul, 1, 0, 0, 0), (15, .bipush 10, 2, 0, 0, 0), (17, .iadd, 1, 0, 0, 0),
  (18, .iaload, 1, 0, 0, 0), (19, .ineg, 1, 0, 0, 0), (20, .if_icmp .lt 23, 3, 0, 0, 0), (23, .iload_n 2, 1, 0, 0, 0),
  (24, .aload_n 0, 1, 0, 0, 0), (25, .getfield 36, 3, 12, 26, 4), (28, .bipush 16, 2, 0, 0, 0), (30, .iload_n 1, 1, 0, 0, 0),
  (31, .imul, 1, 0, 0, 0), (32, .bipush 11, 2, 0, 0, 0), (34, .iadd, 1, 0, 0, 0), (35, .iaload, 1, 0, 0, 0),
  (36, .if_icmp .gt 7, 3, 0, 0, 0), (39, .iconst 1, 1, 0, 0, 0), (40, .goto 4, 3, 0, 0, 0), (43, .iconst 0, 1, 0, 0, 0),
  (44, .ireturn, 1, 0, 0, 0)]
def op_X12_latched : List cv_Q := [
  (0, .aload_n 0, 1, 0, 0, 0), (1, .iconst 0, 1, 0, 0, 0), (2, .putfield 136, 3, 12, 2, 0), (5, .aload_n 0, 1, 0, 0, 0),
  (6, .iload_n 1, 1, 0, 0, 0), (7, .invokevirtual 407, 3, 216, 1, 12), (10, .ifCond .ne 5, 3, 0, 0, 0), (13, .iconst (-1), 1, 0, 0, 0),
  (14, .ireturn, 1, 0, 0, 0), (15, .aload_n 0, 1, 0, 0, 0), (16, .iload_n 1, 1, 0, 0, 0), (17, .invokevirtual 413, 3, 202, 1, 12),
  (20, .aload_n 0, 1, 0, 0, 0), (21, .iload_n 1, 1, 0, 0, 0), (22, .invokevirtual 420, 3, 223, 1, 12), (25, .ifCond .eq 7, 3, 0, 0, 0),
  (28, .iconst 1, 1, 0, 0, 0), (29, .goto 4, 3, 0, 0, 0), (32, .iconst 0, 1, 0, 0, 0), (33, .ireturn, 1, 0, 0, 0)]
def op_X12_gives : List cv_Q := [
  (0, .aload_n 0, 1, 0, 0, 0), (1, .iconst 0, 1, 0, 0, 0), (2, .putfield 136, 3, 12, 2, 0), (5, .aload_n 0, 1, 0, 0, 0),
  (6, .iload_n 1, 1, 0, 0, 0), (7, .invokevirtual 407, 3, 216, 1, 12), (10, .ifCond .ne 5, 3, 0, 0, 0), (13, .iconst (-1), 1, 0, 0, 0),
  (14, .ireturn, 1, 0, 0, 0), (15, .aload_n 0, 1, 0, 0, 0), (16, .iload_n 1, 1, 0, 0, 0), (17, .invokevirtual 413, 3, 202, 1, 12),
  (20, .iconst 0, 1, 0, 0, 0), (21, .istore_n 2, 1, 0, 0, 0), (22, .iconst 1, 1, 0, 0, 0), (23, .istore_n 3, 1, 0, 0, 0),
  (24, .iload_n 3, 1, 0, 0, 0), (25, .iconst 3, 1, 0, 0, 0), (26, .if_icmp .ge 30, 3, 0, 0, 0), (29, .aload_n 0, 1, 0, 0, 0),
  (30, .iload_n 1, 1, 0, 0, 0), (31, .iload_n 3, 1, 0, 0, 0), (32, .invokevirtual 358, 3, 205, 2, 12), (35, .aload_n 0, 1, 0, 0, 0),
  (36, .iload_n 1, 1, 0, 0, 0), (37, .iload_n 2, 1, 0, 0, 0), (38, .invokevirtual 358, 3, 205, 2, 12), (41, .if_icmp .le 7, 3, 0, 0, 0),
  (44, .iload_n 3, 1, 0, 0, 0), (45, .goto 4, 3, 0, 0, 0), (48, .iload_n 2, 1, 0, 0, 0), (49, .istore_n 2, 1, 0, 0, 0),
  (50, .iinc 3 1, 3, 0, 0, 0), (53, .goto (-29), 3, 0, 0, 0), (56, .iload_n 2, 1, 0, 0, 0), (57, .ireturn, 1, 0, 0, 0)]
def op_X12_does_0 : List cv_Q := [
  (0, .aload_n 0, 1, 0, 0, 0), (1, .getfield 45, 3, 12, 29, 4), (4, .iconst 3, 1, 0, 0, 0), (5, .iload_n 1, 1, 0, 0, 0),
  (6, .imul, 1, 0, 0, 0), (7, .iconst 2, 1, 0, 0, 0), (8, .iadd, 1, 0, 0, 0), (9, .iaload, 1, 0, 0, 0),
  (10, .istore_n 2, 1, 0, 0, 0), (11, .aload_n 0, 1, 0, 0, 0), (12, .getfield 45, 3, 12, 29, 4), (15, .iconst 3, 1, 0, 0, 0),
  (16, .iload_n 1, 1, 0, 0, 0), (17, .imul, 1, 0, 0, 0), (18, .iconst 1, 1, 0, 0, 0), (19, .iadd, 1, 0, 0, 0),
  (20, .iaload, 1, 0, 0, 0), (21, .tableswitch 117 0 5 #[39, 50, 60, 73, 83, 96], 39, 0, 0, 0), (60, .aload_n 0, 1, 0, 0, 0), (61, .getfield 72, 3, 12, 45, 4),
  (64, .bipush 7, 2, 0, 0, 0), (66, .iconst 1, 1, 0, 0, 0), (67, .iastore, 1, 0, 0, 0), (68, .goto 87, 3, 0, 0, 0),
  (71, .aload_n 0, 1, 0, 0, 0), (72, .getfield 72, 3, 12, 45, 4), (75, .iconst 1, 1, 0, 0, 0), (76, .iconst 0, 1, 0, 0, 0),
  (77, .iastore, 1, 0, 0, 0), (78, .goto 77, 3, 0, 0, 0), (81, .aload_n 0, 1, 0, 0, 0), (82, .getfield 72, 3, 12, 45, 4),
  (85, .iconst 3, 1, 0, 0, 0), (86, .dup2, 1, 0, 0, 0), (87, .iaload, 1, 0, 0, 0), (88, .iload_n 2, 1, 0, 0, 0),
  (89, .iadd, 1, 0, 0, 0), (90, .iastore, 1, 0, 0, 0), (91, .goto 64, 3, 0, 0, 0), (94, .aload_n 0, 1, 0, 0, 0),
  (95, .getfield 72, 3, 12, 45, 4), (98, .iconst 4, 1, 0, 0, 0), (99, .iload_n 2, 1, 0, 0, 0), (100, .iastore, 1, 0, 0, 0),
  (101, .goto 54, 3, 0, 0, 0), (104, .aload_n 0, 1, 0, 0, 0), (105, .getfield 72, 3, 12, 45, 4), (108, .iconst 5, 1, 0, 0, 0),
  (109, .dup2, 1, 0, 0, 0), (110, .iaload, 1, 0, 0, 0), (111, .iload_n 2, 1, 0, 0, 0), (112, .iadd, 1, 0, 0, 0),
  (113, .iastore, 1, 0, 0, 0), (114, .goto 41, 3, 0, 0, 0), (117, .aload_n 0, 1, 0, 0, 0), (118, .getfield 72, 3, 12, 45, 4),
  (121, .iconst 0, 1, 0, 0, 0), (122, .iconst 0, 1, 0, 0, 0), (123, .iastore, 1, 0, 0, 0), (124, .aload_n 0, 1, 0, 0, 0)]
def op_X12_does_1 : List cv_Q := [
  (125, .getfield 72, 3, 12, 45, 4), (128, .bipush 6, 2, 0, 0, 0), (130, .dup2, 1, 0, 0, 0), (131, .iaload, 1, 0, 0, 0),
  (132, .iload_n 2, 1, 0, 0, 0), (133, .iadd, 1, 0, 0, 0), (134, .iastore, 1, 0, 0, 0), (135, .goto 20, 3, 0, 0, 0),
  (138, .aload_n 0, 1, 0, 0, 0), (139, .getfield 72, 3, 12, 45, 4), (142, .iconst 2, 1, 0, 0, 0), (143, .iconst 0, 1, 0, 0, 0),
  (144, .iastore, 1, 0, 0, 0), (145, .aload_n 0, 1, 0, 0, 0), (146, .getfield 72, 3, 12, 45, 4), (149, .iconst 3, 1, 0, 0, 0),
  (150, .dup2, 1, 0, 0, 0), (151, .iaload, 1, 0, 0, 0), (152, .iload_n 2, 1, 0, 0, 0), (153, .iadd, 1, 0, 0, 0),
  (154, .iastore, 1, 0, 0, 0), (155, .aload_n 0, 1, 0, 0, 0), (156, .getfield 72, 3, 12, 45, 4), (159, .bipush 9, 2, 0, 0, 0),
  (161, .dup2, 1, 0, 0, 0), (162, .iaload, 1, 0, 0, 0), (163, .iconst 1, 1, 0, 0, 0), (164, .iload_n 1, 1, 0, 0, 0),
  (165, .ishl, 1, 0, 0, 0), (166, .ior, 1, 0, 0, 0), (167, .iastore, 1, 0, 0, 0), (168, .return_, 1, 0, 0, 0)]
def op_X12_does : List cv_Q := op_X12_does_0 ++ (op_X12_does_1)
def op_X12_work_0 : List cv_Q := [
  (0, .aload_n 0, 1, 0, 0, 0), (1, .iconst 0, 1, 0, 0, 0), (2, .putfield 136, 3, 12, 2, 0), (5, .aload_n 0, 1, 0, 0, 0),
  (6, .iload_n 1, 1, 0, 0, 0), (7, .invokevirtual 407, 3, 216, 1, 12), (10, .ifCond .eq 34, 3, 0, 0, 0), (13, .iload_n 2, 1, 0, 0, 0),
  (14, .ifCond .lt 30, 3, 0, 0, 0), (17, .iload_n 2, 1, 0, 0, 0), (18, .aload_n 0, 1, 0, 0, 0), (19, .getfield 219, 3, 12, 13, 0),
  (22, .if_icmp .ge 22, 3, 0, 0, 0), (25, .aload_n 0, 1, 0, 0, 0), (26, .getfield 69, 3, 12, 44, 4), (29, .bipush 16, 2, 0, 0, 0),
  (31, .iload_n 1, 1, 0, 0, 0), (32, .imul, 1, 0, 0, 0), (33, .bipush 9, 2, 0, 0, 0), (35, .iadd, 1, 0, 0, 0),
  (36, .iaload, 1, 0, 0, 0), (37, .iload_n 2, 1, 0, 0, 0), (38, .invokestatic 272, 3, 157, 2, 0), (41, .ifCond .eq 5, 3, 0, 0, 0),
  (44, .iconst 0, 1, 0, 0, 0), (45, .ireturn, 1, 0, 0, 0), (46, .aload_n 0, 1, 0, 0, 0), (47, .getfield 246, 3, 12, 50, 0),
  (50, .bipush 20, 2, 0, 0, 0), (52, .if_icmp .ne 43, 3, 0, 0, 0), (55, .iconst 0, 1, 0, 0, 0), (56, .istore_n 3, 1, 0, 0, 0),
  (57, .iload_n 3, 1, 0, 0, 0), (58, .sipush 323, 3, 0, 0, 0), (61, .if_icmp .ge 24, 3, 0, 0, 0), (64, .aload_n 0, 1, 0, 0, 0),
  (65, .getfield 85, 3, 12, 51, 4), (68, .iload_n 3, 1, 0, 0, 0), (69, .aload_n 0, 1, 0, 0, 0), (70, .getfield 85, 3, 12, 51, 4),
  (73, .iload_n 3, 1, 0, 0, 0), (74, .bipush 17, 2, 0, 0, 0), (76, .iadd, 1, 0, 0, 0), (77, .iaload, 1, 0, 0, 0),
  (78, .iastore, 1, 0, 0, 0), (79, .iinc 3 1, 3, 0, 0, 0), (82, .goto (-25), 3, 0, 0, 0), (85, .aload_n 0, 1, 0, 0, 0),
  (86, .dup, 1, 0, 0, 0), (87, .getfield 246, 3, 12, 50, 0), (90, .iconst 1, 1, 0, 0, 0), (91, .isub, 1, 0, 0, 0),
  (92, .putfield 246, 3, 12, 50, 0), (95, .aload_n 0, 1, 0, 0, 0), (96, .getfield 85, 3, 12, 51, 4), (99, .bipush 17, 2, 0, 0, 0),
  (101, .aload_n 0, 1, 0, 0, 0), (102, .getfield 246, 3, 12, 50, 0), (105, .imul, 1, 0, 0, 0), (106, .iload_n 1, 1, 0, 0, 0)]
def op_X12_work_1 : List cv_Q := [
  (107, .iastore, 1, 0, 0, 0), (108, .aload_n 0, 1, 0, 0, 0), (109, .getfield 85, 3, 12, 51, 4), (112, .bipush 17, 2, 0, 0, 0),
  (114, .aload_n 0, 1, 0, 0, 0), (115, .getfield 246, 3, 12, 50, 0), (118, .imul, 1, 0, 0, 0), (119, .iconst 1, 1, 0, 0, 0),
  (120, .iadd, 1, 0, 0, 0), (121, .aload_n 0, 1, 0, 0, 0), (122, .getfield 69, 3, 12, 44, 4), (125, .bipush 16, 2, 0, 0, 0),
  (127, .iload_n 1, 1, 0, 0, 0), (128, .imul, 1, 0, 0, 0), (129, .invokestatic 236, 3, 200, 4, 0), (132, .aload_n 0, 1, 0, 0, 0),
  (133, .dup, 1, 0, 0, 0), (134, .getfield 246, 3, 12, 50, 0), (137, .iconst 1, 1, 0, 0, 0), (138, .iadd, 1, 0, 0, 0),
  (139, .putfield 246, 3, 12, 50, 0), (142, .aload_n 0, 1, 0, 0, 0), (143, .iload_n 1, 1, 0, 0, 0), (144, .invokevirtual 413, 3, 202, 1, 12),
  (147, .aload_n 0, 1, 0, 0, 0), (148, .iload_n 2, 1, 0, 0, 0), (149, .invokevirtual 423, 3, 226, 1, 12), (152, .aload_n 0, 1, 0, 0, 0),
  (153, .getfield 69, 3, 12, 44, 4), (156, .bipush 16, 2, 0, 0, 0), (158, .iload_n 1, 1, 0, 0, 0), (159, .imul, 1, 0, 0, 0),
  (160, .aload_n 0, 1, 0, 0, 0), (161, .getfield 72, 3, 12, 45, 4), (164, .iconst 0, 1, 0, 0, 0), (165, .invokestatic 236, 3, 200, 4, 0),
  (168, .iconst 1, 1, 0, 0, 0), (169, .ireturn, 1, 0, 0, 0)]
def op_X12_work : List cv_Q := op_X12_work_0 ++ (op_X12_work_1)
def op_X12_undo : List cv_Q := [
  (0, .aload_n 0, 1, 0, 0, 0), (1, .iconst 0, 1, 0, 0, 0), (2, .putfield 136, 3, 12, 2, 0), (5, .aload_n 0, 1, 0, 0, 0),
  (6, .getfield 246, 3, 12, 50, 0), (9, .ifCond .ne 5, 3, 0, 0, 0), (12, .iconst (-1), 1, 0, 0, 0), (13, .ireturn, 1, 0, 0, 0),
  (14, .aload_n 0, 1, 0, 0, 0), (15, .dup, 1, 0, 0, 0), (16, .getfield 246, 3, 12, 50, 0), (19, .iconst 1, 1, 0, 0, 0),
  (20, .isub, 1, 0, 0, 0), (21, .putfield 246, 3, 12, 50, 0), (24, .aload_n 0, 1, 0, 0, 0), (25, .getfield 69, 3, 12, 44, 4),
  (28, .bipush 16, 2, 0, 0, 0), (30, .aload_n 0, 1, 0, 0, 0), (31, .getfield 85, 3, 12, 51, 4), (34, .bipush 17, 2, 0, 0, 0),
  (36, .aload_n 0, 1, 0, 0, 0), (37, .getfield 246, 3, 12, 50, 0), (40, .imul, 1, 0, 0, 0), (41, .iaload, 1, 0, 0, 0),
  (42, .imul, 1, 0, 0, 0), (43, .aload_n 0, 1, 0, 0, 0), (44, .getfield 85, 3, 12, 51, 4), (47, .bipush 17, 2, 0, 0, 0),
  (49, .aload_n 0, 1, 0, 0, 0), (50, .getfield 246, 3, 12, 50, 0), (53, .imul, 1, 0, 0, 0), (54, .iconst 1, 1, 0, 0, 0),
  (55, .iadd, 1, 0, 0, 0), (56, .invokestatic 236, 3, 200, 4, 0), (59, .aload_n 0, 1, 0, 0, 0), (60, .getfield 246, 3, 12, 50, 0),
  (63, .ireturn, 1, 0, 0, 0)]
def op_X12_isBound : List cv_Q := [
  (0, .iload_n 0, 1, 0, 0, 0), (1, .ldc_w 426, 3, 0, 0, (-99999)), (4, .ldc_w 427, 3, 0, 0, 99999), (7, .invokestatic 180, 3, 156, 3, 0),
  (10, .ireturn, 1, 0, 0, 0)]
def op_X12_lasts : List cv_Q := [
  (0, .aload_n 0, 1, 0, 0, 0), (1, .iconst 0, 1, 0, 0, 0), (2, .putfield 136, 3, 12, 2, 0), (5, .aload_n 0, 1, 0, 0, 0),
  (6, .iload_n 1, 1, 0, 0, 0), (7, .invokevirtual 407, 3, 216, 1, 12), (10, .ifCond .eq 10, 3, 0, 0, 0), (13, .iload_n 2, 1, 0, 0, 0),
  (14, .invokestatic 428, 3, 229, 1, 0), (17, .ifCond .ne 5, 3, 0, 0, 0), (20, .iconst (-1), 1, 0, 0, 0), (21, .ireturn, 1, 0, 0, 0),
  (22, .aload_n 0, 1, 0, 0, 0), (23, .iload_n 1, 1, 0, 0, 0), (24, .invokevirtual 413, 3, 202, 1, 12), (27, .iconst 0, 1, 0, 0, 0),
  (28, .istore_n 3, 1, 0, 0, 0), (29, .iconst 0, 1, 0, 0, 0), (30, .istore 4, 2, 0, 0, 0), (32, .iload_n 3, 1, 0, 0, 0),
  (33, .sipush 1000, 3, 0, 0, 0), (36, .if_icmp .ge 41, 3, 0, 0, 0), (39, .iload 4, 2, 0, 0, 0), (41, .ifCond .ne 36, 3, 0, 0, 0),
  (44, .aload_n 0, 1, 0, 0, 0), (45, .iload_n 1, 1, 0, 0, 0), (46, .aload_n 0, 1, 0, 0, 0), (47, .getfield 240, 3, 12, 43, 0),
  (50, .iload_n 3, 1, 0, 0, 0), (51, .iadd, 1, 0, 0, 0), (52, .invokevirtual 403, 3, 214, 2, 12), (55, .iinc 3 1, 3, 0, 0, 0),
  (58, .aload_n 0, 1, 0, 0, 0), (59, .iload_n 1, 1, 0, 0, 0), (60, .invokevirtual 386, 3, 206, 1, 12), (63, .iload_n 2, 1, 0, 0, 0),
  (64, .if_icmp .le 7, 3, 0, 0, 0), (67, .iconst 1, 1, 0, 0, 0), (68, .goto 4, 3, 0, 0, 0), (71, .iconst 0, 1, 0, 0, 0),
  (72, .istore 4, 2, 0, 0, 0), (74, .goto (-42), 3, 0, 0, 0), (77, .iload 4, 2, 0, 0, 0), (79, .ifCond .eq 7, 3, 0, 0, 0),
  (82, .iload_n 3, 1, 0, 0, 0), (83, .goto 4, 3, 0, 0, 0), (86, .iconst 0, 1, 0, 0, 0), (87, .ireturn, 1, 0, 0, 0)]
def op_X12_costOf : List cv_Q := [
  (0, .iconst 0, 1, 0, 0, 0), (1, .istore_n 2, 1, 0, 0, 0), (2, .iconst 0, 1, 0, 0, 0), (3, .istore_n 3, 1, 0, 0, 0),
  (4, .iload_n 3, 1, 0, 0, 0), (5, .aload_n 0, 1, 0, 0, 0), (6, .getfield 219, 3, 12, 13, 0), (9, .if_icmp .ge 32, 3, 0, 0, 0),
  (12, .iload_n 2, 1, 0, 0, 0), (13, .iload_n 1, 1, 0, 0, 0), (14, .iload_n 3, 1, 0, 0, 0), (15, .invokestatic 272, 3, 157, 2, 0),
  (18, .ifCond .eq 14, 3, 0, 0, 0), (21, .aload_n 0, 1, 0, 0, 0), (22, .getfield 45, 3, 12, 29, 4), (25, .iconst 3, 1, 0, 0, 0),
  (26, .iload_n 3, 1, 0, 0, 0), (27, .imul, 1, 0, 0, 0), (28, .iaload, 1, 0, 0, 0), (29, .goto 4, 3, 0, 0, 0),
  (32, .iconst 0, 1, 0, 0, 0), (33, .iadd, 1, 0, 0, 0), (34, .istore_n 2, 1, 0, 0, 0), (35, .iinc 3 1, 3, 0, 0, 0),
  (38, .goto (-34), 3, 0, 0, 0), (41, .iload_n 2, 1, 0, 0, 0), (42, .ireturn, 1, 0, 0, 0)]
def op_X12_least_0 : List cv_Q := [
  (0, .aload_n 0, 1, 0, 0, 0), (1, .iconst 0, 1, 0, 0, 0), (2, .putfield 136, 3, 12, 2, 0), (5, .aload_n 0, 1, 0, 0, 0),
  (6, .iload_n 1, 1, 0, 0, 0), (7, .invokevirtual 407, 3, 216, 1, 12), (10, .ifCond .eq 31, 3, 0, 0, 0), (13, .iload_n 2, 1, 0, 0, 0),
  (14, .iconst 0, 1, 0, 0, 0), (15, .sipush 520, 3, 0, 0, 0), (18, .invokestatic 180, 3, 156, 3, 0), (21, .ifCond .eq 20, 3, 0, 0, 0),
  (24, .iload_n 3, 1, 0, 0, 0), (25, .invokestatic 428, 3, 229, 1, 0), (28, .ifCond .eq 13, 3, 0, 0, 0), (31, .iload 4, 2, 0, 0, 0),
  (33, .iconst 0, 1, 0, 0, 0), (34, .iconst 1, 1, 0, 0, 0), (35, .invokestatic 180, 3, 156, 3, 0), (38, .ifCond .ne 5, 3, 0, 0, 0),
  (41, .iconst (-1), 1, 0, 0, 0), (42, .ireturn, 1, 0, 0, 0), (43, .iconst (-1), 1, 0, 0, 0), (44, .istore 5, 2, 0, 0, 0),
  (46, .iconst 0, 1, 0, 0, 0), (47, .istore 6, 2, 0, 0, 0), (49, .iload 6, 2, 0, 0, 0), (51, .iconst 1, 1, 0, 0, 0),
  (52, .aload_n 0, 1, 0, 0, 0), (53, .getfield 219, 3, 12, 13, 0), (56, .ishl, 1, 0, 0, 0), (57, .if_icmp .ge 108, 3, 0, 0, 0),
  (60, .iload 6, 2, 0, 0, 0), (62, .aload_n 0, 1, 0, 0, 0), (63, .getfield 69, 3, 12, 44, 4), (66, .bipush 16, 2, 0, 0, 0),
  (68, .iload_n 1, 1, 0, 0, 0), (69, .imul, 1, 0, 0, 0), (70, .bipush 9, 2, 0, 0, 0), (72, .iadd, 1, 0, 0, 0),
  (73, .iaload, 1, 0, 0, 0), (74, .iand, 1, 0, 0, 0), (75, .ifCond .ne 84, 3, 0, 0, 0), (78, .iload 5, 2, 0, 0, 0),
  (80, .ifCond .lt 21, 3, 0, 0, 0), (83, .aload_n 0, 1, 0, 0, 0), (84, .iload 6, 2, 0, 0, 0), (86, .invokevirtual 431, 3, 231, 1, 12),
  (89, .aload_n 0, 1, 0, 0, 0), (90, .iload 5, 2, 0, 0, 0), (92, .invokevirtual 431, 3, 231, 1, 12), (95, .if_icmp .lt 6, 3, 0, 0, 0),
  (98, .goto 61, 3, 0, 0, 0), (101, .aload_n 0, 1, 0, 0, 0), (102, .iload_n 1, 1, 0, 0, 0), (103, .invokevirtual 413, 3, 202, 1, 12),
  (106, .iconst 0, 1, 0, 0, 0), (107, .istore 7, 2, 0, 0, 0), (109, .iload 7, 2, 0, 0, 0), (111, .aload_n 0, 1, 0, 0, 0)]
def op_X12_least_1 : List cv_Q := [
  (112, .getfield 219, 3, 12, 13, 0), (115, .if_icmp .ge 25, 3, 0, 0, 0), (118, .iload 6, 2, 0, 0, 0), (120, .iload 7, 2, 0, 0, 0),
  (122, .invokestatic 272, 3, 157, 2, 0), (125, .ifCond .eq 9, 3, 0, 0, 0), (128, .aload_n 0, 1, 0, 0, 0), (129, .iload 7, 2, 0, 0, 0),
  (131, .invokevirtual 423, 3, 226, 1, 12), (134, .iinc 7 1, 3, 0, 0, 0), (137, .goto (-28), 3, 0, 0, 0), (140, .aload_n 0, 1, 0, 0, 0),
  (141, .iload_n 1, 1, 0, 0, 0), (142, .iload_n 2, 1, 0, 0, 0), (143, .invokevirtual 416, 3, 215, 2, 12), (146, .aload_n 0, 1, 0, 0, 0),
  (147, .iload_n 1, 1, 0, 0, 0), (148, .invokevirtual 386, 3, 206, 1, 12), (151, .iload_n 3, 1, 0, 0, 0), (152, .if_icmp .gt 7, 3, 0, 0, 0),
  (155, .iload 6, 2, 0, 0, 0), (157, .istore 5, 2, 0, 0, 0), (159, .iinc 6 1, 3, 0, 0, 0), (162, .goto (-113), 3, 0, 0, 0),
  (165, .iload 5, 2, 0, 0, 0), (167, .ifCond .ge 8, 3, 0, 0, 0), (170, .bipush (-2), 2, 0, 0, 0), (172, .goto 19, 3, 0, 0, 0),
  (175, .iload 4, 2, 0, 0, 0), (177, .ifCond .ne 12, 3, 0, 0, 0), (180, .aload_n 0, 1, 0, 0, 0), (181, .iload 5, 2, 0, 0, 0),
  (183, .invokevirtual 431, 3, 231, 1, 12), (186, .goto 5, 3, 0, 0, 0), (189, .iload 5, 2, 0, 0, 0), (191, .ireturn, 1, 0, 0, 0)]
def op_X12_least : List cv_Q := op_X12_least_0 ++ (op_X12_least_1)
def op_X12_dropBy : List cv_Q := [
  (0, .aload_n 0, 1, 0, 0, 0), (1, .iload_n 1, 1, 0, 0, 0), (2, .invokevirtual 413, 3, 202, 1, 12), (5, .aload_n 0, 1, 0, 0, 0),
  (6, .getfield 72, 3, 12, 45, 4), (9, .bipush 7, 2, 0, 0, 0), (11, .iload_n 3, 1, 0, 0, 0), (12, .iastore, 1, 0, 0, 0),
  (13, .aload_n 0, 1, 0, 0, 0), (14, .iload_n 1, 1, 0, 0, 0), (15, .iload_n 2, 1, 0, 0, 0), (16, .invokevirtual 416, 3, 215, 2, 12),
  (19, .aload_n 0, 1, 0, 0, 0), (20, .iload_n 1, 1, 0, 0, 0), (21, .invokevirtual 386, 3, 206, 1, 12), (24, .ireturn, 1, 0, 0, 0)]
def op_X12_way : List cv_Q := [
  (0, .aload_n 0, 1, 0, 0, 0), (1, .iconst 0, 1, 0, 0, 0), (2, .putfield 136, 3, 12, 2, 0), (5, .aload_n 0, 1, 0, 0, 0),
  (6, .iload_n 1, 1, 0, 0, 0), (7, .invokevirtual 407, 3, 216, 1, 12), (10, .ifCond .eq 14, 3, 0, 0, 0), (13, .iload_n 2, 1, 0, 0, 0),
  (14, .iconst 0, 1, 0, 0, 0), (15, .sipush 520, 3, 0, 0, 0), (18, .invokestatic 180, 3, 156, 3, 0), (21, .ifCond .ne 7, 3, 0, 0, 0),
  (24, .ldc_w 419, 3, 0, 0, (-2147483648)), (27, .ireturn, 1, 0, 0, 0), (28, .aload_n 0, 1, 0, 0, 0), (29, .iload_n 1, 1, 0, 0, 0),
  (30, .iload_n 2, 1, 0, 0, 0), (31, .iconst 1, 1, 0, 0, 0), (32, .invokevirtual 434, 3, 233, 3, 12), (35, .istore_n 3, 1, 0, 0, 0),
  (36, .iload_n 3, 1, 0, 0, 0), (37, .aload_n 0, 1, 0, 0, 0), (38, .iload_n 1, 1, 0, 0, 0), (39, .iload_n 2, 1, 0, 0, 0),
  (40, .iconst 2, 1, 0, 0, 0), (41, .invokevirtual 434, 3, 233, 3, 12), (44, .isub, 1, 0, 0, 0), (45, .ireturn, 1, 0, 0, 0)]
def op_X12_enough : List cv_Q := [
  (0, .aload_n 0, 1, 0, 0, 0), (1, .iconst 0, 1, 0, 0, 0), (2, .putfield 136, 3, 12, 2, 0), (5, .aload_n 0, 1, 0, 0, 0),
  (6, .iload_n 1, 1, 0, 0, 0), (7, .invokevirtual 407, 3, 216, 1, 12), (10, .ifCond .eq 21, 3, 0, 0, 0), (13, .iload_n 2, 1, 0, 0, 0),
  (14, .iconst 0, 1, 0, 0, 0), (15, .sipush 520, 3, 0, 0, 0), (18, .invokestatic 180, 3, 156, 3, 0), (21, .ifCond .eq 10, 3, 0, 0, 0),
  (24, .iload_n 3, 1, 0, 0, 0), (25, .invokestatic 428, 3, 229, 1, 0), (28, .ifCond .ne 5, 3, 0, 0, 0), (31, .iconst (-1), 1, 0, 0, 0),
  (32, .ireturn, 1, 0, 0, 0), (33, .bipush 12, 2, 0, 0, 0), (35, .istore 4, 2, 0, 0, 0), (37, .iload 4, 2, 0, 0, 0),
  (39, .bipush 61, 2, 0, 0, 0), (41, .if_icmp .ge 42, 3, 0, 0, 0), (44, .aload_n 0, 1, 0, 0, 0), (45, .iload_n 1, 1, 0, 0, 0),
  (46, .invokevirtual 413, 3, 202, 1, 12), (49, .aload_n 0, 1, 0, 0, 0), (50, .getfield 72, 3, 12, 45, 4), (53, .bipush 6, 2, 0, 0, 0),
  (55, .iload 4, 2, 0, 0, 0), (57, .iastore, 1, 0, 0, 0), (58, .aload_n 0, 1, 0, 0, 0), (59, .iload_n 1, 1, 0, 0, 0),
  (60, .iload_n 2, 1, 0, 0, 0), (61, .invokevirtual 416, 3, 215, 2, 12), (64, .aload_n 0, 1, 0, 0, 0), (65, .getfield 72, 3, 12, 45, 4),
  (68, .iconst 0, 1, 0, 0, 0), (69, .iaload, 1, 0, 0, 0), (70, .iload_n 3, 1, 0, 0, 0), (71, .if_icmp .gt 6, 3, 0, 0, 0),
  (74, .iload 4, 2, 0, 0, 0), (76, .ireturn, 1, 0, 0, 0), (77, .iinc 4 1, 3, 0, 0, 0), (80, .goto (-43), 3, 0, 0, 0),
  (83, .bipush (-2), 2, 0, 0, 0), (85, .ireturn, 1, 0, 0, 0)]
def op_X12_bears : List cv_Q := [
  (0, .aload_n 0, 1, 0, 0, 0), (1, .iconst 0, 1, 0, 0, 0), (2, .putfield 136, 3, 12, 2, 0), (5, .aload_n 0, 1, 0, 0, 0),
  (6, .iload_n 1, 1, 0, 0, 0), (7, .invokevirtual 407, 3, 216, 1, 12), (10, .ifCond .eq 21, 3, 0, 0, 0), (13, .iload_n 2, 1, 0, 0, 0),
  (14, .iconst 0, 1, 0, 0, 0), (15, .sipush 520, 3, 0, 0, 0), (18, .invokestatic 180, 3, 156, 3, 0), (21, .ifCond .eq 10, 3, 0, 0, 0),
  (24, .iload_n 3, 1, 0, 0, 0), (25, .invokestatic 428, 3, 229, 1, 0), (28, .ifCond .ne 5, 3, 0, 0, 0), (31, .iconst (-1), 1, 0, 0, 0),
  (32, .ireturn, 1, 0, 0, 0), (33, .sipush 200, 3, 0, 0, 0), (36, .istore 4, 2, 0, 0, 0), (38, .iload 4, 2, 0, 0, 0),
  (40, .ifCond .lt 41, 3, 0, 0, 0), (43, .aload_n 0, 1, 0, 0, 0), (44, .iload_n 1, 1, 0, 0, 0), (45, .invokevirtual 413, 3, 202, 1, 12),
  (48, .aload_n 0, 1, 0, 0, 0), (49, .getfield 72, 3, 12, 45, 4), (52, .bipush 8, 2, 0, 0, 0), (54, .iload 4, 2, 0, 0, 0),
  (56, .iastore, 1, 0, 0, 0), (57, .aload_n 0, 1, 0, 0, 0), (58, .iload_n 1, 1, 0, 0, 0), (59, .iload_n 2, 1, 0, 0, 0),
  (60, .invokevirtual 416, 3, 215, 2, 12), (63, .aload_n 0, 1, 0, 0, 0), (64, .iload_n 1, 1, 0, 0, 0), (65, .invokevirtual 386, 3, 206, 1, 12),
  (68, .iload_n 3, 1, 0, 0, 0), (69, .if_icmp .gt 6, 3, 0, 0, 0), (72, .iload 4, 2, 0, 0, 0), (74, .ireturn, 1, 0, 0, 0),
  (75, .iinc 4 (-1), 3, 0, 0, 0), (78, .goto (-40), 3, 0, 0, 0), (81, .bipush (-2), 2, 0, 0, 0), (83, .ireturn, 1, 0, 0, 0)]
def op_X12_knock : List cv_Q := [
  (0, .aload_n 0, 1, 0, 0, 0), (1, .iconst 0, 1, 0, 0, 0), (2, .putfield 136, 3, 12, 2, 0), (5, .aload_n 0, 1, 0, 0, 0),
  (6, .iload_n 1, 1, 0, 0, 0), (7, .invokevirtual 407, 3, 216, 1, 12), (10, .ifCond .eq 13, 3, 0, 0, 0), (13, .iload_n 2, 1, 0, 0, 0),
  (14, .iconst 0, 1, 0, 0, 0), (15, .bipush 99, 2, 0, 0, 0), (17, .invokestatic 180, 3, 156, 3, 0), (20, .ifCond .ne 7, 3, 0, 0, 0),
  (23, .ldc2_w 438, 3, 0, 0, (-9223372036854775808)), (26, .lreturn, 1, 0, 0, 0), (27, .aload_n 0, 1, 0, 0, 0), (28, .iload_n 1, 1, 0, 0, 0),
  (29, .invokevirtual 413, 3, 202, 1, 12), (32, .aload_n 0, 1, 0, 0, 0), (33, .iload_n 1, 1, 0, 0, 0), (34, .aload_n 0, 1, 0, 0, 0),
  (35, .getfield 240, 3, 12, 43, 0), (38, .iload_n 2, 1, 0, 0, 0), (39, .invokevirtual 393, 3, 212, 3, 12), (42, .aload_n 0, 1, 0, 0, 0),
  (43, .iconst 3, 1, 0, 0, 0), (44, .invokevirtual 396, 3, 213, 1, 12), (47, .lstore_n 3, 1, 0, 0, 0), (48, .aload_n 0, 1, 0, 0, 0),
  (49, .getfield 361, 3, 12, 48, 2), (52, .ifCond .eq 9, 3, 0, 0, 0), (55, .ldc2_w 438, 3, 0, 0, (-9223372036854775808)), (58, .goto 4, 3, 0, 0, 0),
  (61, .lload_n 3, 1, 0, 0, 0), (62, .lreturn, 1, 0, 0, 0)]
def op_X12_measure_0 : List cv_Q := [
  (0, .aload_n 0, 1, 0, 0, 0), (1, .iconst 0, 1, 0, 0, 0), (2, .putfield 136, 3, 12, 2, 0), (5, .aload_n 0, 1, 0, 0, 0),
  (6, .getfield 243, 3, 12, 52, 0), (9, .bipush 40, 2, 0, 0, 0), (11, .if_icmp .eq 58, 3, 0, 0, 0), (14, .aload_n 0, 1, 0, 0, 0),
  (15, .iload_n 1, 1, 0, 0, 0), (16, .invokevirtual 407, 3, 216, 1, 12), (19, .ifCond .eq 50, 3, 0, 0, 0), (22, .iload_n 2, 1, 0, 0, 0),
  (23, .iconst 0, 1, 0, 0, 0), (24, .sipush 1999, 3, 0, 0, 0), (27, .invokestatic 180, 3, 156, 3, 0), (30, .ifCond .eq 39, 3, 0, 0, 0),
  (33, .iload_n 3, 1, 0, 0, 0), (34, .iconst 0, 1, 0, 0, 0), (35, .iconst 3, 1, 0, 0, 0), (36, .invokestatic 180, 3, 156, 3, 0),
  (39, .ifCond .eq 30, 3, 0, 0, 0), (42, .iload 4, 2, 0, 0, 0), (44, .ldc_w 440, 3, 0, 0, (-9999999)), (47, .ldc_w 441, 3, 0, 0, 9999999),
  (50, .invokestatic 180, 3, 156, 3, 0), (53, .ifCond .eq 16, 3, 0, 0, 0), (56, .iload 5, 2, 0, 0, 0), (58, .iload 4, 2, 0, 0, 0),
  (60, .ldc_w 441, 3, 0, 0, 9999999), (63, .invokestatic 180, 3, 156, 3, 0), (66, .ifCond .ne 5, 3, 0, 0, 0), (69, .iconst (-1), 1, 0, 0, 0),
  (70, .ireturn, 1, 0, 0, 0), (71, .aload_n 0, 1, 0, 0, 0), (72, .getfield 91, 3, 12, 54, 4), (75, .aload_n 0, 1, 0, 0, 0),
  (76, .getfield 243, 3, 12, 52, 0), (79, .iload_n 1, 1, 0, 0, 0), (80, .iastore, 1, 0, 0, 0), (81, .aload_n 0, 1, 0, 0, 0),
  (82, .getfield 94, 3, 12, 55, 4), (85, .aload_n 0, 1, 0, 0, 0), (86, .getfield 243, 3, 12, 52, 0), (89, .iload_n 2, 1, 0, 0, 0),
  (90, .iastore, 1, 0, 0, 0), (91, .aload_n 0, 1, 0, 0, 0), (92, .getfield 97, 3, 12, 56, 4), (95, .aload_n 0, 1, 0, 0, 0),
  (96, .getfield 243, 3, 12, 52, 0), (99, .iload_n 3, 1, 0, 0, 0), (100, .iastore, 1, 0, 0, 0), (101, .aload_n 0, 1, 0, 0, 0),
  (102, .getfield 100, 3, 12, 57, 4), (105, .aload_n 0, 1, 0, 0, 0), (106, .getfield 243, 3, 12, 52, 0), (109, .iload 4, 2, 0, 0, 0),
  (111, .iastore, 1, 0, 0, 0), (112, .aload_n 0, 1, 0, 0, 0), (113, .getfield 103, 3, 12, 58, 4), (116, .aload_n 0, 1, 0, 0, 0)]
def op_X12_measure_1 : List cv_Q := [
  (117, .getfield 243, 3, 12, 52, 0), (120, .iload 5, 2, 0, 0, 0), (122, .iastore, 1, 0, 0, 0), (123, .aload_n 0, 1, 0, 0, 0),
  (124, .dup, 1, 0, 0, 0), (125, .getfield 243, 3, 12, 52, 0), (128, .iconst 1, 1, 0, 0, 0), (129, .iadd, 1, 0, 0, 0),
  (130, .putfield 243, 3, 12, 52, 0), (133, .aload_n 0, 1, 0, 0, 0), (134, .getfield 243, 3, 12, 52, 0), (137, .iconst 1, 1, 0, 0, 0),
  (138, .isub, 1, 0, 0, 0), (139, .ireturn, 1, 0, 0, 0)]
def op_X12_measure : List cv_Q := op_X12_measure_0 ++ (op_X12_measure_1)
def op_X12_strike : List cv_Q := [
  (0, .aload_n 0, 1, 0, 0, 0), (1, .iconst 0, 1, 0, 0, 0), (2, .putfield 136, 3, 12, 2, 0), (5, .aload_n 0, 1, 0, 0, 0),
  (6, .getfield 243, 3, 12, 52, 0), (9, .bipush 40, 2, 0, 0, 0), (11, .if_icmp .eq 15, 3, 0, 0, 0), (14, .iload_n 1, 1, 0, 0, 0),
  (15, .ifCond .lt 11, 3, 0, 0, 0), (18, .iload_n 1, 1, 0, 0, 0), (19, .aload_n 0, 1, 0, 0, 0), (20, .getfield 243, 3, 12, 52, 0),
  (23, .if_icmp .lt 5, 3, 0, 0, 0), (26, .iconst (-1), 1, 0, 0, 0), (27, .ireturn, 1, 0, 0, 0), (28, .aload_n 0, 1, 0, 0, 0),
  (29, .getfield 91, 3, 12, 54, 4), (32, .aload_n 0, 1, 0, 0, 0), (33, .getfield 243, 3, 12, 52, 0), (36, .iconst (-1), 1, 0, 0, 0),
  (37, .iastore, 1, 0, 0, 0), (38, .aload_n 0, 1, 0, 0, 0), (39, .getfield 94, 3, 12, 55, 4), (42, .aload_n 0, 1, 0, 0, 0),
  (43, .getfield 243, 3, 12, 52, 0), (46, .iload_n 1, 1, 0, 0, 0), (47, .iastore, 1, 0, 0, 0), (48, .aload_n 0, 1, 0, 0, 0),
  (49, .dup, 1, 0, 0, 0), (50, .getfield 243, 3, 12, 52, 0), (53, .iconst 1, 1, 0, 0, 0), (54, .iadd, 1, 0, 0, 0),
  (55, .putfield 243, 3, 12, 52, 0), (58, .aload_n 0, 1, 0, 0, 0), (59, .getfield 243, 3, 12, 52, 0), (62, .iconst 1, 1, 0, 0, 0),
  (63, .isub, 1, 0, 0, 0), (64, .ireturn, 1, 0, 0, 0)]
def op_X12_known : List cv_Q := [
  (0, .aload_n 0, 1, 0, 0, 0), (1, .iconst 0, 1, 0, 0, 0), (2, .putfield 136, 3, 12, 2, 0), (5, .iload_n 1, 1, 0, 0, 0),
  (6, .iconst (-1), 1, 0, 0, 0), (7, .aload_n 0, 1, 0, 0, 0), (8, .getfield 243, 3, 12, 52, 0), (11, .invokestatic 180, 3, 156, 3, 0),
  (14, .ifCond .ne 5, 3, 0, 0, 0), (17, .iconst 0, 1, 0, 0, 0), (18, .ireturn, 1, 0, 0, 0), (19, .aload_n 0, 1, 0, 0, 0),
  (20, .iload_n 1, 1, 0, 0, 0), (21, .putfield 88, 3, 12, 53, 0), (24, .iconst 1, 1, 0, 0, 0), (25, .ireturn, 1, 0, 0, 0)]
def op_X12_knownMany : List cv_Q := [
  (0, .aload_n 0, 1, 0, 0, 0), (1, .getfield 88, 3, 12, 53, 0), (4, .ifCond .ge 10, 3, 0, 0, 0), (7, .aload_n 0, 1, 0, 0, 0),
  (8, .getfield 243, 3, 12, 52, 0), (11, .goto 7, 3, 0, 0, 0), (14, .aload_n 0, 1, 0, 0, 0), (15, .getfield 88, 3, 12, 53, 0),
  (18, .ireturn, 1, 0, 0, 0)]
def op_X12_layCounts : List cv_Q := [
  (0, .iconst 0, 1, 0, 0, 0), (1, .istore_n 1, 1, 0, 0, 0), (2, .iload_n 1, 1, 0, 0, 0), (3, .aload_n 0, 1, 0, 0, 0),
  (4, .invokevirtual 442, 3, 241, 0, 12), (7, .if_icmp .ge 16, 3, 0, 0, 0), (10, .aload_n 0, 1, 0, 0, 0), (11, .getfield 106, 3, 12, 59, 4),
  (14, .iload_n 1, 1, 0, 0, 0), (15, .iconst 1, 1, 0, 0, 0), (16, .bastore, 1, 0, 0, 0), (17, .iinc 1 1, 3, 0, 0, 0),
  (20, .goto (-18), 3, 0, 0, 0), (23, .aload_n 0, 1, 0, 0, 0), (24, .invokevirtual 442, 3, 241, 0, 12), (27, .iconst 1, 1, 0, 0, 0),
  (28, .isub, 1, 0, 0, 0), (29, .istore_n 1, 1, 0, 0, 0), (30, .iload_n 1, 1, 0, 0, 0), (31, .ifCond .lt 39, 3, 0, 0, 0),
  (34, .aload_n 0, 1, 0, 0, 0), (35, .getfield 91, 3, 12, 54, 4), (38, .iload_n 1, 1, 0, 0, 0), (39, .iaload, 1, 0, 0, 0),
  (40, .ifCond .ge 24, 3, 0, 0, 0), (43, .aload_n 0, 1, 0, 0, 0), (44, .getfield 106, 3, 12, 59, 4), (47, .iload_n 1, 1, 0, 0, 0),
  (48, .baload, 1, 0, 0, 0), (49, .ifCond .eq 15, 3, 0, 0, 0), (52, .aload_n 0, 1, 0, 0, 0), (53, .getfield 106, 3, 12, 59, 4),
  (56, .aload_n 0, 1, 0, 0, 0), (57, .getfield 94, 3, 12, 55, 4), (60, .iload_n 1, 1, 0, 0, 0), (61, .iaload, 1, 0, 0, 0),
  (62, .iconst 0, 1, 0, 0, 0), (63, .bastore, 1, 0, 0, 0), (64, .iinc 1 (-1), 3, 0, 0, 0), (67, .goto (-37), 3, 0, 0, 0),
  (70, .return_, 1, 0, 0, 0)]
def op_X12_beginsBy : List cv_Q := [
  (0, .aload_n 0, 1, 0, 0, 0), (1, .iload_n 1, 1, 0, 0, 0), (2, .invokevirtual 232, 3, 201, 1, 12), (5, .aload_n 0, 1, 0, 0, 0),
  (6, .getfield 72, 3, 12, 45, 4), (9, .bipush 10, 2, 0, 0, 0), (11, .iload_n 2, 1, 0, 0, 0), (12, .aload_n 0, 1, 0, 0, 0),
  (13, .getfield 222, 3, 12, 14, 0), (16, .if_icmp .ge 9, 3, 0, 0, 0), (19, .iconst 1, 1, 0, 0, 0), (20, .iload_n 2, 1, 0, 0, 0),
  (21, .ishl, 1, 0, 0, 0), (22, .goto 4, 3, 0, 0, 0), (25, .iconst 0, 1, 0, 0, 0), (26, .iastore, 1, 0, 0, 0),
  (27, .return_, 1, 0, 0, 0)]
def op_X12_valueNow : List cv_Q := [
  (0, .iload_n 2, 1, 0, 0, 0), (1, .ifCond .ne 11, 3, 0, 0, 0), (4, .aload_n 0, 1, 0, 0, 0), (5, .iload_n 1, 1, 0, 0, 0),
  (6, .invokevirtual 386, 3, 206, 1, 12), (9, .goto 11, 3, 0, 0, 0), (12, .aload_n 0, 1, 0, 0, 0), (13, .getfield 72, 3, 12, 45, 4),
  (16, .iload_n 2, 1, 0, 0, 0), (17, .iconst 1, 1, 0, 0, 0), (18, .isub, 1, 0, 0, 0), (19, .iaload, 1, 0, 0, 0),
  (20, .ireturn, 1, 0, 0, 0)]
def op_X12_isSo : List cv_Q := [
  (0, .iconst 0, 1, 0, 0, 0), (1, .istore_n 3, 1, 0, 0, 0), (2, .iload_n 3, 1, 0, 0, 0), (3, .aload_n 0, 1, 0, 0, 0),
  (4, .invokevirtual 442, 3, 241, 0, 12), (7, .if_icmp .ge 72, 3, 0, 0, 0), (10, .aload_n 0, 1, 0, 0, 0), (11, .getfield 106, 3, 12, 59, 4),
  (14, .iload_n 3, 1, 0, 0, 0), (15, .baload, 1, 0, 0, 0), (16, .ifCond .eq 57, 3, 0, 0, 0), (19, .aload_n 0, 1, 0, 0, 0),
  (20, .getfield 91, 3, 12, 54, 4), (23, .iload_n 3, 1, 0, 0, 0), (24, .iaload, 1, 0, 0, 0), (25, .iload_n 1, 1, 0, 0, 0),
  (26, .if_icmp .ne 47, 3, 0, 0, 0), (29, .aload_n 0, 1, 0, 0, 0), (30, .getfield 94, 3, 12, 55, 4), (33, .iload_n 3, 1, 0, 0, 0),
  (34, .iaload, 1, 0, 0, 0), (35, .iload_n 2, 1, 0, 0, 0), (36, .if_icmp .eq 6, 3, 0, 0, 0), (39, .goto 34, 3, 0, 0, 0),
  (42, .aload_n 0, 1, 0, 0, 0), (43, .iload_n 1, 1, 0, 0, 0), (44, .aload_n 0, 1, 0, 0, 0), (45, .getfield 97, 3, 12, 56, 4),
  (48, .iload_n 3, 1, 0, 0, 0), (49, .iaload, 1, 0, 0, 0), (50, .invokevirtual 445, 3, 244, 2, 12), (53, .aload_n 0, 1, 0, 0, 0),
  (54, .getfield 100, 3, 12, 57, 4), (57, .iload_n 3, 1, 0, 0, 0), (58, .iaload, 1, 0, 0, 0), (59, .aload_n 0, 1, 0, 0, 0),
  (60, .getfield 103, 3, 12, 58, 4), (63, .iload_n 3, 1, 0, 0, 0), (64, .iaload, 1, 0, 0, 0), (65, .invokestatic 180, 3, 156, 3, 0),
  (68, .ifCond .ne 5, 3, 0, 0, 0), (71, .iconst 0, 1, 0, 0, 0), (72, .ireturn, 1, 0, 0, 0), (73, .iinc 3 1, 3, 0, 0, 0),
  (76, .goto (-74), 3, 0, 0, 0), (79, .iconst 1, 1, 0, 0, 0), (80, .ireturn, 1, 0, 0, 0)]
def op_X12_isFit : List cv_Q := [
  (0, .iconst (-1), 1, 0, 0, 0), (1, .istore_n 3, 1, 0, 0, 0), (2, .iconst 0, 1, 0, 0, 0), (3, .istore 4, 2, 0, 0, 0),
  (5, .iload 4, 2, 0, 0, 0), (7, .aload_n 0, 1, 0, 0, 0), (8, .invokevirtual 442, 3, 241, 0, 12), (11, .if_icmp .ge 53, 3, 0, 0, 0),
  (14, .aload_n 0, 1, 0, 0, 0), (15, .getfield 106, 3, 12, 59, 4), (18, .iload 4, 2, 0, 0, 0), (20, .baload, 1, 0, 0, 0),
  (21, .ifCond .eq 35, 3, 0, 0, 0), (24, .aload_n 0, 1, 0, 0, 0), (25, .getfield 91, 3, 12, 54, 4), (28, .iload 4, 2, 0, 0, 0),
  (30, .iaload, 1, 0, 0, 0), (31, .iload_n 1, 1, 0, 0, 0), (32, .if_icmp .ne 24, 3, 0, 0, 0), (35, .aload_n 0, 1, 0, 0, 0),
  (36, .getfield 94, 3, 12, 55, 4), (39, .iload 4, 2, 0, 0, 0), (41, .iaload, 1, 0, 0, 0), (42, .iload_n 3, 1, 0, 0, 0),
  (43, .if_icmp .le 13, 3, 0, 0, 0), (46, .aload_n 0, 1, 0, 0, 0), (47, .getfield 94, 3, 12, 55, 4), (50, .iload 4, 2, 0, 0, 0),
  (52, .iaload, 1, 0, 0, 0), (53, .goto 4, 3, 0, 0, 0), (56, .iload_n 3, 1, 0, 0, 0), (57, .istore_n 3, 1, 0, 0, 0),
  (58, .iinc 4 1, 3, 0, 0, 0), (61, .goto (-56), 3, 0, 0, 0), (64, .aload_n 0, 1, 0, 0, 0), (65, .iload_n 1, 1, 0, 0, 0),
  (66, .iload_n 2, 1, 0, 0, 0), (67, .invokevirtual 448, 3, 243, 2, 12), (70, .iconst 1, 1, 0, 0, 0), (71, .istore 4, 2, 0, 0, 0),
  (73, .iconst 0, 1, 0, 0, 0), (74, .istore 5, 2, 0, 0, 0), (76, .iload 5, 2, 0, 0, 0), (78, .iload_n 3, 1, 0, 0, 0),
  (79, .if_icmp .gt 30, 3, 0, 0, 0), (82, .iload 4, 2, 0, 0, 0), (84, .ifCond .eq 25, 3, 0, 0, 0), (87, .aload_n 0, 1, 0, 0, 0),
  (88, .iload_n 1, 1, 0, 0, 0), (89, .iload 5, 2, 0, 0, 0), (91, .invokevirtual 403, 3, 214, 2, 12), (94, .aload_n 0, 1, 0, 0, 0),
  (95, .iload_n 1, 1, 0, 0, 0), (96, .iload 5, 2, 0, 0, 0), (98, .invokevirtual 451, 3, 245, 2, 12), (101, .istore 4, 2, 0, 0, 0),
  (103, .iinc 5 1, 3, 0, 0, 0), (106, .goto (-30), 3, 0, 0, 0), (109, .iload 4, 2, 0, 0, 0), (111, .ireturn, 1, 0, 0, 0)]
def op_X12_fitting : List cv_Q := [
  (0, .aload_n 0, 1, 0, 0, 0), (1, .invokevirtual 454, 3, 242, 0, 12), (4, .iconst 0, 1, 0, 0, 0), (5, .istore_n 2, 1, 0, 0, 0),
  (6, .iconst 0, 1, 0, 0, 0), (7, .istore_n 3, 1, 0, 0, 0), (8, .iload_n 3, 1, 0, 0, 0), (9, .aload_n 0, 1, 0, 0, 0),
  (10, .getfield 222, 3, 12, 14, 0), (13, .if_icmp .gt 28, 3, 0, 0, 0), (16, .iload_n 2, 1, 0, 0, 0), (17, .aload_n 0, 1, 0, 0, 0),
  (18, .iload_n 1, 1, 0, 0, 0), (19, .iload_n 3, 1, 0, 0, 0), (20, .invokevirtual 457, 3, 246, 2, 12), (23, .ifCond .eq 9, 3, 0, 0, 0),
  (26, .iconst 1, 1, 0, 0, 0), (27, .iload_n 3, 1, 0, 0, 0), (28, .ishl, 1, 0, 0, 0), (29, .goto 4, 3, 0, 0, 0),
  (32, .iconst 0, 1, 0, 0, 0), (33, .ior, 1, 0, 0, 0), (34, .istore_n 2, 1, 0, 0, 0), (35, .iinc 3 1, 3, 0, 0, 0),
  (38, .goto (-30), 3, 0, 0, 0), (41, .iload_n 2, 1, 0, 0, 0), (42, .ireturn, 1, 0, 0, 0)]
def op_X12_fits : List cv_Q := [
  (0, .aload_n 0, 1, 0, 0, 0), (1, .iconst 0, 1, 0, 0, 0), (2, .putfield 136, 3, 12, 2, 0), (5, .aload_n 0, 1, 0, 0, 0),
  (6, .iload_n 1, 1, 0, 0, 0), (7, .invokevirtual 407, 3, 216, 1, 12), (10, .ifCond .eq 11, 3, 0, 0, 0), (13, .aload_n 0, 1, 0, 0, 0),
  (14, .iload_n 1, 1, 0, 0, 0), (15, .invokevirtual 460, 3, 247, 1, 12), (18, .goto 4, 3, 0, 0, 0), (21, .iconst (-1), 1, 0, 0, 0),
  (22, .ireturn, 1, 0, 0, 0)]
def op_X12_weightOf : List cv_Q := [
  (0, .iload_n 1, 1, 0, 0, 0), (1, .aload_n 0, 1, 0, 0, 0), (2, .getfield 222, 3, 12, 14, 0), (5, .if_icmp .ge 14, 3, 0, 0, 0),
  (8, .aload_n 0, 1, 0, 0, 0), (9, .getfield 51, 3, 12, 31, 4), (12, .iconst 3, 1, 0, 0, 0), (13, .iload_n 1, 1, 0, 0, 0),
  (14, .imul, 1, 0, 0, 0), (15, .iaload, 1, 0, 0, 0), (16, .goto 4, 3, 0, 0, 0), (19, .iconst 1, 1, 0, 0, 0),
  (20, .ireturn, 1, 0, 0, 0)]
def op_X12_common : List cv_Q := [
  (0, .iload_n 0, 1, 0, 0, 0), (1, .istore_n 2, 1, 0, 0, 0), (2, .iload_n 1, 1, 0, 0, 0), (3, .istore_n 3, 1, 0, 0, 0),
  (4, .iload_n 3, 1, 0, 0, 0), (5, .ifCond .eq 16, 3, 0, 0, 0), (8, .iload_n 2, 1, 0, 0, 0), (9, .iload_n 3, 1, 0, 0, 0),
  (10, .irem, 1, 0, 0, 0), (11, .istore 4, 2, 0, 0, 0), (13, .iload_n 3, 1, 0, 0, 0), (14, .istore_n 2, 1, 0, 0, 0),
  (15, .iload 4, 2, 0, 0, 0), (17, .istore_n 3, 1, 0, 0, 0), (18, .goto (-14), 3, 0, 0, 0), (21, .iload_n 2, 1, 0, 0, 0),
  (22, .ireturn, 1, 0, 0, 0)]
def op_X12_odds_0 : List cv_Q := [
  (0, .aload_n 0, 1, 0, 0, 0), (1, .iconst 0, 1, 0, 0, 0), (2, .putfield 136, 3, 12, 2, 0), (5, .aload_n 0, 1, 0, 0, 0),
  (6, .iload_n 1, 1, 0, 0, 0), (7, .invokevirtual 407, 3, 216, 1, 12), (10, .ifCond .eq 24, 3, 0, 0, 0), (13, .iload_n 2, 1, 0, 0, 0),
  (14, .iconst 0, 1, 0, 0, 0), (15, .aload_n 0, 1, 0, 0, 0), (16, .getfield 222, 3, 12, 14, 0), (19, .invokestatic 180, 3, 156, 3, 0),
  (22, .ifCond .eq 12, 3, 0, 0, 0), (25, .iload_n 3, 1, 0, 0, 0), (26, .iconst 0, 1, 0, 0, 0), (27, .iconst 1, 1, 0, 0, 0),
  (28, .invokestatic 180, 3, 156, 3, 0), (31, .ifCond .ne 5, 3, 0, 0, 0), (34, .iconst (-1), 1, 0, 0, 0), (35, .ireturn, 1, 0, 0, 0),
  (36, .aload_n 0, 1, 0, 0, 0), (37, .iload_n 1, 1, 0, 0, 0), (38, .invokevirtual 460, 3, 247, 1, 12), (41, .istore 4, 2, 0, 0, 0),
  (43, .iload 4, 2, 0, 0, 0), (45, .ifCond .ne 5, 3, 0, 0, 0), (48, .iconst 0, 1, 0, 0, 0), (49, .ireturn, 1, 0, 0, 0),
  (50, .iconst 0, 1, 0, 0, 0), (51, .istore 5, 2, 0, 0, 0), (53, .iconst 0, 1, 0, 0, 0), (54, .istore 6, 2, 0, 0, 0),
  (56, .iload 6, 2, 0, 0, 0), (58, .aload_n 0, 1, 0, 0, 0), (59, .getfield 222, 3, 12, 14, 0), (62, .if_icmp .gt 34, 3, 0, 0, 0),
  (65, .iload 5, 2, 0, 0, 0), (67, .iload 4, 2, 0, 0, 0), (69, .iload 6, 2, 0, 0, 0), (71, .invokestatic 272, 3, 157, 2, 0),
  (74, .ifCond .eq 12, 3, 0, 0, 0), (77, .aload_n 0, 1, 0, 0, 0), (78, .iload 6, 2, 0, 0, 0), (80, .invokevirtual 463, 3, 249, 1, 12),
  (83, .goto 4, 3, 0, 0, 0), (86, .iconst 0, 1, 0, 0, 0), (87, .iadd, 1, 0, 0, 0), (88, .istore 5, 2, 0, 0, 0),
  (90, .iinc 6 1, 3, 0, 0, 0), (93, .goto (-37), 3, 0, 0, 0), (96, .iload 4, 2, 0, 0, 0), (98, .iload_n 2, 1, 0, 0, 0),
  (99, .invokestatic 272, 3, 157, 2, 0), (102, .ifCond .eq 11, 3, 0, 0, 0), (105, .aload_n 0, 1, 0, 0, 0), (106, .iload_n 2, 1, 0, 0, 0),
  (107, .invokevirtual 463, 3, 249, 1, 12), (110, .goto 4, 3, 0, 0, 0), (113, .iconst 0, 1, 0, 0, 0), (114, .istore 6, 2, 0, 0, 0)]
def op_X12_odds_1 : List cv_Q := [
  (116, .iload_n 3, 1, 0, 0, 0), (117, .ifCond .ne 8, 3, 0, 0, 0), (120, .iload 6, 2, 0, 0, 0), (122, .goto 5, 3, 0, 0, 0),
  (125, .iload 5, 2, 0, 0, 0), (127, .iload 6, 2, 0, 0, 0), (129, .iload 5, 2, 0, 0, 0), (131, .invokestatic 466, 3, 250, 2, 0),
  (134, .idiv, 1, 0, 0, 0), (135, .ireturn, 1, 0, 0, 0)]
def op_X12_odds : List cv_Q := op_X12_odds_0 ++ (op_X12_odds_1)
def op_X12_heaviest_0 : List cv_Q := [
  (0, .iconst 0, 1, 0, 0, 0), (1, .istore 4, 2, 0, 0, 0), (3, .iload 4, 2, 0, 0, 0), (5, .aload_n 0, 1, 0, 0, 0),
  (6, .getfield 222, 3, 12, 14, 0), (9, .if_icmp .gt 54, 3, 0, 0, 0), (12, .aload_n 0, 1, 0, 0, 0), (13, .iload_n 1, 1, 0, 0, 0),
  (14, .iload 4, 2, 0, 0, 0), (16, .invokevirtual 448, 3, 243, 2, 12), (19, .iconst 0, 1, 0, 0, 0), (20, .istore 5, 2, 0, 0, 0),
  (22, .iload 5, 2, 0, 0, 0), (24, .aload_n 0, 1, 0, 0, 0), (25, .getfield 240, 3, 12, 43, 0), (28, .if_icmp .ge 16, 3, 0, 0, 0),
  (31, .aload_n 0, 1, 0, 0, 0), (32, .iload_n 1, 1, 0, 0, 0), (33, .iload 5, 2, 0, 0, 0), (35, .invokevirtual 403, 3, 214, 2, 12),
  (38, .iinc 5 1, 3, 0, 0, 0), (41, .goto (-19), 3, 0, 0, 0), (44, .aload_n 0, 1, 0, 0, 0), (45, .getfield 109, 3, 12, 60, 4),
  (48, .iload 4, 2, 0, 0, 0), (50, .aload_n 0, 1, 0, 0, 0), (51, .iload_n 1, 1, 0, 0, 0), (52, .iload_n 3, 1, 0, 0, 0),
  (53, .invokevirtual 445, 3, 244, 2, 12), (56, .iastore, 1, 0, 0, 0), (57, .iinc 4 1, 3, 0, 0, 0), (60, .goto (-57), 3, 0, 0, 0),
  (63, .iconst 0, 1, 0, 0, 0), (64, .istore 4, 2, 0, 0, 0), (66, .iconst 0, 1, 0, 0, 0), (67, .istore 5, 2, 0, 0, 0),
  (69, .iload 5, 2, 0, 0, 0), (71, .aload_n 0, 1, 0, 0, 0), (72, .getfield 222, 3, 12, 14, 0), (75, .if_icmp .gt 96, 3, 0, 0, 0),
  (78, .iconst 0, 1, 0, 0, 0), (79, .istore 6, 2, 0, 0, 0), (81, .iconst 0, 1, 0, 0, 0), (82, .istore 7, 2, 0, 0, 0),
  (84, .iload 7, 2, 0, 0, 0), (86, .aload_n 0, 1, 0, 0, 0), (87, .getfield 222, 3, 12, 14, 0), (90, .if_icmp .gt 59, 3, 0, 0, 0),
  (93, .iload 6, 2, 0, 0, 0), (95, .iload_n 2, 1, 0, 0, 0), (96, .iload 5, 2, 0, 0, 0), (98, .invokestatic 272, 3, 157, 2, 0),
  (101, .ifCond .eq 38, 3, 0, 0, 0), (104, .iload_n 2, 1, 0, 0, 0), (105, .iload 7, 2, 0, 0, 0), (107, .invokestatic 272, 3, 157, 2, 0),
  (110, .ifCond .eq 29, 3, 0, 0, 0), (113, .aload_n 0, 1, 0, 0, 0), (114, .getfield 109, 3, 12, 60, 4), (117, .iload 5, 2, 0, 0, 0)]
def op_X12_heaviest_1 : List cv_Q := [
  (119, .iaload, 1, 0, 0, 0), (120, .aload_n 0, 1, 0, 0, 0), (121, .getfield 109, 3, 12, 60, 4), (124, .iload 7, 2, 0, 0, 0),
  (126, .iaload, 1, 0, 0, 0), (127, .if_icmp .ne 12, 3, 0, 0, 0), (130, .aload_n 0, 1, 0, 0, 0), (131, .iload 7, 2, 0, 0, 0),
  (133, .invokevirtual 463, 3, 249, 1, 12), (136, .goto 4, 3, 0, 0, 0), (139, .iconst 0, 1, 0, 0, 0), (140, .iadd, 1, 0, 0, 0),
  (141, .istore 6, 2, 0, 0, 0), (143, .iinc 7 1, 3, 0, 0, 0), (146, .goto (-62), 3, 0, 0, 0), (149, .iload 6, 2, 0, 0, 0),
  (151, .iload 4, 2, 0, 0, 0), (153, .if_icmp .le 8, 3, 0, 0, 0), (156, .iload 6, 2, 0, 0, 0), (158, .goto 5, 3, 0, 0, 0),
  (161, .iload 4, 2, 0, 0, 0), (163, .istore 4, 2, 0, 0, 0), (165, .iinc 5 1, 3, 0, 0, 0), (168, .goto (-99), 3, 0, 0, 0),
  (171, .iload 4, 2, 0, 0, 0), (173, .ireturn, 1, 0, 0, 0)]
def op_X12_heaviest : List cv_Q := op_X12_heaviest_0 ++ (op_X12_heaviest_1)
def op_X12_test_0 : List cv_Q := [
  (0, .aload_n 0, 1, 0, 0, 0), (1, .iconst 0, 1, 0, 0, 0), (2, .putfield 136, 3, 12, 2, 0), (5, .aload_n 0, 1, 0, 0, 0),
  (6, .iload_n 1, 1, 0, 0, 0), (7, .invokevirtual 407, 3, 216, 1, 12), (10, .ifCond .eq 12, 3, 0, 0, 0), (13, .iload_n 2, 1, 0, 0, 0),
  (14, .iconst 0, 1, 0, 0, 0), (15, .iconst 1, 1, 0, 0, 0), (16, .invokestatic 180, 3, 156, 3, 0), (19, .ifCond .ne 5, 3, 0, 0, 0),
  (22, .iconst (-1), 1, 0, 0, 0), (23, .ireturn, 1, 0, 0, 0), (24, .aload_n 0, 1, 0, 0, 0), (25, .iload_n 1, 1, 0, 0, 0),
  (26, .invokevirtual 460, 3, 247, 1, 12), (29, .istore_n 3, 1, 0, 0, 0), (30, .iconst 0, 1, 0, 0, 0), (31, .istore 4, 2, 0, 0, 0),
  (33, .iconst 0, 1, 0, 0, 0), (34, .istore 5, 2, 0, 0, 0), (36, .iload 5, 2, 0, 0, 0), (38, .aload_n 0, 1, 0, 0, 0),
  (39, .getfield 222, 3, 12, 14, 0), (42, .if_icmp .gt 28, 3, 0, 0, 0), (45, .iload 4, 2, 0, 0, 0), (47, .iload_n 3, 1, 0, 0, 0),
  (48, .iload 5, 2, 0, 0, 0), (50, .invokestatic 272, 3, 157, 2, 0), (53, .ifCond .eq 7, 3, 0, 0, 0), (56, .iconst 1, 1, 0, 0, 0),
  (57, .goto 4, 3, 0, 0, 0), (60, .iconst 0, 1, 0, 0, 0), (61, .iadd, 1, 0, 0, 0), (62, .istore 4, 2, 0, 0, 0),
  (64, .iinc 5 1, 3, 0, 0, 0), (67, .goto (-31), 3, 0, 0, 0), (70, .iload 4, 2, 0, 0, 0), (72, .iconst 2, 1, 0, 0, 0),
  (73, .if_icmp .ge 5, 3, 0, 0, 0), (76, .iconst (-1), 1, 0, 0, 0), (77, .ireturn, 1, 0, 0, 0), (78, .iconst (-1), 1, 0, 0, 0),
  (79, .istore 5, 2, 0, 0, 0), (81, .iconst 0, 1, 0, 0, 0), (82, .istore 6, 2, 0, 0, 0), (84, .iconst 0, 1, 0, 0, 0),
  (85, .istore 7, 2, 0, 0, 0), (87, .iload 7, 2, 0, 0, 0), (89, .iconst 4, 1, 0, 0, 0), (90, .if_icmp .ge 42, 3, 0, 0, 0),
  (93, .aload_n 0, 1, 0, 0, 0), (94, .iload_n 1, 1, 0, 0, 0), (95, .iload_n 3, 1, 0, 0, 0), (96, .iload 7, 2, 0, 0, 0),
  (98, .invokevirtual 469, 3, 252, 3, 12), (101, .istore 8, 2, 0, 0, 0), (103, .iload 5, 2, 0, 0, 0), (105, .ifCond .lt 13, 3, 0, 0, 0)]
def op_X12_test_1 : List cv_Q := [
  (108, .iload 8, 2, 0, 0, 0), (110, .iload 6, 2, 0, 0, 0), (112, .if_icmp .lt 6, 3, 0, 0, 0), (115, .goto 11, 3, 0, 0, 0),
  (118, .iload 7, 2, 0, 0, 0), (120, .istore 5, 2, 0, 0, 0), (122, .iload 8, 2, 0, 0, 0), (124, .istore 6, 2, 0, 0, 0),
  (126, .iinc 7 1, 3, 0, 0, 0), (129, .goto (-42), 3, 0, 0, 0), (132, .iload_n 2, 1, 0, 0, 0), (133, .ifCond .ne 8, 3, 0, 0, 0),
  (136, .iload 5, 2, 0, 0, 0), (138, .goto 5, 3, 0, 0, 0), (141, .iload 6, 2, 0, 0, 0), (143, .ireturn, 1, 0, 0, 0)]
def op_X12_test : List cv_Q := op_X12_test_0 ++ (op_X12_test_1)
def op_X12_lowOf : List cv_Q := [
  (0, .bipush 100, 2, 0, 0, 0), (2, .aload_n 0, 1, 0, 0, 0), (3, .getfield 36, 3, 12, 26, 4), (6, .bipush 16, 2, 0, 0, 0),
  (8, .iload_n 1, 1, 0, 0, 0), (9, .imul, 1, 0, 0, 0), (10, .iconst 5, 1, 0, 0, 0), (11, .iadd, 1, 0, 0, 0),
  (12, .iaload, 1, 0, 0, 0), (13, .imul, 1, 0, 0, 0), (14, .aload_n 0, 1, 0, 0, 0), (15, .getfield 72, 3, 12, 45, 4),
  (18, .iconst 0, 1, 0, 0, 0), (19, .iaload, 1, 0, 0, 0), (20, .i2l, 1, 0, 0, 0), (21, .aload_n 0, 1, 0, 0, 0),
  (22, .iload_n 1, 1, 0, 0, 0), (23, .invokevirtual 355, 3, 203, 1, 12), (26, .i2l, 1, 0, 0, 0), (27, .lmul, 1, 0, 0, 0),
  (28, .aload_n 0, 1, 0, 0, 0), (29, .getfield 36, 3, 12, 26, 4), (32, .bipush 16, 2, 0, 0, 0), (34, .iload_n 1, 1, 0, 0, 0),
  (35, .imul, 1, 0, 0, 0), (36, .iconst 1, 1, 0, 0, 0), (37, .iadd, 1, 0, 0, 0), (38, .iaload, 1, 0, 0, 0),
  (39, .i2l, 1, 0, 0, 0), (40, .ldiv, 1, 0, 0, 0), (41, .l2i, 1, 0, 0, 0), (42, .iadd, 1, 0, 0, 0),
  (43, .istore_n 3, 1, 0, 0, 0), (44, .bipush 100, 2, 0, 0, 0), (46, .aload_n 0, 1, 0, 0, 0), (47, .getfield 36, 3, 12, 26, 4),
  (50, .bipush 16, 2, 0, 0, 0), (52, .iload_n 1, 1, 0, 0, 0), (53, .imul, 1, 0, 0, 0), (54, .bipush 6, 2, 0, 0, 0),
  (56, .iadd, 1, 0, 0, 0), (57, .iaload, 1, 0, 0, 0), (58, .imul, 1, 0, 0, 0), (59, .istore 4, 2, 0, 0, 0),
  (61, .iload_n 3, 1, 0, 0, 0), (62, .aload_n 0, 1, 0, 0, 0), (63, .getfield 112, 3, 12, 61, 4), (66, .iload_n 2, 1, 0, 0, 0),
  (67, .iaload, 1, 0, 0, 0), (68, .imul, 1, 0, 0, 0), (69, .iload 4, 2, 0, 0, 0), (71, .aload_n 0, 1, 0, 0, 0),
  (72, .getfield 115, 3, 12, 62, 4), (75, .iload_n 2, 1, 0, 0, 0), (76, .iaload, 1, 0, 0, 0), (77, .imul, 1, 0, 0, 0),
  (78, .iadd, 1, 0, 0, 0), (79, .ireturn, 1, 0, 0, 0)]
def op_X12_isAngle : List cv_Q := [
  (0, .iload_n 1, 1, 0, 0, 0), (1, .iconst 0, 1, 0, 0, 0), (2, .bipush 8, 2, 0, 0, 0), (4, .invokestatic 180, 3, 156, 3, 0),
  (7, .ireturn, 1, 0, 0, 0)]
def op_X12_low : List cv_Q := [
  (0, .aload_n 0, 1, 0, 0, 0), (1, .iconst 0, 1, 0, 0, 0), (2, .putfield 136, 3, 12, 2, 0), (5, .aload_n 0, 1, 0, 0, 0),
  (6, .iload_n 1, 1, 0, 0, 0), (7, .invokevirtual 407, 3, 216, 1, 12), (10, .ifCond .eq 11, 3, 0, 0, 0), (13, .aload_n 0, 1, 0, 0, 0),
  (14, .iload_n 2, 1, 0, 0, 0), (15, .invokevirtual 472, 3, 255, 1, 12), (18, .ifCond .ne 7, 3, 0, 0, 0), (21, .ldc_w 419, 3, 0, 0, (-2147483648)),
  (24, .ireturn, 1, 0, 0, 0), (25, .aload_n 0, 1, 0, 0, 0), (26, .iload_n 1, 1, 0, 0, 0), (27, .invokevirtual 413, 3, 202, 1, 12),
  (30, .aload_n 0, 1, 0, 0, 0), (31, .iload_n 1, 1, 0, 0, 0), (32, .iload_n 2, 1, 0, 0, 0), (33, .invokevirtual 475, 3, 254, 2, 12),
  (36, .ireturn, 1, 0, 0, 0)]
def op_X12_rest : List cv_Q := [
  (0, .aload_n 0, 1, 0, 0, 0), (1, .iconst 0, 1, 0, 0, 0), (2, .putfield 136, 3, 12, 2, 0), (5, .aload_n 0, 1, 0, 0, 0),
  (6, .iload_n 1, 1, 0, 0, 0), (7, .invokevirtual 407, 3, 216, 1, 12), (10, .ifCond .ne 5, 3, 0, 0, 0), (13, .iconst (-1), 1, 0, 0, 0),
  (14, .ireturn, 1, 0, 0, 0), (15, .aload_n 0, 1, 0, 0, 0), (16, .iload_n 1, 1, 0, 0, 0), (17, .invokevirtual 413, 3, 202, 1, 12),
  (20, .iconst 0, 1, 0, 0, 0), (21, .istore_n 2, 1, 0, 0, 0), (22, .iconst 1, 1, 0, 0, 0), (23, .istore_n 3, 1, 0, 0, 0),
  (24, .iload_n 3, 1, 0, 0, 0), (25, .bipush 9, 2, 0, 0, 0), (27, .if_icmp .ge 30, 3, 0, 0, 0), (30, .aload_n 0, 1, 0, 0, 0),
  (31, .iload_n 1, 1, 0, 0, 0), (32, .iload_n 3, 1, 0, 0, 0), (33, .invokevirtual 475, 3, 254, 2, 12), (36, .aload_n 0, 1, 0, 0, 0),
  (37, .iload_n 1, 1, 0, 0, 0), (38, .iload_n 2, 1, 0, 0, 0), (39, .invokevirtual 475, 3, 254, 2, 12), (42, .if_icmp .le 7, 3, 0, 0, 0),
  (45, .iload_n 3, 1, 0, 0, 0), (46, .goto 4, 3, 0, 0, 0), (49, .iload_n 2, 1, 0, 0, 0), (50, .istore_n 2, 1, 0, 0, 0),
  (51, .iinc 3 1, 3, 0, 0, 0), (54, .goto (-30), 3, 0, 0, 0), (57, .iload_n 2, 1, 0, 0, 0), (58, .ireturn, 1, 0, 0, 0)]
def op_X12_shutsFrom : List cv_Q := [
  (0, .iconst 1, 1, 0, 0, 0), (1, .istore_n 2, 1, 0, 0, 0), (2, .iconst 1, 1, 0, 0, 0), (3, .istore_n 3, 1, 0, 0, 0),
  (4, .iload_n 3, 1, 0, 0, 0), (5, .bipush 9, 2, 0, 0, 0), (7, .if_icmp .ge 32, 3, 0, 0, 0), (10, .aload_n 0, 1, 0, 0, 0),
  (11, .iload_n 1, 1, 0, 0, 0), (12, .iload_n 3, 1, 0, 0, 0), (13, .invokevirtual 475, 3, 254, 2, 12), (16, .aload_n 0, 1, 0, 0, 0),
  (17, .iload_n 1, 1, 0, 0, 0), (18, .iload_n 3, 1, 0, 0, 0), (19, .iconst 1, 1, 0, 0, 0), (20, .isub, 1, 0, 0, 0),
  (21, .invokevirtual 475, 3, 254, 2, 12), (24, .if_icmp .ge 15, 3, 0, 0, 0), (27, .iload_n 2, 1, 0, 0, 0), (28, .iconst 1, 1, 0, 0, 0),
  (29, .iload_n 3, 1, 0, 0, 0), (30, .ishl, 1, 0, 0, 0), (31, .ior, 1, 0, 0, 0), (32, .istore_n 2, 1, 0, 0, 0),
  (33, .iinc 3 1, 3, 0, 0, 0), (36, .goto (-32), 3, 0, 0, 0), (39, .iload_n 2, 1, 0, 0, 0), (40, .ireturn, 1, 0, 0, 0)]
def op_X12_shuts : List cv_Q := [
  (0, .aload_n 0, 1, 0, 0, 0), (1, .iconst 0, 1, 0, 0, 0), (2, .putfield 136, 3, 12, 2, 0), (5, .aload_n 0, 1, 0, 0, 0),
  (6, .iload_n 1, 1, 0, 0, 0), (7, .invokevirtual 407, 3, 216, 1, 12), (10, .ifCond .ne 5, 3, 0, 0, 0), (13, .iconst (-1), 1, 0, 0, 0),
  (14, .ireturn, 1, 0, 0, 0), (15, .aload_n 0, 1, 0, 0, 0), (16, .iload_n 1, 1, 0, 0, 0), (17, .invokevirtual 413, 3, 202, 1, 12),
  (20, .aload_n 0, 1, 0, 0, 0), (21, .iload_n 1, 1, 0, 0, 0), (22, .invokevirtual 478, 3, 258, 1, 12), (25, .ireturn, 1, 0, 0, 0)]
def op_X12_aboveOf : List cv_Q := [
  (0, .aload_n 0, 1, 0, 0, 0), (1, .getfield 36, 3, 12, 26, 4), (4, .bipush 16, 2, 0, 0, 0), (6, .iload_n 1, 1, 0, 0, 0),
  (7, .imul, 1, 0, 0, 0), (8, .iaload, 1, 0, 0, 0), (9, .i2l, 1, 0, 0, 0), (10, .aload_n 0, 1, 0, 0, 0),
  (11, .iload_n 1, 1, 0, 0, 0), (12, .iconst 0, 1, 0, 0, 0), (13, .invokevirtual 475, 3, 254, 2, 12), (16, .i2l, 1, 0, 0, 0),
  (17, .aload_n 0, 1, 0, 0, 0), (18, .iload_n 1, 1, 0, 0, 0), (19, .iload_n 2, 1, 0, 0, 0), (20, .invokevirtual 475, 3, 254, 2, 12),
  (23, .i2l, 1, 0, 0, 0), (24, .lsub, 1, 0, 0, 0), (25, .lmul, 1, 0, 0, 0), (26, .ldc2_w 481, 3, 0, 0, 1000),
  (29, .aload_n 0, 1, 0, 0, 0), (30, .iload_n 1, 1, 0, 0, 0), (31, .invokevirtual 355, 3, 203, 1, 12), (34, .i2l, 1, 0, 0, 0),
  (35, .lmul, 1, 0, 0, 0), (36, .ldiv, 1, 0, 0, 0), (37, .lstore_n 3, 1, 0, 0, 0), (38, .lload_n 3, 1, 0, 0, 0),
  (39, .aload_n 0, 1, 0, 0, 0), (40, .getfield 36, 3, 12, 26, 4), (43, .bipush 16, 2, 0, 0, 0), (45, .iload_n 1, 1, 0, 0, 0),
  (46, .imul, 1, 0, 0, 0), (47, .bipush 13, 2, 0, 0, 0), (49, .iadd, 1, 0, 0, 0), (50, .iaload, 1, 0, 0, 0),
  (51, .i2l, 1, 0, 0, 0), (52, .ladd, 1, 0, 0, 0), (53, .aload_n 0, 1, 0, 0, 0), (54, .iload_n 1, 1, 0, 0, 0),
  (55, .invokevirtual 386, 3, 206, 1, 12), (58, .i2l, 1, 0, 0, 0), (59, .lsub, 1, 0, 0, 0), (60, .ldc2_w 483, 3, 0, 0, 100),
  (63, .aload_n 0, 1, 0, 0, 0), (64, .getfield 39, 3, 12, 27, 4), (67, .bipush 9, 2, 0, 0, 0), (69, .iload_n 1, 1, 0, 0, 0),
  (70, .imul, 1, 0, 0, 0), (71, .iload_n 2, 1, 0, 0, 0), (72, .iadd, 1, 0, 0, 0), (73, .iaload, 1, 0, 0, 0),
  (74, .i2l, 1, 0, 0, 0), (75, .lmul, 1, 0, 0, 0), (76, .lsub, 1, 0, 0, 0), (77, .l2i, 1, 0, 0, 0),
  (78, .ireturn, 1, 0, 0, 0)]
def op_X12_above : List cv_Q := [
  (0, .aload_n 0, 1, 0, 0, 0), (1, .iconst 0, 1, 0, 0, 0), (2, .putfield 136, 3, 12, 2, 0), (5, .aload_n 0, 1, 0, 0, 0),
  (6, .iload_n 1, 1, 0, 0, 0), (7, .invokevirtual 407, 3, 216, 1, 12), (10, .ifCond .eq 11, 3, 0, 0, 0), (13, .aload_n 0, 1, 0, 0, 0),
  (14, .iload_n 2, 1, 0, 0, 0), (15, .invokevirtual 472, 3, 255, 1, 12), (18, .ifCond .ne 7, 3, 0, 0, 0), (21, .ldc_w 419, 3, 0, 0, (-2147483648)),
  (24, .ireturn, 1, 0, 0, 0), (25, .aload_n 0, 1, 0, 0, 0), (26, .iload_n 1, 1, 0, 0, 0), (27, .invokevirtual 413, 3, 202, 1, 12),
  (30, .aload_n 0, 1, 0, 0, 0), (31, .iload_n 1, 1, 0, 0, 0), (32, .iload_n 2, 1, 0, 0, 0), (33, .invokevirtual 485, 3, 260, 2, 12),
  (36, .ireturn, 1, 0, 0, 0)]
def op_X12_opensTo : List cv_Q := [
  (0, .iconst 0, 1, 0, 0, 0), (1, .istore_n 2, 1, 0, 0, 0), (2, .iload_n 2, 1, 0, 0, 0), (3, .bipush 9, 2, 0, 0, 0),
  (5, .if_icmp .ge 18, 3, 0, 0, 0), (8, .aload_n 0, 1, 0, 0, 0), (9, .iload_n 1, 1, 0, 0, 0), (10, .iload_n 2, 1, 0, 0, 0),
  (11, .invokevirtual 485, 3, 260, 2, 12), (14, .ifCond .lt 9, 3, 0, 0, 0), (17, .iinc 2 1, 3, 0, 0, 0), (20, .goto (-18), 3, 0, 0, 0),
  (23, .iload_n 2, 1, 0, 0, 0), (24, .iconst 1, 1, 0, 0, 0), (25, .isub, 1, 0, 0, 0), (26, .ireturn, 1, 0, 0, 0)]
def op_X12_opens : List cv_Q := [
  (0, .aload_n 0, 1, 0, 0, 0), (1, .iconst 0, 1, 0, 0, 0), (2, .putfield 136, 3, 12, 2, 0), (5, .aload_n 0, 1, 0, 0, 0),
  (6, .iload_n 1, 1, 0, 0, 0), (7, .invokevirtual 407, 3, 216, 1, 12), (10, .ifCond .ne 6, 3, 0, 0, 0), (13, .bipush (-2), 2, 0, 0, 0),
  (15, .ireturn, 1, 0, 0, 0), (16, .aload_n 0, 1, 0, 0, 0), (17, .iload_n 1, 1, 0, 0, 0), (18, .invokevirtual 413, 3, 202, 1, 12),
  (21, .aload_n 0, 1, 0, 0, 0), (22, .iload_n 1, 1, 0, 0, 0), (23, .invokevirtual 488, 3, 262, 1, 12), (26, .ireturn, 1, 0, 0, 0)]
def op_X12_stand_0 : List cv_Q := [
  (0, .aload_n 0, 1, 0, 0, 0), (1, .iconst 0, 1, 0, 0, 0), (2, .putfield 136, 3, 12, 2, 0), (5, .aload_n 0, 1, 0, 0, 0),
  (6, .iload_n 1, 1, 0, 0, 0), (7, .invokevirtual 407, 3, 216, 1, 12), (10, .ifCond .eq 20, 3, 0, 0, 0), (13, .aload_n 0, 1, 0, 0, 0),
  (14, .iload_n 2, 1, 0, 0, 0), (15, .invokevirtual 472, 3, 255, 1, 12), (18, .ifCond .eq 12, 3, 0, 0, 0), (21, .iload_n 3, 1, 0, 0, 0),
  (22, .iconst 0, 1, 0, 0, 0), (23, .iconst 1, 1, 0, 0, 0), (24, .invokestatic 180, 3, 156, 3, 0), (27, .ifCond .ne 7, 3, 0, 0, 0),
  (30, .ldc_w 419, 3, 0, 0, (-2147483648)), (33, .ireturn, 1, 0, 0, 0), (34, .aload_n 0, 1, 0, 0, 0), (35, .iload_n 1, 1, 0, 0, 0),
  (36, .invokevirtual 413, 3, 202, 1, 12), (39, .aload_n 0, 1, 0, 0, 0), (40, .getfield 36, 3, 12, 26, 4), (43, .bipush 16, 2, 0, 0, 0),
  (45, .iload_n 1, 1, 0, 0, 0), (46, .imul, 1, 0, 0, 0), (47, .iconst 5, 1, 0, 0, 0), (48, .iadd, 1, 0, 0, 0),
  (49, .iaload, 1, 0, 0, 0), (50, .istore 4, 2, 0, 0, 0), (52, .aload_n 0, 1, 0, 0, 0), (53, .getfield 36, 3, 12, 26, 4),
  (56, .bipush 16, 2, 0, 0, 0), (58, .iload_n 1, 1, 0, 0, 0), (59, .imul, 1, 0, 0, 0), (60, .bipush 6, 2, 0, 0, 0),
  (62, .iadd, 1, 0, 0, 0), (63, .iaload, 1, 0, 0, 0), (64, .istore 5, 2, 0, 0, 0), (66, .iconst (-1), 1, 0, 0, 0),
  (67, .istore 6, 2, 0, 0, 0), (69, .iconst 0, 1, 0, 0, 0), (70, .istore 7, 2, 0, 0, 0), (72, .iconst 0, 1, 0, 0, 0),
  (73, .istore 8, 2, 0, 0, 0), (75, .iconst 2, 1, 0, 0, 0), (76, .iload_n 2, 1, 0, 0, 0), (77, .ishl, 1, 0, 0, 0),
  (78, .iconst 1, 1, 0, 0, 0), (79, .isub, 1, 0, 0, 0), (80, .istore 9, 2, 0, 0, 0), (82, .bipush (-30), 2, 0, 0, 0),
  (84, .istore 10, 2, 0, 0, 0), (86, .iload 10, 2, 0, 0, 0), (88, .bipush 31, 2, 0, 0, 0), (90, .if_icmp .ge 123, 3, 0, 0, 0),
  (93, .bipush (-30), 2, 0, 0, 0), (95, .istore 11, 2, 0, 0, 0), (97, .iload 11, 2, 0, 0, 0), (99, .bipush 31, 2, 0, 0, 0)]
def op_X12_stand_1 : List cv_Q := [
  (101, .if_icmp .ge 106, 3, 0, 0, 0), (104, .iload 6, 2, 0, 0, 0), (106, .ifCond .lt 22, 3, 0, 0, 0), (109, .iload 10, 2, 0, 0, 0),
  (111, .invokestatic 491, 3, 158, 1, 0), (114, .iload 11, 2, 0, 0, 0), (116, .invokestatic 491, 3, 158, 1, 0), (119, .iadd, 1, 0, 0, 0),
  (120, .iload 6, 2, 0, 0, 0), (122, .if_icmp .lt 6, 3, 0, 0, 0), (125, .goto 76, 3, 0, 0, 0), (128, .aload_n 0, 1, 0, 0, 0),
  (129, .getfield 36, 3, 12, 26, 4), (132, .bipush 16, 2, 0, 0, 0), (134, .iload_n 1, 1, 0, 0, 0), (135, .imul, 1, 0, 0, 0),
  (136, .iconst 5, 1, 0, 0, 0), (137, .iadd, 1, 0, 0, 0), (138, .iload 10, 2, 0, 0, 0), (140, .iastore, 1, 0, 0, 0),
  (141, .aload_n 0, 1, 0, 0, 0), (142, .getfield 36, 3, 12, 26, 4), (145, .bipush 16, 2, 0, 0, 0), (147, .iload_n 1, 1, 0, 0, 0),
  (148, .imul, 1, 0, 0, 0), (149, .bipush 6, 2, 0, 0, 0), (151, .iadd, 1, 0, 0, 0), (152, .iload 11, 2, 0, 0, 0),
  (154, .iastore, 1, 0, 0, 0), (155, .aload_n 0, 1, 0, 0, 0), (156, .iload_n 1, 1, 0, 0, 0), (157, .invokevirtual 478, 3, 258, 1, 12),
  (160, .iload 9, 2, 0, 0, 0), (162, .iand, 1, 0, 0, 0), (163, .iload 9, 2, 0, 0, 0), (165, .if_icmp .ne 36, 3, 0, 0, 0),
  (168, .aload_n 0, 1, 0, 0, 0), (169, .iload_n 1, 1, 0, 0, 0), (170, .invokevirtual 488, 3, 262, 1, 12), (173, .iload_n 2, 1, 0, 0, 0),
  (174, .if_icmp .ge 6, 3, 0, 0, 0), (177, .goto 24, 3, 0, 0, 0), (180, .iload 10, 2, 0, 0, 0), (182, .invokestatic 491, 3, 158, 1, 0),
  (185, .iload 11, 2, 0, 0, 0), (187, .invokestatic 491, 3, 158, 1, 0), (190, .iadd, 1, 0, 0, 0), (191, .istore 6, 2, 0, 0, 0),
  (193, .iload 10, 2, 0, 0, 0), (195, .istore 7, 2, 0, 0, 0), (197, .iload 11, 2, 0, 0, 0), (199, .istore 8, 2, 0, 0, 0),
  (201, .iinc 11 1, 3, 0, 0, 0), (204, .goto (-107), 3, 0, 0, 0), (207, .iinc 10 1, 3, 0, 0, 0), (210, .goto (-124), 3, 0, 0, 0),
  (213, .aload_n 0, 1, 0, 0, 0), (214, .getfield 36, 3, 12, 26, 4), (217, .bipush 16, 2, 0, 0, 0), (219, .iload_n 1, 1, 0, 0, 0)]
def op_X12_stand_2 : List cv_Q := [
  (220, .imul, 1, 0, 0, 0), (221, .iconst 5, 1, 0, 0, 0), (222, .iadd, 1, 0, 0, 0), (223, .iload 4, 2, 0, 0, 0),
  (225, .iastore, 1, 0, 0, 0), (226, .aload_n 0, 1, 0, 0, 0), (227, .getfield 36, 3, 12, 26, 4), (230, .bipush 16, 2, 0, 0, 0),
  (232, .iload_n 1, 1, 0, 0, 0), (233, .imul, 1, 0, 0, 0), (234, .bipush 6, 2, 0, 0, 0), (236, .iadd, 1, 0, 0, 0),
  (237, .iload 5, 2, 0, 0, 0), (239, .iastore, 1, 0, 0, 0), (240, .iload 6, 2, 0, 0, 0), (242, .ifCond .ge 9, 3, 0, 0, 0),
  (245, .ldc_w 419, 3, 0, 0, (-2147483648)), (248, .goto 14, 3, 0, 0, 0), (251, .iload_n 3, 1, 0, 0, 0), (252, .ifCond .ne 8, 3, 0, 0, 0),
  (255, .iload 7, 2, 0, 0, 0), (257, .goto 5, 3, 0, 0, 0), (260, .iload 8, 2, 0, 0, 0), (262, .ireturn, 1, 0, 0, 0)]
def op_X12_stand : List cv_Q := op_X12_stand_0 ++ (op_X12_stand_1 ++ (op_X12_stand_2))
def op_X12_nextOrder_0 : List cv_Q := [
  (0, .iload_n 1, 1, 0, 0, 0), (1, .iconst 2, 1, 0, 0, 0), (2, .isub, 1, 0, 0, 0), (3, .istore_n 2, 1, 0, 0, 0),
  (4, .iload_n 2, 1, 0, 0, 0), (5, .ifCond .lt 20, 3, 0, 0, 0), (8, .aload_n 0, 1, 0, 0, 0), (9, .iload_n 2, 1, 0, 0, 0),
  (10, .iaload, 1, 0, 0, 0), (11, .aload_n 0, 1, 0, 0, 0), (12, .iload_n 2, 1, 0, 0, 0), (13, .iconst 1, 1, 0, 0, 0),
  (14, .iadd, 1, 0, 0, 0), (15, .iaload, 1, 0, 0, 0), (16, .if_icmp .le 9, 3, 0, 0, 0), (19, .iinc 2 (-1), 3, 0, 0, 0),
  (22, .goto (-18), 3, 0, 0, 0), (25, .iload_n 2, 1, 0, 0, 0), (26, .ifCond .ge 5, 3, 0, 0, 0), (29, .iconst 0, 1, 0, 0, 0),
  (30, .ireturn, 1, 0, 0, 0), (31, .iload_n 1, 1, 0, 0, 0), (32, .iconst 1, 1, 0, 0, 0), (33, .isub, 1, 0, 0, 0),
  (34, .istore_n 3, 1, 0, 0, 0), (35, .aload_n 0, 1, 0, 0, 0), (36, .iload_n 3, 1, 0, 0, 0), (37, .iaload, 1, 0, 0, 0),
  (38, .aload_n 0, 1, 0, 0, 0), (39, .iload_n 2, 1, 0, 0, 0), (40, .iaload, 1, 0, 0, 0), (41, .if_icmp .ge 9, 3, 0, 0, 0),
  (44, .iinc 3 (-1), 3, 0, 0, 0), (47, .goto (-12), 3, 0, 0, 0), (50, .aload_n 0, 1, 0, 0, 0), (51, .iload_n 2, 1, 0, 0, 0),
  (52, .iaload, 1, 0, 0, 0), (53, .istore 4, 2, 0, 0, 0), (55, .aload_n 0, 1, 0, 0, 0), (56, .iload_n 2, 1, 0, 0, 0),
  (57, .aload_n 0, 1, 0, 0, 0), (58, .iload_n 3, 1, 0, 0, 0), (59, .iaload, 1, 0, 0, 0), (60, .iastore, 1, 0, 0, 0),
  (61, .aload_n 0, 1, 0, 0, 0), (62, .iload_n 3, 1, 0, 0, 0), (63, .iload 4, 2, 0, 0, 0), (65, .iastore, 1, 0, 0, 0),
  (66, .iload_n 2, 1, 0, 0, 0), (67, .iconst 1, 1, 0, 0, 0), (68, .iadd, 1, 0, 0, 0), (69, .istore 5, 2, 0, 0, 0),
  (71, .iload_n 1, 1, 0, 0, 0), (72, .iconst 1, 1, 0, 0, 0), (73, .isub, 1, 0, 0, 0), (74, .istore 6, 2, 0, 0, 0),
  (76, .iload 5, 2, 0, 0, 0), (78, .iload 6, 2, 0, 0, 0), (80, .if_icmp .ge 32, 3, 0, 0, 0), (83, .aload_n 0, 1, 0, 0, 0)]
def op_X12_nextOrder_1 : List cv_Q := [
  (84, .iload 5, 2, 0, 0, 0), (86, .iaload, 1, 0, 0, 0), (87, .istore 4, 2, 0, 0, 0), (89, .aload_n 0, 1, 0, 0, 0),
  (90, .iload 5, 2, 0, 0, 0), (92, .aload_n 0, 1, 0, 0, 0), (93, .iload 6, 2, 0, 0, 0), (95, .iaload, 1, 0, 0, 0),
  (96, .iastore, 1, 0, 0, 0), (97, .aload_n 0, 1, 0, 0, 0), (98, .iload 6, 2, 0, 0, 0), (100, .iload 4, 2, 0, 0, 0),
  (102, .iastore, 1, 0, 0, 0), (103, .iinc 5 1, 3, 0, 0, 0), (106, .iinc 6 (-1), 3, 0, 0, 0), (109, .goto (-33), 3, 0, 0, 0),
  (112, .iconst 1, 1, 0, 0, 0), (113, .ireturn, 1, 0, 0, 0)]
def op_X12_nextOrder : List cv_Q := op_X12_nextOrder_0 ++ (op_X12_nextOrder_1)
def op_X12_weekOfAll : List cv_Q := [
  (0, .iconst 0, 1, 0, 0, 0), (1, .istore_n 2, 1, 0, 0, 0), (2, .iconst 0, 1, 0, 0, 0), (3, .istore_n 3, 1, 0, 0, 0),
  (4, .iload_n 3, 1, 0, 0, 0), (5, .aload_n 0, 1, 0, 0, 0), (6, .getfield 216, 3, 12, 12, 0), (9, .if_icmp .ge 63, 3, 0, 0, 0),
  (12, .aload_n 0, 1, 0, 0, 0), (13, .getfield 72, 3, 12, 45, 4), (16, .iconst 0, 1, 0, 0, 0), (17, .aload_n 0, 1, 0, 0, 0),
  (18, .getfield 124, 3, 12, 65, 4), (21, .bipush 16, 2, 0, 0, 0), (23, .iload_n 3, 1, 0, 0, 0), (24, .imul, 1, 0, 0, 0),
  (25, .invokestatic 236, 3, 200, 4, 0), (28, .aload_n 0, 1, 0, 0, 0), (29, .iload_n 3, 1, 0, 0, 0), (30, .iload_n 1, 1, 0, 0, 0),
  (31, .invokevirtual 403, 3, 214, 2, 12), (34, .iload_n 2, 1, 0, 0, 0), (35, .aload_n 0, 1, 0, 0, 0), (36, .iload_n 3, 1, 0, 0, 0),
  (37, .invokevirtual 420, 3, 223, 1, 12), (40, .ifCond .eq 7, 3, 0, 0, 0), (43, .iconst 0, 1, 0, 0, 0), (44, .goto 4, 3, 0, 0, 0),
  (47, .iconst 1, 1, 0, 0, 0), (48, .iadd, 1, 0, 0, 0), (49, .istore_n 2, 1, 0, 0, 0), (50, .aload_n 0, 1, 0, 0, 0),
  (51, .getfield 124, 3, 12, 65, 4), (54, .bipush 16, 2, 0, 0, 0), (56, .iload_n 3, 1, 0, 0, 0), (57, .imul, 1, 0, 0, 0),
  (58, .aload_n 0, 1, 0, 0, 0), (59, .getfield 72, 3, 12, 45, 4), (62, .iconst 0, 1, 0, 0, 0), (63, .invokestatic 236, 3, 200, 4, 0),
  (66, .iinc 3 1, 3, 0, 0, 0), (69, .goto (-65), 3, 0, 0, 0), (72, .iload_n 2, 1, 0, 0, 0), (73, .ireturn, 1, 0, 0, 0)]
def op_X12_sumBy_0 : List cv_Q := [
  (0, .iconst 0, 1, 0, 0, 0), (1, .istore_n 2, 1, 0, 0, 0), (2, .iload_n 2, 1, 0, 0, 0), (3, .aload_n 0, 1, 0, 0, 0),
  (4, .getfield 216, 3, 12, 12, 0), (7, .if_icmp .ge 28, 3, 0, 0, 0), (10, .aload_n 0, 1, 0, 0, 0), (11, .getfield 124, 3, 12, 65, 4),
  (14, .bipush 16, 2, 0, 0, 0), (16, .iload_n 2, 1, 0, 0, 0), (17, .imul, 1, 0, 0, 0), (18, .aload_n 0, 1, 0, 0, 0),
  (19, .getfield 69, 3, 12, 44, 4), (22, .bipush 16, 2, 0, 0, 0), (24, .iload_n 2, 1, 0, 0, 0), (25, .imul, 1, 0, 0, 0),
  (26, .invokestatic 236, 3, 200, 4, 0), (29, .iinc 2 1, 3, 0, 0, 0), (32, .goto (-30), 3, 0, 0, 0), (35, .iconst 0, 1, 0, 0, 0),
  (36, .istore_n 2, 1, 0, 0, 0), (37, .iconst 0, 1, 0, 0, 0), (38, .istore_n 3, 1, 0, 0, 0), (39, .iload_n 3, 1, 0, 0, 0),
  (40, .aload_n 0, 1, 0, 0, 0), (41, .getfield 216, 3, 12, 12, 0), (44, .iload_n 1, 1, 0, 0, 0), (45, .imul, 1, 0, 0, 0),
  (46, .if_icmp .ge 76, 3, 0, 0, 0), (49, .iload_n 3, 1, 0, 0, 0), (50, .iload_n 1, 1, 0, 0, 0), (51, .irem, 1, 0, 0, 0),
  (52, .ifCond .ne 51, 3, 0, 0, 0), (55, .aload_n 0, 1, 0, 0, 0), (56, .getfield 118, 3, 12, 63, 4), (59, .iload_n 3, 1, 0, 0, 0),
  (60, .iload_n 1, 1, 0, 0, 0), (61, .idiv, 1, 0, 0, 0), (62, .iaload, 1, 0, 0, 0), (63, .istore 4, 2, 0, 0, 0),
  (65, .aload_n 0, 1, 0, 0, 0), (66, .getfield 72, 3, 12, 45, 4), (69, .iconst 0, 1, 0, 0, 0), (70, .aload_n 0, 1, 0, 0, 0),
  (71, .getfield 124, 3, 12, 65, 4), (74, .bipush 16, 2, 0, 0, 0), (76, .iload 4, 2, 0, 0, 0), (78, .imul, 1, 0, 0, 0),
  (79, .invokestatic 236, 3, 200, 4, 0), (82, .aload_n 0, 1, 0, 0, 0), (83, .getfield 124, 3, 12, 65, 4), (86, .bipush 16, 2, 0, 0, 0),
  (88, .iload 4, 2, 0, 0, 0), (90, .imul, 1, 0, 0, 0), (91, .iconst 3, 1, 0, 0, 0), (92, .iadd, 1, 0, 0, 0),
  (93, .dup2, 1, 0, 0, 0), (94, .iaload, 1, 0, 0, 0), (95, .aload_n 0, 1, 0, 0, 0), (96, .iload 4, 2, 0, 0, 0)]
def op_X12_sumBy_1 : List cv_Q := [
  (98, .invokevirtual 386, 3, 206, 1, 12), (101, .iadd, 1, 0, 0, 0), (102, .iastore, 1, 0, 0, 0), (103, .iload_n 2, 1, 0, 0, 0),
  (104, .aload_n 0, 1, 0, 0, 0), (105, .aload_n 0, 1, 0, 0, 0), (106, .getfield 240, 3, 12, 43, 0), (109, .iload_n 3, 1, 0, 0, 0),
  (110, .iadd, 1, 0, 0, 0), (111, .invokevirtual 494, 3, 266, 1, 12), (114, .iadd, 1, 0, 0, 0), (115, .istore_n 2, 1, 0, 0, 0),
  (116, .iinc 3 1, 3, 0, 0, 0), (119, .goto (-80), 3, 0, 0, 0), (122, .iload_n 2, 1, 0, 0, 0), (123, .ireturn, 1, 0, 0, 0)]
def op_X12_sumBy : List cv_Q := op_X12_sumBy_0 ++ (op_X12_sumBy_1)
def op_X12_first_0 : List cv_Q := [
  (0, .aload_n 0, 1, 0, 0, 0), (1, .iconst 0, 1, 0, 0, 0), (2, .putfield 136, 3, 12, 2, 0), (5, .aload_n 0, 1, 0, 0, 0),
  (6, .getfield 216, 3, 12, 12, 0), (9, .ifCond .eq 25, 3, 0, 0, 0), (12, .iload_n 1, 1, 0, 0, 0), (13, .iconst 1, 1, 0, 0, 0),
  (14, .bipush 100, 2, 0, 0, 0), (16, .invokestatic 180, 3, 156, 3, 0), (19, .ifCond .eq 15, 3, 0, 0, 0), (22, .iload_n 2, 1, 0, 0, 0),
  (23, .iconst 0, 1, 0, 0, 0), (24, .aload_n 0, 1, 0, 0, 0), (25, .getfield 216, 3, 12, 12, 0), (28, .invokestatic 180, 3, 156, 3, 0),
  (31, .ifCond .ne 5, 3, 0, 0, 0), (34, .iconst (-1), 1, 0, 0, 0), (35, .ireturn, 1, 0, 0, 0), (36, .iconst 0, 1, 0, 0, 0),
  (37, .istore_n 3, 1, 0, 0, 0), (38, .iload_n 3, 1, 0, 0, 0), (39, .iconst 4, 1, 0, 0, 0), (40, .if_icmp .ge 16, 3, 0, 0, 0),
  (43, .aload_n 0, 1, 0, 0, 0), (44, .getfield 118, 3, 12, 63, 4), (47, .iload_n 3, 1, 0, 0, 0), (48, .iload_n 3, 1, 0, 0, 0),
  (49, .iastore, 1, 0, 0, 0), (50, .iinc 3 1, 3, 0, 0, 0), (53, .goto (-15), 3, 0, 0, 0), (56, .iconst (-1), 1, 0, 0, 0),
  (57, .istore_n 3, 1, 0, 0, 0), (58, .iconst 1, 1, 0, 0, 0), (59, .istore 4, 2, 0, 0, 0), (61, .iload 4, 2, 0, 0, 0),
  (63, .ifCond .eq 68, 3, 0, 0, 0), (66, .aload_n 0, 1, 0, 0, 0), (67, .iload_n 1, 1, 0, 0, 0), (68, .invokevirtual 497, 3, 267, 1, 12),
  (71, .istore 5, 2, 0, 0, 0), (73, .iload_n 3, 1, 0, 0, 0), (74, .ifCond .lt 9, 3, 0, 0, 0), (77, .iload 5, 2, 0, 0, 0),
  (79, .iload_n 3, 1, 0, 0, 0), (80, .if_icmp .ge 35, 3, 0, 0, 0), (83, .iload 5, 2, 0, 0, 0), (85, .istore_n 3, 1, 0, 0, 0),
  (86, .iconst 0, 1, 0, 0, 0), (87, .istore 6, 2, 0, 0, 0), (89, .iload 6, 2, 0, 0, 0), (91, .iconst 4, 1, 0, 0, 0),
  (92, .if_icmp .ge 23, 3, 0, 0, 0), (95, .aload_n 0, 1, 0, 0, 0), (96, .getfield 121, 3, 12, 64, 4), (99, .iload 6, 2, 0, 0, 0),
  (101, .aload_n 0, 1, 0, 0, 0), (102, .getfield 118, 3, 12, 63, 4), (105, .iload 6, 2, 0, 0, 0), (107, .iaload, 1, 0, 0, 0)]
def op_X12_first_1 : List cv_Q := [
  (108, .iastore, 1, 0, 0, 0), (109, .iinc 6 1, 3, 0, 0, 0), (112, .goto (-23), 3, 0, 0, 0), (115, .aload_n 0, 1, 0, 0, 0),
  (116, .getfield 118, 3, 12, 63, 4), (119, .aload_n 0, 1, 0, 0, 0), (120, .getfield 216, 3, 12, 12, 0), (123, .invokestatic 500, 3, 265, 2, 0),
  (126, .istore 4, 2, 0, 0, 0), (128, .goto (-67), 3, 0, 0, 0), (131, .iload_n 2, 1, 0, 0, 0), (132, .ifCond .ne 7, 3, 0, 0, 0),
  (135, .iload_n 3, 1, 0, 0, 0), (136, .goto 11, 3, 0, 0, 0), (139, .aload_n 0, 1, 0, 0, 0), (140, .getfield 121, 3, 12, 64, 4),
  (143, .iload_n 2, 1, 0, 0, 0), (144, .iconst 1, 1, 0, 0, 0), (145, .isub, 1, 0, 0, 0), (146, .iaload, 1, 0, 0, 0),
  (147, .ireturn, 1, 0, 0, 0)]
def op_X12_first : List cv_Q := op_X12_first_0 ++ (op_X12_first_1)
def op_X12_wind_0 : List cv_Q := [
  (0, .aload_n 0, 1, 0, 0, 0), (1, .iconst 0, 1, 0, 0, 0), (2, .putfield 136, 3, 12, 2, 0), (5, .aload_n 0, 1, 0, 0, 0),
  (6, .iload_n 1, 1, 0, 0, 0), (7, .invokevirtual 407, 3, 216, 1, 12), (10, .ifCond .eq 36, 3, 0, 0, 0), (13, .iload_n 2, 1, 0, 0, 0),
  (14, .ifCond .lt 32, 3, 0, 0, 0), (17, .iload_n 3, 1, 0, 0, 0), (18, .iconst 1, 1, 0, 0, 0), (19, .bipush 100, 2, 0, 0, 0),
  (21, .invokestatic 180, 3, 156, 3, 0), (24, .ifCond .eq 22, 3, 0, 0, 0), (27, .iload 4, 2, 0, 0, 0), (29, .iconst 1, 1, 0, 0, 0),
  (30, .bipush 99, 2, 0, 0, 0), (32, .invokestatic 180, 3, 156, 3, 0), (35, .ifCond .eq 11, 3, 0, 0, 0), (38, .iload 5, 2, 0, 0, 0),
  (40, .invokestatic 428, 3, 229, 1, 0), (43, .ifCond .ne 5, 3, 0, 0, 0), (46, .iconst (-1), 1, 0, 0, 0), (47, .ireturn, 1, 0, 0, 0),
  (48, .iload_n 2, 1, 0, 0, 0), (49, .i2l, 1, 0, 0, 0), (50, .lstore 6, 2, 0, 0, 0), (52, .iconst 0, 1, 0, 0, 0),
  (53, .istore 8, 2, 0, 0, 0), (55, .iconst 0, 1, 0, 0, 0), (56, .istore 9, 2, 0, 0, 0), (58, .iload 9, 2, 0, 0, 0),
  (60, .bipush 10, 2, 0, 0, 0), (62, .if_icmp .ge 126, 3, 0, 0, 0), (65, .aload_n 0, 1, 0, 0, 0), (66, .iload_n 1, 1, 0, 0, 0),
  (67, .invokevirtual 413, 3, 202, 1, 12), (70, .aload_n 0, 1, 0, 0, 0), (71, .getfield 72, 3, 12, 45, 4), (74, .bipush 8, 2, 0, 0, 0),
  (76, .iaload, 1, 0, 0, 0), (77, .istore 10, 2, 0, 0, 0), (79, .iconst 0, 1, 0, 0, 0), (80, .istore 11, 2, 0, 0, 0),
  (82, .iload 11, 2, 0, 0, 0), (84, .iload_n 3, 1, 0, 0, 0), (85, .if_icmp .ge 68, 3, 0, 0, 0), (88, .lload 6, 2, 0, 0, 0),
  (90, .ldc2_w 504, 3, 0, 0, 1103515245), (93, .lmul, 1, 0, 0, 0), (94, .ldc2_w 506, 3, 0, 0, 12345), (97, .ladd, 1, 0, 0, 0),
  (98, .ldc2_w 508, 3, 0, 0, 2147483647), (101, .land, 1, 0, 0, 0), (102, .lstore 6, 2, 0, 0, 0), (104, .aload_n 0, 1, 0, 0, 0),
  (105, .getfield 72, 3, 12, 45, 4), (108, .bipush 8, 2, 0, 0, 0), (110, .iload 10, 2, 0, 0, 0), (112, .lload 6, 2, 0, 0, 0)]
def op_X12_wind_1 : List cv_Q := [
  (114, .ldc2_w 510, 3, 0, 0, 65536), (117, .ldiv, 1, 0, 0, 0), (118, .iload 4, 2, 0, 0, 0), (120, .i2l, 1, 0, 0, 0),
  (121, .lrem, 1, 0, 0, 0), (122, .lconst 0, 1, 0, 0, 0), (123, .lcmp, 1, 0, 0, 0), (124, .ifCond .ne 8, 3, 0, 0, 0),
  (127, .bipush 100, 2, 0, 0, 0), (129, .goto 4, 3, 0, 0, 0), (132, .iconst 0, 1, 0, 0, 0), (133, .iadd, 1, 0, 0, 0),
  (134, .iastore, 1, 0, 0, 0), (135, .aload_n 0, 1, 0, 0, 0), (136, .iload_n 1, 1, 0, 0, 0), (137, .aload_n 0, 1, 0, 0, 0),
  (138, .getfield 240, 3, 12, 43, 0), (141, .iload 11, 2, 0, 0, 0), (143, .iadd, 1, 0, 0, 0), (144, .invokevirtual 403, 3, 214, 2, 12),
  (147, .iinc 11 1, 3, 0, 0, 0), (150, .goto (-68), 3, 0, 0, 0), (153, .aload_n 0, 1, 0, 0, 0), (154, .getfield 72, 3, 12, 45, 4),
  (157, .bipush 8, 2, 0, 0, 0), (159, .iload 10, 2, 0, 0, 0), (161, .iastore, 1, 0, 0, 0), (162, .iload 8, 2, 0, 0, 0),
  (164, .aload_n 0, 1, 0, 0, 0), (165, .iload_n 1, 1, 0, 0, 0), (166, .invokevirtual 386, 3, 206, 1, 12), (169, .iload 5, 2, 0, 0, 0),
  (171, .if_icmp .le 7, 3, 0, 0, 0), (174, .iconst 1, 1, 0, 0, 0), (175, .goto 4, 3, 0, 0, 0), (178, .iconst 0, 1, 0, 0, 0),
  (179, .iadd, 1, 0, 0, 0), (180, .istore 8, 2, 0, 0, 0), (182, .iinc 9 1, 3, 0, 0, 0), (185, .goto (-127), 3, 0, 0, 0),
  (188, .iload 8, 2, 0, 0, 0), (190, .ireturn, 1, 0, 0, 0)]
def op_X12_wind : List cv_Q := op_X12_wind_0 ++ (op_X12_wind_1)
def op_X12_keep : List cv_Q := [
  (0, .aload_n 0, 1, 0, 0, 0), (1, .iconst 0, 1, 0, 0, 0), (2, .putfield 136, 3, 12, 2, 0), (5, .aload_n 0, 1, 0, 0, 0),
  (6, .iconst 1, 1, 0, 0, 0), (7, .putfield 249, 3, 12, 66, 2), (10, .aload_n 0, 1, 0, 0, 0), (11, .aload_n 0, 1, 0, 0, 0),
  (12, .getfield 240, 3, 12, 43, 0), (15, .putfield 512, 3, 12, 67, 0), (18, .iconst 0, 1, 0, 0, 0), (19, .istore_n 1, 1, 0, 0, 0),
  (20, .iload_n 1, 1, 0, 0, 0), (21, .iconst 4, 1, 0, 0, 0), (22, .if_icmp .ge 28, 3, 0, 0, 0), (25, .aload_n 0, 1, 0, 0, 0),
  (26, .getfield 127, 3, 12, 68, 4), (29, .bipush 16, 2, 0, 0, 0), (31, .iload_n 1, 1, 0, 0, 0), (32, .imul, 1, 0, 0, 0),
  (33, .aload_n 0, 1, 0, 0, 0), (34, .getfield 69, 3, 12, 44, 4), (37, .bipush 16, 2, 0, 0, 0), (39, .iload_n 1, 1, 0, 0, 0),
  (40, .imul, 1, 0, 0, 0), (41, .invokestatic 236, 3, 200, 4, 0), (44, .iinc 1 1, 3, 0, 0, 0), (47, .goto (-27), 3, 0, 0, 0),
  (50, .aload_n 0, 1, 0, 0, 0), (51, .getfield 240, 3, 12, 43, 0), (54, .ireturn, 1, 0, 0, 0)]
def op_X12_back : List cv_Q := [
  (0, .aload_n 0, 1, 0, 0, 0), (1, .iconst 0, 1, 0, 0, 0), (2, .putfield 136, 3, 12, 2, 0), (5, .aload_n 0, 1, 0, 0, 0),
  (6, .getfield 249, 3, 12, 66, 2), (9, .ifCond .ne 5, 3, 0, 0, 0), (12, .iconst (-1), 1, 0, 0, 0), (13, .ireturn, 1, 0, 0, 0),
  (14, .aload_n 0, 1, 0, 0, 0), (15, .aload_n 0, 1, 0, 0, 0), (16, .getfield 512, 3, 12, 67, 0), (19, .putfield 240, 3, 12, 43, 0),
  (22, .iconst 0, 1, 0, 0, 0), (23, .istore_n 1, 1, 0, 0, 0), (24, .iload_n 1, 1, 0, 0, 0), (25, .iconst 4, 1, 0, 0, 0),
  (26, .if_icmp .ge 28, 3, 0, 0, 0), (29, .aload_n 0, 1, 0, 0, 0), (30, .getfield 69, 3, 12, 44, 4), (33, .bipush 16, 2, 0, 0, 0),
  (35, .iload_n 1, 1, 0, 0, 0), (36, .imul, 1, 0, 0, 0), (37, .aload_n 0, 1, 0, 0, 0), (38, .getfield 127, 3, 12, 68, 4),
  (41, .bipush 16, 2, 0, 0, 0), (43, .iload_n 1, 1, 0, 0, 0), (44, .imul, 1, 0, 0, 0), (45, .invokestatic 236, 3, 200, 4, 0),
  (48, .iinc 1 1, 3, 0, 0, 0), (51, .goto (-27), 3, 0, 0, 0), (54, .aload_n 0, 1, 0, 0, 0), (55, .iconst 0, 1, 0, 0, 0),
  (56, .putfield 246, 3, 12, 50, 0), (59, .aload_n 0, 1, 0, 0, 0), (60, .getfield 240, 3, 12, 43, 0), (63, .ireturn, 1, 0, 0, 0)]
def op_X12_count : List cv_Q := [
  (0, .aload_n 0, 1, 0, 0, 0), (1, .iconst 0, 1, 0, 0, 0), (2, .putfield 136, 3, 12, 2, 0), (5, .iconst 0, 1, 0, 0, 0),
  (6, .istore_n 2, 1, 0, 0, 0), (7, .iload_n 1, 1, 0, 0, 0), (8, .tableswitch 129 0 8 #[52, 57, 62, 67, 72, 77, 82, 87, 92], 52, 0, 0, 0), (60, .aload_n 0, 1, 0, 0, 0),
  (61, .getfield 216, 3, 12, 12, 0), (64, .ireturn, 1, 0, 0, 0), (65, .aload_n 0, 1, 0, 0, 0), (66, .getfield 219, 3, 12, 13, 0),
  (69, .ireturn, 1, 0, 0, 0), (70, .aload_n 0, 1, 0, 0, 0), (71, .getfield 222, 3, 12, 14, 0), (74, .ireturn, 1, 0, 0, 0),
  (75, .aload_n 0, 1, 0, 0, 0), (76, .getfield 225, 3, 12, 15, 0), (79, .ireturn, 1, 0, 0, 0), (80, .aload_n 0, 1, 0, 0, 0),
  (81, .getfield 240, 3, 12, 43, 0), (84, .ireturn, 1, 0, 0, 0), (85, .aload_n 0, 1, 0, 0, 0), (86, .getfield 243, 3, 12, 52, 0),
  (89, .ireturn, 1, 0, 0, 0), (90, .aload_n 0, 1, 0, 0, 0), (91, .invokevirtual 442, 3, 241, 0, 12), (94, .ireturn, 1, 0, 0, 0),
  (95, .aload_n 0, 1, 0, 0, 0), (96, .getfield 246, 3, 12, 50, 0), (99, .ireturn, 1, 0, 0, 0), (100, .iconst 0, 1, 0, 0, 0),
  (101, .istore_n 3, 1, 0, 0, 0), (102, .iload_n 3, 1, 0, 0, 0), (103, .aload_n 0, 1, 0, 0, 0), (104, .getfield 216, 3, 12, 12, 0),
  (107, .if_icmp .ge 28, 3, 0, 0, 0), (110, .iload_n 2, 1, 0, 0, 0), (111, .aload_n 0, 1, 0, 0, 0), (112, .aload_n 0, 1, 0, 0, 0),
  (113, .getfield 69, 3, 12, 44, 4), (116, .bipush 16, 2, 0, 0, 0), (118, .iload_n 3, 1, 0, 0, 0), (119, .imul, 1, 0, 0, 0),
  (120, .bipush 9, 2, 0, 0, 0), (122, .iadd, 1, 0, 0, 0), (123, .iaload, 1, 0, 0, 0), (124, .invokevirtual 431, 3, 231, 1, 12),
  (127, .iadd, 1, 0, 0, 0), (128, .istore_n 2, 1, 0, 0, 0), (129, .iinc 3 1, 3, 0, 0, 0), (132, .goto (-30), 3, 0, 0, 0),
  (135, .iload_n 2, 1, 0, 0, 0), (136, .ireturn, 1, 0, 0, 0), (137, .iconst (-1), 1, 0, 0, 0), (138, .ireturn, 1, 0, 0, 0)]
def op_J6_bitCount_0f7a4 : List cv_Q := [
  (0, .iload_n 0, 1, 0, 0, 0), (1, .iload_n 0, 1, 0, 0, 0), (2, .iconst 1, 1, 0, 0, 0), (3, .iushr, 1, 0, 0, 0),
  (4, .ldc_w 265, 3, 0, 0, 1431655765), (7, .iand, 1, 0, 0, 0), (8, .isub, 1, 0, 0, 0), (9, .istore_n 0, 1, 0, 0, 0),
  (10, .iload_n 0, 1, 0, 0, 0), (11, .ldc_w 266, 3, 0, 0, 858993459), (14, .iand, 1, 0, 0, 0), (15, .iload_n 0, 1, 0, 0, 0),
  (16, .iconst 2, 1, 0, 0, 0), (17, .iushr, 1, 0, 0, 0), (18, .ldc_w 266, 3, 0, 0, 858993459), (21, .iand, 1, 0, 0, 0),
  (22, .iadd, 1, 0, 0, 0), (23, .istore_n 0, 1, 0, 0, 0), (24, .iload_n 0, 1, 0, 0, 0), (25, .iload_n 0, 1, 0, 0, 0),
  (26, .iconst 4, 1, 0, 0, 0), (27, .iushr, 1, 0, 0, 0), (28, .iadd, 1, 0, 0, 0), (29, .ldc_w 267, 3, 0, 0, 252645135),
  (32, .iand, 1, 0, 0, 0), (33, .istore_n 0, 1, 0, 0, 0), (34, .iload_n 0, 1, 0, 0, 0), (35, .iload_n 0, 1, 0, 0, 0),
  (36, .bipush 8, 2, 0, 0, 0), (38, .iushr, 1, 0, 0, 0), (39, .iadd, 1, 0, 0, 0), (40, .istore_n 0, 1, 0, 0, 0),
  (41, .iload_n 0, 1, 0, 0, 0), (42, .iload_n 0, 1, 0, 0, 0), (43, .bipush 16, 2, 0, 0, 0), (45, .iushr, 1, 0, 0, 0),
  (46, .iadd, 1, 0, 0, 0), (47, .istore_n 0, 1, 0, 0, 0), (48, .iload_n 0, 1, 0, 0, 0), (49, .bipush 63, 2, 0, 0, 0),
  (51, .iand, 1, 0, 0, 0), (52, .ireturn, 1, 0, 0, 0)]
def op_J0_length_8abf5 : List cv_Q := [
  (0, .aload_n 0, 1, 0, 0, 0), (1, .getfield 9, 3, 100, 0, 0), (4, .arraylength, 1, 0, 0, 0), (5, .aload_n 0, 1, 0, 0, 0),
  (6, .invokevirtual 335, 3, 276, 0, 100), (9, .ishr, 1, 0, 0, 0), (10, .ireturn, 1, 0, 0, 0)]
def op_J0_charAt_5068e : List cv_Q := [
  (0, .aload_n 0, 1, 0, 0, 0), (1, .invokevirtual 492, 3, 277, 0, 100), (4, .ifCond .eq 12, 3, 0, 0, 0), (7, .aload_n 0, 1, 0, 0, 0),
  (8, .getfield 9, 3, 100, 0, 0), (11, .iload_n 1, 1, 0, 0, 0), (12, .invokestatic 495, 3, 279, 2, 0), (15, .ireturn, 1, 0, 0, 0)]
def op_J0_coder_7d493 : List cv_Q := [
  (0, .getstatic 38, 3, 0, 0, 0), (3, .ifCond .eq 10, 3, 0, 0, 0), (6, .aload_n 0, 1, 0, 0, 0), (7, .getfield 15, 3, 100, 1, 0),
  (10, .goto 4, 3, 0, 0, 0), (14, .ireturn, 1, 0, 0, 0)]
def op_J0_isLatin1_aae02 : List cv_Q := [
  (0, .getstatic 38, 3, 0, 0, 0), (3, .ifCond .eq 14, 3, 0, 0, 0), (6, .aload_n 0, 1, 0, 0, 0), (7, .getfield 15, 3, 100, 1, 0),
  (10, .ifCond .ne 7, 3, 0, 0, 0), (13, .iconst 1, 1, 0, 0, 0), (14, .goto 4, 3, 0, 0, 0), (18, .ireturn, 1, 0, 0, 0)]
def op_J0_checkIndex_df160 : List cv_Q := [
  (0, .iload_n 0, 1, 0, 0, 0), (1, .iload_n 1, 1, 0, 0, 0), (2, .getstatic 1053, 3, 3, 0, 0), (5, .invokestatic 1059, 3, 280, 3, 0),
  (8, .pop, 1, 0, 0, 0), (9, .return_, 1, 0, 0, 0)]
def op_J1_charAt_3b067 : List cv_Q := [
  (0, .iload_n 1, 1, 0, 0, 0), (1, .aload_n 0, 1, 0, 0, 0), (2, .arraylength, 1, 0, 0, 0), (3, .invokestatic 9, 3, 278, 2, 0),
  (6, .aload_n 0, 1, 0, 0, 0), (7, .iload_n 1, 1, 0, 0, 0), (8, .baload, 1, 0, 0, 0), (9, .sipush 255, 3, 0, 0, 0),
  (12, .iand, 1, 0, 0, 0), (13, .i2c, 1, 0, 0, 0), (14, .ireturn, 1, 0, 0, 0)]
def op_J3_checkIndex_8e157 : List cv_Q := [
  (0, .iload_n 0, 1, 0, 0, 0), (1, .ifCond .lt 8, 3, 0, 0, 0), (4, .iload_n 0, 1, 0, 0, 0), (5, .iload_n 1, 1, 0, 0, 0),
  (6, .if_icmp .lt 10, 3, 0, 0, 0), (16, .iload_n 0, 1, 0, 0, 0), (17, .ireturn, 1, 0, 0, 0)]
def op_L_law_0 : List cv_Q := [
  (0, .new 8, 3, 11, 0, 0), (3, .dup, 1, 0, 0, 0), (4, .invokespecial 17, 3, 106, 0, 0), (7, .astore_n 1, 1, 0, 0, 0),
  (8, .new 18, 3, 12, 0, 0), (11, .dup, 1, 0, 0, 0), (12, .invokespecial 20, 3, 154, 0, 0), (15, .astore_n 2, 1, 0, 0, 0),
  (16, .iconst 1, 1, 0, 0, 0), (17, .newarray .long, 2, 3, 0, 0), (19, .astore_n 3, 1, 0, 0, 0), (20, .iconst 0, 1, 0, 0, 0),
  (21, .istore 4, 2, 0, 0, 0), (23, .iload 4, 2, 0, 0, 0), (25, .aload_n 0, 1, 0, 0, 0), (26, .arraylength, 1, 0, 0, 0),
  (27, .bipush 6, 2, 0, 0, 0), (29, .isub, 1, 0, 0, 0), (30, .if_icmp .gt 1463, 3, 0, 0, 0), (33, .aload_n 0, 1, 0, 0, 0),
  (34, .iload 4, 2, 0, 0, 0), (36, .iaload, 1, 0, 0, 0), (37, .bipush 63, 2, 0, 0, 0), (39, .iand, 1, 0, 0, 0),
  (40, .tableswitch 1447 0 35 #[160, 233, 258, 283, 320, 360, 397, 422, 447, 484, 509, 534, 571, 584, 621, 682, 719, 768, 817, 854, 927, 952, 977, 1002, 1051, 1088, 1125, 1150, 1175, 1212, 1237, 1286, 1323, 1396, 1409, 1422], 160, 0, 0, 0), (200, .aload_n 1, 1, 0, 0, 0), (201, .aload_n 0, 1, 0, 0, 0), (202, .iload 4, 2, 0, 0, 0),
  (204, .iconst 1, 1, 0, 0, 0), (205, .iadd, 1, 0, 0, 0), (206, .iaload, 1, 0, 0, 0), (207, .aload_n 0, 1, 0, 0, 0),
  (208, .iload 4, 2, 0, 0, 0), (210, .iconst 2, 1, 0, 0, 0), (211, .iadd, 1, 0, 0, 0), (212, .iaload, 1, 0, 0, 0),
  (213, .aload_n 0, 1, 0, 0, 0), (214, .iload 4, 2, 0, 0, 0), (216, .iconst 3, 1, 0, 0, 0), (217, .iadd, 1, 0, 0, 0),
  (218, .iaload, 1, 0, 0, 0), (219, .aload_n 0, 1, 0, 0, 0), (220, .iload 4, 2, 0, 0, 0), (222, .iconst 4, 1, 0, 0, 0),
  (223, .iadd, 1, 0, 0, 0), (224, .iaload, 1, 0, 0, 0), (225, .aload_n 0, 1, 0, 0, 0), (226, .iload 4, 2, 0, 0, 0),
  (228, .iconst 5, 1, 0, 0, 0), (229, .iadd, 1, 0, 0, 0), (230, .iaload, 1, 0, 0, 0), (231, .invokevirtual 21, 3, 107, 5, 11),
  (234, .pop, 1, 0, 0, 0), (235, .aload_n 2, 1, 0, 0, 0), (236, .aload_n 0, 1, 0, 0, 0), (237, .iload 4, 2, 0, 0, 0),
  (239, .iconst 1, 1, 0, 0, 0), (240, .iadd, 1, 0, 0, 0), (241, .iaload, 1, 0, 0, 0), (242, .aload_n 0, 1, 0, 0, 0)]
def op_L_law_1 : List cv_Q := [
  (243, .iload 4, 2, 0, 0, 0), (245, .iconst 2, 1, 0, 0, 0), (246, .iadd, 1, 0, 0, 0), (247, .iaload, 1, 0, 0, 0),
  (248, .aload_n 0, 1, 0, 0, 0), (249, .iload 4, 2, 0, 0, 0), (251, .iconst 3, 1, 0, 0, 0), (252, .iadd, 1, 0, 0, 0),
  (253, .iaload, 1, 0, 0, 0), (254, .aload_n 0, 1, 0, 0, 0), (255, .iload 4, 2, 0, 0, 0), (257, .iconst 4, 1, 0, 0, 0),
  (258, .iadd, 1, 0, 0, 0), (259, .iaload, 1, 0, 0, 0), (260, .aload_n 0, 1, 0, 0, 0), (261, .iload 4, 2, 0, 0, 0),
  (263, .iconst 5, 1, 0, 0, 0), (264, .iadd, 1, 0, 0, 0), (265, .iaload, 1, 0, 0, 0), (266, .invokevirtual 25, 3, 155, 5, 12),
  (269, .pop, 1, 0, 0, 0), (270, .goto 1217, 3, 0, 0, 0), (273, .aload_n 1, 1, 0, 0, 0), (274, .aload_n 0, 1, 0, 0, 0),
  (275, .iload 4, 2, 0, 0, 0), (277, .iconst 1, 1, 0, 0, 0), (278, .iadd, 1, 0, 0, 0), (279, .iaload, 1, 0, 0, 0),
  (280, .invokevirtual 26, 3, 109, 1, 11), (283, .pop, 1, 0, 0, 0), (284, .aload_n 2, 1, 0, 0, 0), (285, .aload_n 0, 1, 0, 0, 0),
  (286, .iload 4, 2, 0, 0, 0), (288, .iconst 1, 1, 0, 0, 0), (289, .iadd, 1, 0, 0, 0), (290, .iaload, 1, 0, 0, 0),
  (291, .invokevirtual 30, 3, 188, 1, 12), (294, .pop, 1, 0, 0, 0), (295, .goto 1192, 3, 0, 0, 0), (298, .aload_n 1, 1, 0, 0, 0),
  (299, .aload_n 0, 1, 0, 0, 0), (300, .iload 4, 2, 0, 0, 0), (302, .iconst 1, 1, 0, 0, 0), (303, .iadd, 1, 0, 0, 0),
  (304, .iaload, 1, 0, 0, 0), (305, .invokevirtual 31, 3, 111, 1, 11), (308, .pop, 1, 0, 0, 0), (309, .aload_n 2, 1, 0, 0, 0),
  (310, .aload_n 0, 1, 0, 0, 0), (311, .iload 4, 2, 0, 0, 0), (313, .iconst 1, 1, 0, 0, 0), (314, .iadd, 1, 0, 0, 0),
  (315, .iaload, 1, 0, 0, 0), (316, .invokevirtual 34, 3, 189, 1, 12), (319, .pop, 1, 0, 0, 0), (320, .goto 1167, 3, 0, 0, 0),
  (323, .aload_n 1, 1, 0, 0, 0), (324, .aload_n 0, 1, 0, 0, 0), (325, .iload 4, 2, 0, 0, 0), (327, .iconst 1, 1, 0, 0, 0)]
def op_L_law_2 : List cv_Q := [
  (328, .iadd, 1, 0, 0, 0), (329, .iaload, 1, 0, 0, 0), (330, .aload_n 0, 1, 0, 0, 0), (331, .iload 4, 2, 0, 0, 0),
  (333, .iconst 2, 1, 0, 0, 0), (334, .iadd, 1, 0, 0, 0), (335, .iaload, 1, 0, 0, 0), (336, .invokevirtual 35, 3, 112, 2, 11),
  (339, .pop, 1, 0, 0, 0), (340, .aload_n 2, 1, 0, 0, 0), (341, .aload_n 0, 1, 0, 0, 0), (342, .iload 4, 2, 0, 0, 0),
  (344, .iconst 1, 1, 0, 0, 0), (345, .iadd, 1, 0, 0, 0), (346, .iaload, 1, 0, 0, 0), (347, .aload_n 0, 1, 0, 0, 0),
  (348, .iload 4, 2, 0, 0, 0), (350, .iconst 2, 1, 0, 0, 0), (351, .iadd, 1, 0, 0, 0), (352, .iaload, 1, 0, 0, 0),
  (353, .invokevirtual 38, 3, 190, 2, 12), (356, .pop, 1, 0, 0, 0), (357, .goto 1130, 3, 0, 0, 0), (360, .aload_n 1, 1, 0, 0, 0),
  (361, .aload_n 0, 1, 0, 0, 0), (362, .iload 4, 2, 0, 0, 0), (364, .iconst 1, 1, 0, 0, 0), (365, .iadd, 1, 0, 0, 0),
  (366, .iaload, 1, 0, 0, 0), (367, .aload_n 0, 1, 0, 0, 0), (368, .iload 4, 2, 0, 0, 0), (370, .iconst 2, 1, 0, 0, 0),
  (371, .iadd, 1, 0, 0, 0), (372, .iaload, 1, 0, 0, 0), (373, .aload_n 3, 1, 0, 0, 0), (377, .istore 5, 2, 0, 0, 0),
  (379, .aload_n 2, 1, 0, 0, 0), (380, .aload_n 0, 1, 0, 0, 0), (381, .iload 4, 2, 0, 0, 0), (383, .iconst 1, 1, 0, 0, 0),
  (384, .iadd, 1, 0, 0, 0), (385, .iaload, 1, 0, 0, 0), (386, .aload_n 0, 1, 0, 0, 0), (387, .iload 4, 2, 0, 0, 0),
  (389, .iconst 2, 1, 0, 0, 0), (390, .iadd, 1, 0, 0, 0), (391, .iaload, 1, 0, 0, 0), (392, .invokevirtual 44, 3, 218, 2, 12),
  (395, .istore 6, 2, 0, 0, 0), (397, .goto 1090, 3, 0, 0, 0), (400, .aload_n 1, 1, 0, 0, 0), (401, .aload_n 0, 1, 0, 0, 0),
  (402, .iload 4, 2, 0, 0, 0), (404, .iconst 1, 1, 0, 0, 0), (405, .iadd, 1, 0, 0, 0), (406, .iaload, 1, 0, 0, 0),
  (407, .aload_n 0, 1, 0, 0, 0), (408, .iload 4, 2, 0, 0, 0), (410, .iconst 2, 1, 0, 0, 0), (411, .iadd, 1, 0, 0, 0)]
def op_L_law_3 : List cv_Q := [
  (412, .iaload, 1, 0, 0, 0), (413, .invokevirtual 45, 3, 119, 2, 11), (416, .pop, 1, 0, 0, 0), (417, .aload_n 2, 1, 0, 0, 0),
  (418, .aload_n 0, 1, 0, 0, 0), (419, .iload 4, 2, 0, 0, 0), (421, .iconst 1, 1, 0, 0, 0), (422, .iadd, 1, 0, 0, 0),
  (423, .iaload, 1, 0, 0, 0), (424, .aload_n 0, 1, 0, 0, 0), (425, .iload 4, 2, 0, 0, 0), (427, .iconst 2, 1, 0, 0, 0),
  (428, .iadd, 1, 0, 0, 0), (429, .iaload, 1, 0, 0, 0), (430, .invokevirtual 48, 3, 219, 2, 12), (433, .pop, 1, 0, 0, 0),
  (434, .goto 1053, 3, 0, 0, 0), (437, .aload_n 1, 1, 0, 0, 0), (438, .aload_n 0, 1, 0, 0, 0), (439, .iload 4, 2, 0, 0, 0),
  (441, .iconst 1, 1, 0, 0, 0), (442, .iadd, 1, 0, 0, 0), (443, .iaload, 1, 0, 0, 0), (444, .invokevirtual 49, 3, 120, 1, 11),
  (447, .pop, 1, 0, 0, 0), (448, .aload_n 2, 1, 0, 0, 0), (449, .aload_n 0, 1, 0, 0, 0), (450, .iload 4, 2, 0, 0, 0),
  (452, .iconst 1, 1, 0, 0, 0), (453, .iadd, 1, 0, 0, 0), (454, .iaload, 1, 0, 0, 0), (455, .invokevirtual 52, 3, 220, 1, 12),
  (458, .pop, 1, 0, 0, 0), (459, .goto 1028, 3, 0, 0, 0), (462, .aload_n 1, 1, 0, 0, 0), (463, .aload_n 0, 1, 0, 0, 0),
  (464, .iload 4, 2, 0, 0, 0), (466, .iconst 1, 1, 0, 0, 0), (467, .iadd, 1, 0, 0, 0), (468, .iaload, 1, 0, 0, 0),
  (469, .invokevirtual 53, 3, 121, 1, 11), (472, .pop, 1, 0, 0, 0), (473, .aload_n 2, 1, 0, 0, 0), (474, .aload_n 0, 1, 0, 0, 0),
  (475, .iload 4, 2, 0, 0, 0), (477, .iconst 1, 1, 0, 0, 0), (478, .iadd, 1, 0, 0, 0), (479, .iaload, 1, 0, 0, 0),
  (480, .invokevirtual 56, 3, 221, 1, 12), (483, .pop, 1, 0, 0, 0), (484, .goto 1003, 3, 0, 0, 0), (487, .aload_n 1, 1, 0, 0, 0),
  (488, .aload_n 0, 1, 0, 0, 0), (489, .iload 4, 2, 0, 0, 0), (491, .iconst 1, 1, 0, 0, 0), (492, .iadd, 1, 0, 0, 0),
  (493, .iaload, 1, 0, 0, 0), (494, .aload_n 0, 1, 0, 0, 0), (495, .iload 4, 2, 0, 0, 0), (497, .iconst 2, 1, 0, 0, 0)]
def op_L_law_4 : List cv_Q := [
  (498, .iadd, 1, 0, 0, 0), (499, .iaload, 1, 0, 0, 0), (500, .invokevirtual 57, 3, 122, 2, 11), (503, .pop, 1, 0, 0, 0),
  (504, .aload_n 2, 1, 0, 0, 0), (505, .aload_n 0, 1, 0, 0, 0), (506, .iload 4, 2, 0, 0, 0), (508, .iconst 1, 1, 0, 0, 0),
  (509, .iadd, 1, 0, 0, 0), (510, .iaload, 1, 0, 0, 0), (511, .aload_n 0, 1, 0, 0, 0), (512, .iload 4, 2, 0, 0, 0),
  (514, .iconst 2, 1, 0, 0, 0), (515, .iadd, 1, 0, 0, 0), (516, .iaload, 1, 0, 0, 0), (517, .invokevirtual 60, 3, 222, 2, 12),
  (520, .pop, 1, 0, 0, 0), (521, .goto 966, 3, 0, 0, 0), (524, .aload_n 1, 1, 0, 0, 0), (525, .aload_n 0, 1, 0, 0, 0),
  (526, .iload 4, 2, 0, 0, 0), (528, .iconst 1, 1, 0, 0, 0), (529, .iadd, 1, 0, 0, 0), (530, .iaload, 1, 0, 0, 0),
  (531, .invokevirtual 61, 3, 123, 1, 11), (534, .pop, 1, 0, 0, 0), (535, .aload_n 2, 1, 0, 0, 0), (536, .aload_n 0, 1, 0, 0, 0),
  (537, .iload 4, 2, 0, 0, 0), (539, .iconst 1, 1, 0, 0, 0), (540, .iadd, 1, 0, 0, 0), (541, .iaload, 1, 0, 0, 0),
  (542, .invokevirtual 64, 3, 224, 1, 12), (545, .pop, 1, 0, 0, 0), (546, .goto 941, 3, 0, 0, 0), (549, .aload_n 1, 1, 0, 0, 0),
  (550, .aload_n 0, 1, 0, 0, 0), (551, .iload 4, 2, 0, 0, 0), (553, .iconst 1, 1, 0, 0, 0), (554, .iadd, 1, 0, 0, 0),
  (555, .iaload, 1, 0, 0, 0), (556, .invokevirtual 65, 3, 124, 1, 11), (559, .pop, 1, 0, 0, 0), (560, .aload_n 2, 1, 0, 0, 0),
  (561, .aload_n 0, 1, 0, 0, 0), (562, .iload 4, 2, 0, 0, 0), (564, .iconst 1, 1, 0, 0, 0), (565, .iadd, 1, 0, 0, 0),
  (566, .iaload, 1, 0, 0, 0), (567, .invokevirtual 68, 3, 225, 1, 12), (570, .pop, 1, 0, 0, 0), (571, .goto 916, 3, 0, 0, 0),
  (574, .aload_n 1, 1, 0, 0, 0), (575, .aload_n 0, 1, 0, 0, 0), (576, .iload 4, 2, 0, 0, 0), (578, .iconst 1, 1, 0, 0, 0),
  (579, .iadd, 1, 0, 0, 0), (580, .iaload, 1, 0, 0, 0), (581, .aload_n 0, 1, 0, 0, 0), (582, .iload 4, 2, 0, 0, 0)]
def op_L_law_5 : List cv_Q := [
  (584, .iconst 2, 1, 0, 0, 0), (585, .iadd, 1, 0, 0, 0), (586, .iaload, 1, 0, 0, 0), (587, .invokevirtual 69, 3, 125, 2, 11),
  (590, .pop, 1, 0, 0, 0), (591, .aload_n 2, 1, 0, 0, 0), (592, .aload_n 0, 1, 0, 0, 0), (593, .iload 4, 2, 0, 0, 0),
  (595, .iconst 1, 1, 0, 0, 0), (596, .iadd, 1, 0, 0, 0), (597, .iaload, 1, 0, 0, 0), (598, .aload_n 0, 1, 0, 0, 0),
  (599, .iload 4, 2, 0, 0, 0), (601, .iconst 2, 1, 0, 0, 0), (602, .iadd, 1, 0, 0, 0), (603, .iaload, 1, 0, 0, 0),
  (604, .invokevirtual 73, 3, 227, 2, 12), (607, .pop, 1, 0, 0, 0), (608, .goto 879, 3, 0, 0, 0), (611, .aload_n 1, 1, 0, 0, 0),
  (612, .invokevirtual 74, 3, 126, 0, 11), (615, .aload_n 2, 1, 0, 0, 0), (616, .invokevirtual 78, 3, 228, 0, 12), (619, .if_icmp .eq 868, 3, 0, 0, 0),
  (622, .iconst 0, 1, 0, 0, 0), (623, .ireturn, 1, 0, 0, 0), (624, .aload_n 1, 1, 0, 0, 0), (625, .aload_n 0, 1, 0, 0, 0),
  (626, .iload 4, 2, 0, 0, 0), (628, .iconst 1, 1, 0, 0, 0), (629, .iadd, 1, 0, 0, 0), (630, .iaload, 1, 0, 0, 0),
  (631, .aload_n 0, 1, 0, 0, 0), (632, .iload 4, 2, 0, 0, 0), (634, .iconst 2, 1, 0, 0, 0), (635, .iadd, 1, 0, 0, 0),
  (636, .iaload, 1, 0, 0, 0), (637, .invokevirtual 79, 3, 127, 2, 11), (640, .pop, 1, 0, 0, 0), (641, .aload_n 2, 1, 0, 0, 0),
  (642, .aload_n 0, 1, 0, 0, 0), (643, .iload 4, 2, 0, 0, 0), (645, .iconst 1, 1, 0, 0, 0), (646, .iadd, 1, 0, 0, 0),
  (647, .iaload, 1, 0, 0, 0), (648, .aload_n 0, 1, 0, 0, 0), (649, .iload 4, 2, 0, 0, 0), (651, .iconst 2, 1, 0, 0, 0),
  (652, .iadd, 1, 0, 0, 0), (653, .iaload, 1, 0, 0, 0), (654, .invokevirtual 82, 3, 230, 2, 12), (657, .pop, 1, 0, 0, 0),
  (658, .goto 829, 3, 0, 0, 0), (661, .aload_n 1, 1, 0, 0, 0), (662, .aload_n 0, 1, 0, 0, 0), (663, .iload 4, 2, 0, 0, 0),
  (665, .iconst 1, 1, 0, 0, 0), (666, .iadd, 1, 0, 0, 0), (667, .iaload, 1, 0, 0, 0), (668, .aload_n 0, 1, 0, 0, 0)]
def op_L_law_6 : List cv_Q := [
  (669, .iload 4, 2, 0, 0, 0), (671, .iconst 2, 1, 0, 0, 0), (672, .iadd, 1, 0, 0, 0), (673, .iaload, 1, 0, 0, 0),
  (674, .aload_n 0, 1, 0, 0, 0), (675, .iload 4, 2, 0, 0, 0), (677, .iconst 3, 1, 0, 0, 0), (678, .iadd, 1, 0, 0, 0),
  (679, .iaload, 1, 0, 0, 0), (680, .aload_n 0, 1, 0, 0, 0), (681, .iload 4, 2, 0, 0, 0), (683, .iconst 4, 1, 0, 0, 0),
  (684, .iadd, 1, 0, 0, 0), (685, .iaload, 1, 0, 0, 0), (686, .invokevirtual 83, 3, 128, 4, 11), (689, .pop, 1, 0, 0, 0),
  (690, .aload_n 2, 1, 0, 0, 0), (691, .aload_n 0, 1, 0, 0, 0), (692, .iload 4, 2, 0, 0, 0), (694, .iconst 1, 1, 0, 0, 0),
  (695, .iadd, 1, 0, 0, 0), (696, .iaload, 1, 0, 0, 0), (697, .aload_n 0, 1, 0, 0, 0), (698, .iload 4, 2, 0, 0, 0),
  (700, .iconst 2, 1, 0, 0, 0), (701, .iadd, 1, 0, 0, 0), (702, .iaload, 1, 0, 0, 0), (703, .aload_n 0, 1, 0, 0, 0),
  (704, .iload 4, 2, 0, 0, 0), (706, .iconst 3, 1, 0, 0, 0), (707, .iadd, 1, 0, 0, 0), (708, .iaload, 1, 0, 0, 0),
  (709, .aload_n 0, 1, 0, 0, 0), (710, .iload 4, 2, 0, 0, 0), (712, .iconst 4, 1, 0, 0, 0), (713, .iadd, 1, 0, 0, 0),
  (714, .iaload, 1, 0, 0, 0), (715, .invokevirtual 87, 3, 232, 4, 12), (718, .pop, 1, 0, 0, 0), (719, .goto 768, 3, 0, 0, 0),
  (722, .aload_n 1, 1, 0, 0, 0), (723, .aload_n 0, 1, 0, 0, 0), (724, .iload 4, 2, 0, 0, 0), (726, .iconst 1, 1, 0, 0, 0),
  (727, .iadd, 1, 0, 0, 0), (728, .iaload, 1, 0, 0, 0), (729, .aload_n 0, 1, 0, 0, 0), (730, .iload 4, 2, 0, 0, 0),
  (732, .iconst 2, 1, 0, 0, 0), (733, .iadd, 1, 0, 0, 0), (734, .iaload, 1, 0, 0, 0), (735, .invokevirtual 88, 3, 130, 2, 11),
  (738, .pop, 1, 0, 0, 0), (739, .aload_n 2, 1, 0, 0, 0), (740, .aload_n 0, 1, 0, 0, 0), (741, .iload 4, 2, 0, 0, 0),
  (743, .iconst 1, 1, 0, 0, 0), (744, .iadd, 1, 0, 0, 0), (745, .iaload, 1, 0, 0, 0), (746, .aload_n 0, 1, 0, 0, 0)]
def op_L_law_7 : List cv_Q := [
  (747, .iload 4, 2, 0, 0, 0), (749, .iconst 2, 1, 0, 0, 0), (750, .iadd, 1, 0, 0, 0), (751, .iaload, 1, 0, 0, 0),
  (752, .invokevirtual 91, 3, 234, 2, 12), (755, .pop, 1, 0, 0, 0), (756, .goto 731, 3, 0, 0, 0), (759, .aload_n 1, 1, 0, 0, 0),
  (760, .aload_n 0, 1, 0, 0, 0), (761, .iload 4, 2, 0, 0, 0), (763, .iconst 1, 1, 0, 0, 0), (764, .iadd, 1, 0, 0, 0),
  (765, .iaload, 1, 0, 0, 0), (766, .aload_n 0, 1, 0, 0, 0), (767, .iload 4, 2, 0, 0, 0), (769, .iconst 2, 1, 0, 0, 0),
  (770, .iadd, 1, 0, 0, 0), (771, .iaload, 1, 0, 0, 0), (772, .aload_n 0, 1, 0, 0, 0), (773, .iload 4, 2, 0, 0, 0),
  (775, .iconst 3, 1, 0, 0, 0), (776, .iadd, 1, 0, 0, 0), (777, .iaload, 1, 0, 0, 0), (778, .invokevirtual 92, 3, 132, 3, 11),
  (781, .pop, 1, 0, 0, 0), (782, .aload_n 2, 1, 0, 0, 0), (783, .aload_n 0, 1, 0, 0, 0), (784, .iload 4, 2, 0, 0, 0),
  (786, .iconst 1, 1, 0, 0, 0), (787, .iadd, 1, 0, 0, 0), (788, .iaload, 1, 0, 0, 0), (789, .aload_n 0, 1, 0, 0, 0),
  (790, .iload 4, 2, 0, 0, 0), (792, .iconst 2, 1, 0, 0, 0), (793, .iadd, 1, 0, 0, 0), (794, .iaload, 1, 0, 0, 0),
  (795, .aload_n 0, 1, 0, 0, 0), (796, .iload 4, 2, 0, 0, 0), (798, .iconst 3, 1, 0, 0, 0), (799, .iadd, 1, 0, 0, 0),
  (800, .iaload, 1, 0, 0, 0), (801, .invokevirtual 96, 3, 235, 3, 12), (804, .pop, 1, 0, 0, 0), (805, .goto 682, 3, 0, 0, 0),
  (808, .aload_n 1, 1, 0, 0, 0), (809, .aload_n 0, 1, 0, 0, 0), (810, .iload 4, 2, 0, 0, 0), (812, .iconst 1, 1, 0, 0, 0),
  (813, .iadd, 1, 0, 0, 0), (814, .iaload, 1, 0, 0, 0), (815, .aload_n 0, 1, 0, 0, 0), (816, .iload 4, 2, 0, 0, 0),
  (818, .iconst 2, 1, 0, 0, 0), (819, .iadd, 1, 0, 0, 0), (820, .iaload, 1, 0, 0, 0), (821, .aload_n 0, 1, 0, 0, 0),
  (822, .iload 4, 2, 0, 0, 0), (824, .iconst 3, 1, 0, 0, 0), (825, .iadd, 1, 0, 0, 0), (826, .iaload, 1, 0, 0, 0)]
def op_L_law_8 : List cv_Q := [
  (827, .invokevirtual 97, 3, 133, 3, 11), (830, .pop, 1, 0, 0, 0), (831, .aload_n 2, 1, 0, 0, 0), (832, .aload_n 0, 1, 0, 0, 0),
  (833, .iload 4, 2, 0, 0, 0), (835, .iconst 1, 1, 0, 0, 0), (836, .iadd, 1, 0, 0, 0), (837, .iaload, 1, 0, 0, 0),
  (838, .aload_n 0, 1, 0, 0, 0), (839, .iload 4, 2, 0, 0, 0), (841, .iconst 2, 1, 0, 0, 0), (842, .iadd, 1, 0, 0, 0),
  (843, .iaload, 1, 0, 0, 0), (844, .aload_n 0, 1, 0, 0, 0), (845, .iload 4, 2, 0, 0, 0), (847, .iconst 3, 1, 0, 0, 0),
  (848, .iadd, 1, 0, 0, 0), (849, .iaload, 1, 0, 0, 0), (850, .invokevirtual 100, 3, 236, 3, 12), (853, .pop, 1, 0, 0, 0),
  (854, .goto 633, 3, 0, 0, 0), (857, .aload_n 1, 1, 0, 0, 0), (858, .aload_n 0, 1, 0, 0, 0), (859, .iload 4, 2, 0, 0, 0),
  (861, .iconst 1, 1, 0, 0, 0), (862, .iadd, 1, 0, 0, 0), (863, .iaload, 1, 0, 0, 0), (864, .aload_n 0, 1, 0, 0, 0),
  (865, .iload 4, 2, 0, 0, 0), (867, .iconst 2, 1, 0, 0, 0), (868, .iadd, 1, 0, 0, 0), (869, .iaload, 1, 0, 0, 0),
  (870, .invokevirtual 101, 3, 134, 2, 11), (873, .pop2, 1, 0, 0, 0), (874, .aload_n 2, 1, 0, 0, 0), (875, .aload_n 0, 1, 0, 0, 0),
  (876, .iload 4, 2, 0, 0, 0), (878, .iconst 1, 1, 0, 0, 0), (879, .iadd, 1, 0, 0, 0), (880, .iaload, 1, 0, 0, 0),
  (881, .aload_n 0, 1, 0, 0, 0), (882, .iload 4, 2, 0, 0, 0), (884, .iconst 2, 1, 0, 0, 0), (885, .iadd, 1, 0, 0, 0),
  (886, .iaload, 1, 0, 0, 0), (887, .invokevirtual 105, 3, 237, 2, 12), (890, .pop2, 1, 0, 0, 0), (891, .goto 596, 3, 0, 0, 0),
  (894, .aload_n 1, 1, 0, 0, 0), (895, .aload_n 0, 1, 0, 0, 0), (896, .iload 4, 2, 0, 0, 0), (898, .iconst 1, 1, 0, 0, 0),
  (899, .iadd, 1, 0, 0, 0), (900, .iaload, 1, 0, 0, 0), (901, .aload_n 0, 1, 0, 0, 0), (902, .iload 4, 2, 0, 0, 0),
  (904, .iconst 2, 1, 0, 0, 0), (905, .iadd, 1, 0, 0, 0), (906, .iaload, 1, 0, 0, 0), (907, .aload_n 0, 1, 0, 0, 0)]
def op_L_law_9 : List cv_Q := [
  (908, .iload 4, 2, 0, 0, 0), (910, .iconst 3, 1, 0, 0, 0), (911, .iadd, 1, 0, 0, 0), (912, .iaload, 1, 0, 0, 0),
  (913, .aload_n 0, 1, 0, 0, 0), (914, .iload 4, 2, 0, 0, 0), (916, .iconst 4, 1, 0, 0, 0), (917, .iadd, 1, 0, 0, 0),
  (918, .iaload, 1, 0, 0, 0), (919, .aload_n 0, 1, 0, 0, 0), (920, .iload 4, 2, 0, 0, 0), (922, .iconst 5, 1, 0, 0, 0),
  (923, .iadd, 1, 0, 0, 0), (924, .iaload, 1, 0, 0, 0), (925, .invokevirtual 106, 3, 135, 5, 11), (928, .pop, 1, 0, 0, 0),
  (929, .aload_n 2, 1, 0, 0, 0), (930, .aload_n 0, 1, 0, 0, 0), (931, .iload 4, 2, 0, 0, 0), (933, .iconst 1, 1, 0, 0, 0),
  (934, .iadd, 1, 0, 0, 0), (935, .iaload, 1, 0, 0, 0), (936, .aload_n 0, 1, 0, 0, 0), (937, .iload 4, 2, 0, 0, 0),
  (939, .iconst 2, 1, 0, 0, 0), (940, .iadd, 1, 0, 0, 0), (941, .iaload, 1, 0, 0, 0), (942, .aload_n 0, 1, 0, 0, 0),
  (943, .iload 4, 2, 0, 0, 0), (945, .iconst 3, 1, 0, 0, 0), (946, .iadd, 1, 0, 0, 0), (947, .iaload, 1, 0, 0, 0),
  (948, .aload_n 0, 1, 0, 0, 0), (949, .iload 4, 2, 0, 0, 0), (951, .iconst 4, 1, 0, 0, 0), (952, .iadd, 1, 0, 0, 0),
  (953, .iaload, 1, 0, 0, 0), (954, .aload_n 0, 1, 0, 0, 0), (955, .iload 4, 2, 0, 0, 0), (957, .iconst 5, 1, 0, 0, 0),
  (958, .iadd, 1, 0, 0, 0), (959, .iaload, 1, 0, 0, 0), (960, .invokevirtual 109, 3, 238, 5, 12), (963, .pop, 1, 0, 0, 0),
  (964, .goto 523, 3, 0, 0, 0), (967, .aload_n 1, 1, 0, 0, 0), (968, .aload_n 0, 1, 0, 0, 0), (969, .iload 4, 2, 0, 0, 0),
  (971, .iconst 1, 1, 0, 0, 0), (972, .iadd, 1, 0, 0, 0), (973, .iaload, 1, 0, 0, 0), (974, .invokevirtual 110, 3, 136, 1, 11),
  (977, .pop, 1, 0, 0, 0), (978, .aload_n 2, 1, 0, 0, 0), (979, .aload_n 0, 1, 0, 0, 0), (980, .iload 4, 2, 0, 0, 0),
  (982, .iconst 1, 1, 0, 0, 0), (983, .iadd, 1, 0, 0, 0), (984, .iaload, 1, 0, 0, 0), (985, .invokevirtual 113, 3, 239, 1, 12)]
def op_L_law_10 : List cv_Q := [
  (988, .pop, 1, 0, 0, 0), (989, .goto 498, 3, 0, 0, 0), (992, .aload_n 1, 1, 0, 0, 0), (993, .aload_n 0, 1, 0, 0, 0),
  (994, .iload 4, 2, 0, 0, 0), (996, .iconst 1, 1, 0, 0, 0), (997, .iadd, 1, 0, 0, 0), (998, .iaload, 1, 0, 0, 0),
  (999, .invokevirtual 114, 3, 137, 1, 11), (1002, .pop, 1, 0, 0, 0), (1003, .aload_n 2, 1, 0, 0, 0), (1004, .aload_n 0, 1, 0, 0, 0),
  (1005, .iload 4, 2, 0, 0, 0), (1007, .iconst 1, 1, 0, 0, 0), (1008, .iadd, 1, 0, 0, 0), (1009, .iaload, 1, 0, 0, 0),
  (1010, .invokevirtual 118, 3, 240, 1, 12), (1013, .pop, 1, 0, 0, 0), (1014, .goto 473, 3, 0, 0, 0), (1017, .aload_n 1, 1, 0, 0, 0),
  (1018, .aload_n 0, 1, 0, 0, 0), (1019, .iload 4, 2, 0, 0, 0), (1021, .iconst 1, 1, 0, 0, 0), (1022, .iadd, 1, 0, 0, 0),
  (1023, .iaload, 1, 0, 0, 0), (1024, .invokevirtual 119, 3, 138, 1, 11), (1027, .pop, 1, 0, 0, 0), (1028, .aload_n 2, 1, 0, 0, 0),
  (1029, .aload_n 0, 1, 0, 0, 0), (1030, .iload 4, 2, 0, 0, 0), (1032, .iconst 1, 1, 0, 0, 0), (1033, .iadd, 1, 0, 0, 0),
  (1034, .iaload, 1, 0, 0, 0), (1035, .invokevirtual 122, 3, 248, 1, 12), (1038, .pop, 1, 0, 0, 0), (1039, .goto 448, 3, 0, 0, 0),
  (1042, .aload_n 1, 1, 0, 0, 0), (1043, .aload_n 0, 1, 0, 0, 0), (1044, .iload 4, 2, 0, 0, 0), (1046, .iconst 1, 1, 0, 0, 0),
  (1047, .iadd, 1, 0, 0, 0), (1048, .iaload, 1, 0, 0, 0), (1049, .aload_n 0, 1, 0, 0, 0), (1050, .iload 4, 2, 0, 0, 0),
  (1052, .iconst 2, 1, 0, 0, 0), (1053, .iadd, 1, 0, 0, 0), (1054, .iaload, 1, 0, 0, 0), (1055, .aload_n 0, 1, 0, 0, 0),
  (1056, .iload 4, 2, 0, 0, 0), (1058, .iconst 3, 1, 0, 0, 0), (1059, .iadd, 1, 0, 0, 0), (1060, .iaload, 1, 0, 0, 0),
  (1061, .invokevirtual 123, 3, 139, 3, 11), (1064, .pop, 1, 0, 0, 0), (1065, .aload_n 2, 1, 0, 0, 0), (1066, .aload_n 0, 1, 0, 0, 0),
  (1067, .iload 4, 2, 0, 0, 0), (1069, .iconst 1, 1, 0, 0, 0), (1070, .iadd, 1, 0, 0, 0), (1071, .iaload, 1, 0, 0, 0)]
def op_L_law_11 : List cv_Q := [
  (1072, .aload_n 0, 1, 0, 0, 0), (1073, .iload 4, 2, 0, 0, 0), (1075, .iconst 2, 1, 0, 0, 0), (1076, .iadd, 1, 0, 0, 0),
  (1077, .iaload, 1, 0, 0, 0), (1078, .aload_n 0, 1, 0, 0, 0), (1079, .iload 4, 2, 0, 0, 0), (1081, .iconst 3, 1, 0, 0, 0),
  (1082, .iadd, 1, 0, 0, 0), (1083, .iaload, 1, 0, 0, 0), (1084, .invokevirtual 126, 3, 251, 3, 12), (1087, .pop, 1, 0, 0, 0),
  (1088, .goto 399, 3, 0, 0, 0), (1091, .aload_n 1, 1, 0, 0, 0), (1092, .aload_n 0, 1, 0, 0, 0), (1093, .iload 4, 2, 0, 0, 0),
  (1095, .iconst 1, 1, 0, 0, 0), (1096, .iadd, 1, 0, 0, 0), (1097, .iaload, 1, 0, 0, 0), (1098, .aload_n 0, 1, 0, 0, 0),
  (1099, .iload 4, 2, 0, 0, 0), (1101, .iconst 2, 1, 0, 0, 0), (1102, .iadd, 1, 0, 0, 0), (1103, .iaload, 1, 0, 0, 0),
  (1104, .invokevirtual 127, 3, 140, 2, 11), (1107, .pop, 1, 0, 0, 0), (1108, .aload_n 2, 1, 0, 0, 0), (1109, .aload_n 0, 1, 0, 0, 0),
  (1110, .iload 4, 2, 0, 0, 0), (1112, .iconst 1, 1, 0, 0, 0), (1113, .iadd, 1, 0, 0, 0), (1114, .iaload, 1, 0, 0, 0),
  (1115, .aload_n 0, 1, 0, 0, 0), (1116, .iload 4, 2, 0, 0, 0), (1118, .iconst 2, 1, 0, 0, 0), (1119, .iadd, 1, 0, 0, 0),
  (1120, .iaload, 1, 0, 0, 0), (1121, .invokevirtual 130, 3, 253, 2, 12), (1124, .pop, 1, 0, 0, 0), (1125, .goto 362, 3, 0, 0, 0),
  (1128, .aload_n 1, 1, 0, 0, 0), (1129, .aload_n 0, 1, 0, 0, 0), (1130, .iload 4, 2, 0, 0, 0), (1132, .iconst 1, 1, 0, 0, 0),
  (1133, .iadd, 1, 0, 0, 0), (1134, .iaload, 1, 0, 0, 0), (1135, .aload_n 0, 1, 0, 0, 0), (1136, .iload 4, 2, 0, 0, 0),
  (1138, .iconst 2, 1, 0, 0, 0), (1139, .iadd, 1, 0, 0, 0), (1140, .iaload, 1, 0, 0, 0), (1141, .invokevirtual 131, 3, 141, 2, 11),
  (1144, .pop, 1, 0, 0, 0), (1145, .aload_n 2, 1, 0, 0, 0), (1146, .aload_n 0, 1, 0, 0, 0), (1147, .iload 4, 2, 0, 0, 0),
  (1149, .iconst 1, 1, 0, 0, 0), (1150, .iadd, 1, 0, 0, 0), (1151, .iaload, 1, 0, 0, 0), (1152, .aload_n 0, 1, 0, 0, 0)]
def op_L_law_12 : List cv_Q := [
  (1153, .iload 4, 2, 0, 0, 0), (1155, .iconst 2, 1, 0, 0, 0), (1156, .iadd, 1, 0, 0, 0), (1157, .iaload, 1, 0, 0, 0),
  (1158, .invokevirtual 134, 3, 256, 2, 12), (1161, .pop, 1, 0, 0, 0), (1162, .goto 325, 3, 0, 0, 0), (1165, .aload_n 1, 1, 0, 0, 0),
  (1166, .aload_n 0, 1, 0, 0, 0), (1167, .iload 4, 2, 0, 0, 0), (1169, .iconst 1, 1, 0, 0, 0), (1170, .iadd, 1, 0, 0, 0),
  (1171, .iaload, 1, 0, 0, 0), (1172, .invokevirtual 135, 3, 142, 1, 11), (1175, .pop, 1, 0, 0, 0), (1176, .aload_n 2, 1, 0, 0, 0),
  (1177, .aload_n 0, 1, 0, 0, 0), (1178, .iload 4, 2, 0, 0, 0), (1180, .iconst 1, 1, 0, 0, 0), (1181, .iadd, 1, 0, 0, 0),
  (1182, .iaload, 1, 0, 0, 0), (1183, .invokevirtual 138, 3, 257, 1, 12), (1186, .pop, 1, 0, 0, 0), (1187, .goto 300, 3, 0, 0, 0),
  (1190, .aload_n 1, 1, 0, 0, 0), (1191, .aload_n 0, 1, 0, 0, 0), (1192, .iload 4, 2, 0, 0, 0), (1194, .iconst 1, 1, 0, 0, 0),
  (1195, .iadd, 1, 0, 0, 0), (1196, .iaload, 1, 0, 0, 0), (1197, .invokevirtual 139, 3, 143, 1, 11), (1200, .pop, 1, 0, 0, 0),
  (1201, .aload_n 2, 1, 0, 0, 0), (1202, .aload_n 0, 1, 0, 0, 0), (1203, .iload 4, 2, 0, 0, 0), (1205, .iconst 1, 1, 0, 0, 0),
  (1206, .iadd, 1, 0, 0, 0), (1207, .iaload, 1, 0, 0, 0), (1208, .invokevirtual 142, 3, 259, 1, 12), (1211, .pop, 1, 0, 0, 0),
  (1212, .goto 275, 3, 0, 0, 0), (1215, .aload_n 1, 1, 0, 0, 0), (1216, .aload_n 0, 1, 0, 0, 0), (1217, .iload 4, 2, 0, 0, 0),
  (1219, .iconst 1, 1, 0, 0, 0), (1220, .iadd, 1, 0, 0, 0), (1221, .iaload, 1, 0, 0, 0), (1222, .aload_n 0, 1, 0, 0, 0),
  (1223, .iload 4, 2, 0, 0, 0), (1225, .iconst 2, 1, 0, 0, 0), (1226, .iadd, 1, 0, 0, 0), (1227, .iaload, 1, 0, 0, 0),
  (1228, .invokevirtual 143, 3, 144, 2, 11), (1231, .pop, 1, 0, 0, 0), (1232, .aload_n 2, 1, 0, 0, 0), (1233, .aload_n 0, 1, 0, 0, 0),
  (1234, .iload 4, 2, 0, 0, 0), (1236, .iconst 1, 1, 0, 0, 0), (1237, .iadd, 1, 0, 0, 0), (1238, .iaload, 1, 0, 0, 0)]
def op_L_law_13 : List cv_Q := [
  (1239, .aload_n 0, 1, 0, 0, 0), (1240, .iload 4, 2, 0, 0, 0), (1242, .iconst 2, 1, 0, 0, 0), (1243, .iadd, 1, 0, 0, 0),
  (1244, .iaload, 1, 0, 0, 0), (1245, .invokevirtual 146, 3, 261, 2, 12), (1248, .pop, 1, 0, 0, 0), (1249, .goto 238, 3, 0, 0, 0),
  (1252, .aload_n 1, 1, 0, 0, 0), (1253, .aload_n 0, 1, 0, 0, 0), (1254, .iload 4, 2, 0, 0, 0), (1256, .iconst 1, 1, 0, 0, 0),
  (1257, .iadd, 1, 0, 0, 0), (1258, .iaload, 1, 0, 0, 0), (1259, .invokevirtual 147, 3, 145, 1, 11), (1262, .pop, 1, 0, 0, 0),
  (1263, .aload_n 2, 1, 0, 0, 0), (1264, .aload_n 0, 1, 0, 0, 0), (1265, .iload 4, 2, 0, 0, 0), (1267, .iconst 1, 1, 0, 0, 0),
  (1268, .iadd, 1, 0, 0, 0), (1269, .iaload, 1, 0, 0, 0), (1270, .invokevirtual 150, 3, 263, 1, 12), (1273, .pop, 1, 0, 0, 0),
  (1274, .goto 213, 3, 0, 0, 0), (1277, .aload_n 1, 1, 0, 0, 0), (1278, .aload_n 0, 1, 0, 0, 0), (1279, .iload 4, 2, 0, 0, 0),
  (1281, .iconst 1, 1, 0, 0, 0), (1282, .iadd, 1, 0, 0, 0), (1283, .iaload, 1, 0, 0, 0), (1284, .aload_n 0, 1, 0, 0, 0),
  (1285, .iload 4, 2, 0, 0, 0), (1287, .iconst 2, 1, 0, 0, 0), (1288, .iadd, 1, 0, 0, 0), (1289, .iaload, 1, 0, 0, 0),
  (1290, .aload_n 0, 1, 0, 0, 0), (1291, .iload 4, 2, 0, 0, 0), (1293, .iconst 3, 1, 0, 0, 0), (1294, .iadd, 1, 0, 0, 0),
  (1295, .iaload, 1, 0, 0, 0), (1296, .invokevirtual 151, 3, 146, 3, 11), (1299, .pop, 1, 0, 0, 0), (1300, .aload_n 2, 1, 0, 0, 0),
  (1301, .aload_n 0, 1, 0, 0, 0), (1302, .iload 4, 2, 0, 0, 0), (1304, .iconst 1, 1, 0, 0, 0), (1305, .iadd, 1, 0, 0, 0),
  (1306, .iaload, 1, 0, 0, 0), (1307, .aload_n 0, 1, 0, 0, 0), (1308, .iload 4, 2, 0, 0, 0), (1310, .iconst 2, 1, 0, 0, 0),
  (1311, .iadd, 1, 0, 0, 0), (1312, .iaload, 1, 0, 0, 0), (1313, .aload_n 0, 1, 0, 0, 0), (1314, .iload 4, 2, 0, 0, 0),
  (1316, .iconst 3, 1, 0, 0, 0), (1317, .iadd, 1, 0, 0, 0), (1318, .iaload, 1, 0, 0, 0), (1319, .invokevirtual 154, 3, 264, 3, 12)]
def op_L_law_14 : List cv_Q := [
  (1322, .pop, 1, 0, 0, 0), (1323, .goto 164, 3, 0, 0, 0), (1326, .aload_n 1, 1, 0, 0, 0), (1327, .aload_n 0, 1, 0, 0, 0),
  (1328, .iload 4, 2, 0, 0, 0), (1330, .iconst 1, 1, 0, 0, 0), (1331, .iadd, 1, 0, 0, 0), (1332, .iaload, 1, 0, 0, 0),
  (1333, .aload_n 0, 1, 0, 0, 0), (1334, .iload 4, 2, 0, 0, 0), (1336, .iconst 2, 1, 0, 0, 0), (1337, .iadd, 1, 0, 0, 0),
  (1338, .iaload, 1, 0, 0, 0), (1339, .invokevirtual 155, 3, 147, 2, 11), (1342, .pop, 1, 0, 0, 0), (1343, .aload_n 2, 1, 0, 0, 0),
  (1344, .aload_n 0, 1, 0, 0, 0), (1345, .iload 4, 2, 0, 0, 0), (1347, .iconst 1, 1, 0, 0, 0), (1348, .iadd, 1, 0, 0, 0),
  (1349, .iaload, 1, 0, 0, 0), (1350, .aload_n 0, 1, 0, 0, 0), (1351, .iload 4, 2, 0, 0, 0), (1353, .iconst 2, 1, 0, 0, 0),
  (1354, .iadd, 1, 0, 0, 0), (1355, .iaload, 1, 0, 0, 0), (1356, .invokevirtual 158, 3, 268, 2, 12), (1359, .pop, 1, 0, 0, 0),
  (1360, .goto 127, 3, 0, 0, 0), (1363, .aload_n 1, 1, 0, 0, 0), (1364, .aload_n 0, 1, 0, 0, 0), (1365, .iload 4, 2, 0, 0, 0),
  (1367, .iconst 1, 1, 0, 0, 0), (1368, .iadd, 1, 0, 0, 0), (1369, .iaload, 1, 0, 0, 0), (1370, .aload_n 0, 1, 0, 0, 0),
  (1371, .iload 4, 2, 0, 0, 0), (1373, .iconst 2, 1, 0, 0, 0), (1374, .iadd, 1, 0, 0, 0), (1375, .iaload, 1, 0, 0, 0),
  (1376, .aload_n 0, 1, 0, 0, 0), (1377, .iload 4, 2, 0, 0, 0), (1379, .iconst 3, 1, 0, 0, 0), (1380, .iadd, 1, 0, 0, 0),
  (1381, .iaload, 1, 0, 0, 0), (1382, .aload_n 0, 1, 0, 0, 0), (1383, .iload 4, 2, 0, 0, 0), (1385, .iconst 4, 1, 0, 0, 0),
  (1386, .iadd, 1, 0, 0, 0), (1387, .iaload, 1, 0, 0, 0), (1388, .aload_n 0, 1, 0, 0, 0), (1389, .iload 4, 2, 0, 0, 0),
  (1391, .iconst 5, 1, 0, 0, 0), (1392, .iadd, 1, 0, 0, 0), (1393, .iaload, 1, 0, 0, 0), (1394, .invokevirtual 159, 3, 149, 5, 11),
  (1397, .pop, 1, 0, 0, 0), (1398, .aload_n 2, 1, 0, 0, 0), (1399, .aload_n 0, 1, 0, 0, 0), (1400, .iload 4, 2, 0, 0, 0)]
def op_L_law_15 : List cv_Q := [
  (1402, .iconst 1, 1, 0, 0, 0), (1403, .iadd, 1, 0, 0, 0), (1404, .iaload, 1, 0, 0, 0), (1405, .aload_n 0, 1, 0, 0, 0),
  (1406, .iload 4, 2, 0, 0, 0), (1408, .iconst 2, 1, 0, 0, 0), (1409, .iadd, 1, 0, 0, 0), (1410, .iaload, 1, 0, 0, 0),
  (1411, .aload_n 0, 1, 0, 0, 0), (1412, .iload 4, 2, 0, 0, 0), (1414, .iconst 3, 1, 0, 0, 0), (1415, .iadd, 1, 0, 0, 0),
  (1416, .iaload, 1, 0, 0, 0), (1417, .aload_n 0, 1, 0, 0, 0), (1418, .iload 4, 2, 0, 0, 0), (1420, .iconst 4, 1, 0, 0, 0),
  (1421, .iadd, 1, 0, 0, 0), (1422, .iaload, 1, 0, 0, 0), (1423, .aload_n 0, 1, 0, 0, 0), (1424, .iload 4, 2, 0, 0, 0),
  (1426, .iconst 5, 1, 0, 0, 0), (1427, .iadd, 1, 0, 0, 0), (1428, .iaload, 1, 0, 0, 0), (1429, .invokevirtual 162, 3, 269, 5, 12),
  (1432, .pop, 1, 0, 0, 0), (1433, .goto 54, 3, 0, 0, 0), (1436, .aload_n 1, 1, 0, 0, 0), (1437, .invokevirtual 163, 3, 150, 0, 11),
  (1440, .pop, 1, 0, 0, 0), (1441, .aload_n 2, 1, 0, 0, 0), (1442, .invokevirtual 166, 3, 270, 0, 12), (1445, .pop, 1, 0, 0, 0),
  (1446, .goto 41, 3, 0, 0, 0), (1449, .aload_n 1, 1, 0, 0, 0), (1450, .invokevirtual 167, 3, 151, 0, 11), (1453, .pop, 1, 0, 0, 0),
  (1454, .aload_n 2, 1, 0, 0, 0), (1455, .invokevirtual 170, 3, 271, 0, 12), (1458, .pop, 1, 0, 0, 0), (1459, .goto 28, 3, 0, 0, 0),
  (1462, .aload_n 1, 1, 0, 0, 0), (1463, .aload_n 0, 1, 0, 0, 0), (1464, .iload 4, 2, 0, 0, 0), (1466, .iconst 1, 1, 0, 0, 0),
  (1467, .iadd, 1, 0, 0, 0), (1468, .iaload, 1, 0, 0, 0), (1469, .invokevirtual 171, 3, 152, 1, 11), (1472, .pop, 1, 0, 0, 0),
  (1473, .aload_n 2, 1, 0, 0, 0), (1474, .aload_n 0, 1, 0, 0, 0), (1475, .iload 4, 2, 0, 0, 0), (1477, .iconst 1, 1, 0, 0, 0),
  (1478, .iadd, 1, 0, 0, 0), (1479, .iaload, 1, 0, 0, 0), (1480, .invokevirtual 174, 3, 272, 1, 12), (1483, .pop, 1, 0, 0, 0),
  (1484, .goto 3, 3, 0, 0, 0), (1487, .iinc 4 6, 3, 0, 0, 0), (1490, .goto (-1467), 3, 0, 0, 0), (1493, .iconst 1, 1, 0, 0, 0)]
def op_L_law_16 : List cv_Q := [
  (1494, .ireturn, 1, 0, 0, 0)]
def op_L_law : List cv_Q := op_L_law_0 ++ (op_L_law_1 ++ (op_L_law_2 ++ (op_L_law_3 ++ (op_L_law_4 ++ (op_L_law_5 ++ (op_L_law_6 ++ (op_L_law_7 ++ (op_L_law_8 ++ (op_L_law_9 ++ (op_L_law_10 ++ (op_L_law_11 ++ (op_L_law_12 ++ (op_L_law_13 ++ (op_L_law_14 ++ (op_L_law_15 ++ (op_L_law_16))))))))))))))))
def mt_X0_init : cv_M := ((RX0, yX0_init, cX0_init, 3, none), op_X0_init, 1, 73, 1, 24)
def mt_X0_readInto : cv_M := ((RX0, yX0_readInto, cX0_readInto, 4, (some .int)), op_X0_readInto, 0, 0, 3, 64)
def mt_X0_readValue : cv_M := ((RX0, yX0_readValue, cX0_readValue, 2, (some .int)), op_X0_readValue, 0, 0, 2, 42)
def mt_X0_openParen : cv_M := ((RX0, yX0_openParen, cX0_openParen, 1, (some .int)), op_X0_openParen, 0, 0, 1, 21)
def mt_X0_valueKnot : cv_M := ((RX0, yX0_valueKnot, cX0_valueKnot, 2, (some .int)), op_X0_valueKnot, 0, 0, 1, 20)
def mt_X0_nameOf : cv_M := ((RX0, yX0_nameOf, cX0_nameOf, 1, (some .int)), op_X0_nameOf, 0, 0, 0, 0)
def mt_X0_readJoint : cv_M := ((RX0, yX0_readJoint, cX0_readJoint, 3, (some .int)), op_X0_readJoint, 0, 0, 2, 42)
def mt_X0_signOf : cv_M := ((RX0, yX0_signOf, cX0_signOf, 1, (some .int)), op_X0_signOf, 0, 0, 1, 21)
def mt_X0_rankOf : cv_M := ((RX0, yX0_rankOf, cX0_rankOf, 1, (some .int)), op_X0_rankOf, 0, 0, 0, 0)
def mt_X0_holdKnot : cv_M := ((RX0, yX0_holdKnot, cX0_holdKnot, 2, (some .int)), op_X0_holdKnot, 0, 0, 1, 21)
def mt_X0_hold : cv_M := ((RX0, yX0_hold, cX0_hold, 2, none), op_X0_hold, 0, 0, 0, 0)
def mt_X0_latestHeld : cv_M := ((RX0, yX0_latestHeld, cX0_latestHeld, 1, (some .int)), op_X0_latestHeld, 0, 0, 0, 0)
def mt_X0_release : cv_M := ((RX0, yX0_release, cX0_release, 2, none), op_X0_release, 0, 0, 1, 21)
def mt_X1_init : cv_M := ((RX1, yX1_init, cX1_init, 2, none), op_X1_init, 0, 0, 1, 24)
def mt_X1_begin : cv_M := ((RX1, yX1_begin, cX1_begin, 3, none), op_X1_begin, 0, 0, 2, 46)
def mt_X1_setCauses : cv_M := ((RX1, yX1_setCauses, cX1_setCauses, 3, none), op_X1_setCauses, 0, 0, 1, 24)
def mt_X1_copy : cv_M := ((RX1, yX1_copy, cX1_copy, 2, none), op_X1_copy, 0, 0, 0, 0)
def mt_X1_pull : cv_M := ((RX1, yX1_pull, cX1_pull, 3, (some .int)), op_X1_pull, 0, 0, 1, 20)
def mt_X1_leanPart : cv_M := ((RX1, yX1_leanPart, cX1_leanPart, 1, (some .int)), op_X1_leanPart, 0, 0, 0, 0)
def mt_X1_hooksPart : cv_M := ((RX1, yX1_hooksPart, cX1_hooksPart, 2, (some .int)), op_X1_hooksPart, 0, 0, 1, 20)
def mt_X1_drop : cv_M := ((RX1, yX1_drop, cX1_drop, 1, (some .int)), op_X1_drop, 0, 0, 2, 41)
def mt_X1_measured : cv_M := ((RX1, yX1_measured, cX1_measured, 2, (some .int)), op_X1_measured, 0, 0, 3, 61)
def mt_X1_isLatched : cv_M := ((RX1, yX1_isLatched, cX1_isLatched, 2, (some .boolean)), op_X1_isLatched, 0, 0, 3, 61)
def mt_X1_take : cv_M := ((RX1, yX1_take, cX1_take, 4, none), op_X1_take, 0, 0, 1, 21)
def mt_X1_grow : cv_M := ((RX1, yX1_grow, cX1_grow, 4, none), op_X1_grow, 0, 0, 1, 24)
def mt_X1_lowHung : cv_M := ((RX1, yX1_lowHung, cX1_lowHung, 4, (some .int)), op_X1_lowHung, 0, 0, 1, 20)
def mt_X1_aboveHung : cv_M := ((RX1, yX1_aboveHung, cX1_aboveHung, 7, (some .int)), op_X1_aboveHung, 0, 0, 3, 61)
def mt_X1_standsWith : cv_M := ((RX1, yX1_standsWith, cX1_standsWith, 5, (some .boolean)), op_X1_standsWith, 0, 0, 4, 87)
def mt_X2_init : cv_M := ((RX2, yX2_init, cX2_init, 1, none), op_X2_init, 3, 77, 1, 24)
def mt_X2_forget : cv_M := ((RX2, yX2_forget, cX2_forget, 2, none), op_X2_forget, 0, 0, 0, 0)
def mt_X2_put : cv_M := ((RX2, yX2_put, cX2_put, 4, none), op_X2_put, 0, 0, 0, 0)
def mt_X2_see : cv_M := ((RX2, yX2_see, cX2_see, 5, none), op_X2_see, 0, 0, 3, 61)
def mt_X2_pass : cv_M := ((RX2, yX2_pass, cX2_pass, 7, none), op_X2_pass, 0, 0, 5, 125)
def mt_X2_refresh : cv_M := ((RX2, yX2_refresh, cX2_refresh, 6, none), op_X2_refresh, 0, 0, 4, 100)
def mt_X2_workOut : cv_M := ((RX2, yX2_workOut, cX2_workOut, 8, (some .long)), op_X2_workOut, 0, 0, 3, 73)
def mt_X2_valueOf : cv_M := ((RX2, yX2_valueOf, cX2_valueOf, 3, (some .long)), op_X2_valueOf, 0, 0, 0, 0)
def mt_X2_join : cv_M := ((RX2, yX2_join, cX2_join, 6, (some .long)), op_X2_join, 0, 0, 2, 48)
def mt_X2_bounded : cv_M := ((RX2, yX2_bounded, cX2_bounded, 3, (some .long)), op_X2_bounded, 0, 0, 0, 0)
def mt_X2_times : cv_M := ((RX2, yX2_times, cX2_times, 5, (some .long)), op_X2_times, 0, 0, 1, 24)
def mt_X2_by : cv_M := ((RX2, yX2_by, cX2_by, 5, (some .long)), op_X2_by, 0, 0, 0, 0)
def mt_X3_init : cv_M := ((RX3, yX3_init, cX3_init, 1, none), op_X3_init, 8, 320, 1, 24)
def mt_X3_clear : cv_M := ((RX3, yX3_clear, cX3_clear, 1, none), op_X3_clear, 0, 0, 0, 0)
def mt_X3_knownCount : cv_M := ((RX3, yX3_knownCount, cX3_knownCount, 1, (some .int)), op_X3_knownCount, 0, 0, 0, 0)
def mt_X3_add : cv_M := ((RX3, yX3_add, cX3_add, 6, (some .int)), op_X3_add, 0, 0, 0, 0)
def mt_X3_addStrike : cv_M := ((RX3, yX3_addStrike, cX3_addStrike, 2, (some .int)), op_X3_addStrike, 0, 0, 0, 0)
def mt_X3_pick : cv_M := ((RX3, yX3_pick, cX3_pick, 4, (some .int)), op_X3_pick, 0, 0, 2, 45)
def mt_X3_findStruck : cv_M := ((RX3, yX3_findStruck, cX3_findStruck, 2, none), op_X3_findStruck, 0, 0, 1, 24)
def mt_X3_agree : cv_M := ((RX3, yX3_agree, cX3_agree, 6, (some .boolean)), op_X3_agree, 0, 0, 4, 82)
def mt_X4_init : cv_M := ((RX4, yX4_init, cX4_init, 2, none), op_X4_init, 23, 248, 3, 63)
def mt_X4_clear : cv_M := ((RX4, yX4_clear, cX4_clear, 2, none), op_X4_clear, 0, 0, 2, 42)
def mt_X4_isWork : cv_M := ((RX4, yX4_isWork, cX4_isWork, 2, (some .boolean)), op_X4_isWork, 0, 0, 0, 0)
def mt_X4_isCause : cv_M := ((RX4, yX4_isCause, cX4_isCause, 2, (some .boolean)), op_X4_isCause, 0, 0, 0, 0)
def mt_X4_isLaw : cv_M := ((RX4, yX4_isLaw, cX4_isLaw, 2, (some .boolean)), op_X4_isLaw, 0, 0, 0, 0)
def mt_X4_firmIn : cv_M := ((RX4, yX4_firmIn, cX4_firmIn, 2, (some .int)), op_X4_firmIn, 0, 0, 0, 0)
def mt_X4_growthNames : cv_M := ((RX4, yX4_growthNames, cX4_growthNames, 1, (some .int)), op_X4_growthNames, 0, 0, 0, 0)
def mt_X4_costOf : cv_M := ((RX4, yX4_costOf, cX4_costOf, 4, (some .int)), op_X4_costOf, 0, 0, 0, 0)
def mt_X4_moreBy : cv_M := ((RX4, yX4_moreBy, cX4_moreBy, 5, (some .int)), op_X4_moreBy, 0, 0, 0, 0)
def mt_X4_weightOf : cv_M := ((RX4, yX4_weightOf, cX4_weightOf, 2, (some .int)), op_X4_weightOf, 0, 0, 1, 21)
def mt_X4_addCode : cv_M := ((RX4, yX4_addCode, cX4_addCode, 2, none), op_X4_addCode, 0, 0, 0, 0)
def mt_X5_init : cv_M := ((RX5, yX5_init, cX5_init, 3, none), op_X5_init, 4, 122, 5, 110)
def mt_X5_readText : cv_M := ((RX5, yX5_readText, cX5_readText, 4, (some .int)), op_X5_readText, 0, 0, 6, 134)
def mt_X5_fail : cv_M := ((RX5, yX5_fail, cX5_fail, 2, (some .int)), op_X5_fail, 0, 0, 0, 0)
def mt_X5_readSemicolon : cv_M := ((RX5, yX5_readSemicolon, cX5_readSemicolon, 1, none), op_X5_readSemicolon, 0, 0, 3, 64)
def mt_X5_readNumber : cv_M := ((RX5, yX5_readNumber, cX5_readNumber, 5, (some .int)), op_X5_readNumber, 0, 0, 3, 64)
def mt_X5_readNewName : cv_M := ((RX5, yX5_readNewName, cX5_readNewName, 4, (some .int)), op_X5_readNewName, 0, 0, 3, 64)
def mt_X5_readGround : cv_M := ((RX5, yX5_readGround, cX5_readGround, 2, none), op_X5_readGround, 0, 0, 4, 88)
def mt_X5_readLaw : cv_M := ((RX5, yX5_readLaw, cX5_readLaw, 4, none), op_X5_readLaw, 0, 0, 4, 87)
def mt_X5_readGate : cv_M := ((RX5, yX5_readGate, cX5_readGate, 4, none), op_X5_readGate, 0, 0, 5, 111)
def mt_X5_readPart : cv_M := ((RX5, yX5_readPart, cX5_readPart, 4, none), op_X5_readPart, 0, 0, 4, 88)
def mt_X5_readBrace : cv_M := ((RX5, yX5_readBrace, cX5_readBrace, 2, none), op_X5_readBrace, 0, 0, 3, 64)
def mt_X5_readHas : cv_M := ((RX5, yX5_readHas, cX5_readHas, 3, none), op_X5_readHas, 0, 0, 3, 64)
def mt_X5_readWork : cv_M := ((RX5, yX5_readWork, cX5_readWork, 4, none), op_X5_readWork, 0, 0, 4, 88)
def mt_X5_kindOf : cv_M := ((RX5, yX5_kindOf, cX5_kindOf, 1, (some .int)), op_X5_kindOf, 0, 0, 0, 0)
def mt_X5_mostOf : cv_M := ((RX5, yX5_mostOf, cX5_mostOf, 1, (some .int)), op_X5_mostOf, 0, 0, 0, 0)
def mt_X5_readCause : cv_M := ((RX5, yX5_readCause, cX5_readCause, 2, none), op_X5_readCause, 0, 0, 4, 88)
def mt_X6_init : cv_M := ((RX6, yX6_init, cX6_init, 6, none), op_X6_init, 1, 34, 4, 85)
def mt_X6_letterBits : cv_M := ((RX6, yX6_letterBits, cX6_letterBits, 2, (some .int)), op_X6_letterBits, 0, 0, 0, 0)
def mt_X6_begin : cv_M := ((RX6, yX6_begin, cX6_begin, 2, none), op_X6_begin, 0, 0, 3, 64)
def mt_X6_step : cv_M := ((RX6, yX6_step, cX6_step, 1, none), op_X6_step, 0, 0, 2, 44)
def mt_X6_readLetters : cv_M := ((RX6, yX6_readLetters, cX6_readLetters, 3, none), op_X6_readLetters, 0, 0, 1, 21)
def mt_X6_readDigits : cv_M := ((RX6, yX6_readDigits, cX6_readDigits, 1, none), op_X6_readDigits, 0, 0, 1, 24)
def mt_X6_readSign : cv_M := ((RX6, yX6_readSign, cX6_readSign, 2, none), op_X6_readSign, 0, 0, 1, 21)
def mt_X6_takes : cv_M := ((RX6, yX6_takes, cX6_takes, 2, (some .boolean)), op_X6_takes, 0, 0, 0, 0)
def mt_X6_isWord : cv_M := ((RX6, yX6_isWord, cX6_isWord, 2, (some .boolean)), op_X6_isWord, 0, 0, 0, 0)
def mt_X6_isWordFrom : cv_M := ((RX6, yX6_isWordFrom, cX6_isWordFrom, 3, (some .boolean)), op_X6_isWordFrom, 0, 0, 0, 0)
def mt_X7_init : cv_M := ((RX7, yX7_init, cX7_init, 1, none), op_X7_init, 1, 9, 2, 42)
def mt_X7_clear : cv_M := ((RX7, yX7_clear, cX7_clear, 2, none), op_X7_clear, 0, 0, 1, 21)
def mt_X7_setHeight : cv_M := ((RX7, yX7_setHeight, cX7_setHeight, 2, none), op_X7_setHeight, 0, 0, 0, 0)
def mt_X7_span : cv_M := ((RX7, yX7_span, cX7_span, 1, (some .int)), op_X7_span, 0, 0, 0, 0)
def mt_X8_init : cv_M := ((RX8, yX8_init, cX8_init, 2, none), op_X8_init, 2, 45, 2, 45)
def mt_X8_judge : cv_M := ((RX8, yX8_judge, cX8_judge, 10, none), op_X8_judge, 0, 0, 6, 151)
def mt_X8_record : cv_M := ((RX8, yX8_record, cX8_record, 4, none), op_X8_record, 0, 0, 4, 82)
def mt_X8_recorded : cv_M := ((RX8, yX8_recorded, cX8_recorded, 4, (some .int)), op_X8_recorded, 0, 0, 0, 0)
def mt_X8_weightOfFitting : cv_M := ((RX8, yX8_weightOfFitting, cX8_weightOfFitting, 4, (some .int)), op_X8_weightOfFitting, 0, 0, 2, 42)
def mt_X8_heaviestGroup : cv_M := ((RX8, yX8_heaviestGroup, cX8_heaviestGroup, 8, (some .int)), op_X8_heaviestGroup, 0, 0, 2, 42)
def mt_X9_init : cv_M := ((RX9, yX9_init, cX9_init, 1, none), op_X9_init, 3, 24, 1, 24)
def mt_X9_tell : cv_M := ((RX9, yX9_tell, cX9_tell, 5, none), op_X9_tell, 0, 0, 0, 0)
def mt_X9_choose : cv_M := ((RX9, yX9_choose, cX9_choose, 6, none), op_X9_choose, 0, 0, 2, 51)
def mt_X9_sumOf : cv_M := ((RX9, yX9_sumOf, cX9_sumOf, 8, (some .int)), op_X9_sumOf, 0, 0, 1, 24)
def mt_X9_gateAt : cv_M := ((RX9, yX9_gateAt, cX9_gateAt, 2, (some .int)), op_X9_gateAt, 0, 0, 0, 0)
def mt_X10_init : cv_M := ((RX10, yX10_init, cX10_init, 3, none), op_X10_init, 22, 380, 2, 45)
def mt_X10_clear : cv_M := ((RX10, yX10_clear, cX10_clear, 1, none), op_X10_clear, 0, 0, 0, 0)
def mt_X10_push : cv_M := ((RX10, yX10_push, cX10_push, 3, none), op_X10_push, 0, 0, 1, 22)
def mt_X10_dropEarliest : cv_M := ((RX10, yX10_dropEarliest, cX10_dropEarliest, 3, none), op_X10_dropEarliest, 0, 0, 0, 0)
def mt_X10_latestGate : cv_M := ((RX10, yX10_latestGate, cX10_latestGate, 1, (some .int)), op_X10_latestGate, 0, 0, 0, 0)
def mt_X10_popInto : cv_M := ((RX10, yX10_popInto, cX10_popInto, 2, none), op_X10_popInto, 0, 0, 1, 21)
def mt_X11_init : cv_M := ((RX11, yX11_init, cX11_init, 2, none), op_X11_init, 110, 2623, 6, 132)
def mt_X11_feed : cv_M := ((RX11, yX11_feed, cX11_feed, 6, (some .int)), op_X11_feed, 0, 0, 1, 22)
def mt_X11_putOnTape : cv_M := ((RX11, yX11_putOnTape, cX11_putOnTape, 3, none), op_X11_putOnTape, 0, 0, 0, 0)
def mt_X11_text : cv_M := ((RX11, yX11_text, cX11_text, 3, (some .int)), op_X11_text, 0, 0, 7, 157)
def mt_X11_takeSpare : cv_M := ((RX11, yX11_takeSpare, cX11_takeSpare, 3, none), op_X11_takeSpare, 0, 0, 3, 68)
def mt_X11_fault : cv_M := ((RX11, yX11_fault, cX11_fault, 2, (some .int)), op_X11_fault, 0, 0, 0, 0)
def mt_X11_named : cv_M := ((RX11, yX11_named, cX11_named, 3, (some .int)), op_X11_named, 0, 0, 1, 23)
def mt_X11_placeOf : cv_M := ((RX11, yX11_placeOf, cX11_placeOf, 4, (some .int)), op_X11_placeOf, 0, 0, 0, 0)
def mt_X11_isGate : cv_M := ((RX11, yX11_isGate, cX11_isGate, 2, (some .boolean)), op_X11_isGate, 0, 0, 0, 0)
def mt_X11_isBound : cv_M := ((RX11, yX11_isBound, cX11_isBound, 1, (some .boolean)), op_X11_isBound, 0, 0, 0, 0)
def mt_X11_isAhead : cv_M := ((RX11, yX11_isAhead, cX11_isAhead, 1, (some .boolean)), op_X11_isAhead, 0, 0, 0, 0)
def mt_X11_isAngle : cv_M := ((RX11, yX11_isAngle, cX11_isAngle, 1, (some .boolean)), op_X11_isAngle, 0, 0, 0, 0)
def mt_X11_isWeek : cv_M := ((RX11, yX11_isWeek, cX11_isWeek, 1, (some .boolean)), op_X11_isWeek, 0, 0, 0, 0)
def mt_X11_works : cv_M := ((RX11, yX11_works, cX11_works, 3, (some .int)), op_X11_works, 0, 0, 1, 21)
def mt_X11_firm : cv_M := ((RX11, yX11_firm, cX11_firm, 2, (some .int)), op_X11_firm, 0, 0, 1, 21)
def mt_X11_weeks : cv_M := ((RX11, yX11_weeks, cX11_weeks, 3, (some .int)), op_X11_weeks, 0, 0, 6, 151)
def mt_X11_sags : cv_M := ((RX11, yX11_sags, cX11_sags, 4, (some .int)), op_X11_sags, 0, 0, 3, 61)
def mt_X11_latched : cv_M := ((RX11, yX11_latched, cX11_latched, 2, (some .int)), op_X11_latched, 0, 0, 4, 82)
def mt_X11_gives : cv_M := ((RX11, yX11_gives, cX11_gives, 4, (some .int)), op_X11_gives, 0, 0, 2, 41)
def mt_X11_work : cv_M := ((RX11, yX11_work, cX11_work, 4, (some .boolean)), op_X11_work, 0, 0, 2, 44)
def mt_X11_undo : cv_M := ((RX11, yX11_undo, cX11_undo, 2, (some .int)), op_X11_undo, 0, 0, 2, 42)
def mt_X11_lasts : cv_M := ((RX11, yX11_lasts, cX11_lasts, 4, (some .int)), op_X11_lasts, 0, 0, 6, 151)
def mt_X11_least : cv_M := ((RX11, yX11_least, cX11_least, 10, (some .int)), op_X11_least, 0, 0, 7, 176)
def mt_X11_holds : cv_M := ((RX11, yX11_holds, cX11_holds, 6, (some .boolean)), op_X11_holds, 0, 0, 6, 151)
def mt_X11_way : cv_M := ((RX11, yX11_way, cX11_way, 3, (some .int)), op_X11_way, 0, 0, 7, 174)
def mt_X11_dropWithBrace : cv_M := ((RX11, yX11_dropWithBrace, cX11_dropWithBrace, 4, (some .int)), op_X11_dropWithBrace, 0, 0, 6, 151)
def mt_X11_enough : cv_M := ((RX11, yX11_enough, cX11_enough, 6, (some .int)), op_X11_enough, 0, 0, 6, 151)
def mt_X11_bears : cv_M := ((RX11, yX11_bears, cX11_bears, 9, (some .int)), op_X11_bears, 0, 0, 6, 151)
def mt_X11_knock : cv_M := ((RX11, yX11_knock, cX11_knock, 5, (some .long)), op_X11_knock, 0, 0, 4, 100)
def mt_X11_measure : cv_M := ((RX11, yX11_measure, cX11_measure, 7, (some .int)), op_X11_measure, 0, 0, 1, 25)
def mt_X11_strike : cv_M := ((RX11, yX11_strike, cX11_strike, 2, (some .int)), op_X11_strike, 0, 0, 1, 21)
def mt_X11_known : cv_M := ((RX11, yX11_known, cX11_known, 2, (some .boolean)), op_X11_known, 0, 0, 0, 0)
def mt_X11_fits : cv_M := ((RX11, yX11_fits, cX11_fits, 2, (some .int)), op_X11_fits, 0, 0, 7, 180)
def mt_X11_odds : cv_M := ((RX11, yX11_odds, cX11_odds, 4, (some .int)), op_X11_odds, 0, 0, 7, 180)
def mt_X11_test : cv_M := ((RX11, yX11_test, cX11_test, 5, (some .int)), op_X11_test, 0, 0, 7, 180)
def mt_X11_low : cv_M := ((RX11, yX11_low, cX11_low, 3, (some .int)), op_X11_low, 0, 0, 2, 43)
def mt_X11_rest : cv_M := ((RX11, yX11_rest, cX11_rest, 4, (some .int)), op_X11_rest, 0, 0, 2, 43)
def mt_X11_shuts : cv_M := ((RX11, yX11_shuts, cX11_shuts, 4, (some .int)), op_X11_shuts, 0, 0, 2, 43)
def mt_X11_above : cv_M := ((RX11, yX11_above, cX11_above, 3, (some .int)), op_X11_above, 0, 0, 4, 87)
def mt_X11_opens : cv_M := ((RX11, yX11_opens, cX11_opens, 3, (some .int)), op_X11_opens, 0, 0, 4, 87)
def mt_X11_stand : cv_M := ((RX11, yX11_stand, cX11_stand, 7, (some .int)), op_X11_stand, 0, 0, 5, 111)
def mt_X11_first : cv_M := ((RX11, yX11_first, cX11_first, 5, (some .int)), op_X11_first, 0, 0, 7, 176)
def mt_X11_unlatchedWeeks : cv_M := ((RX11, yX11_unlatchedWeeks, cX11_unlatchedWeeks, 6, (some .int)), op_X11_unlatchedWeeks, 0, 0, 6, 151)
def mt_X11_wind : cv_M := ((RX11, yX11_wind, cX11_wind, 14, (some .int)), op_X11_wind, 0, 0, 6, 151)
def mt_X11_keep : cv_M := ((RX11, yX11_keep, cX11_keep, 2, (some .int)), op_X11_keep, 0, 0, 1, 21)
def mt_X11_back : cv_M := ((RX11, yX11_back, cX11_back, 2, (some .int)), op_X11_back, 0, 0, 1, 21)
def mt_X11_count : cv_M := ((RX11, yX11_count, cX11_count, 2, (some .int)), op_X11_count, 0, 0, 2, 45)
def mt_X11_costOfAllDone : cv_M := ((RX11, yX11_costOfAllDone, cX11_costOfAllDone, 3, (some .int)), op_X11_costOfAllDone, 0, 0, 1, 23)
def mt_X12_init : cv_M := ((RX12, yX12_init, cX12_init, 1, none), op_X12_init, 37, 2903, 2, 45)
def mt_X12_feed : cv_M := ((RX12, yX12_feed, cX12_feed, 8, (some .int)), op_X12_feed, 0, 0, 0, 0)
def mt_X12_isIn : cv_M := ((RX12, yX12_isIn, cX12_isIn, 3, (some .boolean)), op_X12_isIn, 0, 0, 0, 0)
def mt_X12_isOf : cv_M := ((RX12, yX12_isOf, cX12_isOf, 2, (some .boolean)), op_X12_isOf, 0, 0, 0, 0)
def mt_X12_sizeOf : cv_M := ((RX12, yX12_sizeOf, cX12_sizeOf, 1, (some .int)), op_X12_sizeOf, 0, 0, 0, 0)
def mt_X12_wrong : cv_M := ((RX12, yX12_wrong, cX12_wrong, 2, (some .boolean)), op_X12_wrong, 0, 0, 0, 0)
def mt_X12_wordAt : cv_M := ((RX12, yX12_wordAt, cX12_wordAt, 8, (some .int)), op_X12_wordAt, 0, 0, 0, 0)
def mt_X12_isSmall : cv_M := ((RX12, yX12_isSmall, cX12_isSmall, 2, (some .boolean)), op_X12_isSmall, 0, 0, 0, 0)
def mt_X12_isDigit : cv_M := ((RX12, yX12_isDigit, cX12_isDigit, 2, (some .boolean)), op_X12_isDigit, 0, 0, 0, 0)
def mt_X12_token : cv_M := ((RX12, yX12_token, cX12_token, 1, none), op_X12_token, 0, 0, 1, 27)
def mt_X12_signToken : cv_M := ((RX12, yX12_signToken, cX12_signToken, 4, none), op_X12_signToken, 0, 0, 0, 0)
def mt_X12_packed : cv_M := ((RX12, yX12_packed, cX12_packed, 5, (some .int)), op_X12_packed, 0, 0, 0, 0)
def mt_X12_isKey : cv_M := ((RX12, yX12_isKey, cX12_isKey, 2, (some .boolean)), op_X12_isKey, 0, 0, 0, 0)
def mt_X12_isSign : cv_M := ((RX12, yX12_isSign, cX12_isSign, 2, (some .boolean)), op_X12_isSign, 0, 0, 0, 0)
def mt_X12_number : cv_M := ((RX12, yX12_number, cX12_number, 3, (some .boolean)), op_X12_number, 0, 0, 2, 47)
def mt_X12_signed : cv_M := ((RX12, yX12_signed, cX12_signed, 3, (some .boolean)), op_X12_signed, 0, 0, 3, 69)
def mt_X12_numbers : cv_M := ((RX12, yX12_numbers, cX12_numbers, 7, (some .boolean)), op_X12_numbers, 0, 0, 3, 69)
def mt_X12_plain : cv_M := ((RX12, yX12_plain, cX12_plain, 2, none), op_X12_plain, 0, 0, 0, 0)
def mt_X12_copies : cv_M := ((RX12, yX12_copies, cX12_copies, 3, none), op_X12_copies, 0, 0, 0, 0)
def mt_X12_keepText : cv_M := ((RX12, yX12_keepText, cX12_keepText, 2, none), op_X12_keepText, 0, 0, 1, 24)
def mt_X12_find : cv_M := ((RX12, yX12_find, cX12_find, 5, (some .int)), op_X12_find, 0, 0, 0, 0)
def mt_X12_newName : cv_M := ((RX12, yX12_newName, cX12_newName, 4, (some .boolean)), op_X12_newName, 0, 0, 2, 47)
def mt_X12_groundLine : cv_M := ((RX12, yX12_groundLine, cX12_groundLine, 1, (some .boolean)), op_X12_groundLine, 0, 0, 4, 95)
def mt_X12_lawLine : cv_M := ((RX12, yX12_lawLine, cX12_lawLine, 3, (some .boolean)), op_X12_lawLine, 0, 0, 4, 88)
def mt_X12_hasWord : cv_M := ((RX12, yX12_hasWord, cX12_hasWord, 1, (some .int)), op_X12_hasWord, 0, 0, 1, 22)
def mt_X12_gateLine : cv_M := ((RX12, yX12_gateLine, cX12_gateLine, 4, (some .boolean)), op_X12_gateLine, 0, 0, 6, 134)
def mt_X12_hasRead : cv_M := ((RX12, yX12_hasRead, cX12_hasRead, 3, (some .boolean)), op_X12_hasRead, 0, 0, 5, 112)
def mt_X12_hooksRead : cv_M := ((RX12, yX12_hooksRead, cX12_hooksRead, 2, (some .boolean)), op_X12_hooksRead, 0, 0, 4, 91)
def mt_X12_causeRead : cv_M := ((RX12, yX12_causeRead, cX12_causeRead, 3, (some .boolean)), op_X12_causeRead, 0, 0, 2, 47)
def mt_X12_workWord : cv_M := ((RX12, yX12_workWord, cX12_workWord, 1, (some .int)), op_X12_workWord, 0, 0, 1, 22)
def mt_X12_mostOf : cv_M := ((RX12, yX12_mostOf, cX12_mostOf, 1, (some .int)), op_X12_mostOf, 0, 0, 0, 0)
def mt_X12_workLine : cv_M := ((RX12, yX12_workLine, cX12_workLine, 3, (some .boolean)), op_X12_workLine, 0, 0, 3, 70)
def mt_X12_causeLine : cv_M := ((RX12, yX12_causeLine, cX12_causeLine, 2, (some .boolean)), op_X12_causeLine, 0, 0, 3, 70)
def mt_X12_lineRead : cv_M := ((RX12, yX12_lineRead, cX12_lineRead, 2, (some .boolean)), op_X12_lineRead, 0, 0, 7, 157)
def mt_X12_text : cv_M := ((RX12, yX12_text, cX12_text, 3, (some .int)), op_X12_text, 0, 0, 8, 178)
def mt_X12_fault : cv_M := ((RX12, yX12_fault, cX12_fault, 2, (some .int)), op_X12_fault, 0, 0, 0, 0)
def mt_X12_named : cv_M := ((RX12, yX12_named, cX12_named, 3, (some .int)), op_X12_named, 0, 0, 1, 24)
def mt_X12_rank : cv_M := ((RX12, yX12_rank, cX12_rank, 1, (some .int)), op_X12_rank, 0, 0, 0, 0)
def mt_X12_grown : cv_M := ((RX12, yX12_grown, cX12_grown, 4, none), op_X12_grown, 0, 0, 0, 0)
def mt_X12_dropHeld : cv_M := ((RX12, yX12_dropHeld, cX12_dropHeld, 1, (some .int)), op_X12_dropHeld, 0, 0, 0, 0)
def mt_X12_bind : cv_M := ((RX12, yX12_bind, cX12_bind, 5, none), op_X12_bind, 0, 0, 1, 23)
def mt_X12_isCounted : cv_M := ((RX12, yX12_isCounted, cX12_isCounted, 1, (some .boolean)), op_X12_isCounted, 0, 0, 1, 21)
def mt_X12_waitsFor : cv_M := ((RX12, yX12_waitsFor, cX12_waitsFor, 2, none), op_X12_waitsFor, 0, 0, 0, 0)
def mt_X12_leafRead : cv_M := ((RX12, yX12_leafRead, cX12_leafRead, 2, (some .boolean)), op_X12_leafRead, 0, 0, 2, 47)
def mt_X12_signs : cv_M := ((RX12, yX12_signs, cX12_signs, 2, (some .boolean)), op_X12_signs, 0, 0, 2, 47)
def mt_X12_sumRead : cv_M := ((RX12, yX12_sumRead, cX12_sumRead, 1, (some .boolean)), op_X12_sumRead, 0, 0, 3, 68)
def mt_X12_lays : cv_M := ((RX12, yX12_lays, cX12_lays, 5, none), op_X12_lays, 0, 0, 0, 0)
def mt_X12_begins : cv_M := ((RX12, yX12_begins, cX12_begins, 3, none), op_X12_begins, 0, 0, 0, 0)
def mt_X12_loads : cv_M := ((RX12, yX12_loads, cX12_loads, 2, none), op_X12_loads, 0, 0, 1, 24)
def mt_X12_spanOf : cv_M := ((RX12, yX12_spanOf, cX12_spanOf, 2, (some .int)), op_X12_spanOf, 0, 0, 0, 0)
def mt_X12_pullOf : cv_M := ((RX12, yX12_pullOf, cX12_pullOf, 3, (some .int)), op_X12_pullOf, 0, 0, 1, 21)
def mt_X12_partOf : cv_M := ((RX12, yX12_partOf, cX12_partOf, 5, (some .int)), op_X12_partOf, 0, 0, 1, 21)
def mt_X12_dropOf : cv_M := ((RX12, yX12_dropOf, cX12_dropOf, 2, (some .int)), op_X12_dropOf, 0, 0, 2, 45)
def mt_X12_firmOf : cv_M := ((RX12, yX12_firmOf, cX12_firmOf, 2, (some .int)), op_X12_firmOf, 0, 0, 0, 0)
def mt_X12_bounded : cv_M := ((RX12, yX12_bounded, cX12_bounded, 3, (some .long)), op_X12_bounded, 0, 0, 0, 0)
def mt_X12_compares : cv_M := ((RX12, yX12_compares, cX12_compares, 5, (some .boolean)), op_X12_compares, 0, 0, 0, 0)
def mt_X12_times : cv_M := ((RX12, yX12_times, cX12_times, 6, (some .long)), op_X12_times, 0, 0, 0, 0)
def mt_X12_valueOf : cv_M := ((RX12, yX12_valueOf, cX12_valueOf, 6, (some .long)), op_X12_valueOf, 0, 0, 1, 25)
def mt_X12_layNames : cv_M := ((RX12, yX12_layNames, cX12_layNames, 4, none), op_X12_layNames, 0, 0, 3, 66)
def mt_X12_lawOf : cv_M := ((RX12, yX12_lawOf, cX12_lawOf, 3, (some .long)), op_X12_lawOf, 0, 0, 2, 50)
def mt_X12_goes : cv_M := ((RX12, yX12_goes, cX12_goes, 6, none), op_X12_goes, 0, 0, 4, 89)
def mt_X12_goesOn : cv_M := ((RX12, yX12_goesOn, cX12_goesOn, 4, none), op_X12_goesOn, 0, 0, 5, 114)
def mt_X12_isGate : cv_M := ((RX12, yX12_isGate, cX12_isGate, 2, (some .boolean)), op_X12_isGate, 0, 0, 0, 0)
def mt_X12_fails : cv_M := ((RX12, yX12_fails, cX12_fails, 2, (some .int)), op_X12_fails, 0, 0, 0, 0)
def mt_X12_look : cv_M := ((RX12, yX12_look, cX12_look, 3, (some .int)), op_X12_look, 0, 0, 2, 45)
def mt_X12_works : cv_M := ((RX12, yX12_works, cX12_works, 3, (some .int)), op_X12_works, 0, 0, 1, 22)
def mt_X12_firm : cv_M := ((RX12, yX12_firm, cX12_firm, 2, (some .int)), op_X12_firm, 0, 0, 1, 22)
def mt_X12_weeks : cv_M := ((RX12, yX12_weeks, cX12_weeks, 3, (some .int)), op_X12_weeks, 0, 0, 6, 137)
def mt_X12_sags : cv_M := ((RX12, yX12_sags, cX12_sags, 3, (some .int)), op_X12_sags, 0, 0, 3, 66)
def mt_X12_isLatched : cv_M := ((RX12, yX12_isLatched, cX12_isLatched, 3, (some .boolean)), op_X12_isLatched, 0, 0, 3, 66)
def mt_X12_latched : cv_M := ((RX12, yX12_latched, cX12_latched, 2, (some .int)), op_X12_latched, 0, 0, 4, 88)
def mt_X12_gives : cv_M := ((RX12, yX12_gives, cX12_gives, 4, (some .int)), op_X12_gives, 0, 0, 2, 45)
def mt_X12_does : cv_M := ((RX12, yX12_does, cX12_does, 3, none), op_X12_does, 0, 0, 0, 0)
def mt_X12_work : cv_M := ((RX12, yX12_work, cX12_work, 4, (some .boolean)), op_X12_work, 0, 0, 2, 45)
def mt_X12_undo : cv_M := ((RX12, yX12_undo, cX12_undo, 1, (some .int)), op_X12_undo, 0, 0, 1, 24)
def mt_X12_isBound : cv_M := ((RX12, yX12_isBound, cX12_isBound, 1, (some .boolean)), op_X12_isBound, 0, 0, 1, 22)
def mt_X12_lasts : cv_M := ((RX12, yX12_lasts, cX12_lasts, 5, (some .int)), op_X12_lasts, 0, 0, 5, 114)
def mt_X12_costOf : cv_M := ((RX12, yX12_costOf, cX12_costOf, 4, (some .int)), op_X12_costOf, 0, 0, 1, 21)
def mt_X12_least : cv_M := ((RX12, yX12_least, cX12_least, 8, (some .int)), op_X12_least, 0, 0, 6, 137)
def mt_X12_dropBy : cv_M := ((RX12, yX12_dropBy, cX12_dropBy, 4, (some .int)), op_X12_dropBy, 0, 0, 6, 137)
def mt_X12_way : cv_M := ((RX12, yX12_way, cX12_way, 4, (some .int)), op_X12_way, 0, 0, 7, 160)
def mt_X12_enough : cv_M := ((RX12, yX12_enough, cX12_enough, 5, (some .int)), op_X12_enough, 0, 0, 6, 137)
def mt_X12_bears : cv_M := ((RX12, yX12_bears, cX12_bears, 5, (some .int)), op_X12_bears, 0, 0, 6, 137)
def mt_X12_knock : cv_M := ((RX12, yX12_knock, cX12_knock, 5, (some .long)), op_X12_knock, 0, 0, 4, 89)
def mt_X12_measure : cv_M := ((RX12, yX12_measure, cX12_measure, 6, (some .int)), op_X12_measure, 0, 0, 1, 22)
def mt_X12_strike : cv_M := ((RX12, yX12_strike, cX12_strike, 2, (some .int)), op_X12_strike, 0, 0, 0, 0)
def mt_X12_known : cv_M := ((RX12, yX12_known, cX12_known, 2, (some .boolean)), op_X12_known, 0, 0, 1, 22)
def mt_X12_knownMany : cv_M := ((RX12, yX12_knownMany, cX12_knownMany, 1, (some .int)), op_X12_knownMany, 0, 0, 0, 0)
def mt_X12_layCounts : cv_M := ((RX12, yX12_layCounts, cX12_layCounts, 2, none), op_X12_layCounts, 0, 0, 1, 20)
def mt_X12_beginsBy : cv_M := ((RX12, yX12_beginsBy, cX12_beginsBy, 3, none), op_X12_beginsBy, 0, 0, 1, 22)
def mt_X12_valueNow : cv_M := ((RX12, yX12_valueNow, cX12_valueNow, 3, (some .int)), op_X12_valueNow, 0, 0, 3, 66)
def mt_X12_isSo : cv_M := ((RX12, yX12_isSo, cX12_isSo, 4, (some .boolean)), op_X12_isSo, 0, 0, 4, 88)
def mt_X12_isFit : cv_M := ((RX12, yX12_isFit, cX12_isFit, 6, (some .boolean)), op_X12_isFit, 0, 0, 5, 114)
def mt_X12_fitting : cv_M := ((RX12, yX12_fitting, cX12_fitting, 4, (some .int)), op_X12_fitting, 0, 0, 6, 139)
def mt_X12_fits : cv_M := ((RX12, yX12_fits, cX12_fits, 2, (some .int)), op_X12_fits, 0, 0, 7, 162)
def mt_X12_weightOf : cv_M := ((RX12, yX12_weightOf, cX12_weightOf, 2, (some .int)), op_X12_weightOf, 0, 0, 0, 0)
def mt_X12_common : cv_M := ((RX12, yX12_common, cX12_common, 5, (some .int)), op_X12_common, 0, 0, 0, 0)
def mt_X12_odds : cv_M := ((RX12, yX12_odds, cX12_odds, 7, (some .int)), op_X12_odds, 0, 0, 7, 162)
def mt_X12_heaviest : cv_M := ((RX12, yX12_heaviest, cX12_heaviest, 8, (some .int)), op_X12_heaviest, 0, 0, 5, 114)
def mt_X12_test : cv_M := ((RX12, yX12_test, cX12_test, 9, (some .int)), op_X12_test, 0, 0, 7, 162)
def mt_X12_lowOf : cv_M := ((RX12, yX12_lowOf, cX12_lowOf, 5, (some .int)), op_X12_lowOf, 0, 0, 1, 21)
def mt_X12_isAngle : cv_M := ((RX12, yX12_isAngle, cX12_isAngle, 2, (some .boolean)), op_X12_isAngle, 0, 0, 1, 22)
def mt_X12_low : cv_M := ((RX12, yX12_low, cX12_low, 3, (some .int)), op_X12_low, 0, 0, 2, 45)
def mt_X12_rest : cv_M := ((RX12, yX12_rest, cX12_rest, 4, (some .int)), op_X12_rest, 0, 0, 2, 45)
def mt_X12_shutsFrom : cv_M := ((RX12, yX12_shutsFrom, cX12_shutsFrom, 4, (some .int)), op_X12_shutsFrom, 0, 0, 2, 45)
def mt_X12_shuts : cv_M := ((RX12, yX12_shuts, cX12_shuts, 2, (some .int)), op_X12_shuts, 0, 0, 3, 68)
def mt_X12_aboveOf : cv_M := ((RX12, yX12_aboveOf, cX12_aboveOf, 5, (some .int)), op_X12_aboveOf, 0, 0, 3, 66)
def mt_X12_above : cv_M := ((RX12, yX12_above, cX12_above, 3, (some .int)), op_X12_above, 0, 0, 4, 90)
def mt_X12_opensTo : cv_M := ((RX12, yX12_opensTo, cX12_opensTo, 3, (some .int)), op_X12_opensTo, 0, 0, 4, 90)
def mt_X12_opens : cv_M := ((RX12, yX12_opens, cX12_opens, 2, (some .int)), op_X12_opens, 0, 0, 5, 112)
def mt_X12_stand : cv_M := ((RX12, yX12_stand, cX12_stand, 12, (some .int)), op_X12_stand, 0, 0, 5, 112)
def mt_X12_nextOrder : cv_M := ((RX12, yX12_nextOrder, cX12_nextOrder, 7, (some .boolean)), op_X12_nextOrder, 0, 0, 0, 0)
def mt_X12_weekOfAll : cv_M := ((RX12, yX12_weekOfAll, cX12_weekOfAll, 4, (some .int)), op_X12_weekOfAll, 0, 0, 5, 114)
def mt_X12_sumBy : cv_M := ((RX12, yX12_sumBy, cX12_sumBy, 5, (some .int)), op_X12_sumBy, 0, 0, 6, 137)
def mt_X12_first : cv_M := ((RX12, yX12_first, cX12_first, 7, (some .int)), op_X12_first, 0, 0, 7, 161)
def mt_X12_wind : cv_M := ((RX12, yX12_wind, cX12_wind, 12, (some .int)), op_X12_wind, 0, 0, 5, 114)
def mt_X12_keep : cv_M := ((RX12, yX12_keep, cX12_keep, 2, (some .int)), op_X12_keep, 0, 0, 1, 24)
def mt_X12_back : cv_M := ((RX12, yX12_back, cX12_back, 2, (some .int)), op_X12_back, 0, 0, 1, 24)
def mt_X12_count : cv_M := ((RX12, yX12_count, cX12_count, 4, (some .int)), op_X12_count, 0, 0, 2, 44)
def mt_J6_bitCount_0f7a4 : cv_M := ((RJ6, yJ6_bitCount_0f7a4, cJ6_bitCount_0f7a4, 1, (some .int)), op_J6_bitCount_0f7a4, 0, 0, 0, 0)
def mt_J0_length_8abf5 : cv_M := ((RJ0, yJ0_length_8abf5, cJ0_length_8abf5, 1, (some .int)), op_J0_length_8abf5, 0, 0, 1, 20)
def mt_J0_charAt_5068e : cv_M := ((RJ0, yJ0_charAt_5068e, cJ0_charAt_5068e, 2, (some .char)), op_J0_charAt_5068e, 0, 0, 3, 64)
def mt_J0_coder_7d493 : cv_M := ((RJ0, yJ0_coder_7d493, cJ0_coder_7d493, 1, (some .byte)), op_J0_coder_7d493, 0, 0, 0, 0)
def mt_J0_isLatin1_aae02 : cv_M := ((RJ0, yJ0_isLatin1_aae02, cJ0_isLatin1_aae02, 1, (some .boolean)), op_J0_isLatin1_aae02, 0, 0, 0, 0)
def mt_J0_checkIndex_df160 : cv_M := ((RJ0, yJ0_checkIndex_df160, cJ0_checkIndex_df160, 2, none), op_J0_checkIndex_df160, 0, 0, 1, 22)
def mt_J1_charAt_3b067 : cv_M := ((RJ1, yJ1_charAt_3b067, cJ1_charAt_3b067, 2, (some .char)), op_J1_charAt_3b067, 0, 0, 2, 43)
def mt_J3_checkIndex_8e157 : cv_M := ((RJ3, yJ3_checkIndex_8e157, cJ3_checkIndex_8e157, 3, (some .int)), op_J3_checkIndex_8e157, 0, 0, 0, 0)
def mt_L_law : cv_M := ((RL, yL_law, cL_law, 7, some .boolean), op_L_law, 601024, 7293034, 11, 406)
def mt_none : cv_M := (("", ⟨"", "", ""⟩, ⟨#[]⟩, 0, none), [], 0, 0, 0, 0)
def mt_all (j : Nat) : cv_M := match j with
  | 0 => mt_X0_init
  | 1 => mt_X0_readInto
  | 2 => mt_X0_readValue
  | 3 => mt_X0_openParen
  | 4 => mt_X0_valueKnot
  | 5 => mt_X0_nameOf
  | 6 => mt_X0_readJoint
  | 7 => mt_X0_signOf
  | 8 => mt_X0_rankOf
  | 9 => mt_X0_holdKnot
  | 10 => mt_X0_hold
  | 11 => mt_X0_latestHeld
  | 12 => mt_X0_release
  | 13 => mt_X1_init
  | 14 => mt_X1_begin
  | 15 => mt_X1_setCauses
  | 16 => mt_X1_copy
  | 17 => mt_X1_pull
  | 18 => mt_X1_leanPart
  | 19 => mt_X1_hooksPart
  | 20 => mt_X1_drop
  | 21 => mt_X1_measured
  | 22 => mt_X1_isLatched
  | 23 => mt_X1_take
  | 24 => mt_X1_grow
  | 25 => mt_X1_lowHung
  | 26 => mt_X1_aboveHung
  | 27 => mt_X1_standsWith
  | 28 => mt_X2_init
  | 29 => mt_X2_forget
  | 30 => mt_X2_put
  | 31 => mt_X2_see
  | 32 => mt_X2_pass
  | 33 => mt_X2_refresh
  | 34 => mt_X2_workOut
  | 35 => mt_X2_valueOf
  | 36 => mt_X2_join
  | 37 => mt_X2_bounded
  | 38 => mt_X2_times
  | 39 => mt_X2_by
  | 40 => mt_X3_init
  | 41 => mt_X3_clear
  | 42 => mt_X3_knownCount
  | 43 => mt_X3_add
  | 44 => mt_X3_addStrike
  | 45 => mt_X3_pick
  | 46 => mt_X3_findStruck
  | 47 => mt_X3_agree
  | 48 => mt_X4_init
  | 49 => mt_X4_clear
  | 50 => mt_X4_isWork
  | 51 => mt_X4_isCause
  | 52 => mt_X4_isLaw
  | 53 => mt_X4_firmIn
  | 54 => mt_X4_growthNames
  | 55 => mt_X4_costOf
  | 56 => mt_X4_moreBy
  | 57 => mt_X4_weightOf
  | 58 => mt_X4_addCode
  | 59 => mt_X5_init
  | 60 => mt_X5_readText
  | 61 => mt_X5_fail
  | 62 => mt_X5_readSemicolon
  | 63 => mt_X5_readNumber
  | 64 => mt_X5_readNewName
  | 65 => mt_X5_readGround
  | 66 => mt_X5_readLaw
  | 67 => mt_X5_readGate
  | 68 => mt_X5_readPart
  | 69 => mt_X5_readBrace
  | 70 => mt_X5_readHas
  | 71 => mt_X5_readWork
  | 72 => mt_X5_kindOf
  | 73 => mt_X5_mostOf
  | 74 => mt_X5_readCause
  | 75 => mt_X6_init
  | 76 => mt_X6_letterBits
  | 77 => mt_X6_begin
  | 78 => mt_X6_step
  | 79 => mt_X6_readLetters
  | 80 => mt_X6_readDigits
  | 81 => mt_X6_readSign
  | 82 => mt_X6_takes
  | 83 => mt_X6_isWord
  | 84 => mt_X6_isWordFrom
  | 85 => mt_X7_init
  | 86 => mt_X7_clear
  | 87 => mt_X7_setHeight
  | 88 => mt_X7_span
  | 89 => mt_X8_init
  | 90 => mt_X8_judge
  | 91 => mt_X8_record
  | 92 => mt_X8_recorded
  | 93 => mt_X8_weightOfFitting
  | 94 => mt_X8_heaviestGroup
  | 95 => mt_X9_init
  | 96 => mt_X9_tell
  | 97 => mt_X9_choose
  | 98 => mt_X9_sumOf
  | 99 => mt_X9_gateAt
  | 100 => mt_X10_init
  | 101 => mt_X10_clear
  | 102 => mt_X10_push
  | 103 => mt_X10_dropEarliest
  | 104 => mt_X10_latestGate
  | 105 => mt_X10_popInto
  | 106 => mt_X11_init
  | 107 => mt_X11_feed
  | 108 => mt_X11_putOnTape
  | 109 => mt_X11_text
  | 110 => mt_X11_takeSpare
  | 111 => mt_X11_fault
  | 112 => mt_X11_named
  | 113 => mt_X11_placeOf
  | 114 => mt_X11_isGate
  | 115 => mt_X11_isBound
  | 116 => mt_X11_isAhead
  | 117 => mt_X11_isAngle
  | 118 => mt_X11_isWeek
  | 119 => mt_X11_works
  | 120 => mt_X11_firm
  | 121 => mt_X11_weeks
  | 122 => mt_X11_sags
  | 123 => mt_X11_latched
  | 124 => mt_X11_gives
  | 125 => mt_X11_work
  | 126 => mt_X11_undo
  | 127 => mt_X11_lasts
  | 128 => mt_X11_least
  | 129 => mt_X11_holds
  | 130 => mt_X11_way
  | 131 => mt_X11_dropWithBrace
  | 132 => mt_X11_enough
  | 133 => mt_X11_bears
  | 134 => mt_X11_knock
  | 135 => mt_X11_measure
  | 136 => mt_X11_strike
  | 137 => mt_X11_known
  | 138 => mt_X11_fits
  | 139 => mt_X11_odds
  | 140 => mt_X11_test
  | 141 => mt_X11_low
  | 142 => mt_X11_rest
  | 143 => mt_X11_shuts
  | 144 => mt_X11_above
  | 145 => mt_X11_opens
  | 146 => mt_X11_stand
  | 147 => mt_X11_first
  | 148 => mt_X11_unlatchedWeeks
  | 149 => mt_X11_wind
  | 150 => mt_X11_keep
  | 151 => mt_X11_back
  | 152 => mt_X11_count
  | 153 => mt_X11_costOfAllDone
  | 154 => mt_X12_init
  | 155 => mt_X12_feed
  | 156 => mt_X12_isIn
  | 157 => mt_X12_isOf
  | 158 => mt_X12_sizeOf
  | 159 => mt_X12_wrong
  | 160 => mt_X12_wordAt
  | 161 => mt_X12_isSmall
  | 162 => mt_X12_isDigit
  | 163 => mt_X12_token
  | 164 => mt_X12_signToken
  | 165 => mt_X12_packed
  | 166 => mt_X12_isKey
  | 167 => mt_X12_isSign
  | 168 => mt_X12_number
  | 169 => mt_X12_signed
  | 170 => mt_X12_numbers
  | 171 => mt_X12_plain
  | 172 => mt_X12_copies
  | 173 => mt_X12_keepText
  | 174 => mt_X12_find
  | 175 => mt_X12_newName
  | 176 => mt_X12_groundLine
  | 177 => mt_X12_lawLine
  | 178 => mt_X12_hasWord
  | 179 => mt_X12_gateLine
  | 180 => mt_X12_hasRead
  | 181 => mt_X12_hooksRead
  | 182 => mt_X12_causeRead
  | 183 => mt_X12_workWord
  | 184 => mt_X12_mostOf
  | 185 => mt_X12_workLine
  | 186 => mt_X12_causeLine
  | 187 => mt_X12_lineRead
  | 188 => mt_X12_text
  | 189 => mt_X12_fault
  | 190 => mt_X12_named
  | 191 => mt_X12_rank
  | 192 => mt_X12_grown
  | 193 => mt_X12_dropHeld
  | 194 => mt_X12_bind
  | 195 => mt_X12_isCounted
  | 196 => mt_X12_waitsFor
  | 197 => mt_X12_leafRead
  | 198 => mt_X12_signs
  | 199 => mt_X12_sumRead
  | 200 => mt_X12_lays
  | 201 => mt_X12_begins
  | 202 => mt_X12_loads
  | 203 => mt_X12_spanOf
  | 204 => mt_X12_pullOf
  | 205 => mt_X12_partOf
  | 206 => mt_X12_dropOf
  | 207 => mt_X12_firmOf
  | 208 => mt_X12_bounded
  | 209 => mt_X12_compares
  | 210 => mt_X12_times
  | 211 => mt_X12_valueOf
  | 212 => mt_X12_layNames
  | 213 => mt_X12_lawOf
  | 214 => mt_X12_goes
  | 215 => mt_X12_goesOn
  | 216 => mt_X12_isGate
  | 217 => mt_X12_fails
  | 218 => mt_X12_look
  | 219 => mt_X12_works
  | 220 => mt_X12_firm
  | 221 => mt_X12_weeks
  | 222 => mt_X12_sags
  | 223 => mt_X12_isLatched
  | 224 => mt_X12_latched
  | 225 => mt_X12_gives
  | 226 => mt_X12_does
  | 227 => mt_X12_work
  | 228 => mt_X12_undo
  | 229 => mt_X12_isBound
  | 230 => mt_X12_lasts
  | 231 => mt_X12_costOf
  | 232 => mt_X12_least
  | 233 => mt_X12_dropBy
  | 234 => mt_X12_way
  | 235 => mt_X12_enough
  | 236 => mt_X12_bears
  | 237 => mt_X12_knock
  | 238 => mt_X12_measure
  | 239 => mt_X12_strike
  | 240 => mt_X12_known
  | 241 => mt_X12_knownMany
  | 242 => mt_X12_layCounts
  | 243 => mt_X12_beginsBy
  | 244 => mt_X12_valueNow
  | 245 => mt_X12_isSo
  | 246 => mt_X12_isFit
  | 247 => mt_X12_fitting
  | 248 => mt_X12_fits
  | 249 => mt_X12_weightOf
  | 250 => mt_X12_common
  | 251 => mt_X12_odds
  | 252 => mt_X12_heaviest
  | 253 => mt_X12_test
  | 254 => mt_X12_lowOf
  | 255 => mt_X12_isAngle
  | 256 => mt_X12_low
  | 257 => mt_X12_rest
  | 258 => mt_X12_shutsFrom
  | 259 => mt_X12_shuts
  | 260 => mt_X12_aboveOf
  | 261 => mt_X12_above
  | 262 => mt_X12_opensTo
  | 263 => mt_X12_opens
  | 264 => mt_X12_stand
  | 265 => mt_X12_nextOrder
  | 266 => mt_X12_weekOfAll
  | 267 => mt_X12_sumBy
  | 268 => mt_X12_first
  | 269 => mt_X12_wind
  | 270 => mt_X12_keep
  | 271 => mt_X12_back
  | 272 => mt_X12_count
  | 273 => mt_J6_bitCount_0f7a4
  | 274 => mt_J0_length_8abf5
  | 275 => mt_J0_charAt_5068e
  | 276 => mt_J0_coder_7d493
  | 277 => mt_J0_isLatin1_aae02
  | 278 => mt_J0_checkIndex_df160
  | 279 => mt_J1_charAt_3b067
  | 280 => mt_J3_checkIndex_8e157
  | 281 => mt_L_law
  | _ => mt_none
def fk_all : cv_F := [[4, 4, 0, 0, 0, 2, 2, 4], [4, 0, 0, 0, 0, 0, 0, 0, 0, 0, 0, 0, 0, 0, 0, 0, 0], [4, 4, 4, 0, 2], [4, 4, 4, 4, 4, 4, 4, 4, 0, 0, 0], [4, 4, 0, 0, 4, 4, 4, 4, 4, 0, 4, 4, 4, 4, 0, 4, 4, 4, 4, 0], [4, 4, 4, 2, 0, 0], [4, 4, 0, 0, 0, 0, 0], [0, 0, 0, 0, 0, 0, 0, 0, 0, 0, 0, 0, 0, 0, 0, 0, 4], [4, 4, 0], [4, 4, 4, 0], [4, 4, 0], [4, 0, 4, 4, 4, 4, 4, 4, 0, 4, 0, 4, 4, 4, 4, 4], [4, 0, 0, 4, 0, 0, 0, 0, 0, 0, 0, 0, 0, 0, 0, 0, 0, 0, 0, 0, 2, 4, 4, 4, 4, 4, 4, 4, 4, 4, 4, 4, 4, 4, 4, 4, 4, 0, 0, 0, 0, 2, 2, 0, 4, 4, 4, 4, 2, 4, 0, 4, 0, 0, 4, 4, 4, 4, 4, 4, 4, 4, 4, 4, 4, 4, 2, 0, 4]]
