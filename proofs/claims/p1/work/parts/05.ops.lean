def op_X0_init : List av_Q := [
  (0, .aload_n 0, 1, 0, 0, 0), (1, .invokespecial 3, 3, 9999, 0, 0), (4, .aload_n 0, 1, 0, 0, 0), (5, .bipush 73, 2, 0, 0, 0),
  (7, .newarray .int, 2, 0, 0, 0), (9, .putfield 9, 3, 0, 1, 4), (12, .aload_n 0, 1, 0, 0, 0), (13, .aload_n 1, 1, 0, 0, 0),
  (14, .putfield 15, 3, 0, 0, 4), (17, .aload_n 0, 1, 0, 0, 0), (18, .aload_n 2, 1, 0, 0, 0), (19, .putfield 19, 3, 0, 7, 4),
  (22, .return_, 1, 0, 0, 0)]
def op_X1_init : List av_Q := [
  (0, .aload_n 0, 1, 0, 0, 0), (1, .invokespecial 3, 3, 9999, 0, 0), (4, .aload_n 0, 1, 0, 0, 0), (5, .aload_n 1, 1, 0, 0, 0),
  (6, .putfield 9, 3, 1, 0, 4), (9, .return_, 1, 0, 0, 0)]
def op_X1_begin : List av_Q := [
  (0, .iload_n 2, 1, 0, 0, 0), (1, .ifCond .lt 12, 3, 0, 0, 0), (4, .iload_n 2, 1, 0, 0, 0), (5, .aload_n 1, 1, 0, 0, 0),
  (6, .getfield 15, 3, 4, 7, 4), (9, .arraylength, 1, 0, 0, 0), (10, .if_icmp .lt 4, 3, 0, 0, 0), (14, .aload_n 0, 1, 0, 0, 0),
  (15, .aload_n 1, 1, 0, 0, 0), (16, .getfield 15, 3, 4, 7, 4), (19, .iload_n 2, 1, 0, 0, 0), (20, .aaload, 1, 0, 0, 0),
  (21, .putfield 9, 3, 1, 0, 4), (24, .aload_n 0, 1, 0, 0, 0), (25, .iconst 0, 1, 0, 0, 0), (26, .putfield 21, 3, 1, 1, 0),
  (29, .aload_n 0, 1, 0, 0, 0), (30, .iconst 0, 1, 0, 0, 0), (31, .putfield 25, 3, 1, 2, 0), (34, .aload_n 0, 1, 0, 0, 0),
  (35, .iconst 0, 1, 0, 0, 0), (36, .putfield 28, 3, 1, 3, 0), (39, .aload_n 0, 1, 0, 0, 0), (40, .iconst 0, 1, 0, 0, 0),
  (41, .putfield 31, 3, 1, 4, 0), (44, .aload_n 0, 1, 0, 0, 0), (45, .aload_n 0, 1, 0, 0, 0), (46, .getfield 9, 3, 1, 0, 4),
  (49, .getfield 34, 3, 7, 7, 0), (52, .putfield 39, 3, 1, 5, 0), (55, .aload_n 0, 1, 0, 0, 0), (56, .aload_n 0, 1, 0, 0, 0),
  (57, .getfield 9, 3, 1, 0, 4), (60, .getfield 40, 3, 7, 9, 0), (63, .putfield 43, 3, 1, 6, 0), (66, .aload_n 0, 1, 0, 0, 0),
  (67, .iconst 0, 1, 0, 0, 0), (68, .putfield 44, 3, 1, 7, 0), (71, .aload_n 0, 1, 0, 0, 0), (72, .iconst 0, 1, 0, 0, 0),
  (73, .putfield 47, 3, 1, 8, 0), (76, .aload_n 0, 1, 0, 0, 0), (77, .aload_n 0, 1, 0, 0, 0), (78, .getfield 9, 3, 1, 0, 4),
  (81, .getfield 50, 3, 7, 12, 0), (84, .putfield 53, 3, 1, 9, 0), (87, .aload_n 0, 1, 0, 0, 0), (88, .iconst 0, 1, 0, 0, 0),
  (89, .putfield 54, 3, 1, 10, 0), (92, .aload_n 0, 1, 0, 0, 0), (93, .aload_n 0, 1, 0, 0, 0), (94, .getfield 9, 3, 1, 0, 4),
  (97, .getfield 57, 3, 7, 5, 0), (100, .putfield 60, 3, 1, 15, 0), (103, .aload_n 0, 1, 0, 0, 0), (104, .aload_n 0, 1, 0, 0, 0),
  (105, .getfield 9, 3, 1, 0, 4), (108, .getfield 61, 3, 7, 6, 0), (111, .putfield 64, 3, 1, 16, 0), (114, .aload_n 0, 1, 0, 0, 0),
  (115, .aload_n 1, 1, 0, 0, 0), (116, .aload_n 0, 1, 0, 0, 0), (117, .getfield 9, 3, 1, 0, 4), (120, .getfield 65, 3, 7, 14, 0),
  (123, .invokevirtual 68, 3, 3, 2, 1), (126, .return_, 1, 0, 0, 0)]
def op_X1_setCauses : List av_Q := [
  (0, .aload_n 0, 1, 0, 0, 0), (1, .iload_n 2, 1, 0, 0, 0), (2, .putfield 72, 3, 1, 11, 0), (5, .aload_n 0, 1, 0, 0, 0),
  (6, .aload_n 1, 1, 0, 0, 0), (7, .iload_n 2, 1, 0, 0, 0), (8, .iconst 0, 1, 0, 0, 0), (9, .invokevirtual 73, 3, 14, 2, 4),
  (12, .putfield 77, 3, 1, 12, 0), (15, .aload_n 0, 1, 0, 0, 0), (16, .aload_n 1, 1, 0, 0, 0), (17, .iload_n 2, 1, 0, 0, 0),
  (18, .iconst 1, 1, 0, 0, 0), (19, .invokevirtual 73, 3, 14, 2, 4), (22, .putfield 80, 3, 1, 13, 0), (25, .aload_n 0, 1, 0, 0, 0),
  (26, .aload_n 1, 1, 0, 0, 0), (27, .iload_n 2, 1, 0, 0, 0), (28, .iconst 2, 1, 0, 0, 0), (29, .invokevirtual 73, 3, 14, 2, 4),
  (32, .putfield 83, 3, 1, 14, 0), (35, .return_, 1, 0, 0, 0)]
def op_X1_copy : List av_Q := [
  (0, .aload_n 0, 1, 0, 0, 0), (1, .aload_n 1, 1, 0, 0, 0), (2, .getfield 9, 3, 1, 0, 4), (5, .putfield 9, 3, 1, 0, 4),
  (8, .aload_n 0, 1, 0, 0, 0), (9, .aload_n 1, 1, 0, 0, 0), (10, .getfield 21, 3, 1, 1, 0), (13, .putfield 21, 3, 1, 1, 0),
  (16, .aload_n 0, 1, 0, 0, 0), (17, .aload_n 1, 1, 0, 0, 0), (18, .getfield 25, 3, 1, 2, 0), (21, .putfield 25, 3, 1, 2, 0),
  (24, .aload_n 0, 1, 0, 0, 0), (25, .aload_n 1, 1, 0, 0, 0), (26, .getfield 28, 3, 1, 3, 0), (29, .putfield 28, 3, 1, 3, 0),
  (32, .aload_n 0, 1, 0, 0, 0), (33, .aload_n 1, 1, 0, 0, 0), (34, .getfield 31, 3, 1, 4, 0), (37, .putfield 31, 3, 1, 4, 0),
  (40, .aload_n 0, 1, 0, 0, 0), (41, .aload_n 1, 1, 0, 0, 0), (42, .getfield 39, 3, 1, 5, 0), (45, .putfield 39, 3, 1, 5, 0),
  (48, .aload_n 0, 1, 0, 0, 0), (49, .aload_n 1, 1, 0, 0, 0), (50, .getfield 43, 3, 1, 6, 0), (53, .putfield 43, 3, 1, 6, 0),
  (56, .aload_n 0, 1, 0, 0, 0), (57, .aload_n 1, 1, 0, 0, 0), (58, .getfield 44, 3, 1, 7, 0), (61, .putfield 44, 3, 1, 7, 0),
  (64, .aload_n 0, 1, 0, 0, 0), (65, .aload_n 1, 1, 0, 0, 0), (66, .getfield 47, 3, 1, 8, 0), (69, .putfield 47, 3, 1, 8, 0),
  (72, .aload_n 0, 1, 0, 0, 0), (73, .aload_n 1, 1, 0, 0, 0), (74, .getfield 53, 3, 1, 9, 0), (77, .putfield 53, 3, 1, 9, 0),
  (80, .aload_n 0, 1, 0, 0, 0), (81, .aload_n 1, 1, 0, 0, 0), (82, .getfield 54, 3, 1, 10, 0), (85, .putfield 54, 3, 1, 10, 0),
  (88, .aload_n 0, 1, 0, 0, 0), (89, .aload_n 1, 1, 0, 0, 0), (90, .getfield 72, 3, 1, 11, 0), (93, .putfield 72, 3, 1, 11, 0),
  (96, .aload_n 0, 1, 0, 0, 0), (97, .aload_n 1, 1, 0, 0, 0), (98, .getfield 77, 3, 1, 12, 0), (101, .putfield 77, 3, 1, 12, 0),
  (104, .aload_n 0, 1, 0, 0, 0), (105, .aload_n 1, 1, 0, 0, 0), (106, .getfield 80, 3, 1, 13, 0), (109, .putfield 80, 3, 1, 13, 0),
  (112, .aload_n 0, 1, 0, 0, 0), (113, .aload_n 1, 1, 0, 0, 0), (114, .getfield 83, 3, 1, 14, 0), (117, .putfield 83, 3, 1, 14, 0),
  (120, .aload_n 0, 1, 0, 0, 0), (121, .aload_n 1, 1, 0, 0, 0), (122, .getfield 60, 3, 1, 15, 0), (125, .putfield 60, 3, 1, 15, 0),
  (128, .aload_n 0, 1, 0, 0, 0), (129, .aload_n 1, 1, 0, 0, 0), (130, .getfield 64, 3, 1, 16, 0), (133, .putfield 64, 3, 1, 16, 0),
  (136, .return_, 1, 0, 0, 0)]
def op_X2_init : List av_Q := [
  (0, .aload_n 0, 1, 0, 0, 0), (1, .invokespecial 3, 3, 9999, 0, 0), (4, .aload_n 0, 1, 0, 0, 0), (5, .bipush 10, 2, 0, 0, 0),
  (7, .newarray .long, 2, 3, 0, 0), (9, .putfield 9, 3, 2, 0, 4), (12, .aload_n 0, 1, 0, 0, 0), (13, .bipush 64, 2, 0, 0, 0),
  (15, .newarray .long, 2, 3, 0, 0), (17, .putfield 15, 3, 2, 1, 4), (20, .aload_n 0, 1, 0, 0, 0), (21, .iconst 3, 1, 0, 0, 0),
  (22, .newarray .int, 2, 0, 0, 0), (24, .putfield 18, 3, 2, 2, 4), (27, .aload_n 0, 1, 0, 0, 0), (28, .iconst (-1), 1, 0, 0, 0),
  (29, .putfield 22, 3, 2, 3, 0), (32, .return_, 1, 0, 0, 0)]
def op_X2_forget : List av_Q := [
  (0, .aload_n 0, 1, 0, 0, 0), (1, .iconst (-1), 1, 0, 0, 0), (2, .putfield 22, 3, 2, 3, 0), (5, .iconst 0, 1, 0, 0, 0),
  (6, .istore_n 1, 1, 0, 0, 0), (7, .iload_n 1, 1, 0, 0, 0), (8, .iconst 3, 1, 0, 0, 0), (9, .if_icmp .ge 16, 3, 0, 0, 0),
  (12, .aload_n 0, 1, 0, 0, 0), (13, .getfield 18, 3, 2, 2, 4), (16, .iload_n 1, 1, 0, 0, 0), (17, .iconst 0, 1, 0, 0, 0),
  (18, .iastore, 1, 0, 0, 0), (19, .iinc 1 1, 3, 0, 0, 0), (22, .goto (-15), 3, 0, 0, 0), (25, .return_, 1, 0, 0, 0)]
def op_X3_init : List av_Q := [
  (0, .aload_n 0, 1, 0, 0, 0), (1, .invokespecial 3, 3, 9999, 0, 0), (4, .aload_n 0, 1, 0, 0, 0), (5, .bipush 40, 2, 0, 0, 0),
  (7, .newarray .int, 2, 0, 0, 0), (9, .putfield 9, 3, 3, 0, 4), (12, .aload_n 0, 1, 0, 0, 0), (13, .bipush 40, 2, 0, 0, 0),
  (15, .newarray .int, 2, 0, 0, 0), (17, .putfield 15, 3, 3, 1, 4), (20, .aload_n 0, 1, 0, 0, 0), (21, .bipush 40, 2, 0, 0, 0),
  (23, .newarray .int, 2, 0, 0, 0), (25, .putfield 18, 3, 3, 2, 4), (28, .aload_n 0, 1, 0, 0, 0), (29, .bipush 40, 2, 0, 0, 0),
  (31, .newarray .int, 2, 0, 0, 0), (33, .putfield 21, 3, 3, 3, 4), (36, .aload_n 0, 1, 0, 0, 0), (37, .bipush 40, 2, 0, 0, 0),
  (39, .newarray .int, 2, 0, 0, 0), (41, .putfield 24, 3, 3, 4, 4), (44, .aload_n 0, 1, 0, 0, 0), (45, .bipush 40, 2, 0, 0, 0),
  (47, .newarray .int, 2, 0, 0, 0), (49, .putfield 27, 3, 3, 5, 4), (52, .aload_n 0, 1, 0, 0, 0), (53, .bipush 40, 2, 0, 0, 0),
  (55, .newarray .boolean, 2, 2, 0, 0), (57, .putfield 30, 3, 3, 6, 4), (60, .aload_n 0, 1, 0, 0, 0), (61, .bipush 40, 2, 0, 0, 0),
  (63, .newarray .int, 2, 0, 0, 0), (65, .putfield 34, 3, 3, 7, 4), (68, .aload_n 0, 1, 0, 0, 0), (69, .iconst (-1), 1, 0, 0, 0),
  (70, .putfield 37, 3, 3, 10, 0), (73, .return_, 1, 0, 0, 0)]
def op_X3_clear : List av_Q := [
  (0, .aload_n 0, 1, 0, 0, 0), (1, .iconst 0, 1, 0, 0, 0), (2, .putfield 41, 3, 3, 9, 0), (5, .aload_n 0, 1, 0, 0, 0),
  (6, .iconst (-1), 1, 0, 0, 0), (7, .putfield 37, 3, 3, 10, 0), (10, .return_, 1, 0, 0, 0)]
def op_X3_knownCount : List av_Q := [
  (0, .aload_n 0, 1, 0, 0, 0), (1, .getfield 37, 3, 3, 10, 0), (4, .iconst (-1), 1, 0, 0, 0), (5, .if_icmp .ne 10, 3, 0, 0, 0),
  (8, .aload_n 0, 1, 0, 0, 0), (9, .getfield 41, 3, 3, 9, 0), (12, .goto 7, 3, 0, 0, 0), (19, .ireturn, 1, 0, 0, 0)]
def op_X4_init : List av_Q := [
  (0, .aload_n 0, 1, 0, 0, 0), (1, .invokespecial 3, 3, 9999, 0, 0), (4, .aload_n 0, 1, 0, 0, 0), (5, .bipush 12, 2, 0, 0, 0),
  (7, .newarray .int, 2, 0, 0, 0), (9, .putfield 9, 3, 4, 0, 4), (12, .aload_n 0, 1, 0, 0, 0), (13, .bipush 64, 2, 0, 0, 0),
  (15, .newarray .int, 2, 0, 0, 0), (17, .putfield 15, 3, 4, 1, 4), (20, .aload_n 0, 1, 0, 0, 0), (21, .iconst 4, 1, 0, 0, 0),
  (22, .newarray .int, 2, 0, 0, 0), (24, .putfield 18, 3, 4, 4, 4), (27, .aload_n 0, 1, 0, 0, 0), (28, .iconst 4, 1, 0, 0, 0),
  (29, .newarray .int, 2, 0, 0, 0), (31, .putfield 21, 3, 4, 5, 4), (34, .aload_n 0, 1, 0, 0, 0), (35, .iconst 4, 1, 0, 0, 0),
  (36, .newarray .int, 2, 0, 0, 0), (38, .putfield 24, 3, 4, 6, 4), (41, .aload_n 0, 1, 0, 0, 0), (42, .iconst 4, 1, 0, 0, 0),
  (43, .anewarray 27, 3, 5, 0, 0), (46, .putfield 29, 3, 4, 7, 4), (49, .aload_n 0, 1, 0, 0, 0), (50, .iconst 4, 1, 0, 0, 0),
  (51, .newarray .int, 2, 0, 0, 0), (53, .putfield 33, 3, 4, 8, 4), (56, .aload_n 0, 1, 0, 0, 0), (57, .bipush 6, 2, 0, 0, 0),
  (59, .newarray .int, 2, 0, 0, 0), (61, .putfield 36, 3, 4, 10, 4), (64, .aload_n 0, 1, 0, 0, 0), (65, .bipush 6, 2, 0, 0, 0),
  (67, .newarray .int, 2, 0, 0, 0), (69, .putfield 39, 3, 4, 11, 4), (72, .aload_n 0, 1, 0, 0, 0), (73, .bipush 6, 2, 0, 0, 0),
  (75, .newarray .int, 2, 0, 0, 0), (77, .putfield 42, 3, 4, 12, 4), (80, .aload_n 0, 1, 0, 0, 0), (81, .bipush 6, 2, 0, 0, 0),
  (83, .newarray .int, 2, 0, 0, 0), (85, .putfield 45, 3, 4, 13, 4), (88, .aload_n 0, 1, 0, 0, 0), (89, .bipush 6, 2, 0, 0, 0),
  (91, .newarray .int, 2, 0, 0, 0), (93, .putfield 48, 3, 4, 15, 4), (96, .aload_n 0, 1, 0, 0, 0), (97, .bipush 6, 2, 0, 0, 0),
  (99, .newarray .int, 2, 0, 0, 0), (101, .putfield 51, 3, 4, 16, 4), (104, .aload_n 0, 1, 0, 0, 0), (105, .bipush 6, 2, 0, 0, 0),
  (107, .newarray .int, 2, 0, 0, 0), (109, .putfield 54, 3, 4, 17, 4), (112, .aload_n 0, 1, 0, 0, 0), (113, .bipush 6, 2, 0, 0, 0),
  (115, .newarray .int, 2, 0, 0, 0), (117, .putfield 57, 3, 4, 18, 4), (120, .iconst 0, 1, 0, 0, 0), (121, .istore_n 1, 1, 0, 0, 0),
  (122, .iload_n 1, 1, 0, 0, 0), (123, .iconst 4, 1, 0, 0, 0), (124, .if_icmp .ge 22, 3, 0, 0, 0), (127, .aload_n 0, 1, 0, 0, 0),
  (128, .getfield 29, 3, 4, 7, 4), (131, .iload_n 1, 1, 0, 0, 0), (132, .new 27, 3, 7, 0, 0), (135, .dup, 1, 0, 0, 0),
  (136, .invokespecial 60, 3, 21, 0, 0), (139, .aastore, 1, 0, 0, 0), (140, .iinc 1 1, 3, 0, 0, 0), (143, .goto (-21), 3, 0, 0, 0),
  (146, .aload_n 0, 1, 0, 0, 0), (147, .invokevirtual 61, 3, 11, 0, 4), (150, .return_, 1, 0, 0, 0)]
def op_X4_clear : List av_Q := [
  (0, .iconst 0, 1, 0, 0, 0), (1, .istore_n 1, 1, 0, 0, 0), (2, .iload_n 1, 1, 0, 0, 0), (3, .bipush 12, 2, 0, 0, 0),
  (5, .if_icmp .ge 17, 3, 0, 0, 0), (8, .aload_n 0, 1, 0, 0, 0), (9, .getfield 9, 3, 4, 0, 4), (12, .iload_n 1, 1, 0, 0, 0),
  (13, .bipush 50, 2, 0, 0, 0), (15, .iastore, 1, 0, 0, 0), (16, .iinc 1 1, 3, 0, 0, 0), (19, .goto (-17), 3, 0, 0, 0),
  (22, .iconst 0, 1, 0, 0, 0), (23, .istore_n 1, 1, 0, 0, 0), (24, .iload_n 1, 1, 0, 0, 0), (25, .iconst 4, 1, 0, 0, 0),
  (26, .if_icmp .ge 30, 3, 0, 0, 0), (29, .aload_n 0, 1, 0, 0, 0), (30, .getfield 18, 3, 4, 4, 4), (33, .iload_n 1, 1, 0, 0, 0),
  (34, .iconst 0, 1, 0, 0, 0), (35, .iastore, 1, 0, 0, 0), (36, .aload_n 0, 1, 0, 0, 0), (37, .getfield 21, 3, 4, 5, 4),
  (40, .iload_n 1, 1, 0, 0, 0), (41, .iconst 0, 1, 0, 0, 0), (42, .iastore, 1, 0, 0, 0), (43, .aload_n 0, 1, 0, 0, 0),
  (44, .getfield 24, 3, 4, 6, 4), (47, .iload_n 1, 1, 0, 0, 0), (48, .iconst 0, 1, 0, 0, 0), (49, .iastore, 1, 0, 0, 0),
  (50, .iinc 1 1, 3, 0, 0, 0), (53, .goto (-29), 3, 0, 0, 0), (56, .iconst 0, 1, 0, 0, 0), (57, .istore_n 1, 1, 0, 0, 0),
  (58, .iload_n 1, 1, 0, 0, 0), (59, .iconst 4, 1, 0, 0, 0), (60, .if_icmp .ge 18, 3, 0, 0, 0), (63, .aload_n 0, 1, 0, 0, 0),
  (64, .getfield 29, 3, 4, 7, 4), (67, .iload_n 1, 1, 0, 0, 0), (68, .aaload, 1, 0, 0, 0), (69, .invokevirtual 64, 3, 22, 0, 7),
  (72, .iinc 1 1, 3, 0, 0, 0), (75, .goto (-17), 3, 0, 0, 0), (78, .aload_n 0, 1, 0, 0, 0), (79, .iconst 0, 1, 0, 0, 0),
  (80, .putfield 65, 3, 4, 2, 0), (83, .aload_n 0, 1, 0, 0, 0), (84, .iconst 0, 1, 0, 0, 0), (85, .putfield 69, 3, 4, 3, 0),
  (88, .aload_n 0, 1, 0, 0, 0), (89, .iconst 0, 1, 0, 0, 0), (90, .putfield 72, 3, 4, 9, 0), (93, .aload_n 0, 1, 0, 0, 0),
  (94, .iconst 0, 1, 0, 0, 0), (95, .putfield 75, 3, 4, 14, 0), (98, .aload_n 0, 1, 0, 0, 0), (99, .iconst 0, 1, 0, 0, 0),
  (100, .putfield 78, 3, 4, 19, 0), (103, .return_, 1, 0, 0, 0)]
def op_X4_isWork : List av_Q := [
  (0, .iload_n 1, 1, 0, 0, 0), (1, .ifCond .lt 21, 3, 0, 0, 0), (4, .iload_n 1, 1, 0, 0, 0), (5, .aload_n 0, 1, 0, 0, 0),
  (6, .getfield 75, 3, 4, 14, 0), (9, .if_icmp .ge 13, 3, 0, 0, 0), (22, .iconst 0, 1, 0, 0, 0), (23, .ireturn, 1, 0, 0, 0)]
def op_X4_firmIn : List av_Q := [
  (0, .iload_n 1, 1, 0, 0, 0), (1, .ifCond .ge 7, 3, 0, 0, 0), (8, .aload_n 0, 1, 0, 0, 0), (9, .getfield 9, 3, 4, 0, 4),
  (12, .iload_n 1, 1, 0, 0, 0), (13, .bipush 12, 2, 0, 0, 0), (15, .imul, 1, 0, 0, 0), (16, .bipush 52, 2, 0, 0, 0),
  (18, .idiv, 1, 0, 0, 0), (19, .bipush 12, 2, 0, 0, 0), (21, .irem, 1, 0, 0, 0), (22, .iaload, 1, 0, 0, 0),
  (23, .ireturn, 1, 0, 0, 0)]
def op_X4_moreBy : List av_Q := [
  (0, .iconst 0, 1, 0, 0, 0), (1, .istore_n 3, 1, 0, 0, 0), (2, .iconst 0, 1, 0, 0, 0), (3, .istore 4, 2, 0, 0, 0),
  (5, .iload 4, 2, 0, 0, 0), (7, .aload_n 0, 1, 0, 0, 0), (8, .getfield 78, 3, 4, 19, 0), (11, .if_icmp .ge 46, 3, 0, 0, 0),
  (57, .iload_n 3, 1, 0, 0, 0), (58, .ireturn, 1, 0, 0, 0)]
def op_X5_init : List av_Q := [
  (0, .aload_n 0, 1, 0, 0, 0), (1, .invokespecial 3, 3, 9999, 0, 0), (4, .aload_n 0, 1, 0, 0, 0), (5, .iconst (-1), 1, 0, 0, 0),
  (6, .putfield 9, 3, 5, 5, 0), (9, .aload_n 0, 1, 0, 0, 0), (10, .new 15, 3, 6, 0, 0), (13, .dup, 1, 0, 0, 0),
  (14, .aload_n 1, 1, 0, 0, 0), (15, .invokespecial 17, 3, 17, 1, 0), (18, .putfield 20, 3, 5, 0, 4), (21, .aload_n 0, 1, 0, 0, 0),
  (22, .new 24, 3, 0, 0, 0), (25, .dup, 1, 0, 0, 0), (26, .aload_n 0, 1, 0, 0, 0), (27, .getfield 20, 3, 5, 0, 4),
  (30, .aload_n 2, 1, 0, 0, 0), (31, .invokespecial 26, 3, 0, 2, 0), (34, .putfield 29, 3, 5, 1, 4), (37, .aload_n 0, 1, 0, 0, 0),
  (38, .aload_n 2, 1, 0, 0, 0), (39, .putfield 33, 3, 5, 2, 4), (42, .return_, 1, 0, 0, 0)]
def op_X5_readText : List av_Q := [
  (0, .aload_n 0, 1, 0, 0, 0), (1, .aload_n 1, 1, 0, 0, 0), (2, .putfield 33, 3, 5, 2, 4), (5, .aload_n 0, 1, 0, 0, 0),
  (6, .getfield 33, 3, 5, 2, 4), (9, .invokevirtual 37, 3, 11, 0, 4), (12, .aload_n 0, 1, 0, 0, 0), (13, .iconst 0, 1, 0, 0, 0),
  (14, .putfield 42, 3, 5, 3, 2), (17, .aload_n 0, 1, 0, 0, 0), (18, .iconst 0, 1, 0, 0, 0), (19, .putfield 46, 3, 5, 4, 0),
  (22, .aload_n 0, 1, 0, 0, 0), (23, .iconst (-1), 1, 0, 0, 0), (24, .putfield 9, 3, 5, 5, 0), (27, .aload_n 0, 1, 0, 0, 0),
  (28, .getfield 20, 3, 5, 0, 4), (31, .iload_n 2, 1, 0, 0, 0), (32, .invokevirtual 49, 3, 19, 1, 6), (35, .iconst 0, 1, 0, 0, 0),
  (36, .istore_n 3, 1, 0, 0, 0), (37, .iload_n 3, 1, 0, 0, 0), (38, .sipush 900, 3, 0, 0, 0), (41, .if_icmp .gt 131, 3, 0, 0, 0),
  (44, .aload_n 0, 1, 0, 0, 0), (45, .getfield 20, 3, 5, 0, 4), (48, .getfield 53, 3, 6, 4, 0), (51, .ifCond .ne 5, 3, 0, 0, 0),
  (54, .iload_n 3, 1, 0, 0, 0), (55, .ireturn, 1, 0, 0, 0)]
def op_X6_init : List av_Q := [
  (0, .aload_n 0, 1, 0, 0, 0), (1, .invokespecial 3, 3, 9999, 0, 0), (4, .aload_n 0, 1, 0, 0, 0), (5, .bipush 34, 2, 0, 0, 0),
  (7, .newarray .int, 2, 0, 0, 0), (9, .putfield 9, 3, 6, 1, 4), (12, .aload_n 0, 1, 0, 0, 0), (13, .aload_n 1, 1, 0, 0, 0),
  (14, .putfield 15, 3, 6, 0, 4), (17, .iconst 0, 1, 0, 0, 0), (18, .istore_n 2, 1, 0, 0, 0), (19, .iconst 0, 1, 0, 0, 0),
  (20, .istore_n 3, 1, 0, 0, 0), (21, .iconst 0, 1, 0, 0, 0), (22, .istore 4, 2, 0, 0, 0), (24, .iload 4, 2, 0, 0, 0),
  (26, .ldc 19, 2, 1, 0, 0), (28, .invokevirtual 21, 3, 121, 0, 100), (31, .if_icmp .ge 57, 3, 0, 0, 0), (34, .iload_n 2, 1, 0, 0, 0),
  (35, .bipush 34, 2, 0, 0, 0), (37, .if_icmp .ge 51, 3, 0, 0, 0), (40, .ldc 19, 2, 1, 0, 0), (42, .iload 4, 2, 0, 0, 0),
  (44, .invokevirtual 27, 3, 122, 1, 100), (47, .istore 5, 2, 0, 0, 0), (49, .iload 5, 2, 0, 0, 0), (51, .bipush 32, 2, 0, 0, 0),
  (53, .if_icmp .ne 11, 3, 0, 0, 0), (56, .iinc 2 1, 3, 0, 0, 0), (59, .iconst 0, 1, 0, 0, 0), (60, .istore_n 3, 1, 0, 0, 0),
  (61, .goto 21, 3, 0, 0, 0), (64, .aload_n 0, 1, 0, 0, 0), (65, .getfield 9, 3, 6, 1, 4), (68, .iload_n 2, 1, 0, 0, 0),
  (69, .dup2, 1, 0, 0, 0), (70, .iaload, 1, 0, 0, 0), (71, .iload 5, 2, 0, 0, 0), (73, .iload_n 3, 1, 0, 0, 0),
  (74, .invokestatic 31, 3, 18, 2, 0), (77, .ior, 1, 0, 0, 0), (78, .iastore, 1, 0, 0, 0), (79, .iinc 3 1, 3, 0, 0, 0),
  (82, .iinc 4 1, 3, 0, 0, 0), (85, .goto (-61), 3, 0, 0, 0), (88, .return_, 1, 0, 0, 0)]
def op_X6_letterBits : List av_Q := [
  (0, .iload_n 1, 1, 0, 0, 0), (1, .bipush 6, 2, 0, 0, 0), (3, .if_icmp .ge 18, 3, 0, 0, 0), (6, .iload_n 0, 1, 0, 0, 0),
  (7, .bipush 97, 2, 0, 0, 0), (9, .isub, 1, 0, 0, 0), (10, .iconst 1, 1, 0, 0, 0), (11, .iadd, 1, 0, 0, 0),
  (12, .iconst 5, 1, 0, 0, 0), (13, .iconst 5, 1, 0, 0, 0), (14, .iload_n 1, 1, 0, 0, 0), (15, .isub, 1, 0, 0, 0),
  (16, .imul, 1, 0, 0, 0), (17, .ishl, 1, 0, 0, 0), (18, .goto 4, 3, 0, 0, 0), (22, .ireturn, 1, 0, 0, 0)]
def op_X6_begin : List av_Q := [
  (0, .aload_n 0, 1, 0, 0, 0), (1, .iconst 0, 1, 0, 0, 0), (2, .iload_n 1, 1, 0, 0, 0), (3, .aload_n 0, 1, 0, 0, 0),
  (4, .getfield 15, 3, 6, 0, 4), (7, .arraylength, 1, 0, 0, 0), (8, .invokestatic 35, 3, 9002, 2, 0), (11, .invokestatic 40, 3, 9001, 2, 0),
  (14, .putfield 43, 3, 6, 2, 0), (17, .aload_n 0, 1, 0, 0, 0), (18, .iconst 0, 1, 0, 0, 0), (19, .putfield 46, 3, 6, 3, 0),
  (22, .aload_n 0, 1, 0, 0, 0), (23, .invokevirtual 49, 3, 20, 0, 6), (26, .return_, 1, 0, 0, 0)]
def op_X6_step : List av_Q := [
  (0, .aload_n 0, 1, 0, 0, 0), (1, .getfield 46, 3, 6, 3, 0), (4, .aload_n 0, 1, 0, 0, 0), (5, .getfield 43, 3, 6, 2, 0),
  (8, .if_icmp .ge 44, 3, 0, 0, 0), (52, .aload_n 0, 1, 0, 0, 0), (53, .aload_n 0, 1, 0, 0, 0), (54, .getfield 46, 3, 6, 3, 0),
  (57, .putfield 52, 3, 6, 5, 0), (60, .aload_n 0, 1, 0, 0, 0), (61, .iconst 0, 1, 0, 0, 0), (62, .putfield 55, 3, 6, 6, 0),
  (65, .aload_n 0, 1, 0, 0, 0), (66, .getfield 46, 3, 6, 3, 0), (69, .aload_n 0, 1, 0, 0, 0), (70, .getfield 43, 3, 6, 2, 0),
  (73, .if_icmp .lt 11, 3, 0, 0, 0), (76, .aload_n 0, 1, 0, 0, 0), (77, .iconst 0, 1, 0, 0, 0), (78, .putfield 58, 3, 6, 4, 0),
  (81, .goto 86, 3, 0, 0, 0), (167, .return_, 1, 0, 0, 0)]
def op_X7_init : List av_Q := [
  (0, .aload_n 0, 1, 0, 0, 0), (1, .invokespecial 3, 3, 9999, 0, 0), (4, .aload_n 0, 1, 0, 0, 0), (5, .bipush 9, 2, 0, 0, 0),
  (7, .newarray .int, 2, 0, 0, 0), (9, .putfield 9, 3, 7, 16, 4), (12, .aload_n 0, 1, 0, 0, 0), (13, .invokevirtual 15, 3, 22, 0, 7),
  (16, .return_, 1, 0, 0, 0)]
def op_X7_clear : List av_Q := [
  (0, .aload_n 0, 1, 0, 0, 0), (1, .bipush 24, 2, 0, 0, 0), (3, .putfield 18, 3, 7, 0, 0), (6, .aload_n 0, 1, 0, 0, 0),
  (7, .bipush 20, 2, 0, 0, 0), (9, .putfield 22, 3, 7, 2, 0), (12, .aload_n 0, 1, 0, 0, 0), (13, .bipush 24, 2, 0, 0, 0),
  (15, .invokevirtual 25, 3, 23, 1, 7), (18, .aload_n 0, 1, 0, 0, 0), (19, .iconst 0, 1, 0, 0, 0), (20, .putfield 29, 3, 7, 5, 0),
  (23, .aload_n 0, 1, 0, 0, 0), (24, .iconst 0, 1, 0, 0, 0), (25, .putfield 32, 3, 7, 6, 0), (28, .aload_n 0, 1, 0, 0, 0),
  (29, .bipush 36, 2, 0, 0, 0), (31, .putfield 35, 3, 7, 7, 0), (34, .aload_n 0, 1, 0, 0, 0), (35, .bipush 8, 2, 0, 0, 0),
  (37, .putfield 38, 3, 7, 8, 0), (40, .aload_n 0, 1, 0, 0, 0), (41, .iconst 0, 1, 0, 0, 0), (42, .putfield 41, 3, 7, 9, 0),
  (45, .aload_n 0, 1, 0, 0, 0), (46, .sipush 1000, 3, 0, 0, 0), (49, .putfield 44, 3, 7, 10, 0), (52, .aload_n 0, 1, 0, 0, 0),
  (53, .sipush 1000, 3, 0, 0, 0), (56, .putfield 47, 3, 7, 11, 0), (59, .aload_n 0, 1, 0, 0, 0), (60, .iconst 0, 1, 0, 0, 0),
  (61, .putfield 50, 3, 7, 12, 0), (64, .aload_n 0, 1, 0, 0, 0), (65, .sipush 3000, 3, 0, 0, 0), (68, .putfield 53, 3, 7, 13, 0),
  (71, .aload_n 0, 1, 0, 0, 0), (72, .iconst 0, 1, 0, 0, 0), (73, .putfield 56, 3, 7, 14, 0), (76, .aload_n 0, 1, 0, 0, 0),
  (77, .iconst 0, 1, 0, 0, 0), (78, .putfield 59, 3, 7, 15, 0), (81, .iconst 0, 1, 0, 0, 0), (82, .istore_n 1, 1, 0, 0, 0),
  (83, .iload_n 1, 1, 0, 0, 0), (84, .aload_n 0, 1, 0, 0, 0), (85, .getfield 9, 3, 7, 16, 4), (88, .arraylength, 1, 0, 0, 0),
  (89, .if_icmp .ge 16, 3, 0, 0, 0), (92, .aload_n 0, 1, 0, 0, 0), (93, .getfield 9, 3, 7, 16, 4), (96, .iload_n 1, 1, 0, 0, 0),
  (97, .iconst 0, 1, 0, 0, 0), (98, .iastore, 1, 0, 0, 0), (99, .iinc 1 1, 3, 0, 0, 0), (102, .goto (-19), 3, 0, 0, 0),
  (105, .return_, 1, 0, 0, 0)]
def op_X7_setHeight : List av_Q := [
  (0, .aload_n 0, 1, 0, 0, 0), (1, .iload_n 1, 1, 0, 0, 0), (2, .putfield 62, 3, 7, 1, 0), (5, .aload_n 0, 1, 0, 0, 0),
  (6, .bipush 6, 2, 0, 0, 0), (8, .putfield 65, 3, 7, 3, 0), (11, .aload_n 0, 1, 0, 0, 0), (12, .iload_n 1, 1, 0, 0, 0),
  (13, .bipush 6, 2, 0, 0, 0), (15, .isub, 1, 0, 0, 0), (16, .putfield 68, 3, 7, 4, 0), (19, .return_, 1, 0, 0, 0)]
def op_X8_init : List av_Q := [
  (0, .aload_n 0, 1, 0, 0, 0), (1, .invokespecial 3, 3, 9999, 0, 0), (4, .aload_n 0, 1, 0, 0, 0), (5, .bipush 28, 2, 0, 0, 0),
  (7, .newarray .int, 2, 0, 0, 0), (9, .putfield 9, 3, 8, 0, 4), (12, .aload_n 0, 1, 0, 0, 0), (13, .new 15, 3, 1, 0, 0),
  (16, .dup, 1, 0, 0, 0), (17, .aload_n 1, 1, 0, 0, 0), (18, .invokespecial 17, 3, 1, 1, 0), (21, .putfield 20, 3, 8, 1, 4),
  (24, .return_, 1, 0, 0, 0)]
def op_X9_init : List av_Q := [
  (0, .aload_n 0, 1, 0, 0, 0), (1, .invokespecial 3, 3, 9999, 0, 0), (4, .aload_n 0, 1, 0, 0, 0), (5, .bipush 16, 2, 0, 0, 0),
  (7, .newarray .int, 2, 0, 0, 0), (9, .putfield 9, 3, 9, 0, 4), (12, .aload_n 0, 1, 0, 0, 0), (13, .iconst 4, 1, 0, 0, 0),
  (14, .newarray .int, 2, 0, 0, 0), (16, .putfield 15, 3, 9, 1, 4), (19, .aload_n 0, 1, 0, 0, 0), (20, .iconst 4, 1, 0, 0, 0),
  (21, .newarray .int, 2, 0, 0, 0), (23, .putfield 18, 3, 9, 2, 4), (26, .return_, 1, 0, 0, 0)]
def op_X10_init : List av_Q := [
  (0, .aload_n 0, 1, 0, 0, 0), (1, .invokespecial 3, 3, 9999, 0, 0), (4, .aload_n 0, 1, 0, 0, 0), (5, .bipush 20, 2, 0, 0, 0),
  (7, .anewarray 9, 3, 4, 0, 0), (10, .putfield 11, 3, 10, 0, 4), (13, .aload_n 0, 1, 0, 0, 0), (14, .bipush 20, 2, 0, 0, 0),
  (16, .newarray .int, 2, 0, 0, 0), (18, .putfield 17, 3, 10, 1, 4), (21, .iconst 0, 1, 0, 0, 0), (22, .istore_n 2, 1, 0, 0, 0),
  (23, .iload_n 2, 1, 0, 0, 0), (24, .bipush 20, 2, 0, 0, 0), (26, .if_icmp .ge 23, 3, 0, 0, 0), (29, .aload_n 0, 1, 0, 0, 0),
  (30, .getfield 11, 3, 10, 0, 4), (33, .iload_n 2, 1, 0, 0, 0), (34, .new 9, 3, 1, 0, 0), (37, .dup, 1, 0, 0, 0),
  (38, .aload_n 1, 1, 0, 0, 0), (39, .invokespecial 21, 3, 1, 1, 0), (42, .aastore, 1, 0, 0, 0), (43, .iinc 2 1, 3, 0, 0, 0),
  (46, .goto (-23), 3, 0, 0, 0), (49, .return_, 1, 0, 0, 0)]
def op_X10_clear : List av_Q := [
  (0, .aload_n 0, 1, 0, 0, 0), (1, .iconst 0, 1, 0, 0, 0), (2, .putfield 24, 3, 10, 2, 0), (5, .return_, 1, 0, 0, 0)]
def op_X11_init : List av_Q := [
  (0, .aload_n 0, 1, 0, 0, 0), (1, .invokespecial 3, 3, 9999, 0, 0), (4, .aload_n 0, 1, 0, 0, 0), (5, .sipush 900, 3, 0, 0, 0),
  (8, .newarray .byte, 2, 1, 0, 0), (10, .putfield 11, 3, 11, 0, 4), (13, .aload_n 0, 1, 0, 0, 0), (14, .new 15, 3, 4, 0, 0),
  (17, .dup, 1, 0, 0, 0), (18, .invokespecial 17, 3, 10, 0, 0), (21, .putfield 18, 3, 11, 2, 4), (24, .aload_n 0, 1, 0, 0, 0),
  (25, .new 15, 3, 4, 0, 0), (28, .dup, 1, 0, 0, 0), (29, .invokespecial 17, 3, 10, 0, 0), (32, .putfield 22, 3, 11, 3, 4),
  (35, .aload_n 0, 1, 0, 0, 0), (36, .new 25, 3, 5, 0, 0), (39, .dup, 1, 0, 0, 0), (40, .aload_n 0, 1, 0, 0, 0),
  (41, .getfield 11, 3, 11, 0, 4), (44, .aload_n 0, 1, 0, 0, 0), (45, .getfield 22, 3, 11, 3, 4), (48, .invokespecial 27, 3, 15, 2, 0),
  (51, .putfield 30, 3, 11, 4, 4), (54, .aload_n 0, 1, 0, 0, 0), (55, .new 34, 3, 2, 0, 0), (58, .dup, 1, 0, 0, 0),
  (59, .invokespecial 36, 3, 5, 0, 0), (62, .putfield 37, 3, 11, 5, 4), (65, .aload_n 0, 1, 0, 0, 0), (66, .new 41, 3, 7, 0, 0),
  (69, .dup, 1, 0, 0, 0), (70, .invokespecial 43, 3, 21, 0, 0), (73, .putfield 44, 3, 11, 6, 4), (76, .aload_n 0, 1, 0, 0, 0),
  (77, .iconst 4, 1, 0, 0, 0), (78, .anewarray 48, 3, 4, 0, 0), (81, .putfield 50, 3, 11, 7, 4), (84, .aload_n 0, 1, 0, 0, 0),
  (85, .iconst 4, 1, 0, 0, 0), (86, .anewarray 48, 3, 4, 0, 0), (89, .putfield 54, 3, 11, 9, 4), (92, .aload_n 0, 1, 0, 0, 0),
  (93, .iconst (-1), 1, 0, 0, 0), (94, .putfield 57, 3, 11, 10, 0), (97, .aload_n 0, 1, 0, 0, 0), (98, .new 61, 3, 10, 0, 0),
  (101, .dup, 1, 0, 0, 0), (102, .aload_n 0, 1, 0, 0, 0), (103, .getfield 44, 3, 11, 6, 4), (106, .invokespecial 63, 3, 26, 1, 0),
  (109, .putfield 66, 3, 11, 11, 4), (112, .aload_n 0, 1, 0, 0, 0), (113, .new 70, 3, 3, 0, 0), (116, .dup, 1, 0, 0, 0),
  (117, .invokespecial 72, 3, 7, 0, 0), (120, .putfield 73, 3, 11, 12, 4), (123, .aload_n 0, 1, 0, 0, 0), (124, .new 77, 3, 8, 0, 0),
  (127, .dup, 1, 0, 0, 0), (128, .aload_n 0, 1, 0, 0, 0), (129, .getfield 44, 3, 11, 6, 4), (132, .invokespecial 79, 3, 24, 1, 0),
  (135, .putfield 80, 3, 11, 13, 4), (138, .aload_n 0, 1, 0, 0, 0), (139, .new 48, 3, 1, 0, 0), (142, .dup, 1, 0, 0, 0),
  (143, .aload_n 0, 1, 0, 0, 0), (144, .getfield 44, 3, 11, 6, 4), (147, .invokespecial 84, 3, 1, 1, 0), (150, .putfield 85, 3, 11, 14, 4),
  (153, .aload_n 0, 1, 0, 0, 0), (154, .new 89, 3, 9, 0, 0), (157, .dup, 1, 0, 0, 0), (158, .invokespecial 91, 3, 25, 0, 0),
  (161, .putfield 92, 3, 11, 15, 4), (164, .iconst 0, 1, 0, 0, 0), (165, .istore_n 1, 1, 0, 0, 0), (166, .iload_n 1, 1, 0, 0, 0),
  (167, .iconst 4, 1, 0, 0, 0), (168, .if_icmp .ge 43, 3, 0, 0, 0), (171, .aload_n 0, 1, 0, 0, 0), (172, .getfield 50, 3, 11, 7, 4),
  (175, .iload_n 1, 1, 0, 0, 0), (176, .new 48, 3, 1, 0, 0), (179, .dup, 1, 0, 0, 0), (180, .aload_n 0, 1, 0, 0, 0),
  (181, .getfield 44, 3, 11, 6, 4), (184, .invokespecial 84, 3, 1, 1, 0), (187, .aastore, 1, 0, 0, 0), (188, .aload_n 0, 1, 0, 0, 0),
  (189, .getfield 54, 3, 11, 9, 4), (192, .iload_n 1, 1, 0, 0, 0), (193, .new 48, 3, 1, 0, 0), (196, .dup, 1, 0, 0, 0),
  (197, .aload_n 0, 1, 0, 0, 0), (198, .getfield 44, 3, 11, 6, 4), (201, .invokespecial 84, 3, 1, 1, 0), (204, .aastore, 1, 0, 0, 0),
  (205, .iinc 1 1, 3, 0, 0, 0), (208, .goto (-42), 3, 0, 0, 0), (211, .return_, 1, 0, 0, 0)]
def op_X11_feed : List av_Q := [
  (0, .aload_n 0, 1, 0, 0, 0), (1, .getfield 96, 3, 11, 1, 0), (4, .sipush 880, 3, 0, 0, 0), (7, .if_icmp .le 5, 3, 0, 0, 0),
  (12, .aload_n 0, 1, 0, 0, 0), (13, .iload_n 1, 1, 0, 0, 0), (14, .invokevirtual 99, 3, 30, 1, 11), (17, .aload_n 0, 1, 0, 0, 0),
  (18, .iload_n 2, 1, 0, 0, 0), (19, .invokevirtual 99, 3, 30, 1, 11), (22, .aload_n 0, 1, 0, 0, 0), (23, .iload_n 3, 1, 0, 0, 0),
  (24, .invokevirtual 99, 3, 30, 1, 11), (27, .aload_n 0, 1, 0, 0, 0), (28, .iload 4, 2, 0, 0, 0), (30, .invokevirtual 99, 3, 30, 1, 11),
  (33, .aload_n 0, 1, 0, 0, 0), (34, .iload 5, 2, 0, 0, 0), (36, .invokevirtual 99, 3, 30, 1, 11), (39, .aload_n 0, 1, 0, 0, 0),
  (40, .getfield 96, 3, 11, 1, 0), (43, .ireturn, 1, 0, 0, 0)]
def op_X11_putOnTape : List av_Q := [
  (0, .bipush 24, 2, 0, 0, 0), (2, .istore_n 2, 1, 0, 0, 0), (3, .iload_n 2, 1, 0, 0, 0), (4, .ifCond .lt 51, 3, 0, 0, 0),
  (7, .aload_n 0, 1, 0, 0, 0), (8, .getfield 96, 3, 11, 1, 0), (11, .ifCond .lt 38, 3, 0, 0, 0), (14, .aload_n 0, 1, 0, 0, 0),
  (15, .getfield 96, 3, 11, 1, 0), (18, .aload_n 0, 1, 0, 0, 0), (19, .getfield 11, 3, 11, 0, 4), (22, .arraylength, 1, 0, 0, 0),
  (23, .if_icmp .ge 26, 3, 0, 0, 0), (26, .aload_n 0, 1, 0, 0, 0), (27, .getfield 11, 3, 11, 0, 4), (30, .aload_n 0, 1, 0, 0, 0),
  (31, .getfield 96, 3, 11, 1, 0), (34, .iload_n 1, 1, 0, 0, 0), (35, .iload_n 2, 1, 0, 0, 0), (36, .iushr, 1, 0, 0, 0),
  (37, .i2b, 1, 0, 0, 0), (38, .bastore, 1, 0, 0, 0), (39, .aload_n 0, 1, 0, 0, 0), (40, .dup, 1, 0, 0, 0),
  (41, .getfield 96, 3, 11, 1, 0), (44, .iconst 1, 1, 0, 0, 0), (45, .iadd, 1, 0, 0, 0), (46, .putfield 96, 3, 11, 1, 0),
  (49, .iinc 2 (-8), 3, 0, 0, 0), (52, .goto (-49), 3, 0, 0, 0), (55, .return_, 1, 0, 0, 0)]
def op_X11_text : List av_Q := [
  (0, .iload_n 1, 1, 0, 0, 0), (1, .ifCond .lt 11, 3, 0, 0, 0), (4, .iload_n 1, 1, 0, 0, 0), (5, .aload_n 0, 1, 0, 0, 0),
  (6, .getfield 96, 3, 11, 1, 0), (9, .if_icmp .le 6, 3, 0, 0, 0), (12, .bipush (-2), 2, 0, 0, 0), (14, .ireturn, 1, 0, 0, 0),
  (15, .aload_n 0, 1, 0, 0, 0), (16, .iconst 0, 1, 0, 0, 0), (17, .putfield 96, 3, 11, 1, 0), (20, .aload_n 0, 1, 0, 0, 0),
  (21, .getfield 30, 3, 11, 4, 4), (24, .aload_n 0, 1, 0, 0, 0), (25, .getfield 22, 3, 11, 3, 4), (28, .iload_n 1, 1, 0, 0, 0),
  (29, .invokevirtual 103, 3, 16, 2, 5), (32, .istore_n 2, 1, 0, 0, 0), (33, .iload_n 2, 1, 0, 0, 0), (34, .iconst (-1), 1, 0, 0, 0),
  (35, .if_icmp .eq 7, 3, 0, 0, 0), (38, .aload_n 0, 1, 0, 0, 0), (39, .invokevirtual 107, 3, 32, 0, 11), (42, .iload_n 2, 1, 0, 0, 0),
  (43, .ireturn, 1, 0, 0, 0)]
def op_X11_takeSpare : List av_Q := [
  (0, .aload_n 0, 1, 0, 0, 0), (1, .getfield 18, 3, 11, 2, 4), (4, .astore_n 1, 1, 0, 0, 0), (5, .aload_n 0, 1, 0, 0, 0),
  (6, .aload_n 0, 1, 0, 0, 0), (7, .getfield 22, 3, 11, 3, 4), (10, .putfield 18, 3, 11, 2, 4), (13, .aload_n 0, 1, 0, 0, 0),
  (14, .aload_n 1, 1, 0, 0, 0), (15, .putfield 22, 3, 11, 3, 4), (18, .aload_n 0, 1, 0, 0, 0), (19, .getfield 37, 3, 11, 5, 4),
  (22, .invokevirtual 110, 3, 6, 0, 2), (25, .iconst 0, 1, 0, 0, 0), (26, .istore_n 2, 1, 0, 0, 0), (27, .iload_n 2, 1, 0, 0, 0),
  (28, .iconst 4, 1, 0, 0, 0), (29, .if_icmp .ge 23, 3, 0, 0, 0), (32, .aload_n 0, 1, 0, 0, 0), (33, .getfield 50, 3, 11, 7, 4),
  (36, .iload_n 2, 1, 0, 0, 0), (37, .aaload, 1, 0, 0, 0), (38, .aload_n 0, 1, 0, 0, 0), (39, .getfield 18, 3, 11, 2, 4),
  (42, .iload_n 2, 1, 0, 0, 0), (43, .invokevirtual 113, 3, 2, 2, 1), (46, .iinc 2 1, 3, 0, 0, 0), (49, .goto (-22), 3, 0, 0, 0),
  (52, .aload_n 0, 1, 0, 0, 0), (53, .iconst 0, 1, 0, 0, 0), (54, .putfield 117, 3, 11, 8, 0), (57, .aload_n 0, 1, 0, 0, 0),
  (58, .iconst (-1), 1, 0, 0, 0), (59, .putfield 57, 3, 11, 10, 0), (62, .aload_n 0, 1, 0, 0, 0), (63, .getfield 66, 3, 11, 11, 4),
  (66, .invokevirtual 120, 3, 27, 0, 10), (69, .aload_n 0, 1, 0, 0, 0), (70, .getfield 73, 3, 11, 12, 4), (73, .invokevirtual 123, 3, 8, 0, 3),
  (76, .return_, 1, 0, 0, 0)]
def op_X11_fault : List av_Q := [
  (0, .iload_n 1, 1, 0, 0, 0), (1, .ifCond .ne 11, 3, 0, 0, 0), (4, .aload_n 0, 1, 0, 0, 0), (5, .getfield 30, 3, 11, 4, 4),
  (8, .getfield 124, 3, 5, 4, 0), (11, .ireturn, 1, 0, 0, 0), (12, .iload_n 1, 1, 0, 0, 0), (13, .iconst 1, 1, 0, 0, 0),
  (14, .if_icmp .ne 13, 3, 0, 0, 0), (17, .aload_n 0, 1, 0, 0, 0), (18, .getfield 30, 3, 11, 4, 4), (21, .getfield 127, 3, 5, 5, 0),
  (24, .goto 4, 3, 0, 0, 0), (27, .iconst (-1), 1, 0, 0, 0), (28, .ireturn, 1, 0, 0, 0)]
def op_X11_named : List av_Q := [
  (0, .iload_n 1, 1, 0, 0, 0), (1, .ifCond .ne 22, 3, 0, 0, 0), (4, .iload_n 2, 1, 0, 0, 0), (5, .aload_n 0, 1, 0, 0, 0),
  (6, .getfield 18, 3, 11, 2, 4), (9, .getfield 130, 3, 4, 8, 4), (12, .aload_n 0, 1, 0, 0, 0), (13, .getfield 18, 3, 11, 2, 4),
  (16, .getfield 134, 3, 4, 9, 0), (19, .invokestatic 137, 3, 35, 3, 0), (22, .ireturn, 1, 0, 0, 0), (23, .iload_n 1, 1, 0, 0, 0),
  (24, .iconst 1, 1, 0, 0, 0), (25, .if_icmp .ne 22, 3, 0, 0, 0), (28, .iload_n 2, 1, 0, 0, 0), (29, .aload_n 0, 1, 0, 0, 0),
  (30, .getfield 18, 3, 11, 2, 4), (33, .getfield 141, 3, 4, 10, 4), (36, .aload_n 0, 1, 0, 0, 0), (37, .getfield 18, 3, 11, 2, 4),
  (40, .getfield 144, 3, 4, 14, 0), (43, .invokestatic 137, 3, 35, 3, 0), (46, .ireturn, 1, 0, 0, 0), (47, .iload_n 1, 1, 0, 0, 0),
  (48, .iconst 2, 1, 0, 0, 0), (49, .if_icmp .ne 24, 3, 0, 0, 0), (52, .iload_n 2, 1, 0, 0, 0), (53, .aload_n 0, 1, 0, 0, 0),
  (54, .getfield 18, 3, 11, 2, 4), (57, .getfield 147, 3, 4, 15, 4), (60, .aload_n 0, 1, 0, 0, 0), (61, .getfield 18, 3, 11, 2, 4),
  (64, .getfield 150, 3, 4, 19, 0), (67, .invokestatic 137, 3, 35, 3, 0), (70, .goto 4, 3, 0, 0, 0), (73, .iconst (-1), 1, 0, 0, 0),
  (74, .ireturn, 1, 0, 0, 0)]
def op_X11_placeOf : List av_Q := [
  (0, .iconst 0, 1, 0, 0, 0), (1, .istore_n 3, 1, 0, 0, 0), (2, .iload_n 3, 1, 0, 0, 0), (3, .iload_n 2, 1, 0, 0, 0),
  (4, .if_icmp .ge 24, 3, 0, 0, 0), (28, .iconst (-1), 1, 0, 0, 0), (29, .ireturn, 1, 0, 0, 0)]
def op_X11_isGate : List av_Q := [
  (0, .iload_n 1, 1, 0, 0, 0), (1, .ifCond .lt 27, 3, 0, 0, 0), (4, .iload_n 1, 1, 0, 0, 0), (5, .aload_n 0, 1, 0, 0, 0),
  (6, .getfield 18, 3, 11, 2, 4), (9, .getfield 134, 3, 4, 9, 0), (12, .if_icmp .ge 16, 3, 0, 0, 0), (28, .iconst 0, 1, 0, 0, 0),
  (29, .ireturn, 1, 0, 0, 0)]
def op_X11_isAhead : List av_Q := [
  (0, .iload_n 0, 1, 0, 0, 0), (1, .ifCond .lt 14, 3, 0, 0, 0), (4, .iload_n 0, 1, 0, 0, 0), (5, .sipush 520, 3, 0, 0, 0),
  (8, .if_icmp .gt 7, 3, 0, 0, 0), (11, .iconst 1, 1, 0, 0, 0), (12, .goto 4, 3, 0, 0, 0), (15, .iconst 0, 1, 0, 0, 0),
  (16, .ireturn, 1, 0, 0, 0)]
def op_X11_isWeek : List av_Q := [
  (0, .iload_n 0, 1, 0, 0, 0), (1, .ifCond .lt 14, 3, 0, 0, 0), (4, .iload_n 0, 1, 0, 0, 0), (5, .sipush 2000, 3, 0, 0, 0),
  (8, .if_icmp .ge 7, 3, 0, 0, 0), (11, .iconst 1, 1, 0, 0, 0), (12, .goto 4, 3, 0, 0, 0), (15, .iconst 0, 1, 0, 0, 0),
  (16, .ireturn, 1, 0, 0, 0)]
def op_X11_works : List av_Q := [
  (0, .aload_n 0, 1, 0, 0, 0), (1, .getfield 18, 3, 11, 2, 4), (4, .iload_n 1, 1, 0, 0, 0), (5, .invokevirtual 208, 3, 12, 1, 4),
  (8, .ifCond .eq 12, 3, 0, 0, 0), (20, .iconst (-1), 1, 0, 0, 0), (21, .ireturn, 1, 0, 0, 0)]
def op_X11_firm : List av_Q := [
  (0, .iload_n 1, 1, 0, 0, 0), (1, .invokestatic 220, 3, 38, 1, 0), (4, .ifCond .eq 14, 3, 0, 0, 0), (7, .aload_n 0, 1, 0, 0, 0),
  (8, .getfield 18, 3, 11, 2, 4), (11, .iload_n 1, 1, 0, 0, 0), (12, .invokevirtual 223, 3, 13, 1, 4), (15, .goto 4, 3, 0, 0, 0),
  (18, .iconst (-1), 1, 0, 0, 0), (19, .ireturn, 1, 0, 0, 0)]
def op_X11_weeks : List av_Q := [
  (0, .iload_n 1, 1, 0, 0, 0), (1, .invokestatic 227, 3, 37, 1, 0), (4, .ifCond .eq 15, 3, 0, 0, 0), (7, .aload_n 0, 1, 0, 0, 0),
  (8, .getfield 117, 3, 11, 8, 0), (11, .iload_n 1, 1, 0, 0, 0), (12, .iadd, 1, 0, 0, 0), (13, .sipush 2000, 3, 0, 0, 0),
  (16, .if_icmp .le 5, 3, 0, 0, 0), (19, .iconst (-1), 1, 0, 0, 0), (20, .ireturn, 1, 0, 0, 0), (21, .iconst 0, 1, 0, 0, 0),
  (22, .istore_n 2, 1, 0, 0, 0), (23, .iload_n 2, 1, 0, 0, 0), (24, .aload_n 0, 1, 0, 0, 0), (25, .getfield 18, 3, 11, 2, 4),
  (28, .getfield 134, 3, 4, 9, 0), (31, .if_icmp .ge 40, 3, 0, 0, 0), (71, .aload_n 0, 1, 0, 0, 0), (72, .dup, 1, 0, 0, 0),
  (73, .getfield 117, 3, 11, 8, 0), (76, .iload_n 1, 1, 0, 0, 0), (77, .iadd, 1, 0, 0, 0), (78, .putfield 117, 3, 11, 8, 0),
  (81, .aload_n 0, 1, 0, 0, 0), (82, .getfield 117, 3, 11, 8, 0), (85, .ireturn, 1, 0, 0, 0)]
def op_X11_sags : List av_Q := [
  (0, .aload_n 0, 1, 0, 0, 0), (1, .iload_n 1, 1, 0, 0, 0), (2, .invokevirtual 155, 3, 36, 1, 11), (5, .ifCond .ne 6, 3, 0, 0, 0),
  (8, .ldc 234, 2, 0, 0, (-2147483648)), (10, .ireturn, 1, 0, 0, 0)]
def op_X11_latched : List av_Q := [
  (0, .aload_n 0, 1, 0, 0, 0), (1, .iload_n 1, 1, 0, 0, 0), (2, .invokevirtual 155, 3, 36, 1, 11), (5, .ifCond .ne 5, 3, 0, 0, 0),
  (8, .iconst (-1), 1, 0, 0, 0), (9, .ireturn, 1, 0, 0, 0)]
def op_X11_gives : List av_Q := [
  (0, .aload_n 0, 1, 0, 0, 0), (1, .iload_n 1, 1, 0, 0, 0), (2, .invokevirtual 155, 3, 36, 1, 11), (5, .ifCond .ne 5, 3, 0, 0, 0),
  (8, .iconst (-1), 1, 0, 0, 0), (9, .ireturn, 1, 0, 0, 0)]
def op_X11_work : List av_Q := [
  (0, .aload_n 0, 1, 0, 0, 0), (1, .iload_n 1, 1, 0, 0, 0), (2, .invokevirtual 155, 3, 36, 1, 11), (5, .ifCond .eq 14, 3, 0, 0, 0),
  (19, .iconst 0, 1, 0, 0, 0), (20, .ireturn, 1, 0, 0, 0)]
def op_X11_undo : List av_Q := [
  (0, .aload_n 0, 1, 0, 0, 0), (1, .getfield 66, 3, 11, 11, 4), (4, .getfield 273, 3, 10, 2, 0), (7, .ifCond .gt 5, 3, 0, 0, 0),
  (10, .iconst (-1), 1, 0, 0, 0), (11, .ireturn, 1, 0, 0, 0)]
def op_X11_lasts : List av_Q := [
  (0, .aload_n 0, 1, 0, 0, 0), (1, .iload_n 1, 1, 0, 0, 0), (2, .invokevirtual 155, 3, 36, 1, 11), (5, .ifCond .eq 10, 3, 0, 0, 0),
  (15, .iconst (-1), 1, 0, 0, 0), (16, .ireturn, 1, 0, 0, 0)]
def op_X11_least : List av_Q := [
  (0, .aload_n 0, 1, 0, 0, 0), (1, .iload_n 1, 1, 0, 0, 0), (2, .invokevirtual 155, 3, 36, 1, 11), (5, .ifCond .eq 28, 3, 0, 0, 0),
  (33, .iconst (-1), 1, 0, 0, 0), (34, .ireturn, 1, 0, 0, 0)]
def op_X11_way : List av_Q := [
  (0, .aload_n 0, 1, 0, 0, 0), (1, .iload_n 1, 1, 0, 0, 0), (2, .invokevirtual 155, 3, 36, 1, 11), (5, .ifCond .eq 10, 3, 0, 0, 0),
  (15, .ldc 234, 2, 0, 0, (-2147483648)), (17, .ireturn, 1, 0, 0, 0)]
def op_X11_enough : List av_Q := [
  (0, .aload_n 0, 1, 0, 0, 0), (1, .iload_n 1, 1, 0, 0, 0), (2, .invokevirtual 155, 3, 36, 1, 11), (5, .ifCond .eq 17, 3, 0, 0, 0),
  (22, .iconst (-1), 1, 0, 0, 0), (23, .ireturn, 1, 0, 0, 0)]
def op_X11_bears : List av_Q := [
  (0, .aload_n 0, 1, 0, 0, 0), (1, .iload_n 1, 1, 0, 0, 0), (2, .invokevirtual 155, 3, 36, 1, 11), (5, .ifCond .eq 17, 3, 0, 0, 0),
  (22, .iconst (-1), 1, 0, 0, 0), (23, .ireturn, 1, 0, 0, 0)]
def op_X11_knock : List av_Q := [
  (0, .aload_n 0, 1, 0, 0, 0), (1, .iload_n 1, 1, 0, 0, 0), (2, .invokevirtual 155, 3, 36, 1, 11), (5, .ifCond .eq 24, 3, 0, 0, 0),
  (29, .ldc2_w 308, 3, 0, 0, (-9223372036854775808)), (32, .lreturn, 1, 0, 0, 0)]
def op_X11_measure : List av_Q := [
  (0, .iload 4, 2, 0, 0, 0), (2, .ldc_w 321, 3, 0, 0, (-9999999)), (5, .if_icmp .lt 22, 3, 0, 0, 0), (8, .iload 4, 2, 0, 0, 0),
  (10, .iload 5, 2, 0, 0, 0), (12, .if_icmp .gt 15, 3, 0, 0, 0), (15, .iload 5, 2, 0, 0, 0), (17, .ldc_w 322, 3, 0, 0, 9999999),
  (20, .if_icmp .gt 7, 3, 0, 0, 0), (23, .iconst 1, 1, 0, 0, 0), (24, .goto 4, 3, 0, 0, 0), (27, .iconst 0, 1, 0, 0, 0),
  (28, .istore 6, 2, 0, 0, 0), (30, .aload_n 0, 1, 0, 0, 0), (31, .iload_n 1, 1, 0, 0, 0), (32, .invokevirtual 155, 3, 36, 1, 11),
  (35, .ifCond .eq 24, 3, 0, 0, 0), (59, .iconst (-1), 1, 0, 0, 0), (60, .ireturn, 1, 0, 0, 0)]
def op_X11_strike : List av_Q := [
  (0, .iload_n 1, 1, 0, 0, 0), (1, .ifCond .lt 25, 3, 0, 0, 0), (4, .iload_n 1, 1, 0, 0, 0), (5, .aload_n 0, 1, 0, 0, 0),
  (6, .getfield 73, 3, 11, 12, 4), (9, .getfield 327, 3, 3, 9, 0), (12, .if_icmp .ge 14, 3, 0, 0, 0), (26, .iconst (-1), 1, 0, 0, 0),
  (27, .ireturn, 1, 0, 0, 0)]
def op_X11_known : List av_Q := [
  (0, .iload_n 1, 1, 0, 0, 0), (1, .iconst (-1), 1, 0, 0, 0), (2, .if_icmp .lt 14, 3, 0, 0, 0), (5, .iload_n 1, 1, 0, 0, 0),
  (6, .aload_n 0, 1, 0, 0, 0), (7, .getfield 73, 3, 11, 12, 4), (10, .getfield 327, 3, 3, 9, 0), (13, .if_icmp .le 5, 3, 0, 0, 0),
  (16, .iconst 0, 1, 0, 0, 0), (17, .ireturn, 1, 0, 0, 0), (18, .aload_n 0, 1, 0, 0, 0), (19, .getfield 73, 3, 11, 12, 4),
  (22, .iload_n 1, 1, 0, 0, 0), (23, .putfield 331, 3, 3, 10, 0), (26, .iconst 1, 1, 0, 0, 0), (27, .ireturn, 1, 0, 0, 0)]
def op_X11_fits : List av_Q := [
  (0, .aload_n 0, 1, 0, 0, 0), (1, .iload_n 1, 1, 0, 0, 0), (2, .invokevirtual 155, 3, 36, 1, 11), (5, .ifCond .ne 5, 3, 0, 0, 0),
  (8, .iconst (-1), 1, 0, 0, 0), (9, .ireturn, 1, 0, 0, 0)]
def op_X11_odds : List av_Q := [
  (0, .aload_n 0, 1, 0, 0, 0), (1, .iload_n 1, 1, 0, 0, 0), (2, .invokevirtual 155, 3, 36, 1, 11), (5, .ifCond .eq 27, 3, 0, 0, 0),
  (32, .iconst (-1), 1, 0, 0, 0), (33, .ireturn, 1, 0, 0, 0)]
def op_X11_test : List av_Q := [
  (0, .aload_n 0, 1, 0, 0, 0), (1, .iload_n 1, 1, 0, 0, 0), (2, .invokevirtual 155, 3, 36, 1, 11), (5, .ifCond .eq 12, 3, 0, 0, 0),
  (17, .iconst (-1), 1, 0, 0, 0), (18, .ireturn, 1, 0, 0, 0)]
def op_X11_low : List av_Q := [
  (0, .aload_n 0, 1, 0, 0, 0), (1, .iload_n 1, 1, 0, 0, 0), (2, .invokevirtual 155, 3, 36, 1, 11), (5, .ifCond .eq 10, 3, 0, 0, 0),
  (15, .ldc 234, 2, 0, 0, (-2147483648)), (17, .ireturn, 1, 0, 0, 0)]
def op_X11_rest : List av_Q := [
  (0, .aload_n 0, 1, 0, 0, 0), (1, .iload_n 1, 1, 0, 0, 0), (2, .invokevirtual 155, 3, 36, 1, 11), (5, .ifCond .ne 5, 3, 0, 0, 0),
  (8, .iconst (-1), 1, 0, 0, 0), (9, .ireturn, 1, 0, 0, 0)]
def op_X11_shuts : List av_Q := [
  (0, .aload_n 0, 1, 0, 0, 0), (1, .iload_n 1, 1, 0, 0, 0), (2, .invokevirtual 155, 3, 36, 1, 11), (5, .ifCond .ne 5, 3, 0, 0, 0),
  (8, .iconst (-1), 1, 0, 0, 0), (9, .ireturn, 1, 0, 0, 0)]
def op_X11_above : List av_Q := [
  (0, .aload_n 0, 1, 0, 0, 0), (1, .iload_n 1, 1, 0, 0, 0), (2, .invokevirtual 155, 3, 36, 1, 11), (5, .ifCond .eq 10, 3, 0, 0, 0),
  (15, .ldc 234, 2, 0, 0, (-2147483648)), (17, .ireturn, 1, 0, 0, 0)]
def op_X11_opens : List av_Q := [
  (0, .aload_n 0, 1, 0, 0, 0), (1, .iload_n 1, 1, 0, 0, 0), (2, .invokevirtual 155, 3, 36, 1, 11), (5, .ifCond .ne 6, 3, 0, 0, 0),
  (8, .bipush (-2), 2, 0, 0, 0), (10, .ireturn, 1, 0, 0, 0)]
def op_X11_stand : List av_Q := [
  (0, .aload_n 0, 1, 0, 0, 0), (1, .iload_n 1, 1, 0, 0, 0), (2, .invokevirtual 155, 3, 36, 1, 11), (5, .ifCond .eq 19, 3, 0, 0, 0),
  (24, .ldc 234, 2, 0, 0, (-2147483648)), (26, .ireturn, 1, 0, 0, 0)]
def op_X11_first : List av_Q := [
  (0, .aload_n 0, 1, 0, 0, 0), (1, .getfield 18, 3, 11, 2, 4), (4, .getfield 134, 3, 4, 9, 0), (7, .ifCond .eq 29, 3, 0, 0, 0),
  (36, .iconst (-1), 1, 0, 0, 0), (37, .ireturn, 1, 0, 0, 0)]
def op_X11_wind : List av_Q := [
  (0, .iload_n 3, 1, 0, 0, 0), (1, .iconst 1, 1, 0, 0, 0), (2, .if_icmp .lt 13, 3, 0, 0, 0), (5, .iload_n 3, 1, 0, 0, 0),
  (6, .bipush 100, 2, 0, 0, 0), (8, .if_icmp .gt 7, 3, 0, 0, 0), (11, .iconst 1, 1, 0, 0, 0), (12, .goto 4, 3, 0, 0, 0),
  (15, .iconst 0, 1, 0, 0, 0), (16, .istore 6, 2, 0, 0, 0), (18, .iload 4, 2, 0, 0, 0), (20, .iconst 1, 1, 0, 0, 0),
  (21, .if_icmp .lt 14, 3, 0, 0, 0), (24, .iload 4, 2, 0, 0, 0), (26, .bipush 99, 2, 0, 0, 0), (28, .if_icmp .gt 7, 3, 0, 0, 0),
  (31, .iconst 1, 1, 0, 0, 0), (32, .goto 4, 3, 0, 0, 0), (35, .iconst 0, 1, 0, 0, 0), (36, .istore 7, 2, 0, 0, 0),
  (38, .aload_n 0, 1, 0, 0, 0), (39, .iload_n 1, 1, 0, 0, 0), (40, .invokevirtual 155, 3, 36, 1, 11), (43, .ifCond .eq 25, 3, 0, 0, 0),
  (68, .iconst (-1), 1, 0, 0, 0), (69, .ireturn, 1, 0, 0, 0)]
def op_X11_keep : List av_Q := [
  (0, .iconst 0, 1, 0, 0, 0), (1, .istore_n 1, 1, 0, 0, 0), (2, .iload_n 1, 1, 0, 0, 0), (3, .iconst 4, 1, 0, 0, 0),
  (4, .if_icmp .ge 24, 3, 0, 0, 0), (7, .aload_n 0, 1, 0, 0, 0), (8, .getfield 54, 3, 11, 9, 4), (11, .iload_n 1, 1, 0, 0, 0),
  (12, .aaload, 1, 0, 0, 0), (13, .aload_n 0, 1, 0, 0, 0), (14, .getfield 50, 3, 11, 7, 4), (17, .iload_n 1, 1, 0, 0, 0),
  (18, .aaload, 1, 0, 0, 0), (19, .invokevirtual 286, 3, 4, 1, 1), (22, .iinc 1 1, 3, 0, 0, 0), (25, .goto (-23), 3, 0, 0, 0),
  (28, .aload_n 0, 1, 0, 0, 0), (29, .aload_n 0, 1, 0, 0, 0), (30, .getfield 117, 3, 11, 8, 0), (33, .putfield 57, 3, 11, 10, 0),
  (36, .aload_n 0, 1, 0, 0, 0), (37, .getfield 117, 3, 11, 8, 0), (40, .ireturn, 1, 0, 0, 0)]
def op_X11_back : List av_Q := [
  (0, .aload_n 0, 1, 0, 0, 0), (1, .getfield 57, 3, 11, 10, 0), (4, .iconst (-1), 1, 0, 0, 0), (5, .if_icmp .ne 5, 3, 0, 0, 0),
  (8, .iconst (-1), 1, 0, 0, 0), (9, .ireturn, 1, 0, 0, 0)]
def op_X11_count : List av_Q := [
  (0, .iload_n 1, 1, 0, 0, 0), (1, .tableswitch 117 0 8 #[51, 59, 67, 75, 83, 88, 96, 104, 112], 51, 0, 0, 0), (52, .aload_n 0, 1, 0, 0, 0), (53, .getfield 18, 3, 11, 2, 4),
  (56, .getfield 134, 3, 4, 9, 0), (59, .ireturn, 1, 0, 0, 0), (60, .aload_n 0, 1, 0, 0, 0), (61, .getfield 18, 3, 11, 2, 4),
  (64, .getfield 144, 3, 4, 14, 0), (67, .ireturn, 1, 0, 0, 0), (68, .aload_n 0, 1, 0, 0, 0), (69, .getfield 18, 3, 11, 2, 4),
  (72, .getfield 150, 3, 4, 19, 0), (75, .ireturn, 1, 0, 0, 0), (76, .aload_n 0, 1, 0, 0, 0), (77, .getfield 18, 3, 11, 2, 4),
  (80, .getfield 398, 3, 4, 3, 0), (83, .ireturn, 1, 0, 0, 0), (84, .aload_n 0, 1, 0, 0, 0), (85, .getfield 117, 3, 11, 8, 0),
  (88, .ireturn, 1, 0, 0, 0), (89, .aload_n 0, 1, 0, 0, 0), (90, .getfield 73, 3, 11, 12, 4), (93, .getfield 327, 3, 3, 9, 0),
  (96, .ireturn, 1, 0, 0, 0), (97, .aload_n 0, 1, 0, 0, 0), (98, .getfield 73, 3, 11, 12, 4), (101, .invokevirtual 401, 3, 9, 0, 3),
  (104, .ireturn, 1, 0, 0, 0), (105, .aload_n 0, 1, 0, 0, 0), (106, .getfield 66, 3, 11, 11, 4), (109, .getfield 273, 3, 10, 2, 0),
  (112, .ireturn, 1, 0, 0, 0), (113, .aload_n 0, 1, 0, 0, 0), (114, .invokevirtual 404, 3, 70, 0, 11), (117, .ireturn, 1, 0, 0, 0),
  (118, .iconst (-1), 1, 0, 0, 0), (119, .ireturn, 1, 0, 0, 0)]
def op_X11_costOfAllDone : List av_Q := [
  (0, .iconst 0, 1, 0, 0, 0), (1, .istore_n 1, 1, 0, 0, 0), (2, .iconst 0, 1, 0, 0, 0), (3, .istore_n 2, 1, 0, 0, 0),
  (4, .iload_n 2, 1, 0, 0, 0), (5, .aload_n 0, 1, 0, 0, 0), (6, .getfield 18, 3, 11, 2, 4), (9, .getfield 134, 3, 4, 9, 0),
  (12, .if_icmp .ge 37, 3, 0, 0, 0), (49, .iload_n 1, 1, 0, 0, 0), (50, .ireturn, 1, 0, 0, 0)]
def op_X12_init_0 : List av_Q := [
  (0, .aload_n 0, 1, 0, 0, 0), (1, .invokespecial 1, 3, 9999, 0, 0), (4, .aload_n 0, 1, 0, 0, 0), (5, .sipush 900, 3, 0, 0, 0),
  (8, .newarray .int, 2, 0, 0, 0), (10, .putfield 7, 3, 12, 0, 4), (13, .aload_n 0, 1, 0, 0, 0), (14, .sipush 177, 3, 0, 0, 0),
  (17, .newarray .int, 2, 0, 0, 0), (19, .dup, 1, 0, 0, 0), (20, .iconst 0, 1, 0, 0, 0), (21, .bipush 103, 2, 0, 0, 0),
  (23, .iastore, 1, 0, 0, 0), (24, .dup, 1, 0, 0, 0), (25, .iconst 1, 1, 0, 0, 0), (26, .bipush 114, 2, 0, 0, 0),
  (28, .iastore, 1, 0, 0, 0), (29, .dup, 1, 0, 0, 0), (30, .iconst 2, 1, 0, 0, 0), (31, .bipush 111, 2, 0, 0, 0),
  (33, .iastore, 1, 0, 0, 0), (34, .dup, 1, 0, 0, 0), (35, .iconst 3, 1, 0, 0, 0), (36, .bipush 117, 2, 0, 0, 0),
  (38, .iastore, 1, 0, 0, 0), (39, .dup, 1, 0, 0, 0), (40, .iconst 4, 1, 0, 0, 0), (41, .bipush 110, 2, 0, 0, 0),
  (43, .iastore, 1, 0, 0, 0), (44, .dup, 1, 0, 0, 0), (45, .iconst 5, 1, 0, 0, 0), (46, .bipush 100, 2, 0, 0, 0),
  (48, .iastore, 1, 0, 0, 0), (49, .dup, 1, 0, 0, 0), (50, .bipush 6, 2, 0, 0, 0), (52, .bipush 32, 2, 0, 0, 0),
  (54, .iastore, 1, 0, 0, 0), (55, .dup, 1, 0, 0, 0), (56, .bipush 7, 2, 0, 0, 0), (58, .bipush 108, 2, 0, 0, 0),
  (60, .iastore, 1, 0, 0, 0), (61, .dup, 1, 0, 0, 0), (62, .bipush 8, 2, 0, 0, 0), (64, .bipush 97, 2, 0, 0, 0),
  (66, .iastore, 1, 0, 0, 0), (67, .dup, 1, 0, 0, 0), (68, .bipush 9, 2, 0, 0, 0), (70, .bipush 119, 2, 0, 0, 0),
  (72, .iastore, 1, 0, 0, 0), (73, .dup, 1, 0, 0, 0), (74, .bipush 10, 2, 0, 0, 0), (76, .bipush 32, 2, 0, 0, 0),
  (78, .iastore, 1, 0, 0, 0), (79, .dup, 1, 0, 0, 0), (80, .bipush 11, 2, 0, 0, 0), (82, .bipush 103, 2, 0, 0, 0),
  (84, .iastore, 1, 0, 0, 0), (85, .dup, 1, 0, 0, 0), (86, .bipush 12, 2, 0, 0, 0), (88, .bipush 97, 2, 0, 0, 0)]
def op_X12_init_1 : List av_Q := [
  (90, .iastore, 1, 0, 0, 0), (91, .dup, 1, 0, 0, 0), (92, .bipush 13, 2, 0, 0, 0), (94, .bipush 116, 2, 0, 0, 0),
  (96, .iastore, 1, 0, 0, 0), (97, .dup, 1, 0, 0, 0), (98, .bipush 14, 2, 0, 0, 0), (100, .bipush 101, 2, 0, 0, 0),
  (102, .iastore, 1, 0, 0, 0), (103, .dup, 1, 0, 0, 0), (104, .bipush 15, 2, 0, 0, 0), (106, .bipush 32, 2, 0, 0, 0),
  (108, .iastore, 1, 0, 0, 0), (109, .dup, 1, 0, 0, 0), (110, .bipush 16, 2, 0, 0, 0), (112, .bipush 119, 2, 0, 0, 0),
  (114, .iastore, 1, 0, 0, 0), (115, .dup, 1, 0, 0, 0), (116, .bipush 17, 2, 0, 0, 0), (118, .bipush 111, 2, 0, 0, 0),
  (120, .iastore, 1, 0, 0, 0), (121, .dup, 1, 0, 0, 0), (122, .bipush 18, 2, 0, 0, 0), (124, .bipush 114, 2, 0, 0, 0),
  (126, .iastore, 1, 0, 0, 0), (127, .dup, 1, 0, 0, 0), (128, .bipush 19, 2, 0, 0, 0), (130, .bipush 107, 2, 0, 0, 0),
  (132, .iastore, 1, 0, 0, 0), (133, .dup, 1, 0, 0, 0), (134, .bipush 20, 2, 0, 0, 0), (136, .bipush 32, 2, 0, 0, 0),
  (138, .iastore, 1, 0, 0, 0), (139, .dup, 1, 0, 0, 0), (140, .bipush 21, 2, 0, 0, 0), (142, .bipush 99, 2, 0, 0, 0),
  (144, .iastore, 1, 0, 0, 0), (145, .dup, 1, 0, 0, 0), (146, .bipush 22, 2, 0, 0, 0), (148, .bipush 97, 2, 0, 0, 0),
  (150, .iastore, 1, 0, 0, 0), (151, .dup, 1, 0, 0, 0), (152, .bipush 23, 2, 0, 0, 0), (154, .bipush 117, 2, 0, 0, 0),
  (156, .iastore, 1, 0, 0, 0), (157, .dup, 1, 0, 0, 0), (158, .bipush 24, 2, 0, 0, 0), (160, .bipush 115, 2, 0, 0, 0),
  (162, .iastore, 1, 0, 0, 0), (163, .dup, 1, 0, 0, 0), (164, .bipush 25, 2, 0, 0, 0), (166, .bipush 101, 2, 0, 0, 0),
  (168, .iastore, 1, 0, 0, 0), (169, .dup, 1, 0, 0, 0), (170, .bipush 26, 2, 0, 0, 0), (172, .bipush 32, 2, 0, 0, 0),
  (174, .iastore, 1, 0, 0, 0), (175, .dup, 1, 0, 0, 0), (176, .bipush 27, 2, 0, 0, 0), (178, .bipush 108, 2, 0, 0, 0)]
def op_X12_init_2 : List av_Q := [
  (180, .iastore, 1, 0, 0, 0), (181, .dup, 1, 0, 0, 0), (182, .bipush 28, 2, 0, 0, 0), (184, .bipush 101, 2, 0, 0, 0),
  (186, .iastore, 1, 0, 0, 0), (187, .dup, 1, 0, 0, 0), (188, .bipush 29, 2, 0, 0, 0), (190, .bipush 97, 2, 0, 0, 0),
  (192, .iastore, 1, 0, 0, 0), (193, .dup, 1, 0, 0, 0), (194, .bipush 30, 2, 0, 0, 0), (196, .bipush 110, 2, 0, 0, 0),
  (198, .iastore, 1, 0, 0, 0), (199, .dup, 1, 0, 0, 0), (200, .bipush 31, 2, 0, 0, 0), (202, .bipush 32, 2, 0, 0, 0),
  (204, .iastore, 1, 0, 0, 0), (205, .dup, 1, 0, 0, 0), (206, .bipush 32, 2, 0, 0, 0), (208, .bipush 111, 2, 0, 0, 0),
  (210, .iastore, 1, 0, 0, 0), (211, .dup, 1, 0, 0, 0), (212, .bipush 33, 2, 0, 0, 0), (214, .bipush 112, 2, 0, 0, 0),
  (216, .iastore, 1, 0, 0, 0), (217, .dup, 1, 0, 0, 0), (218, .bipush 34, 2, 0, 0, 0), (220, .bipush 101, 2, 0, 0, 0),
  (222, .iastore, 1, 0, 0, 0), (223, .dup, 1, 0, 0, 0), (224, .bipush 35, 2, 0, 0, 0), (226, .bipush 110, 2, 0, 0, 0),
  (228, .iastore, 1, 0, 0, 0), (229, .dup, 1, 0, 0, 0), (230, .bipush 36, 2, 0, 0, 0), (232, .bipush 32, 2, 0, 0, 0),
  (234, .iastore, 1, 0, 0, 0), (235, .dup, 1, 0, 0, 0), (236, .bipush 37, 2, 0, 0, 0), (238, .bipush 98, 2, 0, 0, 0),
  (240, .iastore, 1, 0, 0, 0), (241, .dup, 1, 0, 0, 0), (242, .bipush 38, 2, 0, 0, 0), (244, .bipush 101, 2, 0, 0, 0),
  (246, .iastore, 1, 0, 0, 0), (247, .dup, 1, 0, 0, 0), (248, .bipush 39, 2, 0, 0, 0), (250, .bipush 110, 2, 0, 0, 0),
  (252, .iastore, 1, 0, 0, 0), (253, .dup, 1, 0, 0, 0), (254, .bipush 40, 2, 0, 0, 0), (256, .bipush 100, 2, 0, 0, 0),
  (258, .iastore, 1, 0, 0, 0), (259, .dup, 1, 0, 0, 0), (260, .bipush 41, 2, 0, 0, 0), (262, .bipush 32, 2, 0, 0, 0),
  (264, .iastore, 1, 0, 0, 0), (265, .dup, 1, 0, 0, 0), (266, .bipush 42, 2, 0, 0, 0), (268, .bipush 107, 2, 0, 0, 0)]
def op_X12_init_3 : List av_Q := [
  (270, .iastore, 1, 0, 0, 0), (271, .dup, 1, 0, 0, 0), (272, .bipush 43, 2, 0, 0, 0), (274, .bipush 110, 2, 0, 0, 0),
  (276, .iastore, 1, 0, 0, 0), (277, .dup, 1, 0, 0, 0), (278, .bipush 44, 2, 0, 0, 0), (280, .bipush 111, 2, 0, 0, 0),
  (282, .iastore, 1, 0, 0, 0), (283, .dup, 1, 0, 0, 0), (284, .bipush 45, 2, 0, 0, 0), (286, .bipush 99, 2, 0, 0, 0),
  (288, .iastore, 1, 0, 0, 0), (289, .dup, 1, 0, 0, 0), (290, .bipush 46, 2, 0, 0, 0), (292, .bipush 107, 2, 0, 0, 0),
  (294, .iastore, 1, 0, 0, 0), (295, .dup, 1, 0, 0, 0), (296, .bipush 47, 2, 0, 0, 0), (298, .bipush 32, 2, 0, 0, 0),
  (300, .iastore, 1, 0, 0, 0), (301, .dup, 1, 0, 0, 0), (302, .bipush 48, 2, 0, 0, 0), (304, .bipush 104, 2, 0, 0, 0),
  (306, .iastore, 1, 0, 0, 0), (307, .dup, 1, 0, 0, 0), (308, .bipush 49, 2, 0, 0, 0), (310, .bipush 111, 2, 0, 0, 0),
  (312, .iastore, 1, 0, 0, 0), (313, .dup, 1, 0, 0, 0), (314, .bipush 50, 2, 0, 0, 0), (316, .bipush 111, 2, 0, 0, 0),
  (318, .iastore, 1, 0, 0, 0), (319, .dup, 1, 0, 0, 0), (320, .bipush 51, 2, 0, 0, 0), (322, .bipush 107, 2, 0, 0, 0),
  (324, .iastore, 1, 0, 0, 0), (325, .dup, 1, 0, 0, 0), (326, .bipush 52, 2, 0, 0, 0), (328, .bipush 115, 2, 0, 0, 0),
  (330, .iastore, 1, 0, 0, 0), (331, .dup, 1, 0, 0, 0), (332, .bipush 53, 2, 0, 0, 0), (334, .bipush 32, 2, 0, 0, 0),
  (336, .iastore, 1, 0, 0, 0), (337, .dup, 1, 0, 0, 0), (338, .bipush 54, 2, 0, 0, 0), (340, .bipush 112, 2, 0, 0, 0),
  (342, .iastore, 1, 0, 0, 0), (343, .dup, 1, 0, 0, 0), (344, .bipush 55, 2, 0, 0, 0), (346, .bipush 111, 2, 0, 0, 0),
  (348, .iastore, 1, 0, 0, 0), (349, .dup, 1, 0, 0, 0), (350, .bipush 56, 2, 0, 0, 0), (352, .bipush 115, 2, 0, 0, 0),
  (354, .iastore, 1, 0, 0, 0), (355, .dup, 1, 0, 0, 0), (356, .bipush 57, 2, 0, 0, 0), (358, .bipush 116, 2, 0, 0, 0)]
def op_X12_init_4 : List av_Q := [
  (360, .iastore, 1, 0, 0, 0), (361, .dup, 1, 0, 0, 0), (362, .bipush 58, 2, 0, 0, 0), (364, .bipush 32, 2, 0, 0, 0),
  (366, .iastore, 1, 0, 0, 0), (367, .dup, 1, 0, 0, 0), (368, .bipush 59, 2, 0, 0, 0), (370, .bipush 98, 2, 0, 0, 0),
  (372, .iastore, 1, 0, 0, 0), (373, .dup, 1, 0, 0, 0), (374, .bipush 60, 2, 0, 0, 0), (376, .bipush 114, 2, 0, 0, 0),
  (378, .iastore, 1, 0, 0, 0), (379, .dup, 1, 0, 0, 0), (380, .bipush 61, 2, 0, 0, 0), (382, .bipush 97, 2, 0, 0, 0),
  (384, .iastore, 1, 0, 0, 0), (385, .dup, 1, 0, 0, 0), (386, .bipush 62, 2, 0, 0, 0), (388, .bipush 99, 2, 0, 0, 0),
  (390, .iastore, 1, 0, 0, 0), (391, .dup, 1, 0, 0, 0), (392, .bipush 63, 2, 0, 0, 0), (394, .bipush 101, 2, 0, 0, 0),
  (396, .iastore, 1, 0, 0, 0), (397, .dup, 1, 0, 0, 0), (398, .bipush 64, 2, 0, 0, 0), (400, .bipush 32, 2, 0, 0, 0),
  (402, .iastore, 1, 0, 0, 0), (403, .dup, 1, 0, 0, 0), (404, .bipush 65, 2, 0, 0, 0), (406, .bipush 108, 2, 0, 0, 0),
  (408, .iastore, 1, 0, 0, 0), (409, .dup, 1, 0, 0, 0), (410, .bipush 66, 2, 0, 0, 0), (412, .bipush 97, 2, 0, 0, 0),
  (414, .iastore, 1, 0, 0, 0), (415, .dup, 1, 0, 0, 0), (416, .bipush 67, 2, 0, 0, 0), (418, .bipush 116, 2, 0, 0, 0),
  (420, .iastore, 1, 0, 0, 0), (421, .dup, 1, 0, 0, 0), (422, .bipush 68, 2, 0, 0, 0), (424, .bipush 99, 2, 0, 0, 0),
  (426, .iastore, 1, 0, 0, 0), (427, .dup, 1, 0, 0, 0), (428, .bipush 69, 2, 0, 0, 0), (430, .bipush 104, 2, 0, 0, 0),
  (432, .iastore, 1, 0, 0, 0), (433, .dup, 1, 0, 0, 0), (434, .bipush 70, 2, 0, 0, 0), (436, .bipush 32, 2, 0, 0, 0),
  (438, .iastore, 1, 0, 0, 0), (439, .dup, 1, 0, 0, 0), (440, .bipush 71, 2, 0, 0, 0), (442, .bipush 103, 2, 0, 0, 0),
  (444, .iastore, 1, 0, 0, 0), (445, .dup, 1, 0, 0, 0), (446, .bipush 72, 2, 0, 0, 0), (448, .bipush 97, 2, 0, 0, 0)]
def op_X12_init_5 : List av_Q := [
  (450, .iastore, 1, 0, 0, 0), (451, .dup, 1, 0, 0, 0), (452, .bipush 73, 2, 0, 0, 0), (454, .bipush 112, 2, 0, 0, 0),
  (456, .iastore, 1, 0, 0, 0), (457, .dup, 1, 0, 0, 0), (458, .bipush 74, 2, 0, 0, 0), (460, .bipush 32, 2, 0, 0, 0),
  (462, .iastore, 1, 0, 0, 0), (463, .dup, 1, 0, 0, 0), (464, .bipush 75, 2, 0, 0, 0), (466, .bipush 114, 2, 0, 0, 0),
  (468, .iastore, 1, 0, 0, 0), (469, .dup, 1, 0, 0, 0), (470, .bipush 76, 2, 0, 0, 0), (472, .bipush 105, 2, 0, 0, 0),
  (474, .iastore, 1, 0, 0, 0), (475, .dup, 1, 0, 0, 0), (476, .bipush 77, 2, 0, 0, 0), (478, .bipush 115, 2, 0, 0, 0),
  (480, .iastore, 1, 0, 0, 0), (481, .dup, 1, 0, 0, 0), (482, .bipush 78, 2, 0, 0, 0), (484, .bipush 101, 2, 0, 0, 0),
  (486, .iastore, 1, 0, 0, 0), (487, .dup, 1, 0, 0, 0), (488, .bipush 79, 2, 0, 0, 0), (490, .bipush 32, 2, 0, 0, 0),
  (492, .iastore, 1, 0, 0, 0), (493, .dup, 1, 0, 0, 0), (494, .bipush 80, 2, 0, 0, 0), (496, .bipush 104, 2, 0, 0, 0),
  (498, .iastore, 1, 0, 0, 0), (499, .dup, 1, 0, 0, 0), (500, .bipush 81, 2, 0, 0, 0), (502, .bipush 97, 2, 0, 0, 0),
  (504, .iastore, 1, 0, 0, 0), (505, .dup, 1, 0, 0, 0), (506, .bipush 82, 2, 0, 0, 0), (508, .bipush 115, 2, 0, 0, 0),
  (510, .iastore, 1, 0, 0, 0), (511, .dup, 1, 0, 0, 0), (512, .bipush 83, 2, 0, 0, 0), (514, .bipush 32, 2, 0, 0, 0),
  (516, .iastore, 1, 0, 0, 0), (517, .dup, 1, 0, 0, 0), (518, .bipush 84, 2, 0, 0, 0), (520, .bipush 115, 2, 0, 0, 0),
  (522, .iastore, 1, 0, 0, 0), (523, .dup, 1, 0, 0, 0), (524, .bipush 85, 2, 0, 0, 0), (526, .bipush 113, 2, 0, 0, 0),
  (528, .iastore, 1, 0, 0, 0), (529, .dup, 1, 0, 0, 0), (530, .bipush 86, 2, 0, 0, 0), (532, .bipush 117, 2, 0, 0, 0),
  (534, .iastore, 1, 0, 0, 0), (535, .dup, 1, 0, 0, 0), (536, .bipush 87, 2, 0, 0, 0), (538, .bipush 97, 2, 0, 0, 0)]
def op_X12_init_6 : List av_Q := [
  (540, .iastore, 1, 0, 0, 0), (541, .dup, 1, 0, 0, 0), (542, .bipush 88, 2, 0, 0, 0), (544, .bipush 114, 2, 0, 0, 0),
  (546, .iastore, 1, 0, 0, 0), (547, .dup, 1, 0, 0, 0), (548, .bipush 89, 2, 0, 0, 0), (550, .bipush 101, 2, 0, 0, 0),
  (552, .iastore, 1, 0, 0, 0), (553, .dup, 1, 0, 0, 0), (554, .bipush 90, 2, 0, 0, 0), (556, .bipush 32, 2, 0, 0, 0),
  (558, .iastore, 1, 0, 0, 0), (559, .dup, 1, 0, 0, 0), (560, .bipush 91, 2, 0, 0, 0), (562, .bipush 119, 2, 0, 0, 0),
  (564, .iastore, 1, 0, 0, 0), (565, .dup, 1, 0, 0, 0), (566, .bipush 92, 2, 0, 0, 0), (568, .bipush 105, 2, 0, 0, 0),
  (570, .iastore, 1, 0, 0, 0), (571, .dup, 1, 0, 0, 0), (572, .bipush 93, 2, 0, 0, 0), (574, .bipush 114, 2, 0, 0, 0),
  (576, .iastore, 1, 0, 0, 0), (577, .dup, 1, 0, 0, 0), (578, .bipush 94, 2, 0, 0, 0), (580, .bipush 101, 2, 0, 0, 0),
  (582, .iastore, 1, 0, 0, 0), (583, .dup, 1, 0, 0, 0), (584, .bipush 95, 2, 0, 0, 0), (586, .bipush 32, 2, 0, 0, 0),
  (588, .iastore, 1, 0, 0, 0), (589, .dup, 1, 0, 0, 0), (590, .bipush 96, 2, 0, 0, 0), (592, .bipush 119, 2, 0, 0, 0),
  (594, .iastore, 1, 0, 0, 0), (595, .dup, 1, 0, 0, 0), (596, .bipush 97, 2, 0, 0, 0), (598, .bipush 104, 2, 0, 0, 0),
  (600, .iastore, 1, 0, 0, 0), (601, .dup, 1, 0, 0, 0), (602, .bipush 98, 2, 0, 0, 0), (604, .bipush 101, 2, 0, 0, 0),
  (606, .iastore, 1, 0, 0, 0), (607, .dup, 1, 0, 0, 0), (608, .bipush 99, 2, 0, 0, 0), (610, .bipush 101, 2, 0, 0, 0),
  (612, .iastore, 1, 0, 0, 0), (613, .dup, 1, 0, 0, 0), (614, .bipush 100, 2, 0, 0, 0), (616, .bipush 108, 2, 0, 0, 0),
  (618, .iastore, 1, 0, 0, 0), (619, .dup, 1, 0, 0, 0), (620, .bipush 101, 2, 0, 0, 0), (622, .bipush 32, 2, 0, 0, 0),
  (624, .iastore, 1, 0, 0, 0), (625, .dup, 1, 0, 0, 0), (626, .bipush 102, 2, 0, 0, 0), (628, .bipush 115, 2, 0, 0, 0)]
def op_X12_init_7 : List av_Q := [
  (630, .iastore, 1, 0, 0, 0), (631, .dup, 1, 0, 0, 0), (632, .bipush 103, 2, 0, 0, 0), (634, .bipush 116, 2, 0, 0, 0),
  (636, .iastore, 1, 0, 0, 0), (637, .dup, 1, 0, 0, 0), (638, .bipush 104, 2, 0, 0, 0), (640, .bipush 111, 2, 0, 0, 0),
  (642, .iastore, 1, 0, 0, 0), (643, .dup, 1, 0, 0, 0), (644, .bipush 105, 2, 0, 0, 0), (646, .bipush 110, 2, 0, 0, 0),
  (648, .iastore, 1, 0, 0, 0), (649, .dup, 1, 0, 0, 0), (650, .bipush 106, 2, 0, 0, 0), (652, .bipush 101, 2, 0, 0, 0),
  (654, .iastore, 1, 0, 0, 0), (655, .dup, 1, 0, 0, 0), (656, .bipush 107, 2, 0, 0, 0), (658, .bipush 115, 2, 0, 0, 0),
  (660, .iastore, 1, 0, 0, 0), (661, .dup, 1, 0, 0, 0), (662, .bipush 108, 2, 0, 0, 0), (664, .bipush 32, 2, 0, 0, 0),
  (666, .iastore, 1, 0, 0, 0), (667, .dup, 1, 0, 0, 0), (668, .bipush 109, 2, 0, 0, 0), (670, .bipush 114, 2, 0, 0, 0),
  (672, .iastore, 1, 0, 0, 0), (673, .dup, 1, 0, 0, 0), (674, .bipush 110, 2, 0, 0, 0), (676, .bipush 101, 2, 0, 0, 0),
  (678, .iastore, 1, 0, 0, 0), (679, .dup, 1, 0, 0, 0), (680, .bipush 111, 2, 0, 0, 0), (682, .bipush 104, 2, 0, 0, 0),
  (684, .iastore, 1, 0, 0, 0), (685, .dup, 1, 0, 0, 0), (686, .bipush 112, 2, 0, 0, 0), (688, .bipush 97, 2, 0, 0, 0),
  (690, .iastore, 1, 0, 0, 0), (691, .dup, 1, 0, 0, 0), (692, .bipush 113, 2, 0, 0, 0), (694, .bipush 110, 2, 0, 0, 0),
  (696, .iastore, 1, 0, 0, 0), (697, .dup, 1, 0, 0, 0), (698, .bipush 114, 2, 0, 0, 0), (700, .bipush 103, 2, 0, 0, 0),
  (702, .iastore, 1, 0, 0, 0), (703, .dup, 1, 0, 0, 0), (704, .bipush 115, 2, 0, 0, 0), (706, .bipush 32, 2, 0, 0, 0),
  (708, .iastore, 1, 0, 0, 0), (709, .dup, 1, 0, 0, 0), (710, .bipush 116, 2, 0, 0, 0), (712, .bipush 97, 2, 0, 0, 0),
  (714, .iastore, 1, 0, 0, 0), (715, .dup, 1, 0, 0, 0), (716, .bipush 117, 2, 0, 0, 0), (718, .bipush 110, 2, 0, 0, 0)]
def op_X12_init_8 : List av_Q := [
  (720, .iastore, 1, 0, 0, 0), (721, .dup, 1, 0, 0, 0), (722, .bipush 118, 2, 0, 0, 0), (724, .bipush 100, 2, 0, 0, 0),
  (726, .iastore, 1, 0, 0, 0), (727, .dup, 1, 0, 0, 0), (728, .bipush 119, 2, 0, 0, 0), (730, .bipush 32, 2, 0, 0, 0),
  (732, .iastore, 1, 0, 0, 0), (733, .dup, 1, 0, 0, 0), (734, .bipush 120, 2, 0, 0, 0), (736, .bipush 111, 2, 0, 0, 0),
  (738, .iastore, 1, 0, 0, 0), (739, .dup, 1, 0, 0, 0), (740, .bipush 121, 2, 0, 0, 0), (742, .bipush 114, 2, 0, 0, 0),
  (744, .iastore, 1, 0, 0, 0), (745, .dup, 1, 0, 0, 0), (746, .bipush 122, 2, 0, 0, 0), (748, .bipush 32, 2, 0, 0, 0),
  (750, .iastore, 1, 0, 0, 0), (751, .dup, 1, 0, 0, 0), (752, .bipush 123, 2, 0, 0, 0), (754, .bipush 110, 2, 0, 0, 0),
  (756, .iastore, 1, 0, 0, 0), (757, .dup, 1, 0, 0, 0), (758, .bipush 124, 2, 0, 0, 0), (760, .bipush 111, 2, 0, 0, 0),
  (762, .iastore, 1, 0, 0, 0), (763, .dup, 1, 0, 0, 0), (764, .bipush 125, 2, 0, 0, 0), (766, .bipush 116, 2, 0, 0, 0),
  (768, .iastore, 1, 0, 0, 0), (769, .dup, 1, 0, 0, 0), (770, .bipush 126, 2, 0, 0, 0), (772, .bipush 32, 2, 0, 0, 0),
  (774, .iastore, 1, 0, 0, 0), (775, .dup, 1, 0, 0, 0), (776, .bipush 127, 2, 0, 0, 0), (778, .bipush 112, 2, 0, 0, 0),
  (780, .iastore, 1, 0, 0, 0), (781, .dup, 1, 0, 0, 0), (782, .sipush 128, 3, 0, 0, 0), (785, .bipush 117, 2, 0, 0, 0),
  (787, .iastore, 1, 0, 0, 0), (788, .dup, 1, 0, 0, 0), (789, .sipush 129, 3, 0, 0, 0), (792, .bipush 108, 2, 0, 0, 0),
  (794, .iastore, 1, 0, 0, 0), (795, .dup, 1, 0, 0, 0), (796, .sipush 130, 3, 0, 0, 0), (799, .bipush 108, 2, 0, 0, 0),
  (801, .iastore, 1, 0, 0, 0), (802, .dup, 1, 0, 0, 0), (803, .sipush 131, 3, 0, 0, 0), (806, .bipush 32, 2, 0, 0, 0),
  (808, .iastore, 1, 0, 0, 0), (809, .dup, 1, 0, 0, 0), (810, .sipush 132, 3, 0, 0, 0), (813, .bipush 102, 2, 0, 0, 0)]
def op_X12_init_9 : List av_Q := [
  (815, .iastore, 1, 0, 0, 0), (816, .dup, 1, 0, 0, 0), (817, .sipush 133, 3, 0, 0, 0), (820, .bipush 105, 2, 0, 0, 0),
  (822, .iastore, 1, 0, 0, 0), (823, .dup, 1, 0, 0, 0), (824, .sipush 134, 3, 0, 0, 0), (827, .bipush 114, 2, 0, 0, 0),
  (829, .iastore, 1, 0, 0, 0), (830, .dup, 1, 0, 0, 0), (831, .sipush 135, 3, 0, 0, 0), (834, .bipush 109, 2, 0, 0, 0),
  (836, .iastore, 1, 0, 0, 0), (837, .dup, 1, 0, 0, 0), (838, .sipush 136, 3, 0, 0, 0), (841, .bipush 32, 2, 0, 0, 0),
  (843, .iastore, 1, 0, 0, 0), (844, .dup, 1, 0, 0, 0), (845, .sipush 137, 3, 0, 0, 0), (848, .bipush 100, 2, 0, 0, 0),
  (850, .iastore, 1, 0, 0, 0), (851, .dup, 1, 0, 0, 0), (852, .sipush 138, 3, 0, 0, 0), (855, .bipush 101, 2, 0, 0, 0),
  (857, .iastore, 1, 0, 0, 0), (858, .dup, 1, 0, 0, 0), (859, .sipush 139, 3, 0, 0, 0), (862, .bipush 101, 2, 0, 0, 0),
  (864, .iastore, 1, 0, 0, 0), (865, .dup, 1, 0, 0, 0), (866, .sipush 140, 3, 0, 0, 0), (869, .bipush 112, 2, 0, 0, 0),
  (871, .iastore, 1, 0, 0, 0), (872, .dup, 1, 0, 0, 0), (873, .sipush 141, 3, 0, 0, 0), (876, .bipush 32, 2, 0, 0, 0),
  (878, .iastore, 1, 0, 0, 0), (879, .dup, 1, 0, 0, 0), (880, .sipush 142, 3, 0, 0, 0), (883, .bipush 116, 2, 0, 0, 0),
  (885, .iastore, 1, 0, 0, 0), (886, .dup, 1, 0, 0, 0), (887, .sipush 143, 3, 0, 0, 0), (890, .bipush 104, 2, 0, 0, 0),
  (892, .iastore, 1, 0, 0, 0), (893, .dup, 1, 0, 0, 0), (894, .sipush 144, 3, 0, 0, 0), (897, .bipush 105, 2, 0, 0, 0),
  (899, .iastore, 1, 0, 0, 0), (900, .dup, 1, 0, 0, 0), (901, .sipush 145, 3, 0, 0, 0), (904, .bipush 99, 2, 0, 0, 0),
  (906, .iastore, 1, 0, 0, 0), (907, .dup, 1, 0, 0, 0), (908, .sipush 146, 3, 0, 0, 0), (911, .bipush 107, 2, 0, 0, 0),
  (913, .iastore, 1, 0, 0, 0), (914, .dup, 1, 0, 0, 0), (915, .sipush 147, 3, 0, 0, 0), (918, .bipush 32, 2, 0, 0, 0)]
def op_X12_init_10 : List av_Q := [
  (920, .iastore, 1, 0, 0, 0), (921, .dup, 1, 0, 0, 0), (922, .sipush 148, 3, 0, 0, 0), (925, .bipush 117, 2, 0, 0, 0),
  (927, .iastore, 1, 0, 0, 0), (928, .dup, 1, 0, 0, 0), (929, .sipush 149, 3, 0, 0, 0), (932, .bipush 112, 2, 0, 0, 0),
  (934, .iastore, 1, 0, 0, 0), (935, .dup, 1, 0, 0, 0), (936, .sipush 150, 3, 0, 0, 0), (939, .bipush 32, 2, 0, 0, 0),
  (941, .iastore, 1, 0, 0, 0), (942, .dup, 1, 0, 0, 0), (943, .sipush 151, 3, 0, 0, 0), (946, .bipush 100, 2, 0, 0, 0),
  (948, .iastore, 1, 0, 0, 0), (949, .dup, 1, 0, 0, 0), (950, .sipush 152, 3, 0, 0, 0), (953, .bipush 111, 2, 0, 0, 0),
  (955, .iastore, 1, 0, 0, 0), (956, .dup, 1, 0, 0, 0), (957, .sipush 153, 3, 0, 0, 0), (960, .bipush 119, 2, 0, 0, 0),
  (962, .iastore, 1, 0, 0, 0), (963, .dup, 1, 0, 0, 0), (964, .sipush 154, 3, 0, 0, 0), (967, .bipush 110, 2, 0, 0, 0),
  (969, .iastore, 1, 0, 0, 0), (970, .dup, 1, 0, 0, 0), (971, .sipush 155, 3, 0, 0, 0), (974, .bipush 32, 2, 0, 0, 0),
  (976, .iastore, 1, 0, 0, 0), (977, .dup, 1, 0, 0, 0), (978, .sipush 156, 3, 0, 0, 0), (981, .bipush 100, 2, 0, 0, 0),
  (983, .iastore, 1, 0, 0, 0), (984, .dup, 1, 0, 0, 0), (985, .sipush 157, 3, 0, 0, 0), (988, .bipush 114, 2, 0, 0, 0),
  (990, .iastore, 1, 0, 0, 0), (991, .dup, 1, 0, 0, 0), (992, .sipush 158, 3, 0, 0, 0), (995, .bipush 111, 2, 0, 0, 0),
  (997, .iastore, 1, 0, 0, 0), (998, .dup, 1, 0, 0, 0), (999, .sipush 159, 3, 0, 0, 0), (1002, .bipush 112, 2, 0, 0, 0),
  (1004, .iastore, 1, 0, 0, 0), (1005, .dup, 1, 0, 0, 0), (1006, .sipush 160, 3, 0, 0, 0), (1009, .bipush 32, 2, 0, 0, 0),
  (1011, .iastore, 1, 0, 0, 0), (1012, .dup, 1, 0, 0, 0), (1013, .sipush 161, 3, 0, 0, 0), (1016, .bipush 119, 2, 0, 0, 0),
  (1018, .iastore, 1, 0, 0, 0), (1019, .dup, 1, 0, 0, 0), (1020, .sipush 162, 3, 0, 0, 0), (1023, .bipush 101, 2, 0, 0, 0)]
def op_X12_init_11 : List av_Q := [
  (1025, .iastore, 1, 0, 0, 0), (1026, .dup, 1, 0, 0, 0), (1027, .sipush 163, 3, 0, 0, 0), (1030, .bipush 101, 2, 0, 0, 0),
  (1032, .iastore, 1, 0, 0, 0), (1033, .dup, 1, 0, 0, 0), (1034, .sipush 164, 3, 0, 0, 0), (1037, .bipush 107, 2, 0, 0, 0),
  (1039, .iastore, 1, 0, 0, 0), (1040, .dup, 1, 0, 0, 0), (1041, .sipush 165, 3, 0, 0, 0), (1044, .bipush 32, 2, 0, 0, 0),
  (1046, .iastore, 1, 0, 0, 0), (1047, .dup, 1, 0, 0, 0), (1048, .sipush 166, 3, 0, 0, 0), (1051, .bipush 99, 2, 0, 0, 0),
  (1053, .iastore, 1, 0, 0, 0), (1054, .dup, 1, 0, 0, 0), (1055, .sipush 167, 3, 0, 0, 0), (1058, .bipush 104, 2, 0, 0, 0),
  (1060, .iastore, 1, 0, 0, 0), (1061, .dup, 1, 0, 0, 0), (1062, .sipush 168, 3, 0, 0, 0), (1065, .bipush 105, 2, 0, 0, 0),
  (1067, .iastore, 1, 0, 0, 0), (1068, .dup, 1, 0, 0, 0), (1069, .sipush 169, 3, 0, 0, 0), (1072, .bipush 108, 2, 0, 0, 0),
  (1074, .iastore, 1, 0, 0, 0), (1075, .dup, 1, 0, 0, 0), (1076, .sipush 170, 3, 0, 0, 0), (1079, .bipush 100, 2, 0, 0, 0),
  (1081, .iastore, 1, 0, 0, 0), (1082, .dup, 1, 0, 0, 0), (1083, .sipush 171, 3, 0, 0, 0), (1086, .bipush 32, 2, 0, 0, 0),
  (1088, .iastore, 1, 0, 0, 0), (1089, .dup, 1, 0, 0, 0), (1090, .sipush 172, 3, 0, 0, 0), (1093, .bipush 102, 2, 0, 0, 0),
  (1095, .iastore, 1, 0, 0, 0), (1096, .dup, 1, 0, 0, 0), (1097, .sipush 173, 3, 0, 0, 0), (1100, .bipush 97, 2, 0, 0, 0),
  (1102, .iastore, 1, 0, 0, 0), (1103, .dup, 1, 0, 0, 0), (1104, .sipush 174, 3, 0, 0, 0), (1107, .bipush 108, 2, 0, 0, 0),
  (1109, .iastore, 1, 0, 0, 0), (1110, .dup, 1, 0, 0, 0), (1111, .sipush 175, 3, 0, 0, 0), (1114, .bipush 108, 2, 0, 0, 0),
  (1116, .iastore, 1, 0, 0, 0), (1117, .dup, 1, 0, 0, 0), (1118, .sipush 176, 3, 0, 0, 0), (1121, .bipush 32, 2, 0, 0, 0),
  (1123, .iastore, 1, 0, 0, 0), (1124, .putfield 13, 3, 12, 3, 4), (1127, .aload_n 0, 1, 0, 0, 0), (1128, .iconst (-1), 1, 0, 0, 0)]
def op_X12_init_12 : List av_Q := [
  (1129, .putfield 16, 3, 12, 5, 0), (1132, .aload_n 0, 1, 0, 0, 0), (1133, .bipush 24, 2, 0, 0, 0), (1135, .newarray .int, 2, 0, 0, 0),
  (1137, .putfield 20, 3, 12, 21, 4), (1140, .aload_n 0, 1, 0, 0, 0), (1141, .bipush 8, 2, 0, 0, 0), (1143, .newarray .int, 2, 0, 0, 0),
  (1145, .putfield 23, 3, 12, 22, 4), (1148, .aload_n 0, 1, 0, 0, 0), (1149, .bipush 8, 2, 0, 0, 0), (1151, .newarray .int, 2, 0, 0, 0),
  (1153, .putfield 26, 3, 12, 23, 4), (1156, .aload_n 0, 1, 0, 0, 0), (1157, .bipush 8, 2, 0, 0, 0), (1159, .newarray .boolean, 2, 2, 0, 0),
  (1161, .putfield 29, 3, 12, 24, 4), (1164, .aload_n 0, 1, 0, 0, 0), (1165, .bipush 8, 2, 0, 0, 0), (1167, .newarray .int, 2, 0, 0, 0),
  (1169, .putfield 33, 3, 12, 25, 4), (1172, .aload_n 0, 1, 0, 0, 0), (1173, .sipush 128, 3, 0, 0, 0), (1176, .newarray .int, 2, 0, 0, 0),
  (1178, .putfield 36, 3, 12, 26, 4), (1181, .aload_n 0, 1, 0, 0, 0), (1182, .bipush 72, 2, 0, 0, 0), (1184, .newarray .int, 2, 0, 0, 0),
  (1186, .putfield 39, 3, 12, 27, 4), (1189, .aload_n 0, 1, 0, 0, 0), (1190, .bipush 12, 2, 0, 0, 0), (1192, .newarray .int, 2, 0, 0, 0),
  (1194, .putfield 42, 3, 12, 28, 4), (1197, .aload_n 0, 1, 0, 0, 0), (1198, .bipush 36, 2, 0, 0, 0), (1200, .newarray .int, 2, 0, 0, 0),
  (1202, .putfield 45, 3, 12, 29, 4), (1205, .aload_n 0, 1, 0, 0, 0), (1206, .bipush 12, 2, 0, 0, 0), (1208, .newarray .int, 2, 0, 0, 0),
  (1210, .putfield 48, 3, 12, 30, 4), (1213, .aload_n 0, 1, 0, 0, 0), (1214, .bipush 36, 2, 0, 0, 0), (1216, .newarray .int, 2, 0, 0, 0),
  (1218, .putfield 51, 3, 12, 31, 4), (1221, .aload_n 0, 1, 0, 0, 0), (1222, .sipush 128, 3, 0, 0, 0), (1225, .newarray .int, 2, 0, 0, 0),
  (1227, .putfield 54, 3, 12, 32, 4), (1230, .aload_n 0, 1, 0, 0, 0), (1231, .sipush 128, 3, 0, 0, 0), (1234, .newarray .int, 2, 0, 0, 0),
  (1236, .putfield 57, 3, 12, 33, 4), (1239, .aload_n 0, 1, 0, 0, 0), (1240, .sipush 128, 3, 0, 0, 0), (1243, .newarray .int, 2, 0, 0, 0),
  (1245, .putfield 60, 3, 12, 34, 4), (1248, .aload_n 0, 1, 0, 0, 0), (1249, .bipush 96, 2, 0, 0, 0), (1251, .newarray .int, 2, 0, 0, 0)]
def op_X12_init_13 : List av_Q := [
  (1253, .putfield 63, 3, 12, 35, 4), (1256, .aload_n 0, 1, 0, 0, 0), (1257, .bipush 96, 2, 0, 0, 0), (1259, .newarray .int, 2, 0, 0, 0),
  (1261, .putfield 66, 3, 12, 36, 4), (1264, .aload_n 0, 1, 0, 0, 0), (1265, .bipush 64, 2, 0, 0, 0), (1267, .newarray .int, 2, 0, 0, 0),
  (1269, .putfield 69, 3, 12, 44, 4), (1272, .aload_n 0, 1, 0, 0, 0), (1273, .bipush 16, 2, 0, 0, 0), (1275, .newarray .int, 2, 0, 0, 0),
  (1277, .putfield 72, 3, 12, 45, 4), (1280, .aload_n 0, 1, 0, 0, 0), (1281, .bipush 10, 2, 0, 0, 0), (1283, .newarray .long, 2, 3, 0, 0),
  (1285, .putfield 75, 3, 12, 46, 4), (1288, .aload_n 0, 1, 0, 0, 0), (1289, .bipush 64, 2, 0, 0, 0), (1291, .newarray .long, 2, 3, 0, 0),
  (1293, .putfield 79, 3, 12, 47, 4), (1296, .aload_n 0, 1, 0, 0, 0), (1297, .iconst 3, 1, 0, 0, 0), (1298, .newarray .long, 2, 3, 0, 0),
  (1300, .putfield 82, 3, 12, 49, 4), (1303, .aload_n 0, 1, 0, 0, 0), (1304, .sipush 340, 3, 0, 0, 0), (1307, .newarray .int, 2, 0, 0, 0),
  (1309, .putfield 85, 3, 12, 51, 4), (1312, .aload_n 0, 1, 0, 0, 0), (1313, .iconst (-1), 1, 0, 0, 0), (1314, .putfield 88, 3, 12, 53, 0),
  (1317, .aload_n 0, 1, 0, 0, 0), (1318, .bipush 40, 2, 0, 0, 0), (1320, .newarray .int, 2, 0, 0, 0), (1322, .putfield 91, 3, 12, 54, 4),
  (1325, .aload_n 0, 1, 0, 0, 0), (1326, .bipush 40, 2, 0, 0, 0), (1328, .newarray .int, 2, 0, 0, 0), (1330, .putfield 94, 3, 12, 55, 4),
  (1333, .aload_n 0, 1, 0, 0, 0), (1334, .bipush 40, 2, 0, 0, 0), (1336, .newarray .int, 2, 0, 0, 0), (1338, .putfield 97, 3, 12, 56, 4),
  (1341, .aload_n 0, 1, 0, 0, 0), (1342, .bipush 40, 2, 0, 0, 0), (1344, .newarray .int, 2, 0, 0, 0), (1346, .putfield 100, 3, 12, 57, 4),
  (1349, .aload_n 0, 1, 0, 0, 0), (1350, .bipush 40, 2, 0, 0, 0), (1352, .newarray .int, 2, 0, 0, 0), (1354, .putfield 103, 3, 12, 58, 4),
  (1357, .aload_n 0, 1, 0, 0, 0), (1358, .bipush 40, 2, 0, 0, 0), (1360, .newarray .boolean, 2, 2, 0, 0), (1362, .putfield 106, 3, 12, 59, 4),
  (1365, .aload_n 0, 1, 0, 0, 0), (1366, .bipush 7, 2, 0, 0, 0), (1368, .newarray .int, 2, 0, 0, 0), (1370, .putfield 109, 3, 12, 60, 4)]
def op_X12_init_14 : List av_Q := [
  (1373, .aload_n 0, 1, 0, 0, 0), (1374, .bipush 9, 2, 0, 0, 0), (1376, .newarray .int, 2, 0, 0, 0), (1378, .dup, 1, 0, 0, 0),
  (1379, .iconst 0, 1, 0, 0, 0), (1380, .sipush 1000, 3, 0, 0, 0), (1383, .iastore, 1, 0, 0, 0), (1384, .dup, 1, 0, 0, 0),
  (1385, .iconst 1, 1, 0, 0, 0), (1386, .sipush 924, 3, 0, 0, 0), (1389, .iastore, 1, 0, 0, 0), (1390, .dup, 1, 0, 0, 0),
  (1391, .iconst 2, 1, 0, 0, 0), (1392, .sipush 707, 3, 0, 0, 0), (1395, .iastore, 1, 0, 0, 0), (1396, .dup, 1, 0, 0, 0),
  (1397, .iconst 3, 1, 0, 0, 0), (1398, .sipush 383, 3, 0, 0, 0), (1401, .iastore, 1, 0, 0, 0), (1402, .dup, 1, 0, 0, 0),
  (1403, .iconst 4, 1, 0, 0, 0), (1404, .iconst 0, 1, 0, 0, 0), (1405, .iastore, 1, 0, 0, 0), (1406, .dup, 1, 0, 0, 0),
  (1407, .iconst 5, 1, 0, 0, 0), (1408, .sipush (-383), 3, 0, 0, 0), (1411, .iastore, 1, 0, 0, 0), (1412, .dup, 1, 0, 0, 0),
  (1413, .bipush 6, 2, 0, 0, 0), (1415, .sipush (-707), 3, 0, 0, 0), (1418, .iastore, 1, 0, 0, 0), (1419, .dup, 1, 0, 0, 0),
  (1420, .bipush 7, 2, 0, 0, 0), (1422, .sipush (-924), 3, 0, 0, 0), (1425, .iastore, 1, 0, 0, 0), (1426, .dup, 1, 0, 0, 0),
  (1427, .bipush 8, 2, 0, 0, 0), (1429, .sipush (-1000), 3, 0, 0, 0), (1432, .iastore, 1, 0, 0, 0), (1433, .putfield 112, 3, 12, 61, 4),
  (1436, .aload_n 0, 1, 0, 0, 0), (1437, .bipush 9, 2, 0, 0, 0), (1439, .newarray .int, 2, 0, 0, 0), (1441, .dup, 1, 0, 0, 0),
  (1442, .iconst 0, 1, 0, 0, 0), (1443, .iconst 0, 1, 0, 0, 0), (1444, .iastore, 1, 0, 0, 0), (1445, .dup, 1, 0, 0, 0),
  (1446, .iconst 1, 1, 0, 0, 0), (1447, .sipush 383, 3, 0, 0, 0), (1450, .iastore, 1, 0, 0, 0), (1451, .dup, 1, 0, 0, 0),
  (1452, .iconst 2, 1, 0, 0, 0), (1453, .sipush 707, 3, 0, 0, 0), (1456, .iastore, 1, 0, 0, 0), (1457, .dup, 1, 0, 0, 0),
  (1458, .iconst 3, 1, 0, 0, 0), (1459, .sipush 924, 3, 0, 0, 0), (1462, .iastore, 1, 0, 0, 0), (1463, .dup, 1, 0, 0, 0)]
def op_X12_init_15 : List av_Q := [
  (1464, .iconst 4, 1, 0, 0, 0), (1465, .sipush 1000, 3, 0, 0, 0), (1468, .iastore, 1, 0, 0, 0), (1469, .dup, 1, 0, 0, 0),
  (1470, .iconst 5, 1, 0, 0, 0), (1471, .sipush 924, 3, 0, 0, 0), (1474, .iastore, 1, 0, 0, 0), (1475, .dup, 1, 0, 0, 0),
  (1476, .bipush 6, 2, 0, 0, 0), (1478, .sipush 707, 3, 0, 0, 0), (1481, .iastore, 1, 0, 0, 0), (1482, .dup, 1, 0, 0, 0),
  (1483, .bipush 7, 2, 0, 0, 0), (1485, .sipush 383, 3, 0, 0, 0), (1488, .iastore, 1, 0, 0, 0), (1489, .dup, 1, 0, 0, 0),
  (1490, .bipush 8, 2, 0, 0, 0), (1492, .iconst 0, 1, 0, 0, 0), (1493, .iastore, 1, 0, 0, 0), (1494, .putfield 115, 3, 12, 62, 4),
  (1497, .aload_n 0, 1, 0, 0, 0), (1498, .iconst 4, 1, 0, 0, 0), (1499, .newarray .int, 2, 0, 0, 0), (1501, .putfield 118, 3, 12, 63, 4),
  (1504, .aload_n 0, 1, 0, 0, 0), (1505, .iconst 4, 1, 0, 0, 0), (1506, .newarray .int, 2, 0, 0, 0), (1508, .putfield 121, 3, 12, 64, 4),
  (1511, .aload_n 0, 1, 0, 0, 0), (1512, .bipush 64, 2, 0, 0, 0), (1514, .newarray .int, 2, 0, 0, 0), (1516, .putfield 124, 3, 12, 65, 4),
  (1519, .aload_n 0, 1, 0, 0, 0), (1520, .bipush 64, 2, 0, 0, 0), (1522, .newarray .int, 2, 0, 0, 0), (1524, .putfield 127, 3, 12, 68, 4),
  (1527, .aload_n 0, 1, 0, 0, 0), (1528, .invokevirtual 130, 3, 76, 0, 12), (1531, .aload_n 0, 1, 0, 0, 0), (1532, .invokevirtual 133, 3, 78, 0, 12),
  (1535, .return_, 1, 0, 0, 0)]
def op_X12_init : List av_Q := op_X12_init_0 ++ (op_X12_init_1 ++ (op_X12_init_2 ++ (op_X12_init_3 ++ (op_X12_init_4 ++ (op_X12_init_5 ++ (op_X12_init_6 ++ (op_X12_init_7 ++ (op_X12_init_8 ++ (op_X12_init_9 ++ (op_X12_init_10 ++ (op_X12_init_11 ++ (op_X12_init_12 ++ (op_X12_init_13 ++ (op_X12_init_14 ++ (op_X12_init_15)))))))))))))))
def op_X12_thrown : List av_Q := [
  (0, .aload_n 0, 1, 0, 0, 0), (1, .getfield 136, 3, 12, 2, 0), (4, .ireturn, 1, 0, 0, 0)]
def op_X12_feed : List av_Q := [
  (0, .aload_n 0, 1, 0, 0, 0), (1, .iconst 0, 1, 0, 0, 0), (2, .putfield 136, 3, 12, 2, 0), (5, .aload_n 0, 1, 0, 0, 0),
  (6, .getfield 139, 3, 12, 1, 0), (9, .bipush 20, 2, 0, 0, 0), (11, .iadd, 1, 0, 0, 0), (12, .sipush 900, 3, 0, 0, 0),
  (15, .if_icmp .le 5, 3, 0, 0, 0), (20, .iconst 0, 1, 0, 0, 0), (21, .istore 6, 2, 0, 0, 0), (23, .iload 6, 2, 0, 0, 0),
  (25, .bipush 20, 2, 0, 0, 0), (27, .if_icmp .ge 86, 3, 0, 0, 0), (30, .iload 6, 2, 0, 0, 0), (32, .iconst 4, 1, 0, 0, 0),
  (33, .if_icmp .ge 7, 3, 0, 0, 0), (36, .iload_n 1, 1, 0, 0, 0), (37, .goto 39, 3, 0, 0, 0), (40, .iload 6, 2, 0, 0, 0),
  (42, .bipush 8, 2, 0, 0, 0), (44, .if_icmp .ge 7, 3, 0, 0, 0), (47, .iload_n 2, 1, 0, 0, 0), (48, .goto 28, 3, 0, 0, 0),
  (51, .iload 6, 2, 0, 0, 0), (53, .bipush 12, 2, 0, 0, 0), (55, .if_icmp .ge 7, 3, 0, 0, 0), (58, .iload_n 3, 1, 0, 0, 0),
  (59, .goto 17, 3, 0, 0, 0), (62, .iload 6, 2, 0, 0, 0), (64, .bipush 16, 2, 0, 0, 0), (66, .if_icmp .ge 8, 3, 0, 0, 0),
  (69, .iload 4, 2, 0, 0, 0), (71, .goto 5, 3, 0, 0, 0), (74, .iload 5, 2, 0, 0, 0), (76, .istore 7, 2, 0, 0, 0),
  (78, .aload_n 0, 1, 0, 0, 0), (79, .getfield 7, 3, 12, 0, 4), (82, .aload_n 0, 1, 0, 0, 0), (83, .getfield 139, 3, 12, 1, 0),
  (86, .iload 6, 2, 0, 0, 0), (88, .iadd, 1, 0, 0, 0), (89, .iload 7, 2, 0, 0, 0), (91, .bipush 24, 2, 0, 0, 0),
  (93, .bipush 8, 2, 0, 0, 0), (95, .iload 6, 2, 0, 0, 0), (97, .iconst 4, 1, 0, 0, 0), (98, .irem, 1, 0, 0, 0),
  (99, .imul, 1, 0, 0, 0), (100, .isub, 1, 0, 0, 0), (101, .ishr, 1, 0, 0, 0), (102, .sipush 255, 3, 0, 0, 0),
  (105, .iand, 1, 0, 0, 0), (106, .iastore, 1, 0, 0, 0), (107, .iinc 6 1, 3, 0, 0, 0), (110, .goto (-87), 3, 0, 0, 0),
  (113, .aload_n 0, 1, 0, 0, 0), (114, .dup, 1, 0, 0, 0), (115, .getfield 139, 3, 12, 1, 0), (118, .bipush 20, 2, 0, 0, 0),
  (120, .iadd, 1, 0, 0, 0), (121, .putfield 139, 3, 12, 1, 0), (124, .aload_n 0, 1, 0, 0, 0), (125, .getfield 139, 3, 12, 1, 0),
  (128, .ireturn, 1, 0, 0, 0)]
def op_X12_isIn : List av_Q := [
  (0, .iload_n 0, 1, 0, 0, 0), (1, .iload_n 1, 1, 0, 0, 0), (2, .if_icmp .lt 12, 3, 0, 0, 0), (5, .iload_n 0, 1, 0, 0, 0),
  (6, .iload_n 2, 1, 0, 0, 0), (7, .if_icmp .gt 7, 3, 0, 0, 0), (10, .iconst 1, 1, 0, 0, 0), (11, .goto 4, 3, 0, 0, 0),
  (14, .iconst 0, 1, 0, 0, 0), (15, .ireturn, 1, 0, 0, 0)]
def op_X12_token : List av_Q := [
  (0, .aload_n 0, 1, 0, 0, 0), (1, .getfield 151, 3, 12, 7, 0), (4, .aload_n 0, 1, 0, 0, 0), (5, .getfield 148, 3, 12, 6, 0),
  (8, .if_icmp .ge 44, 3, 0, 0, 0), (52, .aload_n 0, 1, 0, 0, 0), (53, .aload_n 0, 1, 0, 0, 0), (54, .getfield 151, 3, 12, 7, 0),
  (57, .putfield 145, 3, 12, 10, 0), (60, .aload_n 0, 1, 0, 0, 0), (61, .getfield 151, 3, 12, 7, 0), (64, .aload_n 0, 1, 0, 0, 0),
  (65, .getfield 148, 3, 12, 6, 0), (68, .if_icmp .ne 11, 3, 0, 0, 0), (71, .aload_n 0, 1, 0, 0, 0), (72, .iconst 0, 1, 0, 0, 0),
  (73, .putfield 154, 3, 12, 8, 0), (76, .goto 206, 3, 0, 0, 0), (282, .return_, 1, 0, 0, 0)]
def op_X12_plain : List av_Q := [
  (0, .aload_n 0, 1, 0, 0, 0), (1, .iconst 0, 1, 0, 0, 0), (2, .putfield 197, 3, 12, 16, 0), (5, .aload_n 0, 1, 0, 0, 0),
  (6, .iconst 0, 1, 0, 0, 0), (7, .putfield 200, 3, 12, 17, 0), (10, .aload_n 0, 1, 0, 0, 0), (11, .iconst 0, 1, 0, 0, 0),
  (12, .putfield 203, 3, 12, 18, 0), (15, .aload_n 0, 1, 0, 0, 0), (16, .iconst 0, 1, 0, 0, 0), (17, .putfield 206, 3, 12, 19, 0),
  (20, .aload_n 0, 1, 0, 0, 0), (21, .iconst 0, 1, 0, 0, 0), (22, .putfield 209, 3, 12, 40, 0), (25, .aload_n 0, 1, 0, 0, 0),
  (26, .iconst 0, 1, 0, 0, 0), (27, .putfield 212, 3, 12, 20, 2), (30, .iconst 0, 1, 0, 0, 0), (31, .istore_n 1, 1, 0, 0, 0),
  (32, .iload_n 1, 1, 0, 0, 0), (33, .bipush 12, 2, 0, 0, 0), (35, .if_icmp .ge 20, 3, 0, 0, 0), (38, .aload_n 0, 1, 0, 0, 0),
  (39, .getfield 20, 3, 12, 21, 4), (42, .bipush 12, 2, 0, 0, 0), (44, .iload_n 1, 1, 0, 0, 0), (45, .iadd, 1, 0, 0, 0),
  (46, .bipush 50, 2, 0, 0, 0), (48, .iastore, 1, 0, 0, 0), (49, .iinc 1 1, 3, 0, 0, 0), (52, .goto (-20), 3, 0, 0, 0),
  (55, .iconst 0, 1, 0, 0, 0), (56, .istore_n 1, 1, 0, 0, 0), (57, .iload_n 1, 1, 0, 0, 0), (58, .iconst 4, 1, 0, 0, 0),
  (59, .if_icmp .ge 18, 3, 0, 0, 0), (62, .aload_n 0, 1, 0, 0, 0), (63, .getfield 29, 3, 12, 24, 4), (66, .iconst 4, 1, 0, 0, 0),
  (67, .iload_n 1, 1, 0, 0, 0), (68, .iadd, 1, 0, 0, 0), (69, .iconst 0, 1, 0, 0, 0), (70, .bastore, 1, 0, 0, 0),
  (71, .iinc 1 1, 3, 0, 0, 0), (74, .goto (-17), 3, 0, 0, 0), (77, .return_, 1, 0, 0, 0)]
def op_X12_copies : List av_Q := [
  (0, .iconst 0, 1, 0, 0, 0), (1, .istore_n 2, 1, 0, 0, 0), (2, .iload_n 2, 1, 0, 0, 0), (3, .iload_n 1, 1, 0, 0, 0),
  (4, .if_icmp .ge 17, 3, 0, 0, 0), (7, .aload_n 0, 1, 0, 0, 0), (8, .iload_n 2, 1, 0, 0, 0), (9, .aload_n 0, 1, 0, 0, 0),
  (10, .iload_n 1, 1, 0, 0, 0), (11, .iload_n 2, 1, 0, 0, 0), (12, .iadd, 1, 0, 0, 0), (13, .iaload, 1, 0, 0, 0),
  (14, .iastore, 1, 0, 0, 0), (15, .iinc 2 1, 3, 0, 0, 0), (18, .goto (-16), 3, 0, 0, 0), (21, .return_, 1, 0, 0, 0)]
def op_X12_keepText : List av_Q := [
  (0, .aload_n 0, 1, 0, 0, 0), (1, .aload_n 0, 1, 0, 0, 0), (2, .getfield 197, 3, 12, 16, 0), (5, .putfield 216, 3, 12, 12, 0),
  (8, .aload_n 0, 1, 0, 0, 0), (9, .aload_n 0, 1, 0, 0, 0), (10, .getfield 200, 3, 12, 17, 0), (13, .putfield 219, 3, 12, 13, 0),
  (16, .aload_n 0, 1, 0, 0, 0), (17, .aload_n 0, 1, 0, 0, 0), (18, .getfield 203, 3, 12, 18, 0), (21, .putfield 222, 3, 12, 14, 0),
  (24, .aload_n 0, 1, 0, 0, 0), (25, .aload_n 0, 1, 0, 0, 0), (26, .getfield 206, 3, 12, 19, 0), (29, .putfield 225, 3, 12, 15, 0),
  (32, .aload_n 0, 1, 0, 0, 0), (33, .getfield 20, 3, 12, 21, 4), (36, .bipush 12, 2, 0, 0, 0), (38, .invokestatic 228, 3, 77, 2, 0),
  (41, .aload_n 0, 1, 0, 0, 0), (42, .getfield 23, 3, 12, 22, 4), (45, .iconst 4, 1, 0, 0, 0), (46, .invokestatic 228, 3, 77, 2, 0),
  (49, .aload_n 0, 1, 0, 0, 0), (50, .getfield 26, 3, 12, 23, 4), (53, .iconst 4, 1, 0, 0, 0), (54, .invokestatic 228, 3, 77, 2, 0),
  (57, .iconst 0, 1, 0, 0, 0), (58, .istore_n 1, 1, 0, 0, 0), (59, .iload_n 1, 1, 0, 0, 0), (60, .iconst 4, 1, 0, 0, 0),
  (61, .if_icmp .ge 23, 3, 0, 0, 0), (64, .aload_n 0, 1, 0, 0, 0), (65, .getfield 29, 3, 12, 24, 4), (68, .iload_n 1, 1, 0, 0, 0),
  (69, .aload_n 0, 1, 0, 0, 0), (70, .getfield 29, 3, 12, 24, 4), (73, .iconst 4, 1, 0, 0, 0), (74, .iload_n 1, 1, 0, 0, 0),
  (75, .iadd, 1, 0, 0, 0), (76, .baload, 1, 0, 0, 0), (77, .bastore, 1, 0, 0, 0), (78, .iinc 1 1, 3, 0, 0, 0),
  (81, .goto (-22), 3, 0, 0, 0), (84, .aload_n 0, 1, 0, 0, 0), (85, .getfield 33, 3, 12, 25, 4), (88, .iconst 4, 1, 0, 0, 0),
  (89, .invokestatic 228, 3, 77, 2, 0), (92, .aload_n 0, 1, 0, 0, 0), (93, .getfield 36, 3, 12, 26, 4), (96, .bipush 64, 2, 0, 0, 0),
  (98, .invokestatic 228, 3, 77, 2, 0), (101, .aload_n 0, 1, 0, 0, 0), (102, .getfield 39, 3, 12, 27, 4), (105, .bipush 36, 2, 0, 0, 0),
  (107, .invokestatic 228, 3, 77, 2, 0), (110, .aload_n 0, 1, 0, 0, 0), (111, .getfield 42, 3, 12, 28, 4), (114, .bipush 6, 2, 0, 0, 0),
  (116, .invokestatic 228, 3, 77, 2, 0), (119, .aload_n 0, 1, 0, 0, 0), (120, .getfield 45, 3, 12, 29, 4), (123, .bipush 18, 2, 0, 0, 0),
  (125, .invokestatic 228, 3, 77, 2, 0), (128, .aload_n 0, 1, 0, 0, 0), (129, .getfield 48, 3, 12, 30, 4), (132, .bipush 6, 2, 0, 0, 0),
  (134, .invokestatic 228, 3, 77, 2, 0), (137, .aload_n 0, 1, 0, 0, 0), (138, .getfield 51, 3, 12, 31, 4), (141, .bipush 18, 2, 0, 0, 0),
  (143, .invokestatic 228, 3, 77, 2, 0), (146, .aload_n 0, 1, 0, 0, 0), (147, .getfield 54, 3, 12, 32, 4), (150, .bipush 64, 2, 0, 0, 0),
  (152, .invokestatic 228, 3, 77, 2, 0), (155, .aload_n 0, 1, 0, 0, 0), (156, .getfield 57, 3, 12, 33, 4), (159, .bipush 64, 2, 0, 0, 0),
  (161, .invokestatic 228, 3, 77, 2, 0), (164, .aload_n 0, 1, 0, 0, 0), (165, .getfield 60, 3, 12, 34, 4), (168, .bipush 64, 2, 0, 0, 0),
  (170, .invokestatic 228, 3, 77, 2, 0), (173, .iconst 0, 1, 0, 0, 0), (174, .istore_n 1, 1, 0, 0, 0), (175, .iload_n 1, 1, 0, 0, 0),
  (176, .iconst 4, 1, 0, 0, 0), (177, .if_icmp .ge 30, 3, 0, 0, 0), (180, .aload_n 0, 1, 0, 0, 0), (181, .iload_n 1, 1, 0, 0, 0),
  (182, .invokevirtual 232, 3, 84, 1, 12), (185, .aload_n 0, 1, 0, 0, 0), (186, .getfield 69, 3, 12, 44, 4), (189, .bipush 16, 2, 0, 0, 0),
  (191, .iload_n 1, 1, 0, 0, 0), (192, .imul, 1, 0, 0, 0), (193, .aload_n 0, 1, 0, 0, 0), (194, .getfield 72, 3, 12, 45, 4),
  (197, .iconst 0, 1, 0, 0, 0), (198, .invokestatic 236, 3, 83, 4, 0), (201, .iinc 1 1, 3, 0, 0, 0), (204, .goto (-29), 3, 0, 0, 0),
  (207, .aload_n 0, 1, 0, 0, 0), (208, .iconst 0, 1, 0, 0, 0), (209, .putfield 240, 3, 12, 43, 0), (212, .aload_n 0, 1, 0, 0, 0),
  (213, .iconst 0, 1, 0, 0, 0), (214, .putfield 243, 3, 12, 52, 0), (217, .aload_n 0, 1, 0, 0, 0), (218, .iconst (-1), 1, 0, 0, 0),
  (219, .putfield 88, 3, 12, 53, 0), (222, .aload_n 0, 1, 0, 0, 0), (223, .iconst 0, 1, 0, 0, 0), (224, .putfield 246, 3, 12, 50, 0),
  (227, .aload_n 0, 1, 0, 0, 0), (228, .iconst 0, 1, 0, 0, 0), (229, .putfield 249, 3, 12, 66, 2), (232, .return_, 1, 0, 0, 0)]
def op_X12_find : List av_Q := [
  (0, .iconst 0, 1, 0, 0, 0), (1, .istore 4, 2, 0, 0, 0), (3, .iload 4, 2, 0, 0, 0), (5, .iload_n 2, 1, 0, 0, 0),
  (6, .if_icmp .ge 22, 3, 0, 0, 0), (28, .iconst (-1), 1, 0, 0, 0), (29, .ireturn, 1, 0, 0, 0)]
def op_X12_text : List av_Q := [
  (0, .aload_n 0, 1, 0, 0, 0), (1, .iconst 0, 1, 0, 0, 0), (2, .putfield 136, 3, 12, 2, 0), (5, .iload_n 1, 1, 0, 0, 0),
  (6, .ifCond .lt 11, 3, 0, 0, 0), (9, .iload_n 1, 1, 0, 0, 0), (10, .aload_n 0, 1, 0, 0, 0), (11, .getfield 139, 3, 12, 1, 0),
  (14, .if_icmp .le 6, 3, 0, 0, 0), (17, .bipush (-2), 2, 0, 0, 0), (19, .ireturn, 1, 0, 0, 0), (20, .aload_n 0, 1, 0, 0, 0),
  (21, .iload_n 1, 1, 0, 0, 0), (22, .putfield 148, 3, 12, 6, 0), (25, .aload_n 0, 1, 0, 0, 0), (26, .iconst 0, 1, 0, 0, 0),
  (27, .putfield 139, 3, 12, 1, 0), (30, .aload_n 0, 1, 0, 0, 0), (31, .iconst 0, 1, 0, 0, 0), (32, .putfield 142, 3, 12, 4, 0),
  (35, .aload_n 0, 1, 0, 0, 0), (36, .iconst (-1), 1, 0, 0, 0), (37, .putfield 16, 3, 12, 5, 0), (40, .aload_n 0, 1, 0, 0, 0),
  (41, .iconst 0, 1, 0, 0, 0), (42, .putfield 151, 3, 12, 7, 0), (45, .aload_n 0, 1, 0, 0, 0), (46, .invokevirtual 130, 3, 76, 0, 12),
  (49, .aload_n 0, 1, 0, 0, 0), (50, .invokevirtual 187, 3, 75, 0, 12), (53, .iconst 0, 1, 0, 0, 0), (54, .istore_n 2, 1, 0, 0, 0),
  (55, .aload_n 0, 1, 0, 0, 0), (56, .getfield 154, 3, 12, 8, 0), (59, .ifCond .eq 18, 3, 0, 0, 0), (77, .aload_n 0, 1, 0, 0, 0),
  (78, .invokevirtual 133, 3, 78, 0, 12), (81, .iload_n 2, 1, 0, 0, 0), (82, .ireturn, 1, 0, 0, 0)]
def op_X12_fault : List av_Q := [
  (0, .aload_n 0, 1, 0, 0, 0), (1, .iconst 0, 1, 0, 0, 0), (2, .putfield 136, 3, 12, 2, 0), (5, .iload_n 1, 1, 0, 0, 0),
  (6, .ifCond .ne 10, 3, 0, 0, 0), (9, .aload_n 0, 1, 0, 0, 0), (10, .getfield 142, 3, 12, 4, 0), (13, .goto 16, 3, 0, 0, 0),
  (16, .iload_n 1, 1, 0, 0, 0), (17, .iconst 1, 1, 0, 0, 0), (18, .if_icmp .ne 10, 3, 0, 0, 0), (21, .aload_n 0, 1, 0, 0, 0),
  (22, .getfield 16, 3, 12, 5, 0), (25, .goto 4, 3, 0, 0, 0), (28, .iconst (-1), 1, 0, 0, 0), (29, .ireturn, 1, 0, 0, 0)]
def op_X12_named : List av_Q := [
  (0, .aload_n 0, 1, 0, 0, 0), (1, .iconst 0, 1, 0, 0, 0), (2, .putfield 136, 3, 12, 2, 0), (5, .iload_n 1, 1, 0, 0, 0),
  (6, .ifCond .ne 19, 3, 0, 0, 0), (9, .aload_n 0, 1, 0, 0, 0), (10, .getfield 33, 3, 12, 25, 4), (13, .iconst 0, 1, 0, 0, 0),
  (14, .aload_n 0, 1, 0, 0, 0), (15, .getfield 216, 3, 12, 12, 0), (18, .iload_n 2, 1, 0, 0, 0), (19, .invokestatic 252, 3, 79, 4, 0),
  (22, .goto 46, 3, 0, 0, 0), (25, .iload_n 1, 1, 0, 0, 0), (26, .iconst 1, 1, 0, 0, 0), (27, .if_icmp .ne 19, 3, 0, 0, 0),
  (30, .aload_n 0, 1, 0, 0, 0), (31, .getfield 42, 3, 12, 28, 4), (34, .iconst 0, 1, 0, 0, 0), (35, .aload_n 0, 1, 0, 0, 0),
  (36, .getfield 219, 3, 12, 13, 0), (39, .iload_n 2, 1, 0, 0, 0), (40, .invokestatic 252, 3, 79, 4, 0), (43, .goto 25, 3, 0, 0, 0),
  (46, .iload_n 1, 1, 0, 0, 0), (47, .iconst 2, 1, 0, 0, 0), (48, .if_icmp .ne 19, 3, 0, 0, 0), (51, .aload_n 0, 1, 0, 0, 0),
  (52, .getfield 48, 3, 12, 30, 4), (55, .iconst 0, 1, 0, 0, 0), (56, .aload_n 0, 1, 0, 0, 0), (57, .getfield 222, 3, 12, 14, 0),
  (60, .iload_n 2, 1, 0, 0, 0), (61, .invokestatic 252, 3, 79, 4, 0), (64, .goto 4, 3, 0, 0, 0), (67, .iconst (-1), 1, 0, 0, 0),
  (68, .ireturn, 1, 0, 0, 0)]
def op_X12_lays : List av_Q := [
  (0, .iconst 0, 1, 0, 0, 0), (1, .istore 4, 2, 0, 0, 0), (3, .iload 4, 2, 0, 0, 0), (5, .bipush 16, 2, 0, 0, 0),
  (7, .if_icmp .ge 21, 3, 0, 0, 0), (10, .aload_n 0, 1, 0, 0, 0), (11, .iload_n 1, 1, 0, 0, 0), (12, .iload 4, 2, 0, 0, 0),
  (14, .iadd, 1, 0, 0, 0), (15, .aload_n 2, 1, 0, 0, 0), (16, .iload_n 3, 1, 0, 0, 0), (17, .iload 4, 2, 0, 0, 0),
  (19, .iadd, 1, 0, 0, 0), (20, .iaload, 1, 0, 0, 0), (21, .iastore, 1, 0, 0, 0), (22, .iinc 4 1, 3, 0, 0, 0),
  (25, .goto (-22), 3, 0, 0, 0), (28, .return_, 1, 0, 0, 0)]
def op_X12_begins : List av_Q := [
  (0, .iconst 0, 1, 0, 0, 0), (1, .istore_n 2, 1, 0, 0, 0), (2, .iload_n 2, 1, 0, 0, 0), (3, .bipush 16, 2, 0, 0, 0),
  (5, .if_icmp .ge 16, 3, 0, 0, 0), (8, .aload_n 0, 1, 0, 0, 0), (9, .getfield 72, 3, 12, 45, 4), (12, .iload_n 2, 1, 0, 0, 0),
  (13, .iconst 0, 1, 0, 0, 0), (14, .iastore, 1, 0, 0, 0), (15, .iinc 2 1, 3, 0, 0, 0), (18, .goto (-16), 3, 0, 0, 0),
  (21, .aload_n 0, 1, 0, 0, 0), (22, .getfield 72, 3, 12, 45, 4), (25, .bipush 6, 2, 0, 0, 0), (27, .aload_n 0, 1, 0, 0, 0),
  (28, .getfield 36, 3, 12, 26, 4), (31, .bipush 16, 2, 0, 0, 0), (33, .iload_n 1, 1, 0, 0, 0), (34, .imul, 1, 0, 0, 0),
  (35, .bipush 7, 2, 0, 0, 0), (37, .iadd, 1, 0, 0, 0), (38, .iaload, 1, 0, 0, 0), (39, .iastore, 1, 0, 0, 0),
  (40, .aload_n 0, 1, 0, 0, 0), (41, .getfield 72, 3, 12, 45, 4), (44, .bipush 7, 2, 0, 0, 0), (46, .aload_n 0, 1, 0, 0, 0),
  (47, .getfield 36, 3, 12, 26, 4), (50, .bipush 16, 2, 0, 0, 0), (52, .iload_n 1, 1, 0, 0, 0), (53, .imul, 1, 0, 0, 0),
  (54, .bipush 9, 2, 0, 0, 0), (56, .iadd, 1, 0, 0, 0), (57, .iaload, 1, 0, 0, 0), (58, .iastore, 1, 0, 0, 0),
  (59, .aload_n 0, 1, 0, 0, 0), (60, .getfield 72, 3, 12, 45, 4), (63, .bipush 8, 2, 0, 0, 0), (65, .aload_n 0, 1, 0, 0, 0),
  (66, .getfield 36, 3, 12, 26, 4), (69, .bipush 16, 2, 0, 0, 0), (71, .iload_n 1, 1, 0, 0, 0), (72, .imul, 1, 0, 0, 0),
  (73, .bipush 12, 2, 0, 0, 0), (75, .iadd, 1, 0, 0, 0), (76, .iaload, 1, 0, 0, 0), (77, .iastore, 1, 0, 0, 0),
  (78, .aload_n 0, 1, 0, 0, 0), (79, .getfield 72, 3, 12, 45, 4), (82, .bipush 10, 2, 0, 0, 0), (84, .aload_n 0, 1, 0, 0, 0),
  (85, .getfield 36, 3, 12, 26, 4), (88, .bipush 16, 2, 0, 0, 0), (90, .iload_n 1, 1, 0, 0, 0), (91, .imul, 1, 0, 0, 0),
  (92, .bipush 14, 2, 0, 0, 0), (94, .iadd, 1, 0, 0, 0), (95, .iaload, 1, 0, 0, 0), (96, .iastore, 1, 0, 0, 0),
  (97, .return_, 1, 0, 0, 0)]
def op_X12_firmOf : List av_Q := [
  (0, .aload_n 0, 1, 0, 0, 0), (1, .getfield 20, 3, 12, 21, 4), (4, .iload_n 1, 1, 0, 0, 0), (5, .bipush 12, 2, 0, 0, 0),
  (7, .imul, 1, 0, 0, 0), (8, .bipush 52, 2, 0, 0, 0), (10, .idiv, 1, 0, 0, 0), (11, .bipush 12, 2, 0, 0, 0),
  (13, .irem, 1, 0, 0, 0), (14, .iaload, 1, 0, 0, 0), (15, .ireturn, 1, 0, 0, 0)]
def op_X12_isGate : List av_Q := [
  (0, .iload_n 1, 1, 0, 0, 0), (1, .ifCond .lt 15, 3, 0, 0, 0), (4, .iload_n 1, 1, 0, 0, 0), (5, .aload_n 0, 1, 0, 0, 0),
  (6, .getfield 216, 3, 12, 12, 0), (9, .if_icmp .ge 7, 3, 0, 0, 0), (16, .iconst 0, 1, 0, 0, 0), (17, .ireturn, 1, 0, 0, 0)]
def op_X12_fails : List av_Q := [
  (0, .aload_n 0, 1, 0, 0, 0), (1, .iload_n 1, 1, 0, 0, 0), (2, .putfield 136, 3, 12, 2, 0), (5, .iconst 0, 1, 0, 0, 0),
  (6, .ireturn, 1, 0, 0, 0)]
def op_X12_look : List av_Q := [
  (0, .aload_n 0, 1, 0, 0, 0), (1, .iconst 0, 1, 0, 0, 0), (2, .putfield 136, 3, 12, 2, 0), (5, .aload_n 0, 1, 0, 0, 0),
  (6, .iload_n 1, 1, 0, 0, 0), (7, .invokevirtual 407, 3, 86, 1, 12), (10, .ifCond .ne 9, 3, 0, 0, 0), (13, .aload_n 0, 1, 0, 0, 0),
  (14, .iconst 1, 1, 0, 0, 0), (15, .invokevirtual 410, 3, 87, 1, 12), (18, .ireturn, 1, 0, 0, 0)]
def op_X12_works : List av_Q := [
  (0, .aload_n 0, 1, 0, 0, 0), (1, .iconst 0, 1, 0, 0, 0), (2, .putfield 136, 3, 12, 2, 0), (5, .iload_n 1, 1, 0, 0, 0),
  (6, .ifCond .lt 20, 3, 0, 0, 0), (9, .iload_n 1, 1, 0, 0, 0), (10, .aload_n 0, 1, 0, 0, 0), (11, .getfield 219, 3, 12, 13, 0),
  (14, .if_icmp .ge 12, 3, 0, 0, 0), (26, .iconst (-1), 1, 0, 0, 0), (27, .goto 13, 3, 0, 0, 0), (40, .ireturn, 1, 0, 0, 0)]
def op_X12_firm : List av_Q := [
  (0, .aload_n 0, 1, 0, 0, 0), (1, .iconst 0, 1, 0, 0, 0), (2, .putfield 136, 3, 12, 2, 0), (5, .iload_n 1, 1, 0, 0, 0),
  (6, .iconst 0, 1, 0, 0, 0), (7, .sipush 1999, 3, 0, 0, 0), (10, .invokestatic 180, 3, 74, 3, 0), (13, .ifCond .eq 11, 3, 0, 0, 0),
  (16, .aload_n 0, 1, 0, 0, 0), (17, .iload_n 1, 1, 0, 0, 0), (18, .invokevirtual 383, 3, 85, 1, 12), (21, .goto 4, 3, 0, 0, 0),
  (24, .iconst (-1), 1, 0, 0, 0), (25, .ireturn, 1, 0, 0, 0)]
def op_X12_weeks : List av_Q := [
  (0, .aload_n 0, 1, 0, 0, 0), (1, .iconst 0, 1, 0, 0, 0), (2, .putfield 136, 3, 12, 2, 0), (5, .iload_n 1, 1, 0, 0, 0),
  (6, .iconst 0, 1, 0, 0, 0), (7, .sipush 520, 3, 0, 0, 0), (10, .invokestatic 180, 3, 74, 3, 0), (13, .ifCond .eq 15, 3, 0, 0, 0),
  (16, .aload_n 0, 1, 0, 0, 0), (17, .getfield 240, 3, 12, 43, 0), (20, .iload_n 1, 1, 0, 0, 0), (21, .iadd, 1, 0, 0, 0),
  (22, .sipush 2000, 3, 0, 0, 0), (25, .if_icmp .le 5, 3, 0, 0, 0), (28, .iconst (-1), 1, 0, 0, 0), (29, .ireturn, 1, 0, 0, 0),
  (30, .iconst 0, 1, 0, 0, 0), (31, .istore_n 2, 1, 0, 0, 0), (32, .iload_n 2, 1, 0, 0, 0), (33, .aload_n 0, 1, 0, 0, 0),
  (34, .getfield 216, 3, 12, 12, 0), (37, .if_icmp .ge 36, 3, 0, 0, 0), (73, .aload_n 0, 1, 0, 0, 0), (74, .dup, 1, 0, 0, 0),
  (75, .getfield 240, 3, 12, 43, 0), (78, .iload_n 1, 1, 0, 0, 0), (79, .iadd, 1, 0, 0, 0), (80, .putfield 240, 3, 12, 43, 0),
  (83, .aload_n 0, 1, 0, 0, 0), (84, .getfield 240, 3, 12, 43, 0), (87, .ireturn, 1, 0, 0, 0)]
def op_X12_sags : List av_Q := [
  (0, .aload_n 0, 1, 0, 0, 0), (1, .iconst 0, 1, 0, 0, 0), (2, .putfield 136, 3, 12, 2, 0), (5, .aload_n 0, 1, 0, 0, 0),
  (6, .iload_n 1, 1, 0, 0, 0), (7, .invokevirtual 407, 3, 86, 1, 12), (10, .ifCond .eq 13, 3, 0, 0, 0), (23, .ldc_w 419, 3, 0, 0, (-2147483648)),
  (26, .ireturn, 1, 0, 0, 0)]
def op_X12_latched : List av_Q := [
  (0, .aload_n 0, 1, 0, 0, 0), (1, .iconst 0, 1, 0, 0, 0), (2, .putfield 136, 3, 12, 2, 0), (5, .aload_n 0, 1, 0, 0, 0),
  (6, .iload_n 1, 1, 0, 0, 0), (7, .invokevirtual 407, 3, 86, 1, 12), (10, .ifCond .ne 5, 3, 0, 0, 0), (13, .iconst (-1), 1, 0, 0, 0),
  (14, .ireturn, 1, 0, 0, 0)]
def op_X12_gives : List av_Q := [
  (0, .aload_n 0, 1, 0, 0, 0), (1, .iconst 0, 1, 0, 0, 0), (2, .putfield 136, 3, 12, 2, 0), (5, .aload_n 0, 1, 0, 0, 0),
  (6, .iload_n 1, 1, 0, 0, 0), (7, .invokevirtual 407, 3, 86, 1, 12), (10, .ifCond .ne 5, 3, 0, 0, 0), (13, .iconst (-1), 1, 0, 0, 0),
  (14, .ireturn, 1, 0, 0, 0)]
def op_X12_work : List av_Q := [
  (0, .aload_n 0, 1, 0, 0, 0), (1, .iconst 0, 1, 0, 0, 0), (2, .putfield 136, 3, 12, 2, 0), (5, .aload_n 0, 1, 0, 0, 0),
  (6, .iload_n 1, 1, 0, 0, 0), (7, .invokevirtual 407, 3, 86, 1, 12), (10, .ifCond .eq 34, 3, 0, 0, 0), (44, .iconst 0, 1, 0, 0, 0),
  (45, .ireturn, 1, 0, 0, 0)]
def op_X12_undo : List av_Q := [
  (0, .aload_n 0, 1, 0, 0, 0), (1, .iconst 0, 1, 0, 0, 0), (2, .putfield 136, 3, 12, 2, 0), (5, .aload_n 0, 1, 0, 0, 0),
  (6, .getfield 246, 3, 12, 50, 0), (9, .ifCond .ne 5, 3, 0, 0, 0), (12, .iconst (-1), 1, 0, 0, 0), (13, .ireturn, 1, 0, 0, 0)]
def op_X12_lasts : List av_Q := [
  (0, .aload_n 0, 1, 0, 0, 0), (1, .iconst 0, 1, 0, 0, 0), (2, .putfield 136, 3, 12, 2, 0), (5, .aload_n 0, 1, 0, 0, 0),
  (6, .iload_n 1, 1, 0, 0, 0), (7, .invokevirtual 407, 3, 86, 1, 12), (10, .ifCond .eq 10, 3, 0, 0, 0), (20, .iconst (-1), 1, 0, 0, 0),
  (21, .ireturn, 1, 0, 0, 0)]
def op_X12_least : List av_Q := [
  (0, .aload_n 0, 1, 0, 0, 0), (1, .iconst 0, 1, 0, 0, 0), (2, .putfield 136, 3, 12, 2, 0), (5, .aload_n 0, 1, 0, 0, 0),
  (6, .iload_n 1, 1, 0, 0, 0), (7, .invokevirtual 407, 3, 86, 1, 12), (10, .ifCond .eq 31, 3, 0, 0, 0), (41, .iconst (-1), 1, 0, 0, 0),
  (42, .ireturn, 1, 0, 0, 0)]
def op_X12_way : List av_Q := [
  (0, .aload_n 0, 1, 0, 0, 0), (1, .iconst 0, 1, 0, 0, 0), (2, .putfield 136, 3, 12, 2, 0), (5, .aload_n 0, 1, 0, 0, 0),
  (6, .iload_n 1, 1, 0, 0, 0), (7, .invokevirtual 407, 3, 86, 1, 12), (10, .ifCond .eq 14, 3, 0, 0, 0), (24, .ldc_w 419, 3, 0, 0, (-2147483648)),
  (27, .ireturn, 1, 0, 0, 0)]
def op_X12_enough : List av_Q := [
  (0, .aload_n 0, 1, 0, 0, 0), (1, .iconst 0, 1, 0, 0, 0), (2, .putfield 136, 3, 12, 2, 0), (5, .aload_n 0, 1, 0, 0, 0),
  (6, .iload_n 1, 1, 0, 0, 0), (7, .invokevirtual 407, 3, 86, 1, 12), (10, .ifCond .eq 21, 3, 0, 0, 0), (31, .iconst (-1), 1, 0, 0, 0),
  (32, .ireturn, 1, 0, 0, 0)]
def op_X12_bears : List av_Q := [
  (0, .aload_n 0, 1, 0, 0, 0), (1, .iconst 0, 1, 0, 0, 0), (2, .putfield 136, 3, 12, 2, 0), (5, .aload_n 0, 1, 0, 0, 0),
  (6, .iload_n 1, 1, 0, 0, 0), (7, .invokevirtual 407, 3, 86, 1, 12), (10, .ifCond .eq 21, 3, 0, 0, 0), (31, .iconst (-1), 1, 0, 0, 0),
  (32, .ireturn, 1, 0, 0, 0)]
def op_X12_knock : List av_Q := [
  (0, .aload_n 0, 1, 0, 0, 0), (1, .iconst 0, 1, 0, 0, 0), (2, .putfield 136, 3, 12, 2, 0), (5, .aload_n 0, 1, 0, 0, 0),
  (6, .iload_n 1, 1, 0, 0, 0), (7, .invokevirtual 407, 3, 86, 1, 12), (10, .ifCond .eq 13, 3, 0, 0, 0), (23, .ldc2_w 438, 3, 0, 0, (-9223372036854775808)),
  (26, .lreturn, 1, 0, 0, 0)]
def op_X12_measure : List av_Q := [
  (0, .aload_n 0, 1, 0, 0, 0), (1, .iconst 0, 1, 0, 0, 0), (2, .putfield 136, 3, 12, 2, 0), (5, .aload_n 0, 1, 0, 0, 0),
  (6, .getfield 243, 3, 12, 52, 0), (9, .bipush 40, 2, 0, 0, 0), (11, .if_icmp .eq 58, 3, 0, 0, 0), (14, .aload_n 0, 1, 0, 0, 0),
  (15, .iload_n 1, 1, 0, 0, 0), (16, .invokevirtual 407, 3, 86, 1, 12), (19, .ifCond .eq 50, 3, 0, 0, 0), (69, .iconst (-1), 1, 0, 0, 0),
  (70, .ireturn, 1, 0, 0, 0)]
def op_X12_strike : List av_Q := [
  (0, .aload_n 0, 1, 0, 0, 0), (1, .iconst 0, 1, 0, 0, 0), (2, .putfield 136, 3, 12, 2, 0), (5, .aload_n 0, 1, 0, 0, 0),
  (6, .getfield 243, 3, 12, 52, 0), (9, .bipush 40, 2, 0, 0, 0), (11, .if_icmp .eq 15, 3, 0, 0, 0), (14, .iload_n 1, 1, 0, 0, 0),
  (15, .ifCond .lt 11, 3, 0, 0, 0), (18, .iload_n 1, 1, 0, 0, 0), (19, .aload_n 0, 1, 0, 0, 0), (20, .getfield 243, 3, 12, 52, 0),
  (23, .if_icmp .lt 5, 3, 0, 0, 0), (26, .iconst (-1), 1, 0, 0, 0), (27, .ireturn, 1, 0, 0, 0)]
def op_X12_known : List av_Q := [
  (0, .aload_n 0, 1, 0, 0, 0), (1, .iconst 0, 1, 0, 0, 0), (2, .putfield 136, 3, 12, 2, 0), (5, .iload_n 1, 1, 0, 0, 0),
  (6, .iconst (-1), 1, 0, 0, 0), (7, .aload_n 0, 1, 0, 0, 0), (8, .getfield 243, 3, 12, 52, 0), (11, .invokestatic 180, 3, 74, 3, 0),
  (14, .ifCond .ne 5, 3, 0, 0, 0), (17, .iconst 0, 1, 0, 0, 0), (18, .ireturn, 1, 0, 0, 0), (19, .aload_n 0, 1, 0, 0, 0),
  (20, .iload_n 1, 1, 0, 0, 0), (21, .putfield 88, 3, 12, 53, 0), (24, .iconst 1, 1, 0, 0, 0), (25, .ireturn, 1, 0, 0, 0)]
def op_X12_knownMany : List av_Q := [
  (0, .aload_n 0, 1, 0, 0, 0), (1, .getfield 88, 3, 12, 53, 0), (4, .ifCond .ge 10, 3, 0, 0, 0), (7, .aload_n 0, 1, 0, 0, 0),
  (8, .getfield 243, 3, 12, 52, 0), (11, .goto 7, 3, 0, 0, 0), (18, .ireturn, 1, 0, 0, 0)]
def op_X12_fits : List av_Q := [
  (0, .aload_n 0, 1, 0, 0, 0), (1, .iconst 0, 1, 0, 0, 0), (2, .putfield 136, 3, 12, 2, 0), (5, .aload_n 0, 1, 0, 0, 0),
  (6, .iload_n 1, 1, 0, 0, 0), (7, .invokevirtual 407, 3, 86, 1, 12), (10, .ifCond .eq 11, 3, 0, 0, 0), (21, .iconst (-1), 1, 0, 0, 0),
  (22, .ireturn, 1, 0, 0, 0)]
def op_X12_odds : List av_Q := [
  (0, .aload_n 0, 1, 0, 0, 0), (1, .iconst 0, 1, 0, 0, 0), (2, .putfield 136, 3, 12, 2, 0), (5, .aload_n 0, 1, 0, 0, 0),
  (6, .iload_n 1, 1, 0, 0, 0), (7, .invokevirtual 407, 3, 86, 1, 12), (10, .ifCond .eq 24, 3, 0, 0, 0), (34, .iconst (-1), 1, 0, 0, 0),
  (35, .ireturn, 1, 0, 0, 0)]
def op_X12_test : List av_Q := [
  (0, .aload_n 0, 1, 0, 0, 0), (1, .iconst 0, 1, 0, 0, 0), (2, .putfield 136, 3, 12, 2, 0), (5, .aload_n 0, 1, 0, 0, 0),
  (6, .iload_n 1, 1, 0, 0, 0), (7, .invokevirtual 407, 3, 86, 1, 12), (10, .ifCond .eq 12, 3, 0, 0, 0), (22, .iconst (-1), 1, 0, 0, 0),
  (23, .ireturn, 1, 0, 0, 0)]
def op_X12_low : List av_Q := [
  (0, .aload_n 0, 1, 0, 0, 0), (1, .iconst 0, 1, 0, 0, 0), (2, .putfield 136, 3, 12, 2, 0), (5, .aload_n 0, 1, 0, 0, 0),
  (6, .iload_n 1, 1, 0, 0, 0), (7, .invokevirtual 407, 3, 86, 1, 12), (10, .ifCond .eq 11, 3, 0, 0, 0), (21, .ldc_w 419, 3, 0, 0, (-2147483648)),
  (24, .ireturn, 1, 0, 0, 0)]
def op_X12_rest : List av_Q := [
  (0, .aload_n 0, 1, 0, 0, 0), (1, .iconst 0, 1, 0, 0, 0), (2, .putfield 136, 3, 12, 2, 0), (5, .aload_n 0, 1, 0, 0, 0),
  (6, .iload_n 1, 1, 0, 0, 0), (7, .invokevirtual 407, 3, 86, 1, 12), (10, .ifCond .ne 5, 3, 0, 0, 0), (13, .iconst (-1), 1, 0, 0, 0),
  (14, .ireturn, 1, 0, 0, 0)]
def op_X12_shuts : List av_Q := [
  (0, .aload_n 0, 1, 0, 0, 0), (1, .iconst 0, 1, 0, 0, 0), (2, .putfield 136, 3, 12, 2, 0), (5, .aload_n 0, 1, 0, 0, 0),
  (6, .iload_n 1, 1, 0, 0, 0), (7, .invokevirtual 407, 3, 86, 1, 12), (10, .ifCond .ne 5, 3, 0, 0, 0), (13, .iconst (-1), 1, 0, 0, 0),
  (14, .ireturn, 1, 0, 0, 0)]
def op_X12_above : List av_Q := [
  (0, .aload_n 0, 1, 0, 0, 0), (1, .iconst 0, 1, 0, 0, 0), (2, .putfield 136, 3, 12, 2, 0), (5, .aload_n 0, 1, 0, 0, 0),
  (6, .iload_n 1, 1, 0, 0, 0), (7, .invokevirtual 407, 3, 86, 1, 12), (10, .ifCond .eq 11, 3, 0, 0, 0), (21, .ldc_w 419, 3, 0, 0, (-2147483648)),
  (24, .ireturn, 1, 0, 0, 0)]
def op_X12_opens : List av_Q := [
  (0, .aload_n 0, 1, 0, 0, 0), (1, .iconst 0, 1, 0, 0, 0), (2, .putfield 136, 3, 12, 2, 0), (5, .aload_n 0, 1, 0, 0, 0),
  (6, .iload_n 1, 1, 0, 0, 0), (7, .invokevirtual 407, 3, 86, 1, 12), (10, .ifCond .ne 6, 3, 0, 0, 0), (13, .bipush (-2), 2, 0, 0, 0),
  (15, .ireturn, 1, 0, 0, 0)]
def op_X12_stand : List av_Q := [
  (0, .aload_n 0, 1, 0, 0, 0), (1, .iconst 0, 1, 0, 0, 0), (2, .putfield 136, 3, 12, 2, 0), (5, .aload_n 0, 1, 0, 0, 0),
  (6, .iload_n 1, 1, 0, 0, 0), (7, .invokevirtual 407, 3, 86, 1, 12), (10, .ifCond .eq 20, 3, 0, 0, 0), (30, .ldc_w 419, 3, 0, 0, (-2147483648)),
  (33, .ireturn, 1, 0, 0, 0)]
def op_X12_first : List av_Q := [
  (0, .aload_n 0, 1, 0, 0, 0), (1, .iconst 0, 1, 0, 0, 0), (2, .putfield 136, 3, 12, 2, 0), (5, .aload_n 0, 1, 0, 0, 0),
  (6, .getfield 216, 3, 12, 12, 0), (9, .ifCond .eq 25, 3, 0, 0, 0), (34, .iconst (-1), 1, 0, 0, 0), (35, .ireturn, 1, 0, 0, 0)]
def op_X12_wind : List av_Q := [
  (0, .aload_n 0, 1, 0, 0, 0), (1, .iconst 0, 1, 0, 0, 0), (2, .putfield 136, 3, 12, 2, 0), (5, .aload_n 0, 1, 0, 0, 0),
  (6, .iload_n 1, 1, 0, 0, 0), (7, .invokevirtual 407, 3, 86, 1, 12), (10, .ifCond .eq 36, 3, 0, 0, 0), (46, .iconst (-1), 1, 0, 0, 0),
  (47, .ireturn, 1, 0, 0, 0)]
def op_X12_keep : List av_Q := [
  (0, .aload_n 0, 1, 0, 0, 0), (1, .iconst 0, 1, 0, 0, 0), (2, .putfield 136, 3, 12, 2, 0), (5, .aload_n 0, 1, 0, 0, 0),
  (6, .iconst 1, 1, 0, 0, 0), (7, .putfield 249, 3, 12, 66, 2), (10, .aload_n 0, 1, 0, 0, 0), (11, .aload_n 0, 1, 0, 0, 0),
  (12, .getfield 240, 3, 12, 43, 0), (15, .putfield 512, 3, 12, 67, 0), (18, .iconst 0, 1, 0, 0, 0), (19, .istore_n 1, 1, 0, 0, 0),
  (20, .iload_n 1, 1, 0, 0, 0), (21, .iconst 4, 1, 0, 0, 0), (22, .if_icmp .ge 28, 3, 0, 0, 0), (25, .aload_n 0, 1, 0, 0, 0),
  (26, .getfield 127, 3, 12, 68, 4), (29, .bipush 16, 2, 0, 0, 0), (31, .iload_n 1, 1, 0, 0, 0), (32, .imul, 1, 0, 0, 0),
  (33, .aload_n 0, 1, 0, 0, 0), (34, .getfield 69, 3, 12, 44, 4), (37, .bipush 16, 2, 0, 0, 0), (39, .iload_n 1, 1, 0, 0, 0),
  (40, .imul, 1, 0, 0, 0), (41, .invokestatic 236, 3, 83, 4, 0), (44, .iinc 1 1, 3, 0, 0, 0), (47, .goto (-27), 3, 0, 0, 0),
  (50, .aload_n 0, 1, 0, 0, 0), (51, .getfield 240, 3, 12, 43, 0), (54, .ireturn, 1, 0, 0, 0)]
def op_X12_back : List av_Q := [
  (0, .aload_n 0, 1, 0, 0, 0), (1, .iconst 0, 1, 0, 0, 0), (2, .putfield 136, 3, 12, 2, 0), (5, .aload_n 0, 1, 0, 0, 0),
  (6, .getfield 249, 3, 12, 66, 2), (9, .ifCond .ne 5, 3, 0, 0, 0), (12, .iconst (-1), 1, 0, 0, 0), (13, .ireturn, 1, 0, 0, 0)]
def op_X12_count : List av_Q := [
  (0, .aload_n 0, 1, 0, 0, 0), (1, .iconst 0, 1, 0, 0, 0), (2, .putfield 136, 3, 12, 2, 0), (5, .iconst 0, 1, 0, 0, 0),
  (6, .istore_n 2, 1, 0, 0, 0), (7, .iload_n 1, 1, 0, 0, 0), (8, .tableswitch 129 0 8 #[52, 57, 62, 67, 72, 77, 82, 87, 92], 52, 0, 0, 0), (60, .aload_n 0, 1, 0, 0, 0),
  (61, .getfield 216, 3, 12, 12, 0), (64, .ireturn, 1, 0, 0, 0), (65, .aload_n 0, 1, 0, 0, 0), (66, .getfield 219, 3, 12, 13, 0),
  (69, .ireturn, 1, 0, 0, 0), (70, .aload_n 0, 1, 0, 0, 0), (71, .getfield 222, 3, 12, 14, 0), (74, .ireturn, 1, 0, 0, 0),
  (75, .aload_n 0, 1, 0, 0, 0), (76, .getfield 225, 3, 12, 15, 0), (79, .ireturn, 1, 0, 0, 0), (80, .aload_n 0, 1, 0, 0, 0),
  (81, .getfield 240, 3, 12, 43, 0), (84, .ireturn, 1, 0, 0, 0), (85, .aload_n 0, 1, 0, 0, 0), (86, .getfield 243, 3, 12, 52, 0),
  (89, .ireturn, 1, 0, 0, 0), (90, .aload_n 0, 1, 0, 0, 0), (91, .invokevirtual 442, 3, 106, 0, 12), (94, .ireturn, 1, 0, 0, 0),
  (95, .aload_n 0, 1, 0, 0, 0), (96, .getfield 246, 3, 12, 50, 0), (99, .ireturn, 1, 0, 0, 0), (100, .iconst 0, 1, 0, 0, 0),
  (101, .istore_n 3, 1, 0, 0, 0), (102, .iload_n 3, 1, 0, 0, 0), (103, .aload_n 0, 1, 0, 0, 0), (104, .getfield 216, 3, 12, 12, 0),
  (107, .if_icmp .ge 28, 3, 0, 0, 0), (135, .iload_n 2, 1, 0, 0, 0), (136, .ireturn, 1, 0, 0, 0), (137, .iconst (-1), 1, 0, 0, 0),
  (138, .ireturn, 1, 0, 0, 0)]
def op_J0_length_8abf5 : List av_Q := [
  (0, .aload_n 0, 1, 0, 0, 0), (1, .getfield 9, 3, 100, 0, 0), (4, .arraylength, 1, 0, 0, 0), (5, .aload_n 0, 1, 0, 0, 0),
  (6, .invokevirtual 335, 3, 123, 0, 100), (9, .ishr, 1, 0, 0, 0), (10, .ireturn, 1, 0, 0, 0)]
def op_J0_charAt_5068e : List av_Q := [
  (0, .aload_n 0, 1, 0, 0, 0), (1, .invokevirtual 492, 3, 124, 0, 100), (4, .ifCond .eq 12, 3, 0, 0, 0), (7, .aload_n 0, 1, 0, 0, 0),
  (8, .getfield 9, 3, 100, 0, 0), (11, .iload_n 1, 1, 0, 0, 0), (12, .invokestatic 495, 3, 126, 2, 0), (15, .ireturn, 1, 0, 0, 0)]
def op_J0_coder_7d493 : List av_Q := [
  (0, .getstatic 38, 3, 0, 0, 0), (3, .ifCond .eq 10, 3, 0, 0, 0), (6, .aload_n 0, 1, 0, 0, 0), (7, .getfield 15, 3, 100, 1, 0),
  (10, .goto 4, 3, 0, 0, 0), (14, .ireturn, 1, 0, 0, 0)]
def op_J0_isLatin1_aae02 : List av_Q := [
  (0, .getstatic 38, 3, 0, 0, 0), (3, .ifCond .eq 14, 3, 0, 0, 0), (6, .aload_n 0, 1, 0, 0, 0), (7, .getfield 15, 3, 100, 1, 0),
  (10, .ifCond .ne 7, 3, 0, 0, 0), (13, .iconst 1, 1, 0, 0, 0), (14, .goto 4, 3, 0, 0, 0), (18, .ireturn, 1, 0, 0, 0)]
def op_J0_checkIndex_df160 : List av_Q := [
  (0, .iload_n 0, 1, 0, 0, 0), (1, .iload_n 1, 1, 0, 0, 0), (2, .getstatic 1053, 3, 1, 0, 0), (5, .invokestatic 1059, 3, 127, 3, 0),
  (8, .pop, 1, 0, 0, 0), (9, .return_, 1, 0, 0, 0)]
def op_J1_charAt_3b067 : List av_Q := [
  (0, .iload_n 1, 1, 0, 0, 0), (1, .aload_n 0, 1, 0, 0, 0), (2, .arraylength, 1, 0, 0, 0), (3, .invokestatic 9, 3, 125, 2, 0),
  (6, .aload_n 0, 1, 0, 0, 0), (7, .iload_n 1, 1, 0, 0, 0), (8, .baload, 1, 0, 0, 0), (9, .sipush 255, 3, 0, 0, 0),
  (12, .iand, 1, 0, 0, 0), (13, .i2c, 1, 0, 0, 0), (14, .ireturn, 1, 0, 0, 0)]
def op_J3_checkIndex_8e157 : List av_Q := [
  (0, .iload_n 0, 1, 0, 0, 0), (1, .ifCond .lt 8, 3, 0, 0, 0), (4, .iload_n 0, 1, 0, 0, 0), (5, .iload_n 1, 1, 0, 0, 0),
  (6, .if_icmp .lt 10, 3, 0, 0, 0), (16, .iload_n 0, 1, 0, 0, 0), (17, .ireturn, 1, 0, 0, 0)]
def op_L_law_0 : List av_Q := [
  (0, .new 8, 3, 11, 0, 0), (3, .dup, 1, 0, 0, 0), (4, .invokespecial 17, 3, 28, 0, 0), (7, .astore_n 1, 1, 0, 0, 0),
  (8, .new 18, 3, 12, 0, 0), (11, .dup, 1, 0, 0, 0), (12, .invokespecial 20, 3, 71, 0, 0), (15, .astore_n 2, 1, 0, 0, 0),
  (16, .iconst 1, 1, 0, 0, 0), (17, .newarray .long, 2, 3, 0, 0), (19, .astore_n 3, 1, 0, 0, 0), (20, .iconst 0, 1, 0, 0, 0),
  (21, .istore 4, 2, 0, 0, 0), (23, .iload 4, 2, 0, 0, 0), (25, .aload_n 0, 1, 0, 0, 0), (26, .arraylength, 1, 0, 0, 0),
  (27, .bipush 6, 2, 0, 0, 0), (29, .isub, 1, 0, 0, 0), (30, .if_icmp .gt 1492, 3, 0, 0, 0), (33, .aload_n 0, 1, 0, 0, 0),
  (34, .iload 4, 2, 0, 0, 0), (36, .iaload, 1, 0, 0, 0), (37, .bipush 63, 2, 0, 0, 0), (39, .iand, 1, 0, 0, 0),
  (40, .tableswitch 1476 0 35 #[160, 233, 258, 283, 320, 388, 425, 450, 475, 512, 537, 562, 599, 612, 649, 710, 747, 796, 845, 883, 956, 981, 1006, 1031, 1080, 1117, 1154, 1179, 1204, 1241, 1266, 1315, 1352, 1425, 1438, 1451], 160, 0, 0, 0), (200, .aload_n 1, 1, 0, 0, 0), (201, .aload_n 0, 1, 0, 0, 0), (202, .iload 4, 2, 0, 0, 0),
  (204, .iconst 1, 1, 0, 0, 0), (205, .iadd, 1, 0, 0, 0), (206, .iaload, 1, 0, 0, 0), (207, .aload_n 0, 1, 0, 0, 0),
  (208, .iload 4, 2, 0, 0, 0), (210, .iconst 2, 1, 0, 0, 0), (211, .iadd, 1, 0, 0, 0), (212, .iaload, 1, 0, 0, 0),
  (213, .aload_n 0, 1, 0, 0, 0), (214, .iload 4, 2, 0, 0, 0), (216, .iconst 3, 1, 0, 0, 0), (217, .iadd, 1, 0, 0, 0),
  (218, .iaload, 1, 0, 0, 0), (219, .aload_n 0, 1, 0, 0, 0), (220, .iload 4, 2, 0, 0, 0), (222, .iconst 4, 1, 0, 0, 0),
  (223, .iadd, 1, 0, 0, 0), (224, .iaload, 1, 0, 0, 0), (225, .aload_n 0, 1, 0, 0, 0), (226, .iload 4, 2, 0, 0, 0),
  (228, .iconst 5, 1, 0, 0, 0), (229, .iadd, 1, 0, 0, 0), (230, .iaload, 1, 0, 0, 0), (231, .invokevirtual 21, 3, 29, 5, 11),
  (234, .aload_n 2, 1, 0, 0, 0), (235, .aload_n 0, 1, 0, 0, 0), (236, .iload 4, 2, 0, 0, 0), (238, .iconst 1, 1, 0, 0, 0),
  (239, .iadd, 1, 0, 0, 0), (240, .iaload, 1, 0, 0, 0), (241, .aload_n 0, 1, 0, 0, 0), (242, .iload 4, 2, 0, 0, 0)]
def op_L_law_1 : List av_Q := [
  (244, .iconst 2, 1, 0, 0, 0), (245, .iadd, 1, 0, 0, 0), (246, .iaload, 1, 0, 0, 0), (247, .aload_n 0, 1, 0, 0, 0),
  (248, .iload 4, 2, 0, 0, 0), (250, .iconst 3, 1, 0, 0, 0), (251, .iadd, 1, 0, 0, 0), (252, .iaload, 1, 0, 0, 0),
  (253, .aload_n 0, 1, 0, 0, 0), (254, .iload 4, 2, 0, 0, 0), (256, .iconst 4, 1, 0, 0, 0), (257, .iadd, 1, 0, 0, 0),
  (258, .iaload, 1, 0, 0, 0), (259, .aload_n 0, 1, 0, 0, 0), (260, .iload 4, 2, 0, 0, 0), (262, .iconst 5, 1, 0, 0, 0),
  (263, .iadd, 1, 0, 0, 0), (264, .iaload, 1, 0, 0, 0), (265, .invokevirtual 25, 3, 73, 5, 12), (268, .if_icmp .eq 1248, 3, 0, 0, 0),
  (273, .aload_n 1, 1, 0, 0, 0), (274, .aload_n 0, 1, 0, 0, 0), (275, .iload 4, 2, 0, 0, 0), (277, .iconst 1, 1, 0, 0, 0),
  (278, .iadd, 1, 0, 0, 0), (279, .iaload, 1, 0, 0, 0), (280, .invokevirtual 26, 3, 31, 1, 11), (283, .aload_n 2, 1, 0, 0, 0),
  (284, .aload_n 0, 1, 0, 0, 0), (285, .iload 4, 2, 0, 0, 0), (287, .iconst 1, 1, 0, 0, 0), (288, .iadd, 1, 0, 0, 0),
  (289, .iaload, 1, 0, 0, 0), (290, .invokevirtual 30, 3, 80, 1, 12), (293, .if_icmp .eq 1223, 3, 0, 0, 0), (298, .aload_n 1, 1, 0, 0, 0),
  (299, .aload_n 0, 1, 0, 0, 0), (300, .iload 4, 2, 0, 0, 0), (302, .iconst 1, 1, 0, 0, 0), (303, .iadd, 1, 0, 0, 0),
  (304, .iaload, 1, 0, 0, 0), (305, .invokevirtual 31, 3, 33, 1, 11), (308, .aload_n 2, 1, 0, 0, 0), (309, .aload_n 0, 1, 0, 0, 0),
  (310, .iload 4, 2, 0, 0, 0), (312, .iconst 1, 1, 0, 0, 0), (313, .iadd, 1, 0, 0, 0), (314, .iaload, 1, 0, 0, 0),
  (315, .invokevirtual 34, 3, 81, 1, 12), (318, .if_icmp .eq 1198, 3, 0, 0, 0), (323, .aload_n 1, 1, 0, 0, 0), (324, .aload_n 0, 1, 0, 0, 0),
  (325, .iload 4, 2, 0, 0, 0), (327, .iconst 1, 1, 0, 0, 0), (328, .iadd, 1, 0, 0, 0), (329, .iaload, 1, 0, 0, 0),
  (330, .aload_n 0, 1, 0, 0, 0), (331, .iload 4, 2, 0, 0, 0), (333, .iconst 2, 1, 0, 0, 0), (334, .iadd, 1, 0, 0, 0)]
def op_L_law_2 : List av_Q := [
  (335, .iaload, 1, 0, 0, 0), (336, .invokevirtual 35, 3, 34, 2, 11), (339, .aload_n 2, 1, 0, 0, 0), (340, .aload_n 0, 1, 0, 0, 0),
  (341, .iload 4, 2, 0, 0, 0), (343, .iconst 1, 1, 0, 0, 0), (344, .iadd, 1, 0, 0, 0), (345, .iaload, 1, 0, 0, 0),
  (346, .aload_n 0, 1, 0, 0, 0), (347, .iload 4, 2, 0, 0, 0), (349, .iconst 2, 1, 0, 0, 0), (350, .iadd, 1, 0, 0, 0),
  (351, .iaload, 1, 0, 0, 0), (352, .invokevirtual 38, 3, 82, 2, 12), (355, .if_icmp .eq 1161, 3, 0, 0, 0), (360, .aload_n 1, 1, 0, 0, 0),
  (361, .aload_n 0, 1, 0, 0, 0), (362, .iload 4, 2, 0, 0, 0), (364, .iconst 1, 1, 0, 0, 0), (365, .iadd, 1, 0, 0, 0),
  (366, .iaload, 1, 0, 0, 0), (367, .aload_n 0, 1, 0, 0, 0), (368, .iload 4, 2, 0, 0, 0), (370, .iconst 2, 1, 0, 0, 0),
  (371, .iadd, 1, 0, 0, 0), (372, .iaload, 1, 0, 0, 0), (373, .aload_n 3, 1, 0, 0, 0), (377, .istore 5, 2, 0, 0, 0),
  (379, .aload_n 2, 1, 0, 0, 0), (380, .aload_n 0, 1, 0, 0, 0), (381, .iload 4, 2, 0, 0, 0), (383, .iconst 1, 1, 0, 0, 0),
  (384, .iadd, 1, 0, 0, 0), (385, .iaload, 1, 0, 0, 0), (386, .aload_n 0, 1, 0, 0, 0), (387, .iload 4, 2, 0, 0, 0),
  (389, .iconst 2, 1, 0, 0, 0), (390, .iadd, 1, 0, 0, 0), (391, .iaload, 1, 0, 0, 0), (392, .invokevirtual 44, 3, 88, 2, 12),
  (395, .istore 6, 2, 0, 0, 0), (397, .aload_n 2, 1, 0, 0, 0), (398, .invokevirtual 45, 3, 72, 0, 12), (401, .iload 5, 2, 0, 0, 0),
  (403, .if_icmp .eq 5, 3, 0, 0, 0), (408, .iload 5, 2, 0, 0, 0), (410, .ifCond .ne 15, 3, 0, 0, 0), (425, .goto 1091, 3, 0, 0, 0),
  (428, .aload_n 1, 1, 0, 0, 0), (429, .aload_n 0, 1, 0, 0, 0), (430, .iload 4, 2, 0, 0, 0), (432, .iconst 1, 1, 0, 0, 0),
  (433, .iadd, 1, 0, 0, 0), (434, .iaload, 1, 0, 0, 0), (435, .aload_n 0, 1, 0, 0, 0), (436, .iload 4, 2, 0, 0, 0),
  (438, .iconst 2, 1, 0, 0, 0), (439, .iadd, 1, 0, 0, 0), (440, .iaload, 1, 0, 0, 0), (441, .invokevirtual 49, 3, 39, 2, 11)]
def op_L_law_3 : List av_Q := [
  (444, .aload_n 2, 1, 0, 0, 0), (445, .aload_n 0, 1, 0, 0, 0), (446, .iload 4, 2, 0, 0, 0), (448, .iconst 1, 1, 0, 0, 0),
  (449, .iadd, 1, 0, 0, 0), (450, .iaload, 1, 0, 0, 0), (451, .aload_n 0, 1, 0, 0, 0), (452, .iload 4, 2, 0, 0, 0),
  (454, .iconst 2, 1, 0, 0, 0), (455, .iadd, 1, 0, 0, 0), (456, .iaload, 1, 0, 0, 0), (457, .invokevirtual 52, 3, 89, 2, 12),
  (460, .if_icmp .eq 1056, 3, 0, 0, 0), (465, .aload_n 1, 1, 0, 0, 0), (466, .aload_n 0, 1, 0, 0, 0), (467, .iload 4, 2, 0, 0, 0),
  (469, .iconst 1, 1, 0, 0, 0), (470, .iadd, 1, 0, 0, 0), (471, .iaload, 1, 0, 0, 0), (472, .invokevirtual 53, 3, 40, 1, 11),
  (475, .aload_n 2, 1, 0, 0, 0), (476, .aload_n 0, 1, 0, 0, 0), (477, .iload 4, 2, 0, 0, 0), (479, .iconst 1, 1, 0, 0, 0),
  (480, .iadd, 1, 0, 0, 0), (481, .iaload, 1, 0, 0, 0), (482, .invokevirtual 56, 3, 90, 1, 12), (485, .if_icmp .eq 1031, 3, 0, 0, 0),
  (490, .aload_n 1, 1, 0, 0, 0), (491, .aload_n 0, 1, 0, 0, 0), (492, .iload 4, 2, 0, 0, 0), (494, .iconst 1, 1, 0, 0, 0),
  (495, .iadd, 1, 0, 0, 0), (496, .iaload, 1, 0, 0, 0), (497, .invokevirtual 57, 3, 41, 1, 11), (500, .aload_n 2, 1, 0, 0, 0),
  (501, .aload_n 0, 1, 0, 0, 0), (502, .iload 4, 2, 0, 0, 0), (504, .iconst 1, 1, 0, 0, 0), (505, .iadd, 1, 0, 0, 0),
  (506, .iaload, 1, 0, 0, 0), (507, .invokevirtual 60, 3, 91, 1, 12), (510, .if_icmp .eq 1006, 3, 0, 0, 0), (515, .aload_n 1, 1, 0, 0, 0),
  (516, .aload_n 0, 1, 0, 0, 0), (517, .iload 4, 2, 0, 0, 0), (519, .iconst 1, 1, 0, 0, 0), (520, .iadd, 1, 0, 0, 0),
  (521, .iaload, 1, 0, 0, 0), (522, .aload_n 0, 1, 0, 0, 0), (523, .iload 4, 2, 0, 0, 0), (525, .iconst 2, 1, 0, 0, 0),
  (526, .iadd, 1, 0, 0, 0), (527, .iaload, 1, 0, 0, 0), (528, .invokevirtual 61, 3, 42, 2, 11), (531, .aload_n 2, 1, 0, 0, 0),
  (532, .aload_n 0, 1, 0, 0, 0), (533, .iload 4, 2, 0, 0, 0), (535, .iconst 1, 1, 0, 0, 0), (536, .iadd, 1, 0, 0, 0)]
def op_L_law_4 : List av_Q := [
  (537, .iaload, 1, 0, 0, 0), (538, .aload_n 0, 1, 0, 0, 0), (539, .iload 4, 2, 0, 0, 0), (541, .iconst 2, 1, 0, 0, 0),
  (542, .iadd, 1, 0, 0, 0), (543, .iaload, 1, 0, 0, 0), (544, .invokevirtual 64, 3, 92, 2, 12), (547, .if_icmp .eq 969, 3, 0, 0, 0),
  (552, .aload_n 1, 1, 0, 0, 0), (553, .aload_n 0, 1, 0, 0, 0), (554, .iload 4, 2, 0, 0, 0), (556, .iconst 1, 1, 0, 0, 0),
  (557, .iadd, 1, 0, 0, 0), (558, .iaload, 1, 0, 0, 0), (559, .invokevirtual 65, 3, 43, 1, 11), (562, .aload_n 2, 1, 0, 0, 0),
  (563, .aload_n 0, 1, 0, 0, 0), (564, .iload 4, 2, 0, 0, 0), (566, .iconst 1, 1, 0, 0, 0), (567, .iadd, 1, 0, 0, 0),
  (568, .iaload, 1, 0, 0, 0), (569, .invokevirtual 68, 3, 93, 1, 12), (572, .if_icmp .eq 944, 3, 0, 0, 0), (577, .aload_n 1, 1, 0, 0, 0),
  (578, .aload_n 0, 1, 0, 0, 0), (579, .iload 4, 2, 0, 0, 0), (581, .iconst 1, 1, 0, 0, 0), (582, .iadd, 1, 0, 0, 0),
  (583, .iaload, 1, 0, 0, 0), (584, .invokevirtual 69, 3, 44, 1, 11), (587, .aload_n 2, 1, 0, 0, 0), (588, .aload_n 0, 1, 0, 0, 0),
  (589, .iload 4, 2, 0, 0, 0), (591, .iconst 1, 1, 0, 0, 0), (592, .iadd, 1, 0, 0, 0), (593, .iaload, 1, 0, 0, 0),
  (594, .invokevirtual 72, 3, 94, 1, 12), (597, .if_icmp .eq 919, 3, 0, 0, 0), (602, .aload_n 1, 1, 0, 0, 0), (603, .aload_n 0, 1, 0, 0, 0),
  (604, .iload 4, 2, 0, 0, 0), (606, .iconst 1, 1, 0, 0, 0), (607, .iadd, 1, 0, 0, 0), (608, .iaload, 1, 0, 0, 0),
  (609, .aload_n 0, 1, 0, 0, 0), (610, .iload 4, 2, 0, 0, 0), (612, .iconst 2, 1, 0, 0, 0), (613, .iadd, 1, 0, 0, 0),
  (614, .iaload, 1, 0, 0, 0), (615, .invokevirtual 73, 3, 45, 2, 11), (618, .aload_n 2, 1, 0, 0, 0), (619, .aload_n 0, 1, 0, 0, 0),
  (620, .iload 4, 2, 0, 0, 0), (622, .iconst 1, 1, 0, 0, 0), (623, .iadd, 1, 0, 0, 0), (624, .iaload, 1, 0, 0, 0),
  (625, .aload_n 0, 1, 0, 0, 0), (626, .iload 4, 2, 0, 0, 0), (628, .iconst 2, 1, 0, 0, 0), (629, .iadd, 1, 0, 0, 0)]
def op_L_law_5 : List av_Q := [
  (630, .iaload, 1, 0, 0, 0), (631, .invokevirtual 77, 3, 95, 2, 12), (634, .if_icmp .eq 882, 3, 0, 0, 0), (639, .aload_n 1, 1, 0, 0, 0),
  (640, .invokevirtual 78, 3, 46, 0, 11), (643, .aload_n 2, 1, 0, 0, 0), (644, .invokevirtual 81, 3, 96, 0, 12), (647, .if_icmp .eq 869, 3, 0, 0, 0),
  (652, .aload_n 1, 1, 0, 0, 0), (653, .aload_n 0, 1, 0, 0, 0), (654, .iload 4, 2, 0, 0, 0), (656, .iconst 1, 1, 0, 0, 0),
  (657, .iadd, 1, 0, 0, 0), (658, .iaload, 1, 0, 0, 0), (659, .aload_n 0, 1, 0, 0, 0), (660, .iload 4, 2, 0, 0, 0),
  (662, .iconst 2, 1, 0, 0, 0), (663, .iadd, 1, 0, 0, 0), (664, .iaload, 1, 0, 0, 0), (665, .invokevirtual 82, 3, 47, 2, 11),
  (668, .aload_n 2, 1, 0, 0, 0), (669, .aload_n 0, 1, 0, 0, 0), (670, .iload 4, 2, 0, 0, 0), (672, .iconst 1, 1, 0, 0, 0),
  (673, .iadd, 1, 0, 0, 0), (674, .iaload, 1, 0, 0, 0), (675, .aload_n 0, 1, 0, 0, 0), (676, .iload 4, 2, 0, 0, 0),
  (678, .iconst 2, 1, 0, 0, 0), (679, .iadd, 1, 0, 0, 0), (680, .iaload, 1, 0, 0, 0), (681, .invokevirtual 85, 3, 97, 2, 12),
  (684, .if_icmp .eq 832, 3, 0, 0, 0), (689, .aload_n 1, 1, 0, 0, 0), (690, .aload_n 0, 1, 0, 0, 0), (691, .iload 4, 2, 0, 0, 0),
  (693, .iconst 1, 1, 0, 0, 0), (694, .iadd, 1, 0, 0, 0), (695, .iaload, 1, 0, 0, 0), (696, .aload_n 0, 1, 0, 0, 0),
  (697, .iload 4, 2, 0, 0, 0), (699, .iconst 2, 1, 0, 0, 0), (700, .iadd, 1, 0, 0, 0), (701, .iaload, 1, 0, 0, 0),
  (702, .aload_n 0, 1, 0, 0, 0), (703, .iload 4, 2, 0, 0, 0), (705, .iconst 3, 1, 0, 0, 0), (706, .iadd, 1, 0, 0, 0),
  (707, .iaload, 1, 0, 0, 0), (708, .aload_n 0, 1, 0, 0, 0), (709, .iload 4, 2, 0, 0, 0), (711, .iconst 4, 1, 0, 0, 0),
  (712, .iadd, 1, 0, 0, 0), (713, .iaload, 1, 0, 0, 0), (714, .invokevirtual 86, 3, 48, 4, 11), (717, .aload_n 2, 1, 0, 0, 0),
  (718, .aload_n 0, 1, 0, 0, 0), (719, .iload 4, 2, 0, 0, 0), (721, .iconst 1, 1, 0, 0, 0), (722, .iadd, 1, 0, 0, 0)]
def op_L_law_6 : List av_Q := [
  (723, .iaload, 1, 0, 0, 0), (724, .aload_n 0, 1, 0, 0, 0), (725, .iload 4, 2, 0, 0, 0), (727, .iconst 2, 1, 0, 0, 0),
  (728, .iadd, 1, 0, 0, 0), (729, .iaload, 1, 0, 0, 0), (730, .aload_n 0, 1, 0, 0, 0), (731, .iload 4, 2, 0, 0, 0),
  (733, .iconst 3, 1, 0, 0, 0), (734, .iadd, 1, 0, 0, 0), (735, .iaload, 1, 0, 0, 0), (736, .aload_n 0, 1, 0, 0, 0),
  (737, .iload 4, 2, 0, 0, 0), (739, .iconst 4, 1, 0, 0, 0), (740, .iadd, 1, 0, 0, 0), (741, .iaload, 1, 0, 0, 0),
  (742, .invokevirtual 90, 3, 98, 4, 12), (745, .if_icmp .eq 771, 3, 0, 0, 0), (750, .aload_n 1, 1, 0, 0, 0), (751, .aload_n 0, 1, 0, 0, 0),
  (752, .iload 4, 2, 0, 0, 0), (754, .iconst 1, 1, 0, 0, 0), (755, .iadd, 1, 0, 0, 0), (756, .iaload, 1, 0, 0, 0),
  (757, .aload_n 0, 1, 0, 0, 0), (758, .iload 4, 2, 0, 0, 0), (760, .iconst 2, 1, 0, 0, 0), (761, .iadd, 1, 0, 0, 0),
  (762, .iaload, 1, 0, 0, 0), (763, .invokevirtual 91, 3, 49, 2, 11), (766, .aload_n 2, 1, 0, 0, 0), (767, .aload_n 0, 1, 0, 0, 0),
  (768, .iload 4, 2, 0, 0, 0), (770, .iconst 1, 1, 0, 0, 0), (771, .iadd, 1, 0, 0, 0), (772, .iaload, 1, 0, 0, 0),
  (773, .aload_n 0, 1, 0, 0, 0), (774, .iload 4, 2, 0, 0, 0), (776, .iconst 2, 1, 0, 0, 0), (777, .iadd, 1, 0, 0, 0),
  (778, .iaload, 1, 0, 0, 0), (779, .invokevirtual 94, 3, 99, 2, 12), (782, .if_icmp .eq 734, 3, 0, 0, 0), (787, .aload_n 1, 1, 0, 0, 0),
  (788, .aload_n 0, 1, 0, 0, 0), (789, .iload 4, 2, 0, 0, 0), (791, .iconst 1, 1, 0, 0, 0), (792, .iadd, 1, 0, 0, 0),
  (793, .iaload, 1, 0, 0, 0), (794, .aload_n 0, 1, 0, 0, 0), (795, .iload 4, 2, 0, 0, 0), (797, .iconst 2, 1, 0, 0, 0),
  (798, .iadd, 1, 0, 0, 0), (799, .iaload, 1, 0, 0, 0), (800, .aload_n 0, 1, 0, 0, 0), (801, .iload 4, 2, 0, 0, 0),
  (803, .iconst 3, 1, 0, 0, 0), (804, .iadd, 1, 0, 0, 0), (805, .iaload, 1, 0, 0, 0), (806, .invokevirtual 95, 3, 50, 3, 11)]
def op_L_law_7 : List av_Q := [
  (809, .aload_n 2, 1, 0, 0, 0), (810, .aload_n 0, 1, 0, 0, 0), (811, .iload 4, 2, 0, 0, 0), (813, .iconst 1, 1, 0, 0, 0),
  (814, .iadd, 1, 0, 0, 0), (815, .iaload, 1, 0, 0, 0), (816, .aload_n 0, 1, 0, 0, 0), (817, .iload 4, 2, 0, 0, 0),
  (819, .iconst 2, 1, 0, 0, 0), (820, .iadd, 1, 0, 0, 0), (821, .iaload, 1, 0, 0, 0), (822, .aload_n 0, 1, 0, 0, 0),
  (823, .iload 4, 2, 0, 0, 0), (825, .iconst 3, 1, 0, 0, 0), (826, .iadd, 1, 0, 0, 0), (827, .iaload, 1, 0, 0, 0),
  (828, .invokevirtual 99, 3, 100, 3, 12), (831, .if_icmp .eq 685, 3, 0, 0, 0), (836, .aload_n 1, 1, 0, 0, 0), (837, .aload_n 0, 1, 0, 0, 0),
  (838, .iload 4, 2, 0, 0, 0), (840, .iconst 1, 1, 0, 0, 0), (841, .iadd, 1, 0, 0, 0), (842, .iaload, 1, 0, 0, 0),
  (843, .aload_n 0, 1, 0, 0, 0), (844, .iload 4, 2, 0, 0, 0), (846, .iconst 2, 1, 0, 0, 0), (847, .iadd, 1, 0, 0, 0),
  (848, .iaload, 1, 0, 0, 0), (849, .aload_n 0, 1, 0, 0, 0), (850, .iload 4, 2, 0, 0, 0), (852, .iconst 3, 1, 0, 0, 0),
  (853, .iadd, 1, 0, 0, 0), (854, .iaload, 1, 0, 0, 0), (855, .invokevirtual 100, 3, 51, 3, 11), (858, .aload_n 2, 1, 0, 0, 0),
  (859, .aload_n 0, 1, 0, 0, 0), (860, .iload 4, 2, 0, 0, 0), (862, .iconst 1, 1, 0, 0, 0), (863, .iadd, 1, 0, 0, 0),
  (864, .iaload, 1, 0, 0, 0), (865, .aload_n 0, 1, 0, 0, 0), (866, .iload 4, 2, 0, 0, 0), (868, .iconst 2, 1, 0, 0, 0),
  (869, .iadd, 1, 0, 0, 0), (870, .iaload, 1, 0, 0, 0), (871, .aload_n 0, 1, 0, 0, 0), (872, .iload 4, 2, 0, 0, 0),
  (874, .iconst 3, 1, 0, 0, 0), (875, .iadd, 1, 0, 0, 0), (876, .iaload, 1, 0, 0, 0), (877, .invokevirtual 103, 3, 101, 3, 12),
  (880, .if_icmp .eq 636, 3, 0, 0, 0), (885, .aload_n 1, 1, 0, 0, 0), (886, .aload_n 0, 1, 0, 0, 0), (887, .iload 4, 2, 0, 0, 0),
  (889, .iconst 1, 1, 0, 0, 0), (890, .iadd, 1, 0, 0, 0), (891, .iaload, 1, 0, 0, 0), (892, .aload_n 0, 1, 0, 0, 0)]
def op_L_law_8 : List av_Q := [
  (893, .iload 4, 2, 0, 0, 0), (895, .iconst 2, 1, 0, 0, 0), (896, .iadd, 1, 0, 0, 0), (897, .iaload, 1, 0, 0, 0),
  (898, .invokevirtual 104, 3, 52, 2, 11), (901, .aload_n 2, 1, 0, 0, 0), (902, .aload_n 0, 1, 0, 0, 0), (903, .iload 4, 2, 0, 0, 0),
  (905, .iconst 1, 1, 0, 0, 0), (906, .iadd, 1, 0, 0, 0), (907, .iaload, 1, 0, 0, 0), (908, .aload_n 0, 1, 0, 0, 0),
  (909, .iload 4, 2, 0, 0, 0), (911, .iconst 2, 1, 0, 0, 0), (912, .iadd, 1, 0, 0, 0), (913, .iaload, 1, 0, 0, 0),
  (914, .invokevirtual 108, 3, 102, 2, 12), (917, .lcmp, 1, 0, 0, 0), (918, .ifCond .eq 598, 3, 0, 0, 0), (923, .aload_n 1, 1, 0, 0, 0),
  (924, .aload_n 0, 1, 0, 0, 0), (925, .iload 4, 2, 0, 0, 0), (927, .iconst 1, 1, 0, 0, 0), (928, .iadd, 1, 0, 0, 0),
  (929, .iaload, 1, 0, 0, 0), (930, .aload_n 0, 1, 0, 0, 0), (931, .iload 4, 2, 0, 0, 0), (933, .iconst 2, 1, 0, 0, 0),
  (934, .iadd, 1, 0, 0, 0), (935, .iaload, 1, 0, 0, 0), (936, .aload_n 0, 1, 0, 0, 0), (937, .iload 4, 2, 0, 0, 0),
  (939, .iconst 3, 1, 0, 0, 0), (940, .iadd, 1, 0, 0, 0), (941, .iaload, 1, 0, 0, 0), (942, .aload_n 0, 1, 0, 0, 0),
  (943, .iload 4, 2, 0, 0, 0), (945, .iconst 4, 1, 0, 0, 0), (946, .iadd, 1, 0, 0, 0), (947, .iaload, 1, 0, 0, 0),
  (948, .aload_n 0, 1, 0, 0, 0), (949, .iload 4, 2, 0, 0, 0), (951, .iconst 5, 1, 0, 0, 0), (952, .iadd, 1, 0, 0, 0),
  (953, .iaload, 1, 0, 0, 0), (954, .invokevirtual 109, 3, 53, 5, 11), (957, .aload_n 2, 1, 0, 0, 0), (958, .aload_n 0, 1, 0, 0, 0),
  (959, .iload 4, 2, 0, 0, 0), (961, .iconst 1, 1, 0, 0, 0), (962, .iadd, 1, 0, 0, 0), (963, .iaload, 1, 0, 0, 0),
  (964, .aload_n 0, 1, 0, 0, 0), (965, .iload 4, 2, 0, 0, 0), (967, .iconst 2, 1, 0, 0, 0), (968, .iadd, 1, 0, 0, 0),
  (969, .iaload, 1, 0, 0, 0), (970, .aload_n 0, 1, 0, 0, 0), (971, .iload 4, 2, 0, 0, 0), (973, .iconst 3, 1, 0, 0, 0)]
def op_L_law_9 : List av_Q := [
  (974, .iadd, 1, 0, 0, 0), (975, .iaload, 1, 0, 0, 0), (976, .aload_n 0, 1, 0, 0, 0), (977, .iload 4, 2, 0, 0, 0),
  (979, .iconst 4, 1, 0, 0, 0), (980, .iadd, 1, 0, 0, 0), (981, .iaload, 1, 0, 0, 0), (982, .aload_n 0, 1, 0, 0, 0),
  (983, .iload 4, 2, 0, 0, 0), (985, .iconst 5, 1, 0, 0, 0), (986, .iadd, 1, 0, 0, 0), (987, .iaload, 1, 0, 0, 0),
  (988, .invokevirtual 112, 3, 103, 5, 12), (991, .if_icmp .eq 525, 3, 0, 0, 0), (996, .aload_n 1, 1, 0, 0, 0), (997, .aload_n 0, 1, 0, 0, 0),
  (998, .iload 4, 2, 0, 0, 0), (1000, .iconst 1, 1, 0, 0, 0), (1001, .iadd, 1, 0, 0, 0), (1002, .iaload, 1, 0, 0, 0),
  (1003, .invokevirtual 113, 3, 54, 1, 11), (1006, .aload_n 2, 1, 0, 0, 0), (1007, .aload_n 0, 1, 0, 0, 0), (1008, .iload 4, 2, 0, 0, 0),
  (1010, .iconst 1, 1, 0, 0, 0), (1011, .iadd, 1, 0, 0, 0), (1012, .iaload, 1, 0, 0, 0), (1013, .invokevirtual 116, 3, 104, 1, 12),
  (1016, .if_icmp .eq 500, 3, 0, 0, 0), (1021, .aload_n 1, 1, 0, 0, 0), (1022, .aload_n 0, 1, 0, 0, 0), (1023, .iload 4, 2, 0, 0, 0),
  (1025, .iconst 1, 1, 0, 0, 0), (1026, .iadd, 1, 0, 0, 0), (1027, .iaload, 1, 0, 0, 0), (1028, .invokevirtual 117, 3, 55, 1, 11),
  (1031, .aload_n 2, 1, 0, 0, 0), (1032, .aload_n 0, 1, 0, 0, 0), (1033, .iload 4, 2, 0, 0, 0), (1035, .iconst 1, 1, 0, 0, 0),
  (1036, .iadd, 1, 0, 0, 0), (1037, .iaload, 1, 0, 0, 0), (1038, .invokevirtual 121, 3, 105, 1, 12), (1041, .if_icmp .eq 475, 3, 0, 0, 0),
  (1046, .aload_n 1, 1, 0, 0, 0), (1047, .aload_n 0, 1, 0, 0, 0), (1048, .iload 4, 2, 0, 0, 0), (1050, .iconst 1, 1, 0, 0, 0),
  (1051, .iadd, 1, 0, 0, 0), (1052, .iaload, 1, 0, 0, 0), (1053, .invokevirtual 122, 3, 56, 1, 11), (1056, .aload_n 2, 1, 0, 0, 0),
  (1057, .aload_n 0, 1, 0, 0, 0), (1058, .iload 4, 2, 0, 0, 0), (1060, .iconst 1, 1, 0, 0, 0), (1061, .iadd, 1, 0, 0, 0),
  (1062, .iaload, 1, 0, 0, 0), (1063, .invokevirtual 125, 3, 107, 1, 12), (1066, .if_icmp .eq 450, 3, 0, 0, 0), (1071, .aload_n 1, 1, 0, 0, 0)]
def op_L_law_10 : List av_Q := [
  (1072, .aload_n 0, 1, 0, 0, 0), (1073, .iload 4, 2, 0, 0, 0), (1075, .iconst 1, 1, 0, 0, 0), (1076, .iadd, 1, 0, 0, 0),
  (1077, .iaload, 1, 0, 0, 0), (1078, .aload_n 0, 1, 0, 0, 0), (1079, .iload 4, 2, 0, 0, 0), (1081, .iconst 2, 1, 0, 0, 0),
  (1082, .iadd, 1, 0, 0, 0), (1083, .iaload, 1, 0, 0, 0), (1084, .aload_n 0, 1, 0, 0, 0), (1085, .iload 4, 2, 0, 0, 0),
  (1087, .iconst 3, 1, 0, 0, 0), (1088, .iadd, 1, 0, 0, 0), (1089, .iaload, 1, 0, 0, 0), (1090, .invokevirtual 126, 3, 57, 3, 11),
  (1093, .aload_n 2, 1, 0, 0, 0), (1094, .aload_n 0, 1, 0, 0, 0), (1095, .iload 4, 2, 0, 0, 0), (1097, .iconst 1, 1, 0, 0, 0),
  (1098, .iadd, 1, 0, 0, 0), (1099, .iaload, 1, 0, 0, 0), (1100, .aload_n 0, 1, 0, 0, 0), (1101, .iload 4, 2, 0, 0, 0),
  (1103, .iconst 2, 1, 0, 0, 0), (1104, .iadd, 1, 0, 0, 0), (1105, .iaload, 1, 0, 0, 0), (1106, .aload_n 0, 1, 0, 0, 0),
  (1107, .iload 4, 2, 0, 0, 0), (1109, .iconst 3, 1, 0, 0, 0), (1110, .iadd, 1, 0, 0, 0), (1111, .iaload, 1, 0, 0, 0),
  (1112, .invokevirtual 129, 3, 108, 3, 12), (1115, .if_icmp .eq 401, 3, 0, 0, 0), (1120, .aload_n 1, 1, 0, 0, 0), (1121, .aload_n 0, 1, 0, 0, 0),
  (1122, .iload 4, 2, 0, 0, 0), (1124, .iconst 1, 1, 0, 0, 0), (1125, .iadd, 1, 0, 0, 0), (1126, .iaload, 1, 0, 0, 0),
  (1127, .aload_n 0, 1, 0, 0, 0), (1128, .iload 4, 2, 0, 0, 0), (1130, .iconst 2, 1, 0, 0, 0), (1131, .iadd, 1, 0, 0, 0),
  (1132, .iaload, 1, 0, 0, 0), (1133, .invokevirtual 130, 3, 58, 2, 11), (1136, .aload_n 2, 1, 0, 0, 0), (1137, .aload_n 0, 1, 0, 0, 0),
  (1138, .iload 4, 2, 0, 0, 0), (1140, .iconst 1, 1, 0, 0, 0), (1141, .iadd, 1, 0, 0, 0), (1142, .iaload, 1, 0, 0, 0),
  (1143, .aload_n 0, 1, 0, 0, 0), (1144, .iload 4, 2, 0, 0, 0), (1146, .iconst 2, 1, 0, 0, 0), (1147, .iadd, 1, 0, 0, 0),
  (1148, .iaload, 1, 0, 0, 0), (1149, .invokevirtual 133, 3, 109, 2, 12), (1152, .if_icmp .eq 364, 3, 0, 0, 0), (1157, .aload_n 1, 1, 0, 0, 0)]
def op_L_law_11 : List av_Q := [
  (1158, .aload_n 0, 1, 0, 0, 0), (1159, .iload 4, 2, 0, 0, 0), (1161, .iconst 1, 1, 0, 0, 0), (1162, .iadd, 1, 0, 0, 0),
  (1163, .iaload, 1, 0, 0, 0), (1164, .aload_n 0, 1, 0, 0, 0), (1165, .iload 4, 2, 0, 0, 0), (1167, .iconst 2, 1, 0, 0, 0),
  (1168, .iadd, 1, 0, 0, 0), (1169, .iaload, 1, 0, 0, 0), (1170, .invokevirtual 134, 3, 59, 2, 11), (1173, .aload_n 2, 1, 0, 0, 0),
  (1174, .aload_n 0, 1, 0, 0, 0), (1175, .iload 4, 2, 0, 0, 0), (1177, .iconst 1, 1, 0, 0, 0), (1178, .iadd, 1, 0, 0, 0),
  (1179, .iaload, 1, 0, 0, 0), (1180, .aload_n 0, 1, 0, 0, 0), (1181, .iload 4, 2, 0, 0, 0), (1183, .iconst 2, 1, 0, 0, 0),
  (1184, .iadd, 1, 0, 0, 0), (1185, .iaload, 1, 0, 0, 0), (1186, .invokevirtual 137, 3, 110, 2, 12), (1189, .if_icmp .eq 327, 3, 0, 0, 0),
  (1194, .aload_n 1, 1, 0, 0, 0), (1195, .aload_n 0, 1, 0, 0, 0), (1196, .iload 4, 2, 0, 0, 0), (1198, .iconst 1, 1, 0, 0, 0),
  (1199, .iadd, 1, 0, 0, 0), (1200, .iaload, 1, 0, 0, 0), (1201, .invokevirtual 138, 3, 60, 1, 11), (1204, .aload_n 2, 1, 0, 0, 0),
  (1205, .aload_n 0, 1, 0, 0, 0), (1206, .iload 4, 2, 0, 0, 0), (1208, .iconst 1, 1, 0, 0, 0), (1209, .iadd, 1, 0, 0, 0),
  (1210, .iaload, 1, 0, 0, 0), (1211, .invokevirtual 141, 3, 111, 1, 12), (1214, .if_icmp .eq 302, 3, 0, 0, 0), (1219, .aload_n 1, 1, 0, 0, 0),
  (1220, .aload_n 0, 1, 0, 0, 0), (1221, .iload 4, 2, 0, 0, 0), (1223, .iconst 1, 1, 0, 0, 0), (1224, .iadd, 1, 0, 0, 0),
  (1225, .iaload, 1, 0, 0, 0), (1226, .invokevirtual 142, 3, 61, 1, 11), (1229, .aload_n 2, 1, 0, 0, 0), (1230, .aload_n 0, 1, 0, 0, 0),
  (1231, .iload 4, 2, 0, 0, 0), (1233, .iconst 1, 1, 0, 0, 0), (1234, .iadd, 1, 0, 0, 0), (1235, .iaload, 1, 0, 0, 0),
  (1236, .invokevirtual 145, 3, 112, 1, 12), (1239, .if_icmp .eq 277, 3, 0, 0, 0), (1244, .aload_n 1, 1, 0, 0, 0), (1245, .aload_n 0, 1, 0, 0, 0),
  (1246, .iload 4, 2, 0, 0, 0), (1248, .iconst 1, 1, 0, 0, 0), (1249, .iadd, 1, 0, 0, 0), (1250, .iaload, 1, 0, 0, 0)]
def op_L_law_12 : List av_Q := [
  (1251, .aload_n 0, 1, 0, 0, 0), (1252, .iload 4, 2, 0, 0, 0), (1254, .iconst 2, 1, 0, 0, 0), (1255, .iadd, 1, 0, 0, 0),
  (1256, .iaload, 1, 0, 0, 0), (1257, .invokevirtual 146, 3, 62, 2, 11), (1260, .aload_n 2, 1, 0, 0, 0), (1261, .aload_n 0, 1, 0, 0, 0),
  (1262, .iload 4, 2, 0, 0, 0), (1264, .iconst 1, 1, 0, 0, 0), (1265, .iadd, 1, 0, 0, 0), (1266, .iaload, 1, 0, 0, 0),
  (1267, .aload_n 0, 1, 0, 0, 0), (1268, .iload 4, 2, 0, 0, 0), (1270, .iconst 2, 1, 0, 0, 0), (1271, .iadd, 1, 0, 0, 0),
  (1272, .iaload, 1, 0, 0, 0), (1273, .invokevirtual 149, 3, 113, 2, 12), (1276, .if_icmp .eq 240, 3, 0, 0, 0), (1281, .aload_n 1, 1, 0, 0, 0),
  (1282, .aload_n 0, 1, 0, 0, 0), (1283, .iload 4, 2, 0, 0, 0), (1285, .iconst 1, 1, 0, 0, 0), (1286, .iadd, 1, 0, 0, 0),
  (1287, .iaload, 1, 0, 0, 0), (1288, .invokevirtual 150, 3, 63, 1, 11), (1291, .aload_n 2, 1, 0, 0, 0), (1292, .aload_n 0, 1, 0, 0, 0),
  (1293, .iload 4, 2, 0, 0, 0), (1295, .iconst 1, 1, 0, 0, 0), (1296, .iadd, 1, 0, 0, 0), (1297, .iaload, 1, 0, 0, 0),
  (1298, .invokevirtual 153, 3, 114, 1, 12), (1301, .if_icmp .eq 215, 3, 0, 0, 0), (1306, .aload_n 1, 1, 0, 0, 0), (1307, .aload_n 0, 1, 0, 0, 0),
  (1308, .iload 4, 2, 0, 0, 0), (1310, .iconst 1, 1, 0, 0, 0), (1311, .iadd, 1, 0, 0, 0), (1312, .iaload, 1, 0, 0, 0),
  (1313, .aload_n 0, 1, 0, 0, 0), (1314, .iload 4, 2, 0, 0, 0), (1316, .iconst 2, 1, 0, 0, 0), (1317, .iadd, 1, 0, 0, 0),
  (1318, .iaload, 1, 0, 0, 0), (1319, .aload_n 0, 1, 0, 0, 0), (1320, .iload 4, 2, 0, 0, 0), (1322, .iconst 3, 1, 0, 0, 0),
  (1323, .iadd, 1, 0, 0, 0), (1324, .iaload, 1, 0, 0, 0), (1325, .invokevirtual 154, 3, 64, 3, 11), (1328, .aload_n 2, 1, 0, 0, 0),
  (1329, .aload_n 0, 1, 0, 0, 0), (1330, .iload 4, 2, 0, 0, 0), (1332, .iconst 1, 1, 0, 0, 0), (1333, .iadd, 1, 0, 0, 0),
  (1334, .iaload, 1, 0, 0, 0), (1335, .aload_n 0, 1, 0, 0, 0), (1336, .iload 4, 2, 0, 0, 0), (1338, .iconst 2, 1, 0, 0, 0)]
def op_L_law_13 : List av_Q := [
  (1339, .iadd, 1, 0, 0, 0), (1340, .iaload, 1, 0, 0, 0), (1341, .aload_n 0, 1, 0, 0, 0), (1342, .iload 4, 2, 0, 0, 0),
  (1344, .iconst 3, 1, 0, 0, 0), (1345, .iadd, 1, 0, 0, 0), (1346, .iaload, 1, 0, 0, 0), (1347, .invokevirtual 157, 3, 115, 3, 12),
  (1350, .if_icmp .eq 166, 3, 0, 0, 0), (1355, .aload_n 1, 1, 0, 0, 0), (1356, .aload_n 0, 1, 0, 0, 0), (1357, .iload 4, 2, 0, 0, 0),
  (1359, .iconst 1, 1, 0, 0, 0), (1360, .iadd, 1, 0, 0, 0), (1361, .iaload, 1, 0, 0, 0), (1362, .aload_n 0, 1, 0, 0, 0),
  (1363, .iload 4, 2, 0, 0, 0), (1365, .iconst 2, 1, 0, 0, 0), (1366, .iadd, 1, 0, 0, 0), (1367, .iaload, 1, 0, 0, 0),
  (1368, .invokevirtual 158, 3, 65, 2, 11), (1371, .aload_n 2, 1, 0, 0, 0), (1372, .aload_n 0, 1, 0, 0, 0), (1373, .iload 4, 2, 0, 0, 0),
  (1375, .iconst 1, 1, 0, 0, 0), (1376, .iadd, 1, 0, 0, 0), (1377, .iaload, 1, 0, 0, 0), (1378, .aload_n 0, 1, 0, 0, 0),
  (1379, .iload 4, 2, 0, 0, 0), (1381, .iconst 2, 1, 0, 0, 0), (1382, .iadd, 1, 0, 0, 0), (1383, .iaload, 1, 0, 0, 0),
  (1384, .invokevirtual 161, 3, 116, 2, 12), (1387, .if_icmp .eq 129, 3, 0, 0, 0), (1392, .aload_n 1, 1, 0, 0, 0), (1393, .aload_n 0, 1, 0, 0, 0),
  (1394, .iload 4, 2, 0, 0, 0), (1396, .iconst 1, 1, 0, 0, 0), (1397, .iadd, 1, 0, 0, 0), (1398, .iaload, 1, 0, 0, 0),
  (1399, .aload_n 0, 1, 0, 0, 0), (1400, .iload 4, 2, 0, 0, 0), (1402, .iconst 2, 1, 0, 0, 0), (1403, .iadd, 1, 0, 0, 0),
  (1404, .iaload, 1, 0, 0, 0), (1405, .aload_n 0, 1, 0, 0, 0), (1406, .iload 4, 2, 0, 0, 0), (1408, .iconst 3, 1, 0, 0, 0),
  (1409, .iadd, 1, 0, 0, 0), (1410, .iaload, 1, 0, 0, 0), (1411, .aload_n 0, 1, 0, 0, 0), (1412, .iload 4, 2, 0, 0, 0),
  (1414, .iconst 4, 1, 0, 0, 0), (1415, .iadd, 1, 0, 0, 0), (1416, .iaload, 1, 0, 0, 0), (1417, .aload_n 0, 1, 0, 0, 0),
  (1418, .iload 4, 2, 0, 0, 0), (1420, .iconst 5, 1, 0, 0, 0), (1421, .iadd, 1, 0, 0, 0), (1422, .iaload, 1, 0, 0, 0)]
def op_L_law_14 : List av_Q := [
  (1423, .invokevirtual 162, 3, 66, 5, 11), (1426, .aload_n 2, 1, 0, 0, 0), (1427, .aload_n 0, 1, 0, 0, 0), (1428, .iload 4, 2, 0, 0, 0),
  (1430, .iconst 1, 1, 0, 0, 0), (1431, .iadd, 1, 0, 0, 0), (1432, .iaload, 1, 0, 0, 0), (1433, .aload_n 0, 1, 0, 0, 0),
  (1434, .iload 4, 2, 0, 0, 0), (1436, .iconst 2, 1, 0, 0, 0), (1437, .iadd, 1, 0, 0, 0), (1438, .iaload, 1, 0, 0, 0),
  (1439, .aload_n 0, 1, 0, 0, 0), (1440, .iload 4, 2, 0, 0, 0), (1442, .iconst 3, 1, 0, 0, 0), (1443, .iadd, 1, 0, 0, 0),
  (1444, .iaload, 1, 0, 0, 0), (1445, .aload_n 0, 1, 0, 0, 0), (1446, .iload 4, 2, 0, 0, 0), (1448, .iconst 4, 1, 0, 0, 0),
  (1449, .iadd, 1, 0, 0, 0), (1450, .iaload, 1, 0, 0, 0), (1451, .aload_n 0, 1, 0, 0, 0), (1452, .iload 4, 2, 0, 0, 0),
  (1454, .iconst 5, 1, 0, 0, 0), (1455, .iadd, 1, 0, 0, 0), (1456, .iaload, 1, 0, 0, 0), (1457, .invokevirtual 165, 3, 117, 5, 12),
  (1460, .if_icmp .eq 56, 3, 0, 0, 0), (1465, .aload_n 1, 1, 0, 0, 0), (1466, .invokevirtual 166, 3, 67, 0, 11), (1469, .aload_n 2, 1, 0, 0, 0),
  (1470, .invokevirtual 169, 3, 118, 0, 12), (1473, .if_icmp .eq 43, 3, 0, 0, 0), (1478, .aload_n 1, 1, 0, 0, 0), (1479, .invokevirtual 170, 3, 68, 0, 11),
  (1482, .aload_n 2, 1, 0, 0, 0), (1483, .invokevirtual 173, 3, 119, 0, 12), (1486, .if_icmp .eq 30, 3, 0, 0, 0), (1491, .aload_n 1, 1, 0, 0, 0),
  (1492, .aload_n 0, 1, 0, 0, 0), (1493, .iload 4, 2, 0, 0, 0), (1495, .iconst 1, 1, 0, 0, 0), (1496, .iadd, 1, 0, 0, 0),
  (1497, .iaload, 1, 0, 0, 0), (1498, .invokevirtual 174, 3, 69, 1, 11), (1501, .aload_n 2, 1, 0, 0, 0), (1502, .aload_n 0, 1, 0, 0, 0),
  (1503, .iload 4, 2, 0, 0, 0), (1505, .iconst 1, 1, 0, 0, 0), (1506, .iadd, 1, 0, 0, 0), (1507, .iaload, 1, 0, 0, 0),
  (1508, .invokevirtual 177, 3, 120, 1, 12), (1511, .if_icmp .eq 5, 3, 0, 0, 0), (1516, .iinc 4 6, 3, 0, 0, 0), (1519, .goto (-1496), 3, 0, 0, 0),
  (1522, .iconst 1, 1, 0, 0, 0), (1523, .ireturn, 1, 0, 0, 0)]
def op_L_law : List av_Q := op_L_law_0 ++ (op_L_law_1 ++ (op_L_law_2 ++ (op_L_law_3 ++ (op_L_law_4 ++ (op_L_law_5 ++ (op_L_law_6 ++ (op_L_law_7 ++ (op_L_law_8 ++ (op_L_law_9 ++ (op_L_law_10 ++ (op_L_law_11 ++ (op_L_law_12 ++ (op_L_law_13 ++ (op_L_law_14))))))))))))))
def mt_X0_init : av_M := ((RX0, yX0_init, cX0_init, 3, none), op_X0_init, 1, 73, 1, 22)
def mt_X1_init : av_M := ((RX1, yX1_init, cX1_init, 2, none), op_X1_init, 0, 0, 1, 22)
def mt_X1_begin : av_M := ((RX1, yX1_begin, cX1_begin, 3, none), op_X1_begin, 0, 0, 2, 46)
def mt_X1_setCauses : av_M := ((RX1, yX1_setCauses, cX1_setCauses, 3, none), op_X1_setCauses, 0, 0, 1, 24)
def mt_X1_copy : av_M := ((RX1, yX1_copy, cX1_copy, 2, none), op_X1_copy, 0, 0, 0, 0)
def mt_X2_init : av_M := ((RX2, yX2_init, cX2_init, 1, none), op_X2_init, 3, 77, 1, 22)
def mt_X2_forget : av_M := ((RX2, yX2_forget, cX2_forget, 2, none), op_X2_forget, 0, 0, 0, 0)
def mt_X3_init : av_M := ((RX3, yX3_init, cX3_init, 1, none), op_X3_init, 8, 320, 1, 22)
def mt_X3_clear : av_M := ((RX3, yX3_clear, cX3_clear, 1, none), op_X3_clear, 0, 0, 0, 0)
def mt_X3_knownCount : av_M := ((RX3, yX3_knownCount, cX3_knownCount, 1, (some .int)), op_X3_knownCount, 0, 0, 0, 0)
def mt_X4_init : av_M := ((RX4, yX4_init, cX4_init, 2, none), op_X4_init, 23, 248, 3, 63)
def mt_X4_clear : av_M := ((RX4, yX4_clear, cX4_clear, 2, none), op_X4_clear, 0, 0, 2, 42)
def mt_X4_isWork : av_M := ((RX4, yX4_isWork, cX4_isWork, 2, (some .boolean)), op_X4_isWork, 0, 0, 0, 0)
def mt_X4_firmIn : av_M := ((RX4, yX4_firmIn, cX4_firmIn, 2, (some .int)), op_X4_firmIn, 0, 0, 0, 0)
def mt_X4_moreBy : av_M := ((RX4, yX4_moreBy, cX4_moreBy, 5, (some .int)), op_X4_moreBy, 0, 0, 0, 0)
def mt_X5_init : av_M := ((RX5, yX5_init, cX5_init, 3, none), op_X5_init, 4, 122, 5, 110)
def mt_X5_readText : av_M := ((RX5, yX5_readText, cX5_readText, 4, (some .int)), op_X5_readText, 0, 0, 3, 63)
def mt_X6_init : av_M := ((RX6, yX6_init, cX6_init, 6, none), op_X6_init, 1, 34, 4, 85)
def mt_X6_letterBits : av_M := ((RX6, yX6_letterBits, cX6_letterBits, 2, (some .int)), op_X6_letterBits, 0, 0, 0, 0)
def mt_X6_begin : av_M := ((RX6, yX6_begin, cX6_begin, 2, none), op_X6_begin, 0, 0, 1, 21)
def mt_X6_step : av_M := ((RX6, yX6_step, cX6_step, 1, none), op_X6_step, 0, 0, 0, 0)
def mt_X7_init : av_M := ((RX7, yX7_init, cX7_init, 1, none), op_X7_init, 1, 9, 2, 42)
def mt_X7_clear : av_M := ((RX7, yX7_clear, cX7_clear, 2, none), op_X7_clear, 0, 0, 1, 21)
def mt_X7_setHeight : av_M := ((RX7, yX7_setHeight, cX7_setHeight, 2, none), op_X7_setHeight, 0, 0, 0, 0)
def mt_X8_init : av_M := ((RX8, yX8_init, cX8_init, 2, none), op_X8_init, 2, 45, 2, 43)
def mt_X9_init : av_M := ((RX9, yX9_init, cX9_init, 1, none), op_X9_init, 3, 24, 1, 22)
def mt_X10_init : av_M := ((RX10, yX10_init, cX10_init, 3, none), op_X10_init, 22, 380, 2, 43)
def mt_X10_clear : av_M := ((RX10, yX10_clear, cX10_clear, 1, none), op_X10_clear, 0, 0, 0, 0)
def mt_X11_init : av_M := ((RX11, yX11_init, cX11_init, 2, none), op_X11_init, 110, 2623, 6, 132)
def mt_X11_feed : av_M := ((RX11, yX11_feed, cX11_feed, 6, (some .int)), op_X11_feed, 0, 0, 1, 22)
def mt_X11_putOnTape : av_M := ((RX11, yX11_putOnTape, cX11_putOnTape, 3, none), op_X11_putOnTape, 0, 0, 0, 0)
def mt_X11_text : av_M := ((RX11, yX11_text, cX11_text, 3, (some .int)), op_X11_text, 0, 0, 4, 90)
def mt_X11_takeSpare : av_M := ((RX11, yX11_takeSpare, cX11_takeSpare, 3, none), op_X11_takeSpare, 0, 0, 3, 68)
def mt_X11_fault : av_M := ((RX11, yX11_fault, cX11_fault, 2, (some .int)), op_X11_fault, 0, 0, 0, 0)
def mt_X11_named : av_M := ((RX11, yX11_named, cX11_named, 3, (some .int)), op_X11_named, 0, 0, 1, 23)
def mt_X11_placeOf : av_M := ((RX11, yX11_placeOf, cX11_placeOf, 4, (some .int)), op_X11_placeOf, 0, 0, 0, 0)
def mt_X11_isGate : av_M := ((RX11, yX11_isGate, cX11_isGate, 2, (some .boolean)), op_X11_isGate, 0, 0, 0, 0)
def mt_X11_isAhead : av_M := ((RX11, yX11_isAhead, cX11_isAhead, 1, (some .boolean)), op_X11_isAhead, 0, 0, 0, 0)
def mt_X11_isWeek : av_M := ((RX11, yX11_isWeek, cX11_isWeek, 1, (some .boolean)), op_X11_isWeek, 0, 0, 0, 0)
def mt_X11_works : av_M := ((RX11, yX11_works, cX11_works, 3, (some .int)), op_X11_works, 0, 0, 1, 21)
def mt_X11_firm : av_M := ((RX11, yX11_firm, cX11_firm, 2, (some .int)), op_X11_firm, 0, 0, 1, 21)
def mt_X11_weeks : av_M := ((RX11, yX11_weeks, cX11_weeks, 3, (some .int)), op_X11_weeks, 0, 0, 1, 20)
def mt_X11_sags : av_M := ((RX11, yX11_sags, cX11_sags, 4, (some .int)), op_X11_sags, 0, 0, 1, 21)
def mt_X11_latched : av_M := ((RX11, yX11_latched, cX11_latched, 2, (some .int)), op_X11_latched, 0, 0, 1, 21)
def mt_X11_gives : av_M := ((RX11, yX11_gives, cX11_gives, 4, (some .int)), op_X11_gives, 0, 0, 1, 21)
def mt_X11_work : av_M := ((RX11, yX11_work, cX11_work, 4, (some .boolean)), op_X11_work, 0, 0, 1, 21)
def mt_X11_undo : av_M := ((RX11, yX11_undo, cX11_undo, 2, (some .int)), op_X11_undo, 0, 0, 0, 0)
def mt_X11_lasts : av_M := ((RX11, yX11_lasts, cX11_lasts, 4, (some .int)), op_X11_lasts, 0, 0, 1, 21)
def mt_X11_least : av_M := ((RX11, yX11_least, cX11_least, 10, (some .int)), op_X11_least, 0, 0, 1, 21)
def mt_X11_way : av_M := ((RX11, yX11_way, cX11_way, 3, (some .int)), op_X11_way, 0, 0, 1, 21)
def mt_X11_enough : av_M := ((RX11, yX11_enough, cX11_enough, 6, (some .int)), op_X11_enough, 0, 0, 1, 21)
def mt_X11_bears : av_M := ((RX11, yX11_bears, cX11_bears, 9, (some .int)), op_X11_bears, 0, 0, 1, 21)
def mt_X11_knock : av_M := ((RX11, yX11_knock, cX11_knock, 5, (some .long)), op_X11_knock, 0, 0, 1, 21)
def mt_X11_measure : av_M := ((RX11, yX11_measure, cX11_measure, 7, (some .int)), op_X11_measure, 0, 0, 1, 21)
def mt_X11_strike : av_M := ((RX11, yX11_strike, cX11_strike, 2, (some .int)), op_X11_strike, 0, 0, 0, 0)
def mt_X11_known : av_M := ((RX11, yX11_known, cX11_known, 2, (some .boolean)), op_X11_known, 0, 0, 0, 0)
def mt_X11_fits : av_M := ((RX11, yX11_fits, cX11_fits, 2, (some .int)), op_X11_fits, 0, 0, 1, 21)
def mt_X11_odds : av_M := ((RX11, yX11_odds, cX11_odds, 4, (some .int)), op_X11_odds, 0, 0, 1, 21)
def mt_X11_test : av_M := ((RX11, yX11_test, cX11_test, 5, (some .int)), op_X11_test, 0, 0, 1, 21)
def mt_X11_low : av_M := ((RX11, yX11_low, cX11_low, 3, (some .int)), op_X11_low, 0, 0, 1, 21)
def mt_X11_rest : av_M := ((RX11, yX11_rest, cX11_rest, 4, (some .int)), op_X11_rest, 0, 0, 1, 21)
def mt_X11_shuts : av_M := ((RX11, yX11_shuts, cX11_shuts, 4, (some .int)), op_X11_shuts, 0, 0, 1, 21)
def mt_X11_above : av_M := ((RX11, yX11_above, cX11_above, 3, (some .int)), op_X11_above, 0, 0, 1, 21)
def mt_X11_opens : av_M := ((RX11, yX11_opens, cX11_opens, 3, (some .int)), op_X11_opens, 0, 0, 1, 21)
def mt_X11_stand : av_M := ((RX11, yX11_stand, cX11_stand, 7, (some .int)), op_X11_stand, 0, 0, 1, 21)
def mt_X11_first : av_M := ((RX11, yX11_first, cX11_first, 5, (some .int)), op_X11_first, 0, 0, 0, 0)
def mt_X11_wind : av_M := ((RX11, yX11_wind, cX11_wind, 14, (some .int)), op_X11_wind, 0, 0, 1, 21)
def mt_X11_keep : av_M := ((RX11, yX11_keep, cX11_keep, 2, (some .int)), op_X11_keep, 0, 0, 1, 21)
def mt_X11_back : av_M := ((RX11, yX11_back, cX11_back, 2, (some .int)), op_X11_back, 0, 0, 0, 0)
def mt_X11_count : av_M := ((RX11, yX11_count, cX11_count, 2, (some .int)), op_X11_count, 0, 0, 1, 22)
def mt_X11_costOfAllDone : av_M := ((RX11, yX11_costOfAllDone, cX11_costOfAllDone, 3, (some .int)), op_X11_costOfAllDone, 0, 0, 0, 0)
def mt_X12_init : av_M := ((RX12, yX12_init, cX12_init, 1, none), op_X12_init, 37, 2903, 2, 45)
def mt_X12_thrown : av_M := ((RX12, yX12_thrown, cX12_thrown, 1, (some .int)), op_X12_thrown, 0, 0, 0, 0)
def mt_X12_feed : av_M := ((RX12, yX12_feed, cX12_feed, 8, (some .int)), op_X12_feed, 0, 0, 0, 0)
def mt_X12_isIn : av_M := ((RX12, yX12_isIn, cX12_isIn, 3, (some .boolean)), op_X12_isIn, 0, 0, 0, 0)
def mt_X12_token : av_M := ((RX12, yX12_token, cX12_token, 1, none), op_X12_token, 0, 0, 0, 0)
def mt_X12_plain : av_M := ((RX12, yX12_plain, cX12_plain, 2, none), op_X12_plain, 0, 0, 0, 0)
def mt_X12_copies : av_M := ((RX12, yX12_copies, cX12_copies, 3, none), op_X12_copies, 0, 0, 0, 0)
def mt_X12_keepText : av_M := ((RX12, yX12_keepText, cX12_keepText, 2, none), op_X12_keepText, 0, 0, 1, 24)
def mt_X12_find : av_M := ((RX12, yX12_find, cX12_find, 5, (some .int)), op_X12_find, 0, 0, 0, 0)
def mt_X12_text : av_M := ((RX12, yX12_text, cX12_text, 3, (some .int)), op_X12_text, 0, 0, 2, 45)
def mt_X12_fault : av_M := ((RX12, yX12_fault, cX12_fault, 2, (some .int)), op_X12_fault, 0, 0, 0, 0)
def mt_X12_named : av_M := ((RX12, yX12_named, cX12_named, 3, (some .int)), op_X12_named, 0, 0, 1, 24)
def mt_X12_lays : av_M := ((RX12, yX12_lays, cX12_lays, 5, none), op_X12_lays, 0, 0, 0, 0)
def mt_X12_begins : av_M := ((RX12, yX12_begins, cX12_begins, 3, none), op_X12_begins, 0, 0, 0, 0)
def mt_X12_firmOf : av_M := ((RX12, yX12_firmOf, cX12_firmOf, 2, (some .int)), op_X12_firmOf, 0, 0, 0, 0)
def mt_X12_isGate : av_M := ((RX12, yX12_isGate, cX12_isGate, 2, (some .boolean)), op_X12_isGate, 0, 0, 0, 0)
def mt_X12_fails : av_M := ((RX12, yX12_fails, cX12_fails, 2, (some .int)), op_X12_fails, 0, 0, 0, 0)
def mt_X12_look : av_M := ((RX12, yX12_look, cX12_look, 3, (some .int)), op_X12_look, 0, 0, 1, 21)
def mt_X12_works : av_M := ((RX12, yX12_works, cX12_works, 3, (some .int)), op_X12_works, 0, 0, 0, 0)
def mt_X12_firm : av_M := ((RX12, yX12_firm, cX12_firm, 2, (some .int)), op_X12_firm, 0, 0, 1, 22)
def mt_X12_weeks : av_M := ((RX12, yX12_weeks, cX12_weeks, 3, (some .int)), op_X12_weeks, 0, 0, 1, 22)
def mt_X12_sags : av_M := ((RX12, yX12_sags, cX12_sags, 3, (some .int)), op_X12_sags, 0, 0, 1, 21)
def mt_X12_latched : av_M := ((RX12, yX12_latched, cX12_latched, 2, (some .int)), op_X12_latched, 0, 0, 1, 21)
def mt_X12_gives : av_M := ((RX12, yX12_gives, cX12_gives, 4, (some .int)), op_X12_gives, 0, 0, 1, 21)
def mt_X12_work : av_M := ((RX12, yX12_work, cX12_work, 4, (some .boolean)), op_X12_work, 0, 0, 1, 21)
def mt_X12_undo : av_M := ((RX12, yX12_undo, cX12_undo, 1, (some .int)), op_X12_undo, 0, 0, 0, 0)
def mt_X12_lasts : av_M := ((RX12, yX12_lasts, cX12_lasts, 5, (some .int)), op_X12_lasts, 0, 0, 1, 21)
def mt_X12_least : av_M := ((RX12, yX12_least, cX12_least, 8, (some .int)), op_X12_least, 0, 0, 1, 21)
def mt_X12_way : av_M := ((RX12, yX12_way, cX12_way, 4, (some .int)), op_X12_way, 0, 0, 1, 21)
def mt_X12_enough : av_M := ((RX12, yX12_enough, cX12_enough, 5, (some .int)), op_X12_enough, 0, 0, 1, 21)
def mt_X12_bears : av_M := ((RX12, yX12_bears, cX12_bears, 5, (some .int)), op_X12_bears, 0, 0, 1, 21)
def mt_X12_knock : av_M := ((RX12, yX12_knock, cX12_knock, 5, (some .long)), op_X12_knock, 0, 0, 1, 21)
def mt_X12_measure : av_M := ((RX12, yX12_measure, cX12_measure, 6, (some .int)), op_X12_measure, 0, 0, 1, 21)
def mt_X12_strike : av_M := ((RX12, yX12_strike, cX12_strike, 2, (some .int)), op_X12_strike, 0, 0, 0, 0)
def mt_X12_known : av_M := ((RX12, yX12_known, cX12_known, 2, (some .boolean)), op_X12_known, 0, 0, 1, 22)
def mt_X12_knownMany : av_M := ((RX12, yX12_knownMany, cX12_knownMany, 1, (some .int)), op_X12_knownMany, 0, 0, 0, 0)
def mt_X12_fits : av_M := ((RX12, yX12_fits, cX12_fits, 2, (some .int)), op_X12_fits, 0, 0, 1, 21)
def mt_X12_odds : av_M := ((RX12, yX12_odds, cX12_odds, 7, (some .int)), op_X12_odds, 0, 0, 1, 21)
def mt_X12_test : av_M := ((RX12, yX12_test, cX12_test, 9, (some .int)), op_X12_test, 0, 0, 1, 21)
def mt_X12_low : av_M := ((RX12, yX12_low, cX12_low, 3, (some .int)), op_X12_low, 0, 0, 1, 21)
def mt_X12_rest : av_M := ((RX12, yX12_rest, cX12_rest, 4, (some .int)), op_X12_rest, 0, 0, 1, 21)
def mt_X12_shuts : av_M := ((RX12, yX12_shuts, cX12_shuts, 2, (some .int)), op_X12_shuts, 0, 0, 1, 21)
def mt_X12_above : av_M := ((RX12, yX12_above, cX12_above, 3, (some .int)), op_X12_above, 0, 0, 1, 21)
def mt_X12_opens : av_M := ((RX12, yX12_opens, cX12_opens, 2, (some .int)), op_X12_opens, 0, 0, 1, 21)
def mt_X12_stand : av_M := ((RX12, yX12_stand, cX12_stand, 12, (some .int)), op_X12_stand, 0, 0, 1, 21)
def mt_X12_first : av_M := ((RX12, yX12_first, cX12_first, 7, (some .int)), op_X12_first, 0, 0, 0, 0)
def mt_X12_wind : av_M := ((RX12, yX12_wind, cX12_wind, 12, (some .int)), op_X12_wind, 0, 0, 1, 21)
def mt_X12_keep : av_M := ((RX12, yX12_keep, cX12_keep, 2, (some .int)), op_X12_keep, 0, 0, 1, 24)
def mt_X12_back : av_M := ((RX12, yX12_back, cX12_back, 2, (some .int)), op_X12_back, 0, 0, 0, 0)
def mt_X12_count : av_M := ((RX12, yX12_count, cX12_count, 4, (some .int)), op_X12_count, 0, 0, 1, 20)
def mt_J0_length_8abf5 : av_M := ((RJ0, yJ0_length_8abf5, cJ0_length_8abf5, 1, (some .int)), op_J0_length_8abf5, 0, 0, 1, 20)
def mt_J0_charAt_5068e : av_M := ((RJ0, yJ0_charAt_5068e, cJ0_charAt_5068e, 2, (some .char)), op_J0_charAt_5068e, 0, 0, 3, 64)
def mt_J0_coder_7d493 : av_M := ((RJ0, yJ0_coder_7d493, cJ0_coder_7d493, 1, (some .byte)), op_J0_coder_7d493, 0, 0, 0, 0)
def mt_J0_isLatin1_aae02 : av_M := ((RJ0, yJ0_isLatin1_aae02, cJ0_isLatin1_aae02, 1, (some .boolean)), op_J0_isLatin1_aae02, 0, 0, 0, 0)
def mt_J0_checkIndex_df160 : av_M := ((RJ0, yJ0_checkIndex_df160, cJ0_checkIndex_df160, 2, none), op_J0_checkIndex_df160, 0, 0, 1, 22)
def mt_J1_charAt_3b067 : av_M := ((RJ1, yJ1_charAt_3b067, cJ1_charAt_3b067, 2, (some .char)), op_J1_charAt_3b067, 0, 0, 2, 43)
def mt_J3_checkIndex_8e157 : av_M := ((RJ3, yJ3_checkIndex_8e157, cJ3_checkIndex_8e157, 3, (some .int)), op_J3_checkIndex_8e157, 0, 0, 0, 0)
def mt_L_law : av_M := ((RL, yL_law, cL_law, 7, some .boolean), op_L_law, 600002, 7302232, 11, 408)
def mt_none : av_M := (("", ⟨"", "", ""⟩, ⟨#[]⟩, 0, none), [], 0, 0, 0, 0)
def mt_list : List av_M := [mt_X0_init, mt_X1_init, mt_X1_begin, mt_X1_setCauses, mt_X1_copy, mt_X2_init, mt_X2_forget, mt_X3_init, mt_X3_clear, mt_X3_knownCount, mt_X4_init, mt_X4_clear, mt_X4_isWork, mt_X4_firmIn, mt_X4_moreBy, mt_X5_init, mt_X5_readText, mt_X6_init, mt_X6_letterBits, mt_X6_begin, mt_X6_step, mt_X7_init, mt_X7_clear, mt_X7_setHeight, mt_X8_init, mt_X9_init, mt_X10_init, mt_X10_clear, mt_X11_init, mt_X11_feed, mt_X11_putOnTape, mt_X11_text, mt_X11_takeSpare, mt_X11_fault, mt_X11_named, mt_X11_placeOf, mt_X11_isGate, mt_X11_isAhead, mt_X11_isWeek, mt_X11_works, mt_X11_firm, mt_X11_weeks, mt_X11_sags, mt_X11_latched, mt_X11_gives, mt_X11_work, mt_X11_undo, mt_X11_lasts, mt_X11_least, mt_X11_way, mt_X11_enough, mt_X11_bears, mt_X11_knock, mt_X11_measure, mt_X11_strike, mt_X11_known, mt_X11_fits, mt_X11_odds, mt_X11_test, mt_X11_low, mt_X11_rest, mt_X11_shuts, mt_X11_above, mt_X11_opens, mt_X11_stand, mt_X11_first, mt_X11_wind, mt_X11_keep, mt_X11_back, mt_X11_count, mt_X11_costOfAllDone, mt_X12_init, mt_X12_thrown, mt_X12_feed, mt_X12_isIn, mt_X12_token, mt_X12_plain, mt_X12_copies, mt_X12_keepText, mt_X12_find, mt_X12_text, mt_X12_fault, mt_X12_named, mt_X12_lays, mt_X12_begins, mt_X12_firmOf, mt_X12_isGate, mt_X12_fails, mt_X12_look, mt_X12_works, mt_X12_firm, mt_X12_weeks, mt_X12_sags, mt_X12_latched, mt_X12_gives, mt_X12_work, mt_X12_undo, mt_X12_lasts, mt_X12_least, mt_X12_way, mt_X12_enough, mt_X12_bears, mt_X12_knock, mt_X12_measure, mt_X12_strike, mt_X12_known, mt_X12_knownMany, mt_X12_fits, mt_X12_odds, mt_X12_test, mt_X12_low, mt_X12_rest, mt_X12_shuts, mt_X12_above, mt_X12_opens, mt_X12_stand, mt_X12_first, mt_X12_wind, mt_X12_keep, mt_X12_back, mt_X12_count, mt_J0_length_8abf5, mt_J0_charAt_5068e, mt_J0_coder_7d493, mt_J0_isLatin1_aae02, mt_J0_checkIndex_df160, mt_J1_charAt_3b067, mt_J3_checkIndex_8e157, mt_L_law]
def mt_all (j : Nat) : av_M := mt_list.getD j mt_none
def fk_all : av_F := [[4, 4, 0, 0, 0, 2, 2, 4], [4, 0, 0, 0, 0, 0, 0, 0, 0, 0, 0, 0, 0, 0, 0, 0, 0], [4, 4, 4, 0, 2], [4, 4, 4, 4, 4, 4, 4, 4, 0, 0, 0], [4, 4, 0, 0, 4, 4, 4, 4, 4, 0, 4, 4, 4, 4, 0, 4, 4, 4, 4, 0], [4, 4, 4, 2, 0, 0], [4, 4, 0, 0, 0, 0, 0], [0, 0, 0, 0, 0, 0, 0, 0, 0, 0, 0, 0, 0, 0, 0, 0, 4], [4, 4, 0], [4, 4, 4, 0], [4, 4, 0], [4, 0, 4, 4, 4, 4, 4, 4, 0, 4, 0, 4, 4, 4, 4, 4], [4, 0, 0, 4, 0, 0, 0, 0, 0, 0, 0, 0, 0, 0, 0, 0, 0, 0, 0, 0, 2, 4, 4, 4, 4, 4, 4, 4, 4, 4, 4, 4, 4, 4, 4, 4, 4, 0, 0, 0, 0, 2, 2, 0, 4, 4, 4, 4, 2, 4, 0, 4, 0, 0, 4, 4, 4, 4, 4, 4, 4, 4, 4, 4, 4, 4, 2, 0, 4]]
def wd_bytes : List av_V := [av_i (103, 103), av_i (114, 114), av_i (111, 111), av_i (117, 117), av_i (110, 110), av_i (100, 100), av_i (32, 32), av_i (108, 108), av_i (97, 97), av_i (119, 119), av_i (32, 32), av_i (103, 103), av_i (97, 97), av_i (116, 116), av_i (101, 101), av_i (32, 32), av_i (119, 119), av_i (111, 111), av_i (114, 114), av_i (107, 107), av_i (32, 32), av_i (99, 99), av_i (97, 97), av_i (117, 117), av_i (115, 115), av_i (101, 101), av_i (32, 32), av_i (108, 108), av_i (101, 101), av_i (97, 97), av_i (110, 110), av_i (32, 32), av_i (111, 111), av_i (112, 112), av_i (101, 101), av_i (110, 110), av_i (32, 32), av_i (98, 98), av_i (101, 101), av_i (110, 110), av_i (100, 100), av_i (32, 32), av_i (107, 107), av_i (110, 110), av_i (111, 111), av_i (99, 99), av_i (107, 107), av_i (32, 32), av_i (104, 104), av_i (111, 111), av_i (111, 111), av_i (107, 107), av_i (115, 115), av_i (32, 32), av_i (112, 112), av_i (111, 111), av_i (115, 115), av_i (116, 116), av_i (32, 32), av_i (98, 98), av_i (114, 114), av_i (97, 97), av_i (99, 99), av_i (101, 101), av_i (32, 32), av_i (108, 108), av_i (97, 97), av_i (116, 116), av_i (99, 99), av_i (104, 104), av_i (32, 32), av_i (99, 99), av_i (104, 104), av_i (105, 105), av_i (108, 108), av_i (100, 100), av_i (32, 32), av_i (103, 103), av_i (97, 97), av_i (112, 112), av_i (32, 32), av_i (114, 114), av_i (105, 105), av_i (115, 115), av_i (101, 101), av_i (32, 32), av_i (104, 104), av_i (97, 97), av_i (115, 115), av_i (32, 32), av_i (117, 117), av_i (112, 112), av_i (32, 32), av_i (100, 100), av_i (111, 111), av_i (119, 119), av_i (110, 110), av_i (32, 32), av_i (115, 115), av_i (113, 113), av_i (117, 117), av_i (97, 97), av_i (114, 114), av_i (101, 101), av_i (32, 32), av_i (119, 119), av_i (105, 105), av_i (114, 114), av_i (101, 101), av_i (32, 32), av_i (119, 119), av_i (104, 104), av_i (101, 101), av_i (101, 101), av_i (108, 108), av_i (32, 32), av_i (115, 115), av_i (116, 116), av_i (111, 111), av_i (110, 110), av_i (101, 101), av_i (115, 115), av_i (32, 32), av_i (114, 114), av_i (101, 101), av_i (104, 104), av_i (97, 97), av_i (110, 110), av_i (103, 103), av_i (32, 32), av_i (112, 112), av_i (117, 117), av_i (108, 108), av_i (108, 108), av_i (32, 32), av_i (102, 102), av_i (105, 105), av_i (114, 114), av_i (109, 109), av_i (32, 32), av_i (100, 100), av_i (101, 101), av_i (101, 101), av_i (112, 112), av_i (32, 32), av_i (116, 116), av_i (104, 104), av_i (105, 105), av_i (99, 99), av_i (107, 107), av_i (32, 32), av_i (100, 100), av_i (114, 114), av_i (111, 111), av_i (112, 112), av_i (32, 32), av_i (119, 119), av_i (101, 101), av_i (101, 101), av_i (107, 107), av_i (32, 32), av_i (102, 102), av_i (97, 97), av_i (108, 108), av_i (108, 108), av_i (32, 32), av_i (97, 97), av_i (110, 110), av_i (100, 100), av_i (32, 32), av_i (111, 111), av_i (114, 114), av_i (32, 32), av_i (110, 110), av_i (111, 111), av_i (116, 116), av_i (32, 32)]
