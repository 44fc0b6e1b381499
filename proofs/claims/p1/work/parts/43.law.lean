/-! THE LAW: its instructions from the loop on (laid by wip/gen/law.py) -/
def pg_cL0 : List (Nat × ev_I) := [(20, .iconst 0, 1, 0, 0, 0, []),
  (21, .istore 4, 2, 4, 0, 0, []),
  (23, .iload 4, 2, 4, 0, 0, []),
  (25, .aload_n 0, 1, 0, 0, 0, []),
  (26, .arraylength, 1, 0, 0, 0, []),
  (27, .iconst 5, 1, 0, 0, 5, []),
  (28, .isub, 1, 0, 0, 0, []),
  (29, .if_icmp .gt 872, 3, 901, 0, 0, []),
  (32, .aload_n 0, 1, 0, 0, 0, []),
  (33, .iload 4, 2, 4, 0, 0, []),
  (35, .iaload, 1, 0, 0, 0, []),
  (36, .bipush 31, 2, 0, 0, 31, []),
  (38, .iand, 1, 0, 0, 0, []),
  (39, .tableswitch 856 0 16 #[81, 180, 240, 304, 360, 440, 496, 509, 557, 570, 583, 596, 621, 658, 683, 763, 831], 81, 895, 0, 0, [(0, 120), (1, 219), (2, 279), (3, 343), (4, 399), (5, 479), (6, 535), (7, 548), (8, 596), (9, 609), (10, 622), (11, 635), (12, 660), (13, 697), (14, 722), (15, 802), (16, 870)]),
  (120, .aload_n 1, 1, 1, 0, 0, []),
  (121, .aload_n 0, 1, 0, 0, 0, []),
  (122, .iload 4, 2, 4, 0, 0, []),
  (124, .iconst 1, 1, 0, 0, 1, []),
  (125, .iadd, 1, 0, 0, 0, []),
  (126, .iaload, 1, 0, 0, 0, []),
  (127, .aload_n 0, 1, 0, 0, 0, []),
  (128, .iload 4, 2, 4, 0, 0, []),
  (130, .iconst 2, 1, 0, 0, 2, []),
  (131, .iadd, 1, 0, 0, 0, []),
  (132, .iaload, 1, 0, 0, 0, [])]
theorem pg_kL0 : pg_cL0.all (fun z => ev_ok pg_hs pg_cl pg_mt "TicketTagLaw" "TicketTag" code 7 10 394 z.1 z.2) = true := by decide +kernel
def pg_cL1 : List (Nat × ev_I) := [(133, .aload_n 0, 1, 0, 0, 0, []),
  (134, .iload 4, 2, 4, 0, 0, []),
  (136, .iconst 3, 1, 0, 0, 3, []),
  (137, .iadd, 1, 0, 0, 0, []),
  (138, .iaload, 1, 0, 0, 0, []),
  (139, .aload_n 0, 1, 0, 0, 0, []),
  (140, .iload 4, 2, 4, 0, 0, []),
  (142, .iconst 4, 1, 0, 0, 4, []),
  (143, .iadd, 1, 0, 0, 0, []),
  (144, .iaload, 1, 0, 0, 0, []),
  (145, .aload_n 3, 1, 3, 0, 0, []),
  (146, .invokestatic 53, 3, 138, 6, 0, []),
  (149, .istore 5, 2, 5, 0, 0, []),
  (151, .aload_n 2, 1, 2, 0, 0, []),
  (152, .aload_n 0, 1, 0, 0, 0, []),
  (153, .iload 4, 2, 4, 0, 0, []),
  (155, .iconst 1, 1, 0, 0, 1, []),
  (156, .iadd, 1, 0, 0, 0, []),
  (157, .iaload, 1, 0, 0, 0, []),
  (158, .aload_n 0, 1, 0, 0, 0, []),
  (159, .iload 4, 2, 4, 0, 0, []),
  (161, .iconst 2, 1, 0, 0, 2, []),
  (162, .iadd, 1, 0, 0, 0, []),
  (163, .iaload, 1, 0, 0, 0, []),
  (164, .aload_n 0, 1, 0, 0, 0, [])]
theorem pg_kL1 : pg_cL1.all (fun z => ev_ok pg_hs pg_cl pg_mt "TicketTagLaw" "TicketTag" code 7 10 394 z.1 z.2) = true := by decide +kernel
def pg_cL2 : List (Nat × ev_I) := [(165, .iload 4, 2, 4, 0, 0, []),
  (167, .iconst 3, 1, 0, 0, 3, []),
  (168, .iadd, 1, 0, 0, 0, []),
  (169, .iaload, 1, 0, 0, 0, []),
  (170, .aload_n 0, 1, 0, 0, 0, []),
  (171, .iload 4, 2, 4, 0, 0, []),
  (173, .iconst 4, 1, 0, 0, 4, []),
  (174, .iadd, 1, 0, 0, 0, []),
  (175, .iaload, 1, 0, 0, 0, []),
  (176, .invokevirtual 58, 3, 111, 5, 0, [(0, 2)]),
  (179, .istore 6, 2, 6, 0, 0, []),
  (181, .aload_n 2, 1, 2, 0, 0, []),
  (182, .invokevirtual 59, 3, 31, 1, 0, [(0, 2)]),
  (185, .iload 5, 2, 5, 0, 0, []),
  (187, .if_icmp .eq 5, 3, 192, 0, 0, []),
  (190, .iconst 0, 1, 0, 0, 0, []),
  (192, .iload 5, 2, 5, 0, 0, []),
  (194, .ifCond .ne 22, 3, 216, 0, 0, []),
  (197, .aload_n 3, 1, 3, 0, 0, []),
  (198, .iconst 0, 1, 0, 0, 0, []),
  (199, .laload, 1, 0, 0, 0, []),
  (200, .iload 6, 2, 6, 0, 0, []),
  (202, .ifCond .eq 7, 3, 209, 0, 0, []),
  (205, .lconst 1, 1, 0, 0, 0, []),
  (206, .goto 4, 3, 210, 0, 0, [])]
theorem pg_kL2 : pg_cL2.all (fun z => ev_ok pg_hs pg_cl pg_mt "TicketTagLaw" "TicketTag" code 7 10 394 z.1 z.2) = true := by decide +kernel
def pg_cL3 : List (Nat × ev_I) := [(209, .lconst 0, 1, 0, 0, 0, []),
  (210, .lcmp, 1, 0, 0, 0, []),
  (211, .ifCond .eq 5, 3, 216, 0, 0, []),
  (214, .iconst 0, 1, 0, 0, 0, []),
  (216, .goto 679, 3, 895, 0, 0, []),
  (219, .aload_n 1, 1, 1, 0, 0, []),
  (220, .aload_n 0, 1, 0, 0, 0, []),
  (221, .iload 4, 2, 4, 0, 0, []),
  (223, .iconst 1, 1, 0, 0, 1, []),
  (224, .iadd, 1, 0, 0, 0, []),
  (225, .iaload, 1, 0, 0, 0, []),
  (226, .aload_n 0, 1, 0, 0, 0, []),
  (227, .iload 4, 2, 4, 0, 0, []),
  (229, .iconst 2, 1, 0, 0, 2, []),
  (230, .iadd, 1, 0, 0, 0, []),
  (231, .iaload, 1, 0, 0, 0, []),
  (232, .aload_n 0, 1, 0, 0, 0, []),
  (233, .iload 4, 2, 4, 0, 0, []),
  (235, .iconst 3, 1, 0, 0, 3, []),
  (236, .iadd, 1, 0, 0, 0, []),
  (237, .iaload, 1, 0, 0, 0, []),
  (238, .invokestatic 63, 3, 140, 4, 0, []),
  (241, .istore 5, 2, 5, 0, 0, []),
  (243, .aload_n 2, 1, 2, 0, 0, []),
  (244, .aload_n 0, 1, 0, 0, 0, [])]
theorem pg_kL3 : pg_cL3.all (fun z => ev_ok pg_hs pg_cl pg_mt "TicketTagLaw" "TicketTag" code 7 10 394 z.1 z.2) = true := by decide +kernel
def pg_cL4 : List (Nat × ev_I) := [(245, .iload 4, 2, 4, 0, 0, []),
  (247, .iconst 1, 1, 0, 0, 1, []),
  (248, .iadd, 1, 0, 0, 0, []),
  (249, .iaload, 1, 0, 0, 0, []),
  (250, .aload_n 0, 1, 0, 0, 0, []),
  (251, .iload 4, 2, 4, 0, 0, []),
  (253, .iconst 2, 1, 0, 0, 2, []),
  (254, .iadd, 1, 0, 0, 0, []),
  (255, .iaload, 1, 0, 0, 0, []),
  (256, .aload_n 0, 1, 0, 0, 0, []),
  (257, .iload 4, 2, 4, 0, 0, []),
  (259, .iconst 3, 1, 0, 0, 3, []),
  (260, .iadd, 1, 0, 0, 0, []),
  (261, .iaload, 1, 0, 0, 0, []),
  (262, .invokevirtual 66, 3, 65, 4, 0, [(0, 2)]),
  (265, .aload_n 2, 1, 2, 0, 0, []),
  (266, .invokevirtual 59, 3, 31, 1, 0, [(0, 2)]),
  (269, .iload 5, 2, 5, 0, 0, []),
  (271, .if_icmp .eq 5, 3, 276, 0, 0, []),
  (274, .iconst 0, 1, 0, 0, 0, []),
  (276, .goto 619, 3, 895, 0, 0, []),
  (279, .aload_n 1, 1, 1, 0, 0, []),
  (280, .aload_n 0, 1, 0, 0, 0, []),
  (281, .iload 4, 2, 4, 0, 0, []),
  (283, .iconst 1, 1, 0, 0, 1, [])]
theorem pg_kL4 : pg_cL4.all (fun z => ev_ok pg_hs pg_cl pg_mt "TicketTagLaw" "TicketTag" code 7 10 394 z.1 z.2) = true := by decide +kernel
def pg_cL5 : List (Nat × ev_I) := [(284, .iadd, 1, 0, 0, 0, []),
  (285, .iaload, 1, 0, 0, 0, []),
  (286, .aload_n 0, 1, 0, 0, 0, []),
  (287, .iload 4, 2, 4, 0, 0, []),
  (289, .iconst 2, 1, 0, 0, 2, []),
  (290, .iadd, 1, 0, 0, 0, []),
  (291, .iaload, 1, 0, 0, 0, []),
  (292, .ifCond .eq 7, 3, 299, 0, 0, []),
  (295, .iconst 1, 1, 0, 0, 1, []),
  (296, .goto 4, 3, 300, 0, 0, []),
  (299, .iconst 0, 1, 0, 0, 0, []),
  (300, .invokestatic 67, 3, 136, 3, 0, []),
  (303, .istore 5, 2, 5, 0, 0, []),
  (305, .aload_n 2, 1, 2, 0, 0, []),
  (306, .aload_n 0, 1, 0, 0, 0, []),
  (307, .iload 4, 2, 4, 0, 0, []),
  (309, .iconst 1, 1, 0, 0, 1, []),
  (310, .iadd, 1, 0, 0, 0, []),
  (311, .iaload, 1, 0, 0, 0, []),
  (312, .aload_n 0, 1, 0, 0, 0, []),
  (313, .iload 4, 2, 4, 0, 0, []),
  (315, .iconst 2, 1, 0, 0, 2, []),
  (316, .iadd, 1, 0, 0, 0, []),
  (317, .iaload, 1, 0, 0, 0, []),
  (318, .ifCond .eq 7, 3, 325, 0, 0, [])]
theorem pg_kL5 : pg_cL5.all (fun z => ev_ok pg_hs pg_cl pg_mt "TicketTagLaw" "TicketTag" code 7 10 394 z.1 z.2) = true := by decide +kernel
def pg_cL6 : List (Nat × ev_I) := [(321, .iconst 1, 1, 0, 0, 1, []),
  (322, .goto 4, 3, 326, 0, 0, []),
  (325, .iconst 0, 1, 0, 0, 0, []),
  (326, .invokevirtual 70, 3, 59, 3, 0, [(0, 2)]),
  (329, .aload_n 2, 1, 2, 0, 0, []),
  (330, .invokevirtual 59, 3, 31, 1, 0, [(0, 2)]),
  (333, .iload 5, 2, 5, 0, 0, []),
  (335, .if_icmp .eq 5, 3, 340, 0, 0, []),
  (338, .iconst 0, 1, 0, 0, 0, []),
  (340, .goto 555, 3, 895, 0, 0, []),
  (343, .aload_n 1, 1, 1, 0, 0, []),
  (344, .aload_n 0, 1, 0, 0, 0, []),
  (345, .iload 4, 2, 4, 0, 0, []),
  (347, .iconst 1, 1, 0, 0, 1, []),
  (348, .iadd, 1, 0, 0, 0, []),
  (349, .iaload, 1, 0, 0, 0, []),
  (350, .aload_n 3, 1, 3, 0, 0, []),
  (351, .invokestatic 71, 3, 139, 3, 0, []),
  (354, .istore 5, 2, 5, 0, 0, []),
  (356, .aload_n 2, 1, 2, 0, 0, []),
  (357, .aload_n 0, 1, 0, 0, 0, []),
  (358, .iload 4, 2, 4, 0, 0, []),
  (360, .iconst 1, 1, 0, 0, 1, []),
  (361, .iadd, 1, 0, 0, 0, []),
  (362, .iaload, 1, 0, 0, 0, [])]
theorem pg_kL6 : pg_cL6.all (fun z => ev_ok pg_hs pg_cl pg_mt "TicketTagLaw" "TicketTag" code 7 10 394 z.1 z.2) = true := by decide +kernel
def pg_cL7 : List (Nat × ev_I) := [(363, .invokevirtual 74, 3, 124, 2, 0, [(0, 2)]),
  (366, .istore 6, 2, 6, 0, 0, []),
  (368, .aload_n 2, 1, 2, 0, 0, []),
  (369, .invokevirtual 59, 3, 31, 1, 0, [(0, 2)]),
  (372, .iload 5, 2, 5, 0, 0, []),
  (374, .if_icmp .eq 5, 3, 379, 0, 0, []),
  (377, .iconst 0, 1, 0, 0, 0, []),
  (379, .iload 5, 2, 5, 0, 0, []),
  (381, .ifCond .ne 15, 3, 396, 0, 0, []),
  (384, .aload_n 3, 1, 3, 0, 0, []),
  (385, .iconst 0, 1, 0, 0, 0, []),
  (386, .laload, 1, 0, 0, 0, []),
  (387, .iload 6, 2, 6, 0, 0, []),
  (389, .i2l, 1, 0, 0, 0, []),
  (390, .lcmp, 1, 0, 0, 0, []),
  (391, .ifCond .eq 5, 3, 396, 0, 0, []),
  (394, .iconst 0, 1, 0, 0, 0, []),
  (396, .goto 499, 3, 895, 0, 0, []),
  (399, .aload_n 1, 1, 1, 0, 0, []),
  (400, .aload_n 0, 1, 0, 0, 0, []),
  (401, .iload 4, 2, 4, 0, 0, []),
  (403, .iconst 1, 1, 0, 0, 1, []),
  (404, .iadd, 1, 0, 0, 0, []),
  (405, .iaload, 1, 0, 0, 0, []),
  (406, .aload_n 0, 1, 0, 0, 0, [])]
theorem pg_kL7 : pg_cL7.all (fun z => ev_ok pg_hs pg_cl pg_mt "TicketTagLaw" "TicketTag" code 7 10 394 z.1 z.2) = true := by decide +kernel
def pg_cL8 : List (Nat × ev_I) := [(407, .iload 4, 2, 4, 0, 0, []),
  (409, .iconst 2, 1, 0, 0, 2, []),
  (410, .iadd, 1, 0, 0, 0, []),
  (411, .iaload, 1, 0, 0, 0, []),
  (412, .aload_n 0, 1, 0, 0, 0, []),
  (413, .iload 4, 2, 4, 0, 0, []),
  (415, .iconst 3, 1, 0, 0, 3, []),
  (416, .iadd, 1, 0, 0, 0, []),
  (417, .iaload, 1, 0, 0, 0, []),
  (418, .aload_n 3, 1, 3, 0, 0, []),
  (419, .invokestatic 75, 3, 143, 5, 0, []),
  (422, .istore 5, 2, 5, 0, 0, []),
  (424, .aload_n 2, 1, 2, 0, 0, []),
  (425, .aload_n 0, 1, 0, 0, 0, []),
  (426, .iload 4, 2, 4, 0, 0, []),
  (428, .iconst 1, 1, 0, 0, 1, []),
  (429, .iadd, 1, 0, 0, 0, []),
  (430, .iaload, 1, 0, 0, 0, []),
  (431, .aload_n 0, 1, 0, 0, 0, []),
  (432, .iload 4, 2, 4, 0, 0, []),
  (434, .iconst 2, 1, 0, 0, 2, []),
  (435, .iadd, 1, 0, 0, 0, []),
  (436, .iaload, 1, 0, 0, 0, []),
  (437, .aload_n 0, 1, 0, 0, 0, []),
  (438, .iload 4, 2, 4, 0, 0, [])]
theorem pg_kL8 : pg_cL8.all (fun z => ev_ok pg_hs pg_cl pg_mt "TicketTagLaw" "TicketTag" code 7 10 394 z.1 z.2) = true := by decide +kernel
def pg_cL9 : List (Nat × ev_I) := [(440, .iconst 3, 1, 0, 0, 3, []),
  (441, .iadd, 1, 0, 0, 0, []),
  (442, .iaload, 1, 0, 0, 0, []),
  (443, .invokevirtual 78, 3, 135, 4, 0, [(0, 2)]),
  (446, .istore 6, 2, 6, 0, 0, []),
  (448, .aload_n 2, 1, 2, 0, 0, []),
  (449, .invokevirtual 59, 3, 31, 1, 0, [(0, 2)]),
  (452, .iload 5, 2, 5, 0, 0, []),
  (454, .if_icmp .eq 5, 3, 459, 0, 0, []),
  (457, .iconst 0, 1, 0, 0, 0, []),
  (459, .iload 5, 2, 5, 0, 0, []),
  (461, .ifCond .ne 15, 3, 476, 0, 0, []),
  (464, .aload_n 3, 1, 3, 0, 0, []),
  (465, .iconst 0, 1, 0, 0, 0, []),
  (466, .laload, 1, 0, 0, 0, []),
  (467, .iload 6, 2, 6, 0, 0, []),
  (469, .i2l, 1, 0, 0, 0, []),
  (470, .lcmp, 1, 0, 0, 0, []),
  (471, .ifCond .eq 5, 3, 476, 0, 0, []),
  (474, .iconst 0, 1, 0, 0, 0, []),
  (476, .goto 419, 3, 895, 0, 0, []),
  (479, .aload_n 1, 1, 1, 0, 0, []),
  (480, .aload_n 0, 1, 0, 0, 0, []),
  (481, .iload 4, 2, 4, 0, 0, []),
  (483, .iconst 1, 1, 0, 0, 1, [])]
theorem pg_kL9 : pg_cL9.all (fun z => ev_ok pg_hs pg_cl pg_mt "TicketTagLaw" "TicketTag" code 7 10 394 z.1 z.2) = true := by decide +kernel
def pg_cL10 : List (Nat × ev_I) := [(484, .iadd, 1, 0, 0, 0, []),
  (485, .iaload, 1, 0, 0, 0, []),
  (486, .aload_n 3, 1, 3, 0, 0, []),
  (487, .invokestatic 79, 3, 142, 3, 0, []),
  (490, .istore 5, 2, 5, 0, 0, []),
  (492, .aload_n 2, 1, 2, 0, 0, []),
  (493, .aload_n 0, 1, 0, 0, 0, []),
  (494, .iload 4, 2, 4, 0, 0, []),
  (496, .iconst 1, 1, 0, 0, 1, []),
  (497, .iadd, 1, 0, 0, 0, []),
  (498, .iaload, 1, 0, 0, 0, []),
  (499, .invokevirtual 81, 3, 114, 2, 0, [(0, 2)]),
  (502, .istore 6, 2, 6, 0, 0, []),
  (504, .aload_n 2, 1, 2, 0, 0, []),
  (505, .invokevirtual 59, 3, 31, 1, 0, [(0, 2)]),
  (508, .iload 5, 2, 5, 0, 0, []),
  (510, .if_icmp .eq 5, 3, 515, 0, 0, []),
  (513, .iconst 0, 1, 0, 0, 0, []),
  (515, .iload 5, 2, 5, 0, 0, []),
  (517, .ifCond .ne 15, 3, 532, 0, 0, []),
  (520, .aload_n 3, 1, 3, 0, 0, []),
  (521, .iconst 0, 1, 0, 0, 0, []),
  (522, .laload, 1, 0, 0, 0, []),
  (523, .iload 6, 2, 6, 0, 0, []),
  (525, .i2l, 1, 0, 0, 0, [])]
theorem pg_kL10 : pg_cL10.all (fun z => ev_ok pg_hs pg_cl pg_mt "TicketTagLaw" "TicketTag" code 7 10 394 z.1 z.2) = true := by decide +kernel
def pg_cL11 : List (Nat × ev_I) := [(526, .lcmp, 1, 0, 0, 0, []),
  (527, .ifCond .eq 5, 3, 532, 0, 0, []),
  (530, .iconst 0, 1, 0, 0, 0, []),
  (532, .goto 363, 3, 895, 0, 0, []),
  (535, .aload_n 1, 1, 1, 0, 0, []),
  (536, .invokevirtual 82, 3, 5, 1, 0, [(0, 1)]),
  (539, .aload_n 2, 1, 2, 0, 0, []),
  (540, .invokevirtual 85, 3, 29, 1, 0, [(0, 2)]),
  (543, .if_icmp .eq 352, 3, 895, 0, 0, []),
  (546, .iconst 0, 1, 0, 0, 0, []),
  (548, .aload_n 1, 1, 1, 0, 0, []),
  (549, .aload_n 0, 1, 0, 0, 0, []),
  (550, .iload 4, 2, 4, 0, 0, []),
  (552, .iconst 1, 1, 0, 0, 1, []),
  (553, .iadd, 1, 0, 0, 0, []),
  (554, .iaload, 1, 0, 0, 0, []),
  (555, .aload_n 0, 1, 0, 0, 0, []),
  (556, .iload 4, 2, 4, 0, 0, []),
  (558, .iconst 2, 1, 0, 0, 2, []),
  (559, .iadd, 1, 0, 0, 0, []),
  (560, .iaload, 1, 0, 0, 0, []),
  (561, .invokestatic 86, 3, 141, 3, 0, []),
  (564, .istore 5, 2, 5, 0, 0, []),
  (566, .aload_n 2, 1, 2, 0, 0, []),
  (567, .aload_n 0, 1, 0, 0, 0, [])]
theorem pg_kL11 : pg_cL11.all (fun z => ev_ok pg_hs pg_cl pg_mt "TicketTagLaw" "TicketTag" code 7 10 394 z.1 z.2) = true := by decide +kernel
def pg_cL12 : List (Nat × ev_I) := [(568, .iload 4, 2, 4, 0, 0, []),
  (570, .iconst 1, 1, 0, 0, 1, []),
  (571, .iadd, 1, 0, 0, 0, []),
  (572, .iaload, 1, 0, 0, 0, []),
  (573, .aload_n 0, 1, 0, 0, 0, []),
  (574, .iload 4, 2, 4, 0, 0, []),
  (576, .iconst 2, 1, 0, 0, 2, []),
  (577, .iadd, 1, 0, 0, 0, []),
  (578, .iaload, 1, 0, 0, 0, []),
  (579, .invokevirtual 89, 3, 66, 3, 0, [(0, 2)]),
  (582, .aload_n 2, 1, 2, 0, 0, []),
  (583, .invokevirtual 59, 3, 31, 1, 0, [(0, 2)]),
  (586, .iload 5, 2, 5, 0, 0, []),
  (588, .if_icmp .eq 5, 3, 593, 0, 0, []),
  (591, .iconst 0, 1, 0, 0, 0, []),
  (593, .goto 302, 3, 895, 0, 0, []),
  (596, .aload_n 1, 1, 1, 0, 0, []),
  (597, .invokevirtual 90, 3, 36, 1, 0, [(0, 1)]),
  (600, .aload_n 2, 1, 2, 0, 0, []),
  (601, .invokevirtual 94, 3, 20, 1, 0, [(0, 2)]),
  (604, .if_icmp .eq 291, 3, 895, 0, 0, []),
  (607, .iconst 0, 1, 0, 0, 0, []),
  (609, .aload_n 1, 1, 1, 0, 0, []),
  (610, .invokevirtual 95, 3, 76, 1, 0, [(0, 1)]),
  (613, .aload_n 2, 1, 2, 0, 0, [])]
theorem pg_kL12 : pg_cL12.all (fun z => ev_ok pg_hs pg_cl pg_mt "TicketTagLaw" "TicketTag" code 7 10 394 z.1 z.2) = true := by decide +kernel
def pg_cL13 : List (Nat × ev_I) := [(614, .invokevirtual 98, 3, 85, 1, 0, [(0, 2)]),
  (617, .if_icmp .eq 278, 3, 895, 0, 0, []),
  (620, .iconst 0, 1, 0, 0, 0, []),
  (622, .aload_n 1, 1, 1, 0, 0, []),
  (623, .invokevirtual 99, 3, 103, 1, 0, [(0, 1)]),
  (626, .aload_n 2, 1, 2, 0, 0, []),
  (627, .invokevirtual 102, 3, 98, 1, 0, [(0, 2)]),
  (630, .if_icmp .eq 265, 3, 895, 0, 0, []),
  (633, .iconst 0, 1, 0, 0, 0, []),
  (635, .aload_n 1, 1, 1, 0, 0, []),
  (636, .aload_n 0, 1, 0, 0, 0, []),
  (637, .iload 4, 2, 4, 0, 0, []),
  (639, .iconst 1, 1, 0, 0, 1, []),
  (640, .iadd, 1, 0, 0, 0, []),
  (641, .iaload, 1, 0, 0, 0, []),
  (642, .invokevirtual 103, 3, 102, 2, 0, [(0, 1)]),
  (645, .aload_n 2, 1, 2, 0, 0, []),
  (646, .aload_n 0, 1, 0, 0, 0, []),
  (647, .iload 4, 2, 4, 0, 0, []),
  (649, .iconst 1, 1, 0, 0, 1, []),
  (650, .iadd, 1, 0, 0, 0, []),
  (651, .iaload, 1, 0, 0, 0, []),
  (652, .invokevirtual 106, 3, 97, 2, 0, [(0, 2)]),
  (655, .if_icmp .eq 240, 3, 895, 0, 0, []),
  (658, .iconst 0, 1, 0, 0, 0, [])]
theorem pg_kL13 : pg_cL13.all (fun z => ev_ok pg_hs pg_cl pg_mt "TicketTagLaw" "TicketTag" code 7 10 394 z.1 z.2) = true := by decide +kernel
def pg_cL14 : List (Nat × ev_I) := [(660, .aload_n 1, 1, 1, 0, 0, []),
  (661, .aload_n 0, 1, 0, 0, 0, []),
  (662, .iload 4, 2, 4, 0, 0, []),
  (664, .iconst 1, 1, 0, 0, 1, []),
  (665, .iadd, 1, 0, 0, 0, []),
  (666, .iaload, 1, 0, 0, 0, []),
  (667, .aload_n 0, 1, 0, 0, 0, []),
  (668, .iload 4, 2, 4, 0, 0, []),
  (670, .iconst 2, 1, 0, 0, 2, []),
  (671, .iadd, 1, 0, 0, 0, []),
  (672, .iaload, 1, 0, 0, 0, []),
  (673, .invokevirtual 107, 3, 116, 3, 0, [(0, 1)]),
  (676, .aload_n 2, 1, 2, 0, 0, []),
  (677, .aload_n 0, 1, 0, 0, 0, []),
  (678, .iload 4, 2, 4, 0, 0, []),
  (680, .iconst 1, 1, 0, 0, 1, []),
  (681, .iadd, 1, 0, 0, 0, []),
  (682, .iaload, 1, 0, 0, 0, []),
  (683, .aload_n 0, 1, 0, 0, 0, []),
  (684, .iload 4, 2, 4, 0, 0, []),
  (686, .iconst 2, 1, 0, 0, 2, []),
  (687, .iadd, 1, 0, 0, 0, []),
  (688, .iaload, 1, 0, 0, 0, []),
  (689, .invokevirtual 110, 3, 121, 3, 0, [(0, 2)]),
  (692, .if_icmp .eq 203, 3, 895, 0, 0, [])]
theorem pg_kL14 : pg_cL14.all (fun z => ev_ok pg_hs pg_cl pg_mt "TicketTagLaw" "TicketTag" code 7 10 394 z.1 z.2) = true := by decide +kernel
def pg_cL15 : List (Nat × ev_I) := [(695, .iconst 0, 1, 0, 0, 0, []),
  (697, .aload_n 1, 1, 1, 0, 0, []),
  (698, .aload_n 0, 1, 0, 0, 0, []),
  (699, .iload 4, 2, 4, 0, 0, []),
  (701, .iconst 1, 1, 0, 0, 1, []),
  (702, .iadd, 1, 0, 0, 0, []),
  (703, .iaload, 1, 0, 0, 0, []),
  (704, .invokevirtual 111, 3, 117, 2, 0, [(0, 1)]),
  (707, .aload_n 2, 1, 2, 0, 0, []),
  (708, .aload_n 0, 1, 0, 0, 0, []),
  (709, .iload 4, 2, 4, 0, 0, []),
  (711, .iconst 1, 1, 0, 0, 1, []),
  (712, .iadd, 1, 0, 0, 0, []),
  (713, .iaload, 1, 0, 0, 0, []),
  (714, .invokevirtual 114, 3, 122, 2, 0, [(0, 2)]),
  (717, .if_icmp .eq 178, 3, 895, 0, 0, []),
  (720, .iconst 0, 1, 0, 0, 0, []),
  (722, .aload_n 1, 1, 1, 0, 0, []),
  (723, .aload_n 0, 1, 0, 0, 0, []),
  (724, .iload 4, 2, 4, 0, 0, []),
  (726, .iconst 1, 1, 0, 0, 1, []),
  (727, .iadd, 1, 0, 0, 0, []),
  (728, .iaload, 1, 0, 0, 0, []),
  (729, .aload_n 0, 1, 0, 0, 0, []),
  (730, .iload 4, 2, 4, 0, 0, [])]
theorem pg_kL15 : pg_cL15.all (fun z => ev_ok pg_hs pg_cl pg_mt "TicketTagLaw" "TicketTag" code 7 10 394 z.1 z.2) = true := by decide +kernel
def pg_cL16 : List (Nat × ev_I) := [(732, .iconst 2, 1, 0, 0, 2, []),
  (733, .iadd, 1, 0, 0, 0, []),
  (734, .iaload, 1, 0, 0, 0, []),
  (735, .aload_n 0, 1, 0, 0, 0, []),
  (736, .iload 4, 2, 4, 0, 0, []),
  (738, .iconst 3, 1, 0, 0, 3, []),
  (739, .iadd, 1, 0, 0, 0, []),
  (740, .iaload, 1, 0, 0, 0, []),
  (741, .aload_n 3, 1, 3, 0, 0, []),
  (742, .invokestatic 115, 3, 137, 5, 0, []),
  (745, .istore 5, 2, 5, 0, 0, []),
  (747, .aload_n 2, 1, 2, 0, 0, []),
  (748, .aload_n 0, 1, 0, 0, 0, []),
  (749, .iload 4, 2, 4, 0, 0, []),
  (751, .iconst 1, 1, 0, 0, 1, []),
  (752, .iadd, 1, 0, 0, 0, []),
  (753, .iaload, 1, 0, 0, 0, []),
  (754, .aload_n 0, 1, 0, 0, 0, []),
  (755, .iload 4, 2, 4, 0, 0, []),
  (757, .iconst 2, 1, 0, 0, 2, []),
  (758, .iadd, 1, 0, 0, 0, []),
  (759, .iaload, 1, 0, 0, 0, []),
  (760, .aload_n 0, 1, 0, 0, 0, []),
  (761, .iload 4, 2, 4, 0, 0, []),
  (763, .iconst 3, 1, 0, 0, 3, [])]
theorem pg_kL16 : pg_cL16.all (fun z => ev_ok pg_hs pg_cl pg_mt "TicketTagLaw" "TicketTag" code 7 10 394 z.1 z.2) = true := by decide +kernel
def pg_cL17 : List (Nat × ev_I) := [(764, .iadd, 1, 0, 0, 0, []),
  (765, .iaload, 1, 0, 0, 0, []),
  (766, .invokevirtual 117, 3, 120, 4, 0, [(0, 2)]),
  (769, .istore 6, 2, 6, 0, 0, []),
  (771, .aload_n 2, 1, 2, 0, 0, []),
  (772, .invokevirtual 59, 3, 31, 1, 0, [(0, 2)]),
  (775, .iload 5, 2, 5, 0, 0, []),
  (777, .if_icmp .eq 5, 3, 782, 0, 0, []),
  (780, .iconst 0, 1, 0, 0, 0, []),
  (782, .iload 5, 2, 5, 0, 0, []),
  (784, .ifCond .ne 15, 3, 799, 0, 0, []),
  (787, .aload_n 3, 1, 3, 0, 0, []),
  (788, .iconst 0, 1, 0, 0, 0, []),
  (789, .laload, 1, 0, 0, 0, []),
  (790, .iload 6, 2, 6, 0, 0, []),
  (792, .i2l, 1, 0, 0, 0, []),
  (793, .lcmp, 1, 0, 0, 0, []),
  (794, .ifCond .eq 5, 3, 799, 0, 0, []),
  (797, .iconst 0, 1, 0, 0, 0, []),
  (799, .goto 96, 3, 895, 0, 0, []),
  (802, .aload_n 1, 1, 1, 0, 0, []),
  (803, .aload_n 0, 1, 0, 0, 0, []),
  (804, .iload 4, 2, 4, 0, 0, []),
  (806, .iconst 1, 1, 0, 0, 1, []),
  (807, .iadd, 1, 0, 0, 0, [])]
theorem pg_kL17 : pg_cL17.all (fun z => ev_ok pg_hs pg_cl pg_mt "TicketTagLaw" "TicketTag" code 7 10 394 z.1 z.2) = true := by decide +kernel
def pg_cL18 : List (Nat × ev_I) := [(808, .iaload, 1, 0, 0, 0, []),
  (809, .aload_n 0, 1, 0, 0, 0, []),
  (810, .iload 4, 2, 4, 0, 0, []),
  (812, .iconst 2, 1, 0, 0, 2, []),
  (813, .iadd, 1, 0, 0, 0, []),
  (814, .iaload, 1, 0, 0, 0, []),
  (815, .aload_n 3, 1, 3, 0, 0, []),
  (816, .invokestatic 118, 3, 144, 4, 0, []),
  (819, .istore 5, 2, 5, 0, 0, []),
  (821, .aload_n 2, 1, 2, 0, 0, []),
  (822, .aload_n 0, 1, 0, 0, 0, []),
  (823, .iload 4, 2, 4, 0, 0, []),
  (825, .iconst 1, 1, 0, 0, 1, []),
  (826, .iadd, 1, 0, 0, 0, []),
  (827, .iaload, 1, 0, 0, 0, []),
  (828, .aload_n 0, 1, 0, 0, 0, []),
  (829, .iload 4, 2, 4, 0, 0, []),
  (831, .iconst 2, 1, 0, 0, 2, []),
  (832, .iadd, 1, 0, 0, 0, []),
  (833, .iaload, 1, 0, 0, 0, []),
  (834, .invokevirtual 121, 3, 68, 3, 0, [(0, 2)]),
  (837, .istore 6, 2, 6, 0, 0, []),
  (839, .aload_n 2, 1, 2, 0, 0, []),
  (840, .invokevirtual 59, 3, 31, 1, 0, [(0, 2)]),
  (843, .iload 5, 2, 5, 0, 0, [])]
theorem pg_kL18 : pg_cL18.all (fun z => ev_ok pg_hs pg_cl pg_mt "TicketTagLaw" "TicketTag" code 7 10 394 z.1 z.2) = true := by decide +kernel
def pg_cL19 : List (Nat × ev_I) := [(845, .if_icmp .eq 5, 3, 850, 0, 0, []),
  (848, .iconst 0, 1, 0, 0, 0, []),
  (850, .iload 5, 2, 5, 0, 0, []),
  (852, .ifCond .ne 15, 3, 867, 0, 0, []),
  (855, .aload_n 3, 1, 3, 0, 0, []),
  (856, .iconst 0, 1, 0, 0, 0, []),
  (857, .laload, 1, 0, 0, 0, []),
  (858, .iload 6, 2, 6, 0, 0, []),
  (860, .i2l, 1, 0, 0, 0, []),
  (861, .lcmp, 1, 0, 0, 0, []),
  (862, .ifCond .eq 5, 3, 867, 0, 0, []),
  (865, .iconst 0, 1, 0, 0, 0, []),
  (867, .goto 28, 3, 895, 0, 0, []),
  (870, .aload_n 1, 1, 1, 0, 0, []),
  (871, .aload_n 0, 1, 0, 0, 0, []),
  (872, .iload 4, 2, 4, 0, 0, []),
  (874, .iconst 1, 1, 0, 0, 1, []),
  (875, .iadd, 1, 0, 0, 0, []),
  (876, .iaload, 1, 0, 0, 0, []),
  (877, .invokevirtual 122, 3, 72, 2, 0, [(0, 1)]),
  (880, .aload_n 2, 1, 2, 0, 0, []),
  (881, .aload_n 0, 1, 0, 0, 0, []),
  (882, .iload 4, 2, 4, 0, 0, []),
  (884, .iconst 1, 1, 0, 0, 1, []),
  (885, .iadd, 1, 0, 0, 0, [])]
theorem pg_kL19 : pg_cL19.all (fun z => ev_ok pg_hs pg_cl pg_mt "TicketTagLaw" "TicketTag" code 7 10 394 z.1 z.2) = true := by decide +kernel
def pg_cL20 : List (Nat × ev_I) := [(886, .iaload, 1, 0, 0, 0, []),
  (887, .invokevirtual 125, 3, 82, 2, 0, [(0, 2)]),
  (890, .if_icmp .eq 5, 3, 895, 0, 0, []),
  (893, .iconst 0, 1, 0, 0, 0, []),
  (895, .iinc 4 5, 3, 4, 0, 5, []),
  (898, .goto (-875), 3, 23, 0, 0, []),
  (901, .iconst 1, 1, 0, 0, 1, [])]
theorem pg_kL20 : pg_cL20.all (fun z => ev_ok pg_hs pg_cl pg_mt "TicketTagLaw" "TicketTag" code 7 10 394 z.1 z.2) = true := by decide +kernel
theorem pg_two {f g : Nat → Option ev_I} {P : Nat → ev_I → Prop} (b : Nat) (hf : ∀ pc q, f pc = some q → P pc q) (hg : ∀ pc q, g pc = some q → P pc q) : ∀ pc q, (match Nat.blt pc b with | true => f pc | false => g pc) = some q → P pc q := fun pc q h => by
  split at h
  · exact hf pc q h
  · exact hg pc q h
def pg_n0_1 (pc : Nat) : Option ev_I := ev_lu pg_cL0 pc
theorem pg_p0_1 : ∀ pc q, pg_n0_1 pc = some q → ev_ok pg_hs pg_cl pg_mt "TicketTagLaw" "TicketTag" code 7 10 394 pc q = true := fun pc q h => List.all_eq_true.mp pg_kL0 (pc, q) (ev_lu_mem h)
def pg_n1_2 (pc : Nat) : Option ev_I := ev_lu pg_cL1 pc
theorem pg_p1_2 : ∀ pc q, pg_n1_2 pc = some q → ev_ok pg_hs pg_cl pg_mt "TicketTagLaw" "TicketTag" code 7 10 394 pc q = true := fun pc q h => List.all_eq_true.mp pg_kL1 (pc, q) (ev_lu_mem h)
def pg_n0_2 (pc : Nat) : Option ev_I := match Nat.blt pc 133 with | true => pg_n0_1 pc | false => pg_n1_2 pc
theorem pg_p0_2 : ∀ pc q, pg_n0_2 pc = some q → ev_ok pg_hs pg_cl pg_mt "TicketTagLaw" "TicketTag" code 7 10 394 pc q = true := pg_two 133 pg_p0_1 pg_p1_2
def pg_n2_3 (pc : Nat) : Option ev_I := ev_lu pg_cL2 pc
theorem pg_p2_3 : ∀ pc q, pg_n2_3 pc = some q → ev_ok pg_hs pg_cl pg_mt "TicketTagLaw" "TicketTag" code 7 10 394 pc q = true := fun pc q h => List.all_eq_true.mp pg_kL2 (pc, q) (ev_lu_mem h)
def pg_n3_4 (pc : Nat) : Option ev_I := ev_lu pg_cL3 pc
theorem pg_p3_4 : ∀ pc q, pg_n3_4 pc = some q → ev_ok pg_hs pg_cl pg_mt "TicketTagLaw" "TicketTag" code 7 10 394 pc q = true := fun pc q h => List.all_eq_true.mp pg_kL3 (pc, q) (ev_lu_mem h)
def pg_n4_5 (pc : Nat) : Option ev_I := ev_lu pg_cL4 pc
theorem pg_p4_5 : ∀ pc q, pg_n4_5 pc = some q → ev_ok pg_hs pg_cl pg_mt "TicketTagLaw" "TicketTag" code 7 10 394 pc q = true := fun pc q h => List.all_eq_true.mp pg_kL4 (pc, q) (ev_lu_mem h)
def pg_n3_5 (pc : Nat) : Option ev_I := match Nat.blt pc 245 with | true => pg_n3_4 pc | false => pg_n4_5 pc
theorem pg_p3_5 : ∀ pc q, pg_n3_5 pc = some q → ev_ok pg_hs pg_cl pg_mt "TicketTagLaw" "TicketTag" code 7 10 394 pc q = true := pg_two 245 pg_p3_4 pg_p4_5
def pg_n2_5 (pc : Nat) : Option ev_I := match Nat.blt pc 209 with | true => pg_n2_3 pc | false => pg_n3_5 pc
theorem pg_p2_5 : ∀ pc q, pg_n2_5 pc = some q → ev_ok pg_hs pg_cl pg_mt "TicketTagLaw" "TicketTag" code 7 10 394 pc q = true := pg_two 209 pg_p2_3 pg_p3_5
def pg_n0_5 (pc : Nat) : Option ev_I := match Nat.blt pc 165 with | true => pg_n0_2 pc | false => pg_n2_5 pc
theorem pg_p0_5 : ∀ pc q, pg_n0_5 pc = some q → ev_ok pg_hs pg_cl pg_mt "TicketTagLaw" "TicketTag" code 7 10 394 pc q = true := pg_two 165 pg_p0_2 pg_p2_5
def pg_n5_6 (pc : Nat) : Option ev_I := ev_lu pg_cL5 pc
theorem pg_p5_6 : ∀ pc q, pg_n5_6 pc = some q → ev_ok pg_hs pg_cl pg_mt "TicketTagLaw" "TicketTag" code 7 10 394 pc q = true := fun pc q h => List.all_eq_true.mp pg_kL5 (pc, q) (ev_lu_mem h)
def pg_n6_7 (pc : Nat) : Option ev_I := ev_lu pg_cL6 pc
theorem pg_p6_7 : ∀ pc q, pg_n6_7 pc = some q → ev_ok pg_hs pg_cl pg_mt "TicketTagLaw" "TicketTag" code 7 10 394 pc q = true := fun pc q h => List.all_eq_true.mp pg_kL6 (pc, q) (ev_lu_mem h)
def pg_n5_7 (pc : Nat) : Option ev_I := match Nat.blt pc 321 with | true => pg_n5_6 pc | false => pg_n6_7 pc
theorem pg_p5_7 : ∀ pc q, pg_n5_7 pc = some q → ev_ok pg_hs pg_cl pg_mt "TicketTagLaw" "TicketTag" code 7 10 394 pc q = true := pg_two 321 pg_p5_6 pg_p6_7
def pg_n7_8 (pc : Nat) : Option ev_I := ev_lu pg_cL7 pc
theorem pg_p7_8 : ∀ pc q, pg_n7_8 pc = some q → ev_ok pg_hs pg_cl pg_mt "TicketTagLaw" "TicketTag" code 7 10 394 pc q = true := fun pc q h => List.all_eq_true.mp pg_kL7 (pc, q) (ev_lu_mem h)
def pg_n8_9 (pc : Nat) : Option ev_I := ev_lu pg_cL8 pc
theorem pg_p8_9 : ∀ pc q, pg_n8_9 pc = some q → ev_ok pg_hs pg_cl pg_mt "TicketTagLaw" "TicketTag" code 7 10 394 pc q = true := fun pc q h => List.all_eq_true.mp pg_kL8 (pc, q) (ev_lu_mem h)
def pg_n9_10 (pc : Nat) : Option ev_I := ev_lu pg_cL9 pc
theorem pg_p9_10 : ∀ pc q, pg_n9_10 pc = some q → ev_ok pg_hs pg_cl pg_mt "TicketTagLaw" "TicketTag" code 7 10 394 pc q = true := fun pc q h => List.all_eq_true.mp pg_kL9 (pc, q) (ev_lu_mem h)
def pg_n8_10 (pc : Nat) : Option ev_I := match Nat.blt pc 440 with | true => pg_n8_9 pc | false => pg_n9_10 pc
theorem pg_p8_10 : ∀ pc q, pg_n8_10 pc = some q → ev_ok pg_hs pg_cl pg_mt "TicketTagLaw" "TicketTag" code 7 10 394 pc q = true := pg_two 440 pg_p8_9 pg_p9_10
def pg_n7_10 (pc : Nat) : Option ev_I := match Nat.blt pc 407 with | true => pg_n7_8 pc | false => pg_n8_10 pc
theorem pg_p7_10 : ∀ pc q, pg_n7_10 pc = some q → ev_ok pg_hs pg_cl pg_mt "TicketTagLaw" "TicketTag" code 7 10 394 pc q = true := pg_two 407 pg_p7_8 pg_p8_10
def pg_n5_10 (pc : Nat) : Option ev_I := match Nat.blt pc 363 with | true => pg_n5_7 pc | false => pg_n7_10 pc
theorem pg_p5_10 : ∀ pc q, pg_n5_10 pc = some q → ev_ok pg_hs pg_cl pg_mt "TicketTagLaw" "TicketTag" code 7 10 394 pc q = true := pg_two 363 pg_p5_7 pg_p7_10
def pg_n0_10 (pc : Nat) : Option ev_I := match Nat.blt pc 284 with | true => pg_n0_5 pc | false => pg_n5_10 pc
theorem pg_p0_10 : ∀ pc q, pg_n0_10 pc = some q → ev_ok pg_hs pg_cl pg_mt "TicketTagLaw" "TicketTag" code 7 10 394 pc q = true := pg_two 284 pg_p0_5 pg_p5_10
def pg_n10_11 (pc : Nat) : Option ev_I := ev_lu pg_cL10 pc
theorem pg_p10_11 : ∀ pc q, pg_n10_11 pc = some q → ev_ok pg_hs pg_cl pg_mt "TicketTagLaw" "TicketTag" code 7 10 394 pc q = true := fun pc q h => List.all_eq_true.mp pg_kL10 (pc, q) (ev_lu_mem h)
def pg_n11_12 (pc : Nat) : Option ev_I := ev_lu pg_cL11 pc
theorem pg_p11_12 : ∀ pc q, pg_n11_12 pc = some q → ev_ok pg_hs pg_cl pg_mt "TicketTagLaw" "TicketTag" code 7 10 394 pc q = true := fun pc q h => List.all_eq_true.mp pg_kL11 (pc, q) (ev_lu_mem h)
def pg_n10_12 (pc : Nat) : Option ev_I := match Nat.blt pc 526 with | true => pg_n10_11 pc | false => pg_n11_12 pc
theorem pg_p10_12 : ∀ pc q, pg_n10_12 pc = some q → ev_ok pg_hs pg_cl pg_mt "TicketTagLaw" "TicketTag" code 7 10 394 pc q = true := pg_two 526 pg_p10_11 pg_p11_12
def pg_n12_13 (pc : Nat) : Option ev_I := ev_lu pg_cL12 pc
theorem pg_p12_13 : ∀ pc q, pg_n12_13 pc = some q → ev_ok pg_hs pg_cl pg_mt "TicketTagLaw" "TicketTag" code 7 10 394 pc q = true := fun pc q h => List.all_eq_true.mp pg_kL12 (pc, q) (ev_lu_mem h)
def pg_n13_14 (pc : Nat) : Option ev_I := ev_lu pg_cL13 pc
theorem pg_p13_14 : ∀ pc q, pg_n13_14 pc = some q → ev_ok pg_hs pg_cl pg_mt "TicketTagLaw" "TicketTag" code 7 10 394 pc q = true := fun pc q h => List.all_eq_true.mp pg_kL13 (pc, q) (ev_lu_mem h)
def pg_n14_15 (pc : Nat) : Option ev_I := ev_lu pg_cL14 pc
theorem pg_p14_15 : ∀ pc q, pg_n14_15 pc = some q → ev_ok pg_hs pg_cl pg_mt "TicketTagLaw" "TicketTag" code 7 10 394 pc q = true := fun pc q h => List.all_eq_true.mp pg_kL14 (pc, q) (ev_lu_mem h)
def pg_n13_15 (pc : Nat) : Option ev_I := match Nat.blt pc 660 with | true => pg_n13_14 pc | false => pg_n14_15 pc
theorem pg_p13_15 : ∀ pc q, pg_n13_15 pc = some q → ev_ok pg_hs pg_cl pg_mt "TicketTagLaw" "TicketTag" code 7 10 394 pc q = true := pg_two 660 pg_p13_14 pg_p14_15
def pg_n12_15 (pc : Nat) : Option ev_I := match Nat.blt pc 614 with | true => pg_n12_13 pc | false => pg_n13_15 pc
theorem pg_p12_15 : ∀ pc q, pg_n12_15 pc = some q → ev_ok pg_hs pg_cl pg_mt "TicketTagLaw" "TicketTag" code 7 10 394 pc q = true := pg_two 614 pg_p12_13 pg_p13_15
def pg_n10_15 (pc : Nat) : Option ev_I := match Nat.blt pc 568 with | true => pg_n10_12 pc | false => pg_n12_15 pc
theorem pg_p10_15 : ∀ pc q, pg_n10_15 pc = some q → ev_ok pg_hs pg_cl pg_mt "TicketTagLaw" "TicketTag" code 7 10 394 pc q = true := pg_two 568 pg_p10_12 pg_p12_15
def pg_n15_16 (pc : Nat) : Option ev_I := ev_lu pg_cL15 pc
theorem pg_p15_16 : ∀ pc q, pg_n15_16 pc = some q → ev_ok pg_hs pg_cl pg_mt "TicketTagLaw" "TicketTag" code 7 10 394 pc q = true := fun pc q h => List.all_eq_true.mp pg_kL15 (pc, q) (ev_lu_mem h)
def pg_n16_17 (pc : Nat) : Option ev_I := ev_lu pg_cL16 pc
theorem pg_p16_17 : ∀ pc q, pg_n16_17 pc = some q → ev_ok pg_hs pg_cl pg_mt "TicketTagLaw" "TicketTag" code 7 10 394 pc q = true := fun pc q h => List.all_eq_true.mp pg_kL16 (pc, q) (ev_lu_mem h)
def pg_n17_18 (pc : Nat) : Option ev_I := ev_lu pg_cL17 pc
theorem pg_p17_18 : ∀ pc q, pg_n17_18 pc = some q → ev_ok pg_hs pg_cl pg_mt "TicketTagLaw" "TicketTag" code 7 10 394 pc q = true := fun pc q h => List.all_eq_true.mp pg_kL17 (pc, q) (ev_lu_mem h)
def pg_n16_18 (pc : Nat) : Option ev_I := match Nat.blt pc 764 with | true => pg_n16_17 pc | false => pg_n17_18 pc
theorem pg_p16_18 : ∀ pc q, pg_n16_18 pc = some q → ev_ok pg_hs pg_cl pg_mt "TicketTagLaw" "TicketTag" code 7 10 394 pc q = true := pg_two 764 pg_p16_17 pg_p17_18
def pg_n15_18 (pc : Nat) : Option ev_I := match Nat.blt pc 732 with | true => pg_n15_16 pc | false => pg_n16_18 pc
theorem pg_p15_18 : ∀ pc q, pg_n15_18 pc = some q → ev_ok pg_hs pg_cl pg_mt "TicketTagLaw" "TicketTag" code 7 10 394 pc q = true := pg_two 732 pg_p15_16 pg_p16_18
def pg_n18_19 (pc : Nat) : Option ev_I := ev_lu pg_cL18 pc
theorem pg_p18_19 : ∀ pc q, pg_n18_19 pc = some q → ev_ok pg_hs pg_cl pg_mt "TicketTagLaw" "TicketTag" code 7 10 394 pc q = true := fun pc q h => List.all_eq_true.mp pg_kL18 (pc, q) (ev_lu_mem h)
def pg_n19_20 (pc : Nat) : Option ev_I := ev_lu pg_cL19 pc
theorem pg_p19_20 : ∀ pc q, pg_n19_20 pc = some q → ev_ok pg_hs pg_cl pg_mt "TicketTagLaw" "TicketTag" code 7 10 394 pc q = true := fun pc q h => List.all_eq_true.mp pg_kL19 (pc, q) (ev_lu_mem h)
def pg_n20_21 (pc : Nat) : Option ev_I := ev_lu pg_cL20 pc
theorem pg_p20_21 : ∀ pc q, pg_n20_21 pc = some q → ev_ok pg_hs pg_cl pg_mt "TicketTagLaw" "TicketTag" code 7 10 394 pc q = true := fun pc q h => List.all_eq_true.mp pg_kL20 (pc, q) (ev_lu_mem h)
def pg_n19_21 (pc : Nat) : Option ev_I := match Nat.blt pc 886 with | true => pg_n19_20 pc | false => pg_n20_21 pc
theorem pg_p19_21 : ∀ pc q, pg_n19_21 pc = some q → ev_ok pg_hs pg_cl pg_mt "TicketTagLaw" "TicketTag" code 7 10 394 pc q = true := pg_two 886 pg_p19_20 pg_p20_21
def pg_n18_21 (pc : Nat) : Option ev_I := match Nat.blt pc 845 with | true => pg_n18_19 pc | false => pg_n19_21 pc
theorem pg_p18_21 : ∀ pc q, pg_n18_21 pc = some q → ev_ok pg_hs pg_cl pg_mt "TicketTagLaw" "TicketTag" code 7 10 394 pc q = true := pg_two 845 pg_p18_19 pg_p19_21
def pg_n15_21 (pc : Nat) : Option ev_I := match Nat.blt pc 808 with | true => pg_n15_18 pc | false => pg_n18_21 pc
theorem pg_p15_21 : ∀ pc q, pg_n15_21 pc = some q → ev_ok pg_hs pg_cl pg_mt "TicketTagLaw" "TicketTag" code 7 10 394 pc q = true := pg_two 808 pg_p15_18 pg_p18_21
def pg_n10_21 (pc : Nat) : Option ev_I := match Nat.blt pc 695 with | true => pg_n10_15 pc | false => pg_n15_21 pc
theorem pg_p10_21 : ∀ pc q, pg_n10_21 pc = some q → ev_ok pg_hs pg_cl pg_mt "TicketTagLaw" "TicketTag" code 7 10 394 pc q = true := pg_two 695 pg_p10_15 pg_p15_21
def pg_n0_21 (pc : Nat) : Option ev_I := match Nat.blt pc 484 with | true => pg_n0_10 pc | false => pg_n10_21 pc
theorem pg_p0_21 : ∀ pc q, pg_n0_21 pc = some q → ev_ok pg_hs pg_cl pg_mt "TicketTagLaw" "TicketTag" code 7 10 394 pc q = true := pg_two 484 pg_p0_10 pg_p10_21
def pg_dL (pc : Nat) : Option ev_I := pg_n0_21 pc
theorem pg_oL : ∀ pc q, pg_dL pc = some q → ev_ok pg_hs pg_cl pg_mt "TicketTagLaw" "TicketTag" code 7 10 394 pc q = true := pg_p0_21
