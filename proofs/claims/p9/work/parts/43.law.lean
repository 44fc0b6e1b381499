/-! THE LAW: its instructions from the loop on (laid by wip/gen/law.py) -/
def pg_cL0 : List (Nat × ev_I) := [(20, .iconst 0, 1, 0, 0, 0, []),
  (21, .istore 4, 2, 4, 0, 0, []),
  (23, .iload 4, 2, 4, 0, 0, []),
  (25, .aload_n 0, 1, 0, 0, 0, []),
  (26, .arraylength, 1, 0, 0, 0, []),
  (27, .iconst 5, 1, 0, 0, 5, []),
  (28, .isub, 1, 0, 0, 0, []),
  (29, .if_icmp .gt 675, 3, 704, 0, 0, []),
  (32, .aload_n 0, 1, 0, 0, 0, []),
  (33, .iload 4, 2, 4, 0, 0, []),
  (35, .iaload, 1, 0, 0, 0, []),
  (36, .bipush 31, 2, 0, 0, 31, []),
  (38, .iand, 1, 0, 0, 0, []),
  (39, .tableswitch 659 0 16 #[81, 145, 194, 247, 275, 327, 355, 368, 416, 429, 442, 455, 480, 517, 542, 594, 634], 81, 698, 0, 0, [(0, 120), (1, 184), (2, 233), (3, 286), (4, 314), (5, 366), (6, 394), (7, 407), (8, 455), (9, 468), (10, 481), (11, 494), (12, 519), (13, 556), (14, 581), (15, 633), (16, 673)]),
  (120, .aload_n 1, 1, 1, 0, 0, []),
  (121, .aload_n 0, 1, 0, 0, 0, []),
  (122, .iload 4, 2, 4, 0, 0, []),
  (124, .iconst 1, 1, 0, 0, 1, []),
  (125, .iadd, 1, 0, 0, 0, []),
  (126, .iaload, 1, 0, 0, 0, []),
  (127, .aload_n 0, 1, 0, 0, 0, []),
  (128, .iload 4, 2, 4, 0, 0, []),
  (130, .iconst 2, 1, 0, 0, 2, []),
  (131, .iadd, 1, 0, 0, 0, []),
  (132, .iaload, 1, 0, 0, 0, [])]
theorem pg_kL0 : pg_cL0.all (fun z => ev_ok pg_hs pg_cl pg_mt "TicketTagLaw" "TicketTag" code 7 10 394 z.1 z.2) = true := by decide +kernel
def pg_cL1 : List (Nat × ev_I) := [(133, .aload_n 0, 1, 0, 0, 0, []),
  (134, .iload 4, 2, 4, 0, 0, []),
  (136, .iconst 3, 1, 0, 0, 3, []),
  (137, .iadd, 1, 0, 0, 0, []),
  (138, .iaload, 1, 0, 0, 0, []),
  (139, .aload_n 0, 1, 0, 0, 0, []),
  (140, .iload 4, 2, 4, 0, 0, []),
  (142, .iconst 4, 1, 0, 0, 4, []),
  (143, .iadd, 1, 0, 0, 0, []),
  (144, .iaload, 1, 0, 0, 0, []),
  (145, .aload_n 3, 1, 3, 0, 0, []),
  (146, .invokestatic 53, 3, 138, 6, 0, []),
  (149, .istore 5, 2, 5, 0, 0, []),
  (151, .aload_n 2, 1, 2, 0, 0, []),
  (152, .aload_n 0, 1, 0, 0, 0, []),
  (153, .iload 4, 2, 4, 0, 0, []),
  (155, .iconst 1, 1, 0, 0, 1, []),
  (156, .iadd, 1, 0, 0, 0, []),
  (157, .iaload, 1, 0, 0, 0, []),
  (158, .aload_n 0, 1, 0, 0, 0, []),
  (159, .iload 4, 2, 4, 0, 0, []),
  (161, .iconst 2, 1, 0, 0, 2, []),
  (162, .iadd, 1, 0, 0, 0, []),
  (163, .iaload, 1, 0, 0, 0, []),
  (164, .aload_n 0, 1, 0, 0, 0, [])]
theorem pg_kL1 : pg_cL1.all (fun z => ev_ok pg_hs pg_cl pg_mt "TicketTagLaw" "TicketTag" code 7 10 394 z.1 z.2) = true := by decide +kernel
def pg_cL2 : List (Nat × ev_I) := [(165, .iload 4, 2, 4, 0, 0, []),
  (167, .iconst 3, 1, 0, 0, 3, []),
  (168, .iadd, 1, 0, 0, 0, []),
  (169, .iaload, 1, 0, 0, 0, []),
  (170, .aload_n 0, 1, 0, 0, 0, []),
  (171, .iload 4, 2, 4, 0, 0, []),
  (173, .iconst 4, 1, 0, 0, 4, []),
  (174, .iadd, 1, 0, 0, 0, []),
  (175, .iaload, 1, 0, 0, 0, []),
  (176, .invokevirtual 58, 3, 111, 5, 0, [(0, 2)]),
  (179, .istore 6, 2, 6, 0, 0, []),
  (181, .goto 517, 3, 698, 0, 0, []),
  (184, .aload_n 1, 1, 1, 0, 0, []),
  (185, .aload_n 0, 1, 0, 0, 0, []),
  (186, .iload 4, 2, 4, 0, 0, []),
  (188, .iconst 1, 1, 0, 0, 1, []),
  (189, .iadd, 1, 0, 0, 0, []),
  (190, .iaload, 1, 0, 0, 0, []),
  (191, .aload_n 0, 1, 0, 0, 0, []),
  (192, .iload 4, 2, 4, 0, 0, []),
  (194, .iconst 2, 1, 0, 0, 2, []),
  (195, .iadd, 1, 0, 0, 0, []),
  (196, .iaload, 1, 0, 0, 0, []),
  (197, .aload_n 0, 1, 0, 0, 0, []),
  (198, .iload 4, 2, 4, 0, 0, [])]
theorem pg_kL2 : pg_cL2.all (fun z => ev_ok pg_hs pg_cl pg_mt "TicketTagLaw" "TicketTag" code 7 10 394 z.1 z.2) = true := by decide +kernel
def pg_cL3 : List (Nat × ev_I) := [(200, .iconst 3, 1, 0, 0, 3, []),
  (201, .iadd, 1, 0, 0, 0, []),
  (202, .iaload, 1, 0, 0, 0, []),
  (203, .invokestatic 59, 3, 140, 4, 0, []),
  (206, .istore 5, 2, 5, 0, 0, []),
  (208, .aload_n 2, 1, 2, 0, 0, []),
  (209, .aload_n 0, 1, 0, 0, 0, []),
  (210, .iload 4, 2, 4, 0, 0, []),
  (212, .iconst 1, 1, 0, 0, 1, []),
  (213, .iadd, 1, 0, 0, 0, []),
  (214, .iaload, 1, 0, 0, 0, []),
  (215, .aload_n 0, 1, 0, 0, 0, []),
  (216, .iload 4, 2, 4, 0, 0, []),
  (218, .iconst 2, 1, 0, 0, 2, []),
  (219, .iadd, 1, 0, 0, 0, []),
  (220, .iaload, 1, 0, 0, 0, []),
  (221, .aload_n 0, 1, 0, 0, 0, []),
  (222, .iload 4, 2, 4, 0, 0, []),
  (224, .iconst 3, 1, 0, 0, 3, []),
  (225, .iadd, 1, 0, 0, 0, []),
  (226, .iaload, 1, 0, 0, 0, []),
  (227, .invokevirtual 62, 3, 65, 4, 0, [(0, 2)]),
  (230, .goto 468, 3, 698, 0, 0, []),
  (233, .aload_n 1, 1, 1, 0, 0, []),
  (234, .aload_n 0, 1, 0, 0, 0, [])]
theorem pg_kL3 : pg_cL3.all (fun z => ev_ok pg_hs pg_cl pg_mt "TicketTagLaw" "TicketTag" code 7 10 394 z.1 z.2) = true := by decide +kernel
def pg_cL4 : List (Nat × ev_I) := [(235, .iload 4, 2, 4, 0, 0, []),
  (237, .iconst 1, 1, 0, 0, 1, []),
  (238, .iadd, 1, 0, 0, 0, []),
  (239, .iaload, 1, 0, 0, 0, []),
  (240, .aload_n 0, 1, 0, 0, 0, []),
  (241, .iload 4, 2, 4, 0, 0, []),
  (243, .iconst 2, 1, 0, 0, 2, []),
  (244, .iadd, 1, 0, 0, 0, []),
  (245, .iaload, 1, 0, 0, 0, []),
  (246, .ifCond .eq 7, 3, 253, 0, 0, []),
  (249, .iconst 1, 1, 0, 0, 1, []),
  (250, .goto 4, 3, 254, 0, 0, []),
  (253, .iconst 0, 1, 0, 0, 0, []),
  (254, .invokestatic 63, 3, 136, 3, 0, []),
  (257, .istore 5, 2, 5, 0, 0, []),
  (259, .aload_n 2, 1, 2, 0, 0, []),
  (260, .aload_n 0, 1, 0, 0, 0, []),
  (261, .iload 4, 2, 4, 0, 0, []),
  (263, .iconst 1, 1, 0, 0, 1, []),
  (264, .iadd, 1, 0, 0, 0, []),
  (265, .iaload, 1, 0, 0, 0, []),
  (266, .aload_n 0, 1, 0, 0, 0, []),
  (267, .iload 4, 2, 4, 0, 0, []),
  (269, .iconst 2, 1, 0, 0, 2, []),
  (270, .iadd, 1, 0, 0, 0, [])]
theorem pg_kL4 : pg_cL4.all (fun z => ev_ok pg_hs pg_cl pg_mt "TicketTagLaw" "TicketTag" code 7 10 394 z.1 z.2) = true := by decide +kernel
def pg_cL5 : List (Nat × ev_I) := [(271, .iaload, 1, 0, 0, 0, []),
  (272, .ifCond .eq 7, 3, 279, 0, 0, []),
  (275, .iconst 1, 1, 0, 0, 1, []),
  (276, .goto 4, 3, 280, 0, 0, []),
  (279, .iconst 0, 1, 0, 0, 0, []),
  (280, .invokevirtual 66, 3, 59, 3, 0, [(0, 2)]),
  (283, .goto 415, 3, 698, 0, 0, []),
  (286, .aload_n 1, 1, 1, 0, 0, []),
  (287, .aload_n 0, 1, 0, 0, 0, []),
  (288, .iload 4, 2, 4, 0, 0, []),
  (290, .iconst 1, 1, 0, 0, 1, []),
  (291, .iadd, 1, 0, 0, 0, []),
  (292, .iaload, 1, 0, 0, 0, []),
  (293, .aload_n 3, 1, 3, 0, 0, []),
  (294, .invokestatic 67, 3, 139, 3, 0, []),
  (297, .istore 5, 2, 5, 0, 0, []),
  (299, .aload_n 2, 1, 2, 0, 0, []),
  (300, .aload_n 0, 1, 0, 0, 0, []),
  (301, .iload 4, 2, 4, 0, 0, []),
  (303, .iconst 1, 1, 0, 0, 1, []),
  (304, .iadd, 1, 0, 0, 0, []),
  (305, .iaload, 1, 0, 0, 0, []),
  (306, .invokevirtual 70, 3, 124, 2, 0, [(0, 2)]),
  (309, .istore 6, 2, 6, 0, 0, []),
  (311, .goto 387, 3, 698, 0, 0, [])]
theorem pg_kL5 : pg_cL5.all (fun z => ev_ok pg_hs pg_cl pg_mt "TicketTagLaw" "TicketTag" code 7 10 394 z.1 z.2) = true := by decide +kernel
def pg_cL6 : List (Nat × ev_I) := [(314, .aload_n 1, 1, 1, 0, 0, []),
  (315, .aload_n 0, 1, 0, 0, 0, []),
  (316, .iload 4, 2, 4, 0, 0, []),
  (318, .iconst 1, 1, 0, 0, 1, []),
  (319, .iadd, 1, 0, 0, 0, []),
  (320, .iaload, 1, 0, 0, 0, []),
  (321, .aload_n 0, 1, 0, 0, 0, []),
  (322, .iload 4, 2, 4, 0, 0, []),
  (324, .iconst 2, 1, 0, 0, 2, []),
  (325, .iadd, 1, 0, 0, 0, []),
  (326, .iaload, 1, 0, 0, 0, []),
  (327, .aload_n 0, 1, 0, 0, 0, []),
  (328, .iload 4, 2, 4, 0, 0, []),
  (330, .iconst 3, 1, 0, 0, 3, []),
  (331, .iadd, 1, 0, 0, 0, []),
  (332, .iaload, 1, 0, 0, 0, []),
  (333, .aload_n 3, 1, 3, 0, 0, []),
  (334, .invokestatic 71, 3, 143, 5, 0, []),
  (337, .istore 5, 2, 5, 0, 0, []),
  (339, .aload_n 2, 1, 2, 0, 0, []),
  (340, .aload_n 0, 1, 0, 0, 0, []),
  (341, .iload 4, 2, 4, 0, 0, []),
  (343, .iconst 1, 1, 0, 0, 1, []),
  (344, .iadd, 1, 0, 0, 0, []),
  (345, .iaload, 1, 0, 0, 0, [])]
theorem pg_kL6 : pg_cL6.all (fun z => ev_ok pg_hs pg_cl pg_mt "TicketTagLaw" "TicketTag" code 7 10 394 z.1 z.2) = true := by decide +kernel
def pg_cL7 : List (Nat × ev_I) := [(346, .aload_n 0, 1, 0, 0, 0, []),
  (347, .iload 4, 2, 4, 0, 0, []),
  (349, .iconst 2, 1, 0, 0, 2, []),
  (350, .iadd, 1, 0, 0, 0, []),
  (351, .iaload, 1, 0, 0, 0, []),
  (352, .aload_n 0, 1, 0, 0, 0, []),
  (353, .iload 4, 2, 4, 0, 0, []),
  (355, .iconst 3, 1, 0, 0, 3, []),
  (356, .iadd, 1, 0, 0, 0, []),
  (357, .iaload, 1, 0, 0, 0, []),
  (358, .invokevirtual 74, 3, 135, 4, 0, [(0, 2)]),
  (361, .istore 6, 2, 6, 0, 0, []),
  (363, .goto 335, 3, 698, 0, 0, []),
  (366, .aload_n 1, 1, 1, 0, 0, []),
  (367, .aload_n 0, 1, 0, 0, 0, []),
  (368, .iload 4, 2, 4, 0, 0, []),
  (370, .iconst 1, 1, 0, 0, 1, []),
  (371, .iadd, 1, 0, 0, 0, []),
  (372, .iaload, 1, 0, 0, 0, []),
  (373, .aload_n 3, 1, 3, 0, 0, []),
  (374, .invokestatic 75, 3, 142, 3, 0, []),
  (377, .istore 5, 2, 5, 0, 0, []),
  (379, .aload_n 2, 1, 2, 0, 0, []),
  (380, .aload_n 0, 1, 0, 0, 0, []),
  (381, .iload 4, 2, 4, 0, 0, [])]
theorem pg_kL7 : pg_cL7.all (fun z => ev_ok pg_hs pg_cl pg_mt "TicketTagLaw" "TicketTag" code 7 10 394 z.1 z.2) = true := by decide +kernel
def pg_cL8 : List (Nat × ev_I) := [(383, .iconst 1, 1, 0, 0, 1, []),
  (384, .iadd, 1, 0, 0, 0, []),
  (385, .iaload, 1, 0, 0, 0, []),
  (386, .invokevirtual 77, 3, 114, 2, 0, [(0, 2)]),
  (389, .istore 6, 2, 6, 0, 0, []),
  (391, .goto 307, 3, 698, 0, 0, []),
  (394, .aload_n 1, 1, 1, 0, 0, []),
  (395, .invokevirtual 78, 3, 5, 1, 0, [(0, 1)]),
  (398, .pop, 1, 0, 0, 0, []),
  (399, .aload_n 2, 1, 2, 0, 0, []),
  (400, .invokevirtual 82, 3, 29, 1, 0, [(0, 2)]),
  (403, .pop, 1, 0, 0, 0, []),
  (404, .goto 294, 3, 698, 0, 0, []),
  (407, .aload_n 1, 1, 1, 0, 0, []),
  (408, .aload_n 0, 1, 0, 0, 0, []),
  (409, .iload 4, 2, 4, 0, 0, []),
  (411, .iconst 1, 1, 0, 0, 1, []),
  (412, .iadd, 1, 0, 0, 0, []),
  (413, .iaload, 1, 0, 0, 0, []),
  (414, .aload_n 0, 1, 0, 0, 0, []),
  (415, .iload 4, 2, 4, 0, 0, []),
  (417, .iconst 2, 1, 0, 0, 2, []),
  (418, .iadd, 1, 0, 0, 0, []),
  (419, .iaload, 1, 0, 0, 0, []),
  (420, .invokestatic 83, 3, 141, 3, 0, [])]
theorem pg_kL8 : pg_cL8.all (fun z => ev_ok pg_hs pg_cl pg_mt "TicketTagLaw" "TicketTag" code 7 10 394 z.1 z.2) = true := by decide +kernel
def pg_cL9 : List (Nat × ev_I) := [(423, .istore 5, 2, 5, 0, 0, []),
  (425, .aload_n 2, 1, 2, 0, 0, []),
  (426, .aload_n 0, 1, 0, 0, 0, []),
  (427, .iload 4, 2, 4, 0, 0, []),
  (429, .iconst 1, 1, 0, 0, 1, []),
  (430, .iadd, 1, 0, 0, 0, []),
  (431, .iaload, 1, 0, 0, 0, []),
  (432, .aload_n 0, 1, 0, 0, 0, []),
  (433, .iload 4, 2, 4, 0, 0, []),
  (435, .iconst 2, 1, 0, 0, 2, []),
  (436, .iadd, 1, 0, 0, 0, []),
  (437, .iaload, 1, 0, 0, 0, []),
  (438, .invokevirtual 86, 3, 66, 3, 0, [(0, 2)]),
  (441, .aload_n 2, 1, 2, 0, 0, []),
  (442, .invokevirtual 87, 3, 31, 1, 0, [(0, 2)]),
  (445, .iload 5, 2, 5, 0, 0, []),
  (447, .if_icmp .eq 5, 3, 452, 0, 0, []),
  (450, .iconst 0, 1, 0, 0, 0, []),
  (452, .goto 246, 3, 698, 0, 0, []),
  (455, .aload_n 1, 1, 1, 0, 0, []),
  (456, .invokevirtual 90, 3, 36, 1, 0, [(0, 1)]),
  (459, .pop, 1, 0, 0, 0, []),
  (460, .aload_n 2, 1, 2, 0, 0, []),
  (461, .invokevirtual 94, 3, 20, 1, 0, [(0, 2)]),
  (464, .pop, 1, 0, 0, 0, [])]
theorem pg_kL9 : pg_cL9.all (fun z => ev_ok pg_hs pg_cl pg_mt "TicketTagLaw" "TicketTag" code 7 10 394 z.1 z.2) = true := by decide +kernel
def pg_cL10 : List (Nat × ev_I) := [(465, .goto 233, 3, 698, 0, 0, []),
  (468, .aload_n 1, 1, 1, 0, 0, []),
  (469, .invokevirtual 95, 3, 76, 1, 0, [(0, 1)]),
  (472, .pop, 1, 0, 0, 0, []),
  (473, .aload_n 2, 1, 2, 0, 0, []),
  (474, .invokevirtual 98, 3, 85, 1, 0, [(0, 2)]),
  (477, .pop, 1, 0, 0, 0, []),
  (478, .goto 220, 3, 698, 0, 0, []),
  (481, .aload_n 1, 1, 1, 0, 0, []),
  (482, .invokevirtual 99, 3, 103, 1, 0, [(0, 1)]),
  (485, .pop, 1, 0, 0, 0, []),
  (486, .aload_n 2, 1, 2, 0, 0, []),
  (487, .invokevirtual 102, 3, 98, 1, 0, [(0, 2)]),
  (490, .pop, 1, 0, 0, 0, []),
  (491, .goto 207, 3, 698, 0, 0, []),
  (494, .aload_n 1, 1, 1, 0, 0, []),
  (495, .aload_n 0, 1, 0, 0, 0, []),
  (496, .iload 4, 2, 4, 0, 0, []),
  (498, .iconst 1, 1, 0, 0, 1, []),
  (499, .iadd, 1, 0, 0, 0, []),
  (500, .iaload, 1, 0, 0, 0, []),
  (501, .invokevirtual 103, 3, 102, 2, 0, [(0, 1)]),
  (504, .pop, 1, 0, 0, 0, []),
  (505, .aload_n 2, 1, 2, 0, 0, []),
  (506, .aload_n 0, 1, 0, 0, 0, [])]
theorem pg_kL10 : pg_cL10.all (fun z => ev_ok pg_hs pg_cl pg_mt "TicketTagLaw" "TicketTag" code 7 10 394 z.1 z.2) = true := by decide +kernel
def pg_cL11 : List (Nat × ev_I) := [(507, .iload 4, 2, 4, 0, 0, []),
  (509, .iconst 1, 1, 0, 0, 1, []),
  (510, .iadd, 1, 0, 0, 0, []),
  (511, .iaload, 1, 0, 0, 0, []),
  (512, .invokevirtual 106, 3, 97, 2, 0, [(0, 2)]),
  (515, .pop, 1, 0, 0, 0, []),
  (516, .goto 182, 3, 698, 0, 0, []),
  (519, .aload_n 1, 1, 1, 0, 0, []),
  (520, .aload_n 0, 1, 0, 0, 0, []),
  (521, .iload 4, 2, 4, 0, 0, []),
  (523, .iconst 1, 1, 0, 0, 1, []),
  (524, .iadd, 1, 0, 0, 0, []),
  (525, .iaload, 1, 0, 0, 0, []),
  (526, .aload_n 0, 1, 0, 0, 0, []),
  (527, .iload 4, 2, 4, 0, 0, []),
  (529, .iconst 2, 1, 0, 0, 2, []),
  (530, .iadd, 1, 0, 0, 0, []),
  (531, .iaload, 1, 0, 0, 0, []),
  (532, .invokevirtual 107, 3, 116, 3, 0, [(0, 1)]),
  (535, .pop, 1, 0, 0, 0, []),
  (536, .aload_n 2, 1, 2, 0, 0, []),
  (537, .aload_n 0, 1, 0, 0, 0, []),
  (538, .iload 4, 2, 4, 0, 0, []),
  (540, .iconst 1, 1, 0, 0, 1, []),
  (541, .iadd, 1, 0, 0, 0, [])]
theorem pg_kL11 : pg_cL11.all (fun z => ev_ok pg_hs pg_cl pg_mt "TicketTagLaw" "TicketTag" code 7 10 394 z.1 z.2) = true := by decide +kernel
def pg_cL12 : List (Nat × ev_I) := [(542, .iaload, 1, 0, 0, 0, []),
  (543, .aload_n 0, 1, 0, 0, 0, []),
  (544, .iload 4, 2, 4, 0, 0, []),
  (546, .iconst 2, 1, 0, 0, 2, []),
  (547, .iadd, 1, 0, 0, 0, []),
  (548, .iaload, 1, 0, 0, 0, []),
  (549, .invokevirtual 110, 3, 121, 3, 0, [(0, 2)]),
  (552, .pop, 1, 0, 0, 0, []),
  (553, .goto 145, 3, 698, 0, 0, []),
  (556, .aload_n 1, 1, 1, 0, 0, []),
  (557, .aload_n 0, 1, 0, 0, 0, []),
  (558, .iload 4, 2, 4, 0, 0, []),
  (560, .iconst 1, 1, 0, 0, 1, []),
  (561, .iadd, 1, 0, 0, 0, []),
  (562, .iaload, 1, 0, 0, 0, []),
  (563, .invokevirtual 111, 3, 117, 2, 0, [(0, 1)]),
  (566, .pop, 1, 0, 0, 0, []),
  (567, .aload_n 2, 1, 2, 0, 0, []),
  (568, .aload_n 0, 1, 0, 0, 0, []),
  (569, .iload 4, 2, 4, 0, 0, []),
  (571, .iconst 1, 1, 0, 0, 1, []),
  (572, .iadd, 1, 0, 0, 0, []),
  (573, .iaload, 1, 0, 0, 0, []),
  (574, .invokevirtual 114, 3, 122, 2, 0, [(0, 2)]),
  (577, .pop, 1, 0, 0, 0, [])]
theorem pg_kL12 : pg_cL12.all (fun z => ev_ok pg_hs pg_cl pg_mt "TicketTagLaw" "TicketTag" code 7 10 394 z.1 z.2) = true := by decide +kernel
def pg_cL13 : List (Nat × ev_I) := [(578, .goto 120, 3, 698, 0, 0, []),
  (581, .aload_n 1, 1, 1, 0, 0, []),
  (582, .aload_n 0, 1, 0, 0, 0, []),
  (583, .iload 4, 2, 4, 0, 0, []),
  (585, .iconst 1, 1, 0, 0, 1, []),
  (586, .iadd, 1, 0, 0, 0, []),
  (587, .iaload, 1, 0, 0, 0, []),
  (588, .aload_n 0, 1, 0, 0, 0, []),
  (589, .iload 4, 2, 4, 0, 0, []),
  (591, .iconst 2, 1, 0, 0, 2, []),
  (592, .iadd, 1, 0, 0, 0, []),
  (593, .iaload, 1, 0, 0, 0, []),
  (594, .aload_n 0, 1, 0, 0, 0, []),
  (595, .iload 4, 2, 4, 0, 0, []),
  (597, .iconst 3, 1, 0, 0, 3, []),
  (598, .iadd, 1, 0, 0, 0, []),
  (599, .iaload, 1, 0, 0, 0, []),
  (600, .aload_n 3, 1, 3, 0, 0, []),
  (601, .invokestatic 115, 3, 137, 5, 0, []),
  (604, .istore 5, 2, 5, 0, 0, []),
  (606, .aload_n 2, 1, 2, 0, 0, []),
  (607, .aload_n 0, 1, 0, 0, 0, []),
  (608, .iload 4, 2, 4, 0, 0, []),
  (610, .iconst 1, 1, 0, 0, 1, []),
  (611, .iadd, 1, 0, 0, 0, [])]
theorem pg_kL13 : pg_cL13.all (fun z => ev_ok pg_hs pg_cl pg_mt "TicketTagLaw" "TicketTag" code 7 10 394 z.1 z.2) = true := by decide +kernel
def pg_cL14 : List (Nat × ev_I) := [(612, .iaload, 1, 0, 0, 0, []),
  (613, .aload_n 0, 1, 0, 0, 0, []),
  (614, .iload 4, 2, 4, 0, 0, []),
  (616, .iconst 2, 1, 0, 0, 2, []),
  (617, .iadd, 1, 0, 0, 0, []),
  (618, .iaload, 1, 0, 0, 0, []),
  (619, .aload_n 0, 1, 0, 0, 0, []),
  (620, .iload 4, 2, 4, 0, 0, []),
  (622, .iconst 3, 1, 0, 0, 3, []),
  (623, .iadd, 1, 0, 0, 0, []),
  (624, .iaload, 1, 0, 0, 0, []),
  (625, .invokevirtual 117, 3, 120, 4, 0, [(0, 2)]),
  (628, .istore 6, 2, 6, 0, 0, []),
  (630, .goto 68, 3, 698, 0, 0, []),
  (633, .aload_n 1, 1, 1, 0, 0, []),
  (634, .aload_n 0, 1, 0, 0, 0, []),
  (635, .iload 4, 2, 4, 0, 0, []),
  (637, .iconst 1, 1, 0, 0, 1, []),
  (638, .iadd, 1, 0, 0, 0, []),
  (639, .iaload, 1, 0, 0, 0, []),
  (640, .aload_n 0, 1, 0, 0, 0, []),
  (641, .iload 4, 2, 4, 0, 0, []),
  (643, .iconst 2, 1, 0, 0, 2, []),
  (644, .iadd, 1, 0, 0, 0, []),
  (645, .iaload, 1, 0, 0, 0, [])]
theorem pg_kL14 : pg_cL14.all (fun z => ev_ok pg_hs pg_cl pg_mt "TicketTagLaw" "TicketTag" code 7 10 394 z.1 z.2) = true := by decide +kernel
def pg_cL15 : List (Nat × ev_I) := [(646, .aload_n 3, 1, 3, 0, 0, []),
  (647, .invokestatic 118, 3, 144, 4, 0, []),
  (650, .istore 5, 2, 5, 0, 0, []),
  (652, .aload_n 2, 1, 2, 0, 0, []),
  (653, .aload_n 0, 1, 0, 0, 0, []),
  (654, .iload 4, 2, 4, 0, 0, []),
  (656, .iconst 1, 1, 0, 0, 1, []),
  (657, .iadd, 1, 0, 0, 0, []),
  (658, .iaload, 1, 0, 0, 0, []),
  (659, .aload_n 0, 1, 0, 0, 0, []),
  (660, .iload 4, 2, 4, 0, 0, []),
  (662, .iconst 2, 1, 0, 0, 2, []),
  (663, .iadd, 1, 0, 0, 0, []),
  (664, .iaload, 1, 0, 0, 0, []),
  (665, .invokevirtual 121, 3, 68, 3, 0, [(0, 2)]),
  (668, .istore 6, 2, 6, 0, 0, []),
  (670, .goto 28, 3, 698, 0, 0, []),
  (673, .aload_n 1, 1, 1, 0, 0, []),
  (674, .aload_n 0, 1, 0, 0, 0, []),
  (675, .iload 4, 2, 4, 0, 0, []),
  (677, .iconst 1, 1, 0, 0, 1, []),
  (678, .iadd, 1, 0, 0, 0, []),
  (679, .iaload, 1, 0, 0, 0, []),
  (680, .invokevirtual 122, 3, 72, 2, 0, [(0, 1)]),
  (683, .pop, 1, 0, 0, 0, [])]
theorem pg_kL15 : pg_cL15.all (fun z => ev_ok pg_hs pg_cl pg_mt "TicketTagLaw" "TicketTag" code 7 10 394 z.1 z.2) = true := by decide +kernel
def pg_cL16 : List (Nat × ev_I) := [(684, .aload_n 2, 1, 2, 0, 0, []),
  (685, .aload_n 0, 1, 0, 0, 0, []),
  (686, .iload 4, 2, 4, 0, 0, []),
  (688, .iconst 1, 1, 0, 0, 1, []),
  (689, .iadd, 1, 0, 0, 0, []),
  (690, .iaload, 1, 0, 0, 0, []),
  (691, .invokevirtual 125, 3, 82, 2, 0, [(0, 2)]),
  (694, .pop, 1, 0, 0, 0, []),
  (695, .goto 3, 3, 698, 0, 0, []),
  (698, .iinc 4 5, 3, 4, 0, 5, []),
  (701, .goto (-678), 3, 23, 0, 0, []),
  (704, .iconst 1, 1, 0, 0, 1, [])]
theorem pg_kL16 : pg_cL16.all (fun z => ev_ok pg_hs pg_cl pg_mt "TicketTagLaw" "TicketTag" code 7 10 394 z.1 z.2) = true := by decide +kernel
theorem pg_two {f g : Nat → Option ev_I} {P : Nat → ev_I → Prop} (b : Nat) (hf : ∀ pc q, f pc = some q → P pc q) (hg : ∀ pc q, g pc = some q → P pc q) : ∀ pc q, (match Nat.blt pc b with | true => f pc | false => g pc) = some q → P pc q := fun pc q h => by
  split at h
  · exact hf pc q h
  · exact hg pc q h
def pg_n0_1 (pc : Nat) : Option ev_I := ev_lu pg_cL0 pc
theorem pg_p0_1 : ∀ pc q, pg_n0_1 pc = some q → ev_ok pg_hs pg_cl pg_mt "TicketTagLaw" "TicketTag" code 7 10 394 pc q = true := fun pc q h => List.all_eq_true.mp pg_kL0 (pc, q) (ev_lu_mem h)
def pg_n1_2 (pc : Nat) : Option ev_I := ev_lu pg_cL1 pc
theorem pg_p1_2 : ∀ pc q, pg_n1_2 pc = some q → ev_ok pg_hs pg_cl pg_mt "TicketTagLaw" "TicketTag" code 7 10 394 pc q = true := fun pc q h => List.all_eq_true.mp pg_kL1 (pc, q) (ev_lu_mem h)
def pg_n0_2 (pc : Nat) : Option ev_I := match Nat.blt pc 133 with | true => pg_n0_1 pc | false => pg_n1_2 pc
theorem pg_p0_2 : ∀ pc q, pg_n0_2 pc = some q → ev_ok pg_hs pg_cl pg_mt "TicketTagLaw" "TicketTag" code 7 10 394 pc q = true := pg_two 133 pg_p0_1 pg_p1_2
def pg_n2_3 (pc : Nat) : Option ev_I := ev_lu pg_cL2 pc
theorem pg_p2_3 : ∀ pc q, pg_n2_3 pc = some q → ev_ok pg_hs pg_cl pg_mt "TicketTagLaw" "TicketTag" code 7 10 394 pc q = true := fun pc q h => List.all_eq_true.mp pg_kL2 (pc, q) (ev_lu_mem h)
def pg_n3_4 (pc : Nat) : Option ev_I := ev_lu pg_cL3 pc
theorem pg_p3_4 : ∀ pc q, pg_n3_4 pc = some q → ev_ok pg_hs pg_cl pg_mt "TicketTagLaw" "TicketTag" code 7 10 394 pc q = true := fun pc q h => List.all_eq_true.mp pg_kL3 (pc, q) (ev_lu_mem h)
def pg_n2_4 (pc : Nat) : Option ev_I := match Nat.blt pc 200 with | true => pg_n2_3 pc | false => pg_n3_4 pc
theorem pg_p2_4 : ∀ pc q, pg_n2_4 pc = some q → ev_ok pg_hs pg_cl pg_mt "TicketTagLaw" "TicketTag" code 7 10 394 pc q = true := pg_two 200 pg_p2_3 pg_p3_4
def pg_n0_4 (pc : Nat) : Option ev_I := match Nat.blt pc 165 with | true => pg_n0_2 pc | false => pg_n2_4 pc
theorem pg_p0_4 : ∀ pc q, pg_n0_4 pc = some q → ev_ok pg_hs pg_cl pg_mt "TicketTagLaw" "TicketTag" code 7 10 394 pc q = true := pg_two 165 pg_p0_2 pg_p2_4
def pg_n4_5 (pc : Nat) : Option ev_I := ev_lu pg_cL4 pc
theorem pg_p4_5 : ∀ pc q, pg_n4_5 pc = some q → ev_ok pg_hs pg_cl pg_mt "TicketTagLaw" "TicketTag" code 7 10 394 pc q = true := fun pc q h => List.all_eq_true.mp pg_kL4 (pc, q) (ev_lu_mem h)
def pg_n5_6 (pc : Nat) : Option ev_I := ev_lu pg_cL5 pc
theorem pg_p5_6 : ∀ pc q, pg_n5_6 pc = some q → ev_ok pg_hs pg_cl pg_mt "TicketTagLaw" "TicketTag" code 7 10 394 pc q = true := fun pc q h => List.all_eq_true.mp pg_kL5 (pc, q) (ev_lu_mem h)
def pg_n4_6 (pc : Nat) : Option ev_I := match Nat.blt pc 271 with | true => pg_n4_5 pc | false => pg_n5_6 pc
theorem pg_p4_6 : ∀ pc q, pg_n4_6 pc = some q → ev_ok pg_hs pg_cl pg_mt "TicketTagLaw" "TicketTag" code 7 10 394 pc q = true := pg_two 271 pg_p4_5 pg_p5_6
def pg_n6_7 (pc : Nat) : Option ev_I := ev_lu pg_cL6 pc
theorem pg_p6_7 : ∀ pc q, pg_n6_7 pc = some q → ev_ok pg_hs pg_cl pg_mt "TicketTagLaw" "TicketTag" code 7 10 394 pc q = true := fun pc q h => List.all_eq_true.mp pg_kL6 (pc, q) (ev_lu_mem h)
def pg_n7_8 (pc : Nat) : Option ev_I := ev_lu pg_cL7 pc
theorem pg_p7_8 : ∀ pc q, pg_n7_8 pc = some q → ev_ok pg_hs pg_cl pg_mt "TicketTagLaw" "TicketTag" code 7 10 394 pc q = true := fun pc q h => List.all_eq_true.mp pg_kL7 (pc, q) (ev_lu_mem h)
def pg_n6_8 (pc : Nat) : Option ev_I := match Nat.blt pc 346 with | true => pg_n6_7 pc | false => pg_n7_8 pc
theorem pg_p6_8 : ∀ pc q, pg_n6_8 pc = some q → ev_ok pg_hs pg_cl pg_mt "TicketTagLaw" "TicketTag" code 7 10 394 pc q = true := pg_two 346 pg_p6_7 pg_p7_8
def pg_n4_8 (pc : Nat) : Option ev_I := match Nat.blt pc 314 with | true => pg_n4_6 pc | false => pg_n6_8 pc
theorem pg_p4_8 : ∀ pc q, pg_n4_8 pc = some q → ev_ok pg_hs pg_cl pg_mt "TicketTagLaw" "TicketTag" code 7 10 394 pc q = true := pg_two 314 pg_p4_6 pg_p6_8
def pg_n0_8 (pc : Nat) : Option ev_I := match Nat.blt pc 235 with | true => pg_n0_4 pc | false => pg_n4_8 pc
theorem pg_p0_8 : ∀ pc q, pg_n0_8 pc = some q → ev_ok pg_hs pg_cl pg_mt "TicketTagLaw" "TicketTag" code 7 10 394 pc q = true := pg_two 235 pg_p0_4 pg_p4_8
def pg_n8_9 (pc : Nat) : Option ev_I := ev_lu pg_cL8 pc
theorem pg_p8_9 : ∀ pc q, pg_n8_9 pc = some q → ev_ok pg_hs pg_cl pg_mt "TicketTagLaw" "TicketTag" code 7 10 394 pc q = true := fun pc q h => List.all_eq_true.mp pg_kL8 (pc, q) (ev_lu_mem h)
def pg_n9_10 (pc : Nat) : Option ev_I := ev_lu pg_cL9 pc
theorem pg_p9_10 : ∀ pc q, pg_n9_10 pc = some q → ev_ok pg_hs pg_cl pg_mt "TicketTagLaw" "TicketTag" code 7 10 394 pc q = true := fun pc q h => List.all_eq_true.mp pg_kL9 (pc, q) (ev_lu_mem h)
def pg_n8_10 (pc : Nat) : Option ev_I := match Nat.blt pc 423 with | true => pg_n8_9 pc | false => pg_n9_10 pc
theorem pg_p8_10 : ∀ pc q, pg_n8_10 pc = some q → ev_ok pg_hs pg_cl pg_mt "TicketTagLaw" "TicketTag" code 7 10 394 pc q = true := pg_two 423 pg_p8_9 pg_p9_10
def pg_n10_11 (pc : Nat) : Option ev_I := ev_lu pg_cL10 pc
theorem pg_p10_11 : ∀ pc q, pg_n10_11 pc = some q → ev_ok pg_hs pg_cl pg_mt "TicketTagLaw" "TicketTag" code 7 10 394 pc q = true := fun pc q h => List.all_eq_true.mp pg_kL10 (pc, q) (ev_lu_mem h)
def pg_n11_12 (pc : Nat) : Option ev_I := ev_lu pg_cL11 pc
theorem pg_p11_12 : ∀ pc q, pg_n11_12 pc = some q → ev_ok pg_hs pg_cl pg_mt "TicketTagLaw" "TicketTag" code 7 10 394 pc q = true := fun pc q h => List.all_eq_true.mp pg_kL11 (pc, q) (ev_lu_mem h)
def pg_n10_12 (pc : Nat) : Option ev_I := match Nat.blt pc 507 with | true => pg_n10_11 pc | false => pg_n11_12 pc
theorem pg_p10_12 : ∀ pc q, pg_n10_12 pc = some q → ev_ok pg_hs pg_cl pg_mt "TicketTagLaw" "TicketTag" code 7 10 394 pc q = true := pg_two 507 pg_p10_11 pg_p11_12
def pg_n8_12 (pc : Nat) : Option ev_I := match Nat.blt pc 465 with | true => pg_n8_10 pc | false => pg_n10_12 pc
theorem pg_p8_12 : ∀ pc q, pg_n8_12 pc = some q → ev_ok pg_hs pg_cl pg_mt "TicketTagLaw" "TicketTag" code 7 10 394 pc q = true := pg_two 465 pg_p8_10 pg_p10_12
def pg_n12_13 (pc : Nat) : Option ev_I := ev_lu pg_cL12 pc
theorem pg_p12_13 : ∀ pc q, pg_n12_13 pc = some q → ev_ok pg_hs pg_cl pg_mt "TicketTagLaw" "TicketTag" code 7 10 394 pc q = true := fun pc q h => List.all_eq_true.mp pg_kL12 (pc, q) (ev_lu_mem h)
def pg_n13_14 (pc : Nat) : Option ev_I := ev_lu pg_cL13 pc
theorem pg_p13_14 : ∀ pc q, pg_n13_14 pc = some q → ev_ok pg_hs pg_cl pg_mt "TicketTagLaw" "TicketTag" code 7 10 394 pc q = true := fun pc q h => List.all_eq_true.mp pg_kL13 (pc, q) (ev_lu_mem h)
def pg_n12_14 (pc : Nat) : Option ev_I := match Nat.blt pc 578 with | true => pg_n12_13 pc | false => pg_n13_14 pc
theorem pg_p12_14 : ∀ pc q, pg_n12_14 pc = some q → ev_ok pg_hs pg_cl pg_mt "TicketTagLaw" "TicketTag" code 7 10 394 pc q = true := pg_two 578 pg_p12_13 pg_p13_14
def pg_n14_15 (pc : Nat) : Option ev_I := ev_lu pg_cL14 pc
theorem pg_p14_15 : ∀ pc q, pg_n14_15 pc = some q → ev_ok pg_hs pg_cl pg_mt "TicketTagLaw" "TicketTag" code 7 10 394 pc q = true := fun pc q h => List.all_eq_true.mp pg_kL14 (pc, q) (ev_lu_mem h)
def pg_n15_16 (pc : Nat) : Option ev_I := ev_lu pg_cL15 pc
theorem pg_p15_16 : ∀ pc q, pg_n15_16 pc = some q → ev_ok pg_hs pg_cl pg_mt "TicketTagLaw" "TicketTag" code 7 10 394 pc q = true := fun pc q h => List.all_eq_true.mp pg_kL15 (pc, q) (ev_lu_mem h)
def pg_n16_17 (pc : Nat) : Option ev_I := ev_lu pg_cL16 pc
theorem pg_p16_17 : ∀ pc q, pg_n16_17 pc = some q → ev_ok pg_hs pg_cl pg_mt "TicketTagLaw" "TicketTag" code 7 10 394 pc q = true := fun pc q h => List.all_eq_true.mp pg_kL16 (pc, q) (ev_lu_mem h)
def pg_n15_17 (pc : Nat) : Option ev_I := match Nat.blt pc 684 with | true => pg_n15_16 pc | false => pg_n16_17 pc
theorem pg_p15_17 : ∀ pc q, pg_n15_17 pc = some q → ev_ok pg_hs pg_cl pg_mt "TicketTagLaw" "TicketTag" code 7 10 394 pc q = true := pg_two 684 pg_p15_16 pg_p16_17
def pg_n14_17 (pc : Nat) : Option ev_I := match Nat.blt pc 646 with | true => pg_n14_15 pc | false => pg_n15_17 pc
theorem pg_p14_17 : ∀ pc q, pg_n14_17 pc = some q → ev_ok pg_hs pg_cl pg_mt "TicketTagLaw" "TicketTag" code 7 10 394 pc q = true := pg_two 646 pg_p14_15 pg_p15_17
def pg_n12_17 (pc : Nat) : Option ev_I := match Nat.blt pc 612 with | true => pg_n12_14 pc | false => pg_n14_17 pc
theorem pg_p12_17 : ∀ pc q, pg_n12_17 pc = some q → ev_ok pg_hs pg_cl pg_mt "TicketTagLaw" "TicketTag" code 7 10 394 pc q = true := pg_two 612 pg_p12_14 pg_p14_17
def pg_n8_17 (pc : Nat) : Option ev_I := match Nat.blt pc 542 with | true => pg_n8_12 pc | false => pg_n12_17 pc
theorem pg_p8_17 : ∀ pc q, pg_n8_17 pc = some q → ev_ok pg_hs pg_cl pg_mt "TicketTagLaw" "TicketTag" code 7 10 394 pc q = true := pg_two 542 pg_p8_12 pg_p12_17
def pg_n0_17 (pc : Nat) : Option ev_I := match Nat.blt pc 383 with | true => pg_n0_8 pc | false => pg_n8_17 pc
theorem pg_p0_17 : ∀ pc q, pg_n0_17 pc = some q → ev_ok pg_hs pg_cl pg_mt "TicketTagLaw" "TicketTag" code 7 10 394 pc q = true := pg_two 383 pg_p0_8 pg_p8_17
def pg_dL (pc : Nat) : Option ev_I := pg_n0_17 pc
theorem pg_oL : ∀ pc q, pg_dL pc = some q → ev_ok pg_hs pg_cl pg_mt "TicketTagLaw" "TicketTag" code 7 10 394 pc q = true := pg_p0_17
