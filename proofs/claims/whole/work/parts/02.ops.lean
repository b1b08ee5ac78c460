abbrev e_Op : Type := Nat × Instr × Int32 × Nat × Nat × Nat
def kL_law_156 : List e_Op := [(156, .aload_n 1, 0, 1, 0, 0), (157, .aload_n 0, 0, 0, 0, 0), (158, .iload_n 3, 0, 3, 0, 0), (159, .iconst 1, 1, 0, 0, 0), (160, .iadd, 0, 0, 0, 0), (161, .iaload, 0, 0, 0, 0), (162, .invokevirtual 13, 0, 186, 2, 49), (165, .aload_n 2, 0, 2, 0, 0), (166, .aload_n 0, 0, 0, 0, 0), (167, .iload_n 3, 0, 3, 0, 0), (168, .iconst 1, 1, 0, 0, 0), (169, .iadd, 0, 0, 0, 0), (170, .iaload, 0, 0, 0, 0), (171, .invokevirtual 17, 0, 333, 2, 98), (174, .if_icmp .eq 726, 0, 29, 0, 0), (177, .iconst 0, 0, 0, 0, 0), (178, .ireturn, 0, 1, 0, 0)]
def kL_law_179 : List e_Op := [(179, .aload_n 1, 0, 1, 0, 0), (180, .aload_n 0, 0, 0, 0, 0), (181, .iload_n 3, 0, 3, 0, 0), (182, .iconst 1, 1, 0, 0, 0), (183, .iadd, 0, 0, 0, 0), (184, .iaload, 0, 0, 0, 0), (185, .aload_n 0, 0, 0, 0, 0), (186, .iload_n 3, 0, 3, 0, 0), (187, .iconst 2, 2, 0, 0, 0), (188, .iadd, 0, 0, 0, 0), (189, .iaload, 0, 0, 0, 0), (190, .aload_n 0, 0, 0, 0, 0), (191, .iload_n 3, 0, 3, 0, 0), (192, .iconst 3, 3, 0, 0, 0), (193, .iadd, 0, 0, 0, 0), (194, .iaload, 0, 0, 0, 0), (195, .aload_n 0, 0, 0, 0, 0), (196, .iload_n 3, 0, 3, 0, 0), (197, .iconst 4, 4, 0, 0, 0), (198, .iadd, 0, 0, 0, 0), (199, .iaload, 0, 0, 0, 0), (200, .invokevirtual 18, 0, 188, 5, 50), (203, .aload_n 2, 0, 2, 0, 0), (204, .aload_n 0, 0, 0, 0, 0), (205, .iload_n 3, 0, 3, 0, 0), (206, .iconst 1, 1, 0, 0, 0), (207, .iadd, 0, 0, 0, 0), (208, .iaload, 0, 0, 0, 0), (209, .aload_n 0, 0, 0, 0, 0), (210, .iload_n 3, 0, 3, 0, 0), (211, .iconst 2, 2, 0, 0, 0), (212, .iadd, 0, 0, 0, 0), (213, .iaload, 0, 0, 0, 0), (214, .aload_n 0, 0, 0, 0, 0), (215, .iload_n 3, 0, 3, 0, 0), (216, .iconst 3, 3, 0, 0, 0), (217, .iadd, 0, 0, 0, 0), (218, .iaload, 0, 0, 0, 0), (219, .aload_n 0, 0, 0, 0, 0), (220, .iload_n 3, 0, 3, 0, 0), (221, .iconst 4, 4, 0, 0, 0), (222, .iadd, 0, 0, 0, 0), (223, .iaload, 0, 0, 0, 0), (224, .invokevirtual 22, 0, 338, 5, 100), (227, .if_icmp .eq 673, 0, 29, 0, 0), (230, .iconst 0, 0, 0, 0, 0), (231, .ireturn, 0, 1, 0, 0)]
def kL_law_232 : List e_Op := [(232, .aload_n 1, 0, 1, 0, 0), (233, .aload_n 0, 0, 0, 0, 0), (234, .iload_n 3, 0, 3, 0, 0), (235, .iconst 1, 1, 0, 0, 0), (236, .iadd, 0, 0, 0, 0), (237, .iaload, 0, 0, 0, 0), (238, .aload_n 0, 0, 0, 0, 0), (239, .iload_n 3, 0, 3, 0, 0), (240, .iconst 2, 2, 0, 0, 0), (241, .iadd, 0, 0, 0, 0), (242, .iaload, 0, 0, 0, 0), (243, .aload_n 0, 0, 0, 0, 0), (244, .iload_n 3, 0, 3, 0, 0), (245, .iconst 3, 3, 0, 0, 0), (246, .iadd, 0, 0, 0, 0), (247, .iaload, 0, 0, 0, 0), (248, .invokevirtual 23, 0, 192, 4, 51), (251, .aload_n 2, 0, 2, 0, 0), (252, .aload_n 0, 0, 0, 0, 0), (253, .iload_n 3, 0, 3, 0, 0), (254, .iconst 1, 1, 0, 0, 0), (255, .iadd, 0, 0, 0, 0), (256, .iaload, 0, 0, 0, 0), (257, .aload_n 0, 0, 0, 0, 0), (258, .iload_n 3, 0, 3, 0, 0), (259, .iconst 2, 2, 0, 0, 0), (260, .iadd, 0, 0, 0, 0), (261, .iaload, 0, 0, 0, 0), (262, .aload_n 0, 0, 0, 0, 0), (263, .iload_n 3, 0, 3, 0, 0), (264, .iconst 3, 3, 0, 0, 0), (265, .iadd, 0, 0, 0, 0), (266, .iaload, 0, 0, 0, 0), (267, .invokevirtual 27, 0, 344, 4, 101), (270, .if_icmp .eq 630, 0, 29, 0, 0), (273, .iconst 0, 0, 0, 0, 0), (274, .ireturn, 0, 1, 0, 0)]
def kL_law_275 : List e_Op := [(275, .aload_n 1, 0, 1, 0, 0), (276, .aload_n 0, 0, 0, 0, 0), (277, .iload_n 3, 0, 3, 0, 0), (278, .iconst 1, 1, 0, 0, 0), (279, .iadd, 0, 0, 0, 0), (280, .iaload, 0, 0, 0, 0), (281, .aload_n 0, 0, 0, 0, 0), (282, .iload_n 3, 0, 3, 0, 0), (283, .iconst 2, 2, 0, 0, 0), (284, .iadd, 0, 0, 0, 0), (285, .iaload, 0, 0, 0, 0), (286, .invokevirtual 28, 0, 195, 3, 52), (289, .aload_n 2, 0, 2, 0, 0), (290, .aload_n 0, 0, 0, 0, 0), (291, .iload_n 3, 0, 3, 0, 0), (292, .iconst 1, 1, 0, 0, 0), (293, .iadd, 0, 0, 0, 0), (294, .iaload, 0, 0, 0, 0), (295, .aload_n 0, 0, 0, 0, 0), (296, .iload_n 3, 0, 3, 0, 0), (297, .iconst 2, 2, 0, 0, 0), (298, .iadd, 0, 0, 0, 0), (299, .iaload, 0, 0, 0, 0), (300, .invokevirtual 32, 0, 347, 3, 102), (303, .if_icmp .eq 597, 0, 29, 0, 0), (306, .iconst 0, 0, 0, 0, 0), (307, .ireturn, 0, 1, 0, 0)]
def kL_law_308 : List e_Op := [(308, .aload_n 1, 0, 1, 0, 0), (309, .aload_n 0, 0, 0, 0, 0), (310, .iload_n 3, 0, 3, 0, 0), (311, .iconst 1, 1, 0, 0, 0), (312, .iadd, 0, 0, 0, 0), (313, .iaload, 0, 0, 0, 0), (314, .invokevirtual 33, 0, 198, 2, 53), (317, .aload_n 2, 0, 2, 0, 0), (318, .aload_n 0, 0, 0, 0, 0), (319, .iload_n 3, 0, 3, 0, 0), (320, .iconst 1, 1, 0, 0, 0), (321, .iadd, 0, 0, 0, 0), (322, .iaload, 0, 0, 0, 0), (323, .invokevirtual 36, 0, 350, 2, 103), (326, .if_icmp .eq 574, 0, 29, 0, 0), (329, .iconst 0, 0, 0, 0, 0), (330, .ireturn, 0, 1, 0, 0)]
def kL_law_331 : List e_Op := [(331, .aload_n 1, 0, 1, 0, 0), (332, .invokevirtual 37, 0, 201, 1, 54), (335, .aload_n 2, 0, 2, 0, 0), (336, .invokevirtual 41, 0, 353, 1, 104), (339, .if_icmp .eq 561, 0, 29, 0, 0), (342, .iconst 0, 0, 0, 0, 0), (343, .ireturn, 0, 1, 0, 0)]
def kL_law_344 : List e_Op := [(344, .aload_n 1, 0, 1, 0, 0), (345, .invokevirtual 42, 0, 202, 1, 55), (348, .aload_n 2, 0, 2, 0, 0), (349, .invokevirtual 45, 0, 379, 1, 109), (352, .if_icmp .eq 548, 0, 29, 0, 0), (355, .iconst 0, 0, 0, 0, 0), (356, .ireturn, 0, 1, 0, 0)]
def kL_law_357 : List e_Op := [(357, .aload_n 1, 0, 1, 0, 0), (358, .aload_n 0, 0, 0, 0, 0), (359, .iload_n 3, 0, 3, 0, 0), (360, .iconst 1, 1, 0, 0, 0), (361, .iadd, 0, 0, 0, 0), (362, .iaload, 0, 0, 0, 0), (363, .aload_n 0, 0, 0, 0, 0), (364, .iload_n 3, 0, 3, 0, 0), (365, .iconst 2, 2, 0, 0, 0), (366, .iadd, 0, 0, 0, 0), (367, .iaload, 0, 0, 0, 0), (368, .aload_n 0, 0, 0, 0, 0), (369, .iload_n 3, 0, 3, 0, 0), (370, .iconst 3, 3, 0, 0, 0), (371, .iadd, 0, 0, 0, 0), (372, .iaload, 0, 0, 0, 0), (373, .aload_n 0, 0, 0, 0, 0), (374, .iload_n 3, 0, 3, 0, 0), (375, .iconst 4, 4, 0, 0, 0), (376, .iadd, 0, 0, 0, 0), (377, .iaload, 0, 0, 0, 0), (378, .aload_n 0, 0, 0, 0, 0), (379, .iload_n 3, 0, 3, 0, 0), (380, .iconst 5, 5, 0, 0, 0), (381, .iadd, 0, 0, 0, 0), (382, .iaload, 0, 0, 0, 0), (383, .invokevirtual 46, 0, 204, 6, 56), (386, .aload_n 2, 0, 2, 0, 0), (387, .aload_n 0, 0, 0, 0, 0), (388, .iload_n 3, 0, 3, 0, 0), (389, .iconst 1, 1, 0, 0, 0), (390, .iadd, 0, 0, 0, 0), (391, .iaload, 0, 0, 0, 0), (392, .aload_n 0, 0, 0, 0, 0), (393, .iload_n 3, 0, 3, 0, 0), (394, .iconst 2, 2, 0, 0, 0), (395, .iadd, 0, 0, 0, 0), (396, .iaload, 0, 0, 0, 0), (397, .aload_n 0, 0, 0, 0, 0), (398, .iload_n 3, 0, 3, 0, 0), (399, .iconst 3, 3, 0, 0, 0), (400, .iadd, 0, 0, 0, 0), (401, .iaload, 0, 0, 0, 0), (402, .aload_n 0, 0, 0, 0, 0), (403, .iload_n 3, 0, 3, 0, 0), (404, .iconst 4, 4, 0, 0, 0), (405, .iadd, 0, 0, 0, 0), (406, .iaload, 0, 0, 0, 0), (407, .aload_n 0, 0, 0, 0, 0), (408, .iload_n 3, 0, 3, 0, 0), (409, .iconst 5, 5, 0, 0, 0), (410, .iadd, 0, 0, 0, 0), (411, .iaload, 0, 0, 0, 0), (412, .invokevirtual 50, 0, 387, 6, 110), (415, .if_icmp .eq 485, 0, 29, 0, 0), (418, .iconst 0, 0, 0, 0, 0), (419, .ireturn, 0, 1, 0, 0)]
def kL_law_420 : List e_Op := [(420, .aload_n 1, 0, 1, 0, 0), (421, .aload_n 0, 0, 0, 0, 0), (422, .iload_n 3, 0, 3, 0, 0), (423, .iconst 1, 1, 0, 0, 0), (424, .iadd, 0, 0, 0, 0), (425, .iaload, 0, 0, 0, 0), (426, .aload_n 0, 0, 0, 0, 0), (427, .iload_n 3, 0, 3, 0, 0), (428, .iconst 2, 2, 0, 0, 0), (429, .iadd, 0, 0, 0, 0), (430, .iaload, 0, 0, 0, 0), (431, .invokevirtual 51, 0, 210, 3, 57), (434, .aload_n 2, 0, 2, 0, 0), (435, .aload_n 0, 0, 0, 0, 0), (436, .iload_n 3, 0, 3, 0, 0), (437, .iconst 1, 1, 0, 0, 0), (438, .iadd, 0, 0, 0, 0), (439, .iaload, 0, 0, 0, 0), (440, .aload_n 0, 0, 0, 0, 0), (441, .iload_n 3, 0, 3, 0, 0), (442, .iconst 2, 2, 0, 0, 0), (443, .iadd, 0, 0, 0, 0), (444, .iaload, 0, 0, 0, 0), (445, .invokevirtual 54, 0, 395, 3, 112), (448, .if_icmp .eq 452, 0, 29, 0, 0), (451, .iconst 0, 0, 0, 0, 0), (452, .ireturn, 0, 1, 0, 0)]
def kL_law_453 : List e_Op := [(453, .aload_n 1, 0, 1, 0, 0), (454, .aload_n 0, 0, 0, 0, 0), (455, .iload_n 3, 0, 3, 0, 0), (456, .iconst 1, 1, 0, 0, 0), (457, .iadd, 0, 0, 0, 0), (458, .iaload, 0, 0, 0, 0), (459, .aload_n 0, 0, 0, 0, 0), (460, .iload_n 3, 0, 3, 0, 0), (461, .iconst 2, 2, 0, 0, 0), (462, .iadd, 0, 0, 0, 0), (463, .iaload, 0, 0, 0, 0), (464, .aload_n 0, 0, 0, 0, 0), (465, .iload_n 3, 0, 3, 0, 0), (466, .iconst 3, 3, 0, 0, 0), (467, .iadd, 0, 0, 0, 0), (468, .iaload, 0, 0, 0, 0), (469, .aload_n 0, 0, 0, 0, 0), (470, .iload_n 3, 0, 3, 0, 0), (471, .iconst 4, 4, 0, 0, 0), (472, .iadd, 0, 0, 0, 0), (473, .iaload, 0, 0, 0, 0), (474, .aload_n 0, 0, 0, 0, 0), (475, .iload_n 3, 0, 3, 0, 0), (476, .iconst 5, 5, 0, 0, 0), (477, .iadd, 0, 0, 0, 0), (478, .iaload, 0, 0, 0, 0), (479, .aload_n 0, 0, 0, 0, 0), (480, .iload_n 3, 0, 3, 0, 0), (481, .bipush 6, 6, 0, 0, 0), (483, .iadd, 0, 0, 0, 0), (484, .iaload, 0, 0, 0, 0), (485, .invokevirtual 55, 0, 213, 7, 58), (488, .aload_n 2, 0, 2, 0, 0), (489, .aload_n 0, 0, 0, 0, 0), (490, .iload_n 3, 0, 3, 0, 0), (491, .iconst 1, 1, 0, 0, 0), (492, .iadd, 0, 0, 0, 0), (493, .iaload, 0, 0, 0, 0), (494, .aload_n 0, 0, 0, 0, 0), (495, .iload_n 3, 0, 3, 0, 0), (496, .iconst 2, 2, 0, 0, 0), (497, .iadd, 0, 0, 0, 0), (498, .iaload, 0, 0, 0, 0), (499, .aload_n 0, 0, 0, 0, 0), (500, .iload_n 3, 0, 3, 0, 0), (501, .iconst 3, 3, 0, 0, 0), (502, .iadd, 0, 0, 0, 0), (503, .iaload, 0, 0, 0, 0), (504, .aload_n 0, 0, 0, 0, 0), (505, .iload_n 3, 0, 3, 0, 0), (506, .iconst 4, 4, 0, 0, 0), (507, .iadd, 0, 0, 0, 0), (508, .iaload, 0, 0, 0, 0), (509, .aload_n 0, 0, 0, 0, 0), (510, .iload_n 3, 0, 3, 0, 0), (511, .iconst 5, 5, 0, 0, 0), (512, .iadd, 0, 0, 0, 0), (513, .iaload, 0, 0, 0, 0), (514, .aload_n 0, 0, 0, 0, 0), (515, .iload_n 3, 0, 3, 0, 0), (516, .bipush 6, 6, 0, 0, 0), (518, .iadd, 0, 0, 0, 0), (519, .iaload, 0, 0, 0, 0), (520, .invokevirtual 59, 0, 399, 7, 113), (523, .if_icmp .eq 377, 0, 29, 0, 0), (526, .iconst 0, 0, 0, 0, 0), (527, .ireturn, 0, 1, 0, 0)]
def kL_law_528 : List e_Op := [(528, .aload_n 1, 0, 1, 0, 0), (529, .aload_n 0, 0, 0, 0, 0), (530, .iload_n 3, 0, 3, 0, 0), (531, .iconst 1, 1, 0, 0, 0), (532, .iadd, 0, 0, 0, 0), (533, .iaload, 0, 0, 0, 0), (534, .aload_n 0, 0, 0, 0, 0), (535, .iload_n 3, 0, 3, 0, 0), (536, .iconst 2, 2, 0, 0, 0), (537, .iadd, 0, 0, 0, 0), (538, .iaload, 0, 0, 0, 0), (539, .invokevirtual 60, 0, 217, 3, 59), (542, .aload_n 2, 0, 2, 0, 0), (543, .aload_n 0, 0, 0, 0, 0), (544, .iload_n 3, 0, 3, 0, 0), (545, .iconst 1, 1, 0, 0, 0), (546, .iadd, 0, 0, 0, 0), (547, .iaload, 0, 0, 0, 0), (548, .aload_n 0, 0, 0, 0, 0), (549, .iload_n 3, 0, 3, 0, 0), (550, .iconst 2, 2, 0, 0, 0), (551, .iadd, 0, 0, 0, 0), (552, .iaload, 0, 0, 0, 0), (553, .invokevirtual 63, 0, 409, 3, 114), (556, .if_icmp .eq 344, 0, 29, 0, 0), (559, .iconst 0, 0, 0, 0, 0), (560, .ireturn, 0, 1, 0, 0)]
def kL_law_561 : List e_Op := [(561, .aload_n 1, 0, 1, 0, 0), (562, .aload_n 0, 0, 0, 0, 0), (563, .iload_n 3, 0, 3, 0, 0), (564, .iconst 1, 1, 0, 0, 0), (565, .iadd, 0, 0, 0, 0), (566, .iaload, 0, 0, 0, 0), (567, .invokevirtual 64, 0, 222, 2, 60), (570, .aload_n 2, 0, 2, 0, 0), (571, .aload_n 0, 0, 0, 0, 0), (572, .iload_n 3, 0, 3, 0, 0), (573, .iconst 1, 1, 0, 0, 0), (574, .iadd, 0, 0, 0, 0), (575, .iaload, 0, 0, 0, 0), (576, .invokevirtual 67, 0, 489, 2, 126), (579, .if_icmp .eq 321, 0, 29, 0, 0), (582, .iconst 0, 0, 0, 0, 0), (583, .ireturn, 0, 1, 0, 0)]
def kL_law_584 : List e_Op := [(584, .aload_n 1, 0, 1, 0, 0), (585, .invokevirtual 68, 0, 227, 1, 61), (588, .aload_n 2, 0, 2, 0, 0), (589, .invokevirtual 71, 0, 493, 1, 127), (592, .if_icmp .eq 308, 0, 29, 0, 0), (595, .iconst 0, 0, 0, 0, 0), (596, .ireturn, 0, 1, 0, 0)]
def kL_law_597 : List e_Op := [(597, .aload_n 1, 0, 1, 0, 0), (598, .aload_n 0, 0, 0, 0, 0), (599, .iload_n 3, 0, 3, 0, 0), (600, .iconst 1, 1, 0, 0, 0), (601, .iadd, 0, 0, 0, 0), (602, .iaload, 0, 0, 0, 0), (603, .invokevirtual 72, 0, 237, 2, 63), (606, .aload_n 2, 0, 2, 0, 0), (607, .aload_n 0, 0, 0, 0, 0), (608, .iload_n 3, 0, 3, 0, 0), (609, .iconst 1, 1, 0, 0, 0), (610, .iadd, 0, 0, 0, 0), (611, .iaload, 0, 0, 0, 0), (612, .invokevirtual 75, 0, 494, 2, 128), (615, .if_icmp .eq 285, 0, 29, 0, 0), (618, .iconst 0, 0, 0, 0, 0), (619, .ireturn, 0, 1, 0, 0)]
def kL_law_620 : List e_Op := [(620, .aload_n 1, 0, 1, 0, 0), (621, .aload_n 0, 0, 0, 0, 0), (622, .iload_n 3, 0, 3, 0, 0), (623, .iconst 1, 1, 0, 0, 0), (624, .iadd, 0, 0, 0, 0), (625, .iaload, 0, 0, 0, 0), (626, .invokevirtual 76, 0, 239, 2, 64), (629, .aload_n 2, 0, 2, 0, 0), (630, .aload_n 0, 0, 0, 0, 0), (631, .iload_n 3, 0, 3, 0, 0), (632, .iconst 1, 1, 0, 0, 0), (633, .iadd, 0, 0, 0, 0), (634, .iaload, 0, 0, 0, 0), (635, .invokevirtual 79, 0, 496, 2, 129), (638, .if_icmp .eq 262, 0, 29, 0, 0), (641, .iconst 0, 0, 0, 0, 0), (642, .ireturn, 0, 1, 0, 0)]
def kL_law_643 : List e_Op := [(643, .aload_n 1, 0, 1, 0, 0), (644, .aload_n 0, 0, 0, 0, 0), (645, .iload_n 3, 0, 3, 0, 0), (646, .iconst 1, 1, 0, 0, 0), (647, .iadd, 0, 0, 0, 0), (648, .iaload, 0, 0, 0, 0), (649, .invokevirtual 80, 0, 241, 2, 65), (652, .aload_n 2, 0, 2, 0, 0), (653, .aload_n 0, 0, 0, 0, 0), (654, .iload_n 3, 0, 3, 0, 0), (655, .iconst 1, 1, 0, 0, 0), (656, .iadd, 0, 0, 0, 0), (657, .iaload, 0, 0, 0, 0), (658, .invokevirtual 83, 0, 498, 2, 130), (661, .if_icmp .eq 239, 0, 29, 0, 0), (664, .iconst 0, 0, 0, 0, 0), (665, .ireturn, 0, 1, 0, 0)]
def kL_law_666 : List e_Op := [(666, .aload_n 1, 0, 1, 0, 0), (667, .aload_n 0, 0, 0, 0, 0), (668, .iload_n 3, 0, 3, 0, 0), (669, .iconst 1, 1, 0, 0, 0), (670, .iadd, 0, 0, 0, 0), (671, .iaload, 0, 0, 0, 0), (672, .invokevirtual 84, 0, 243, 2, 66), (675, .aload_n 2, 0, 2, 0, 0), (676, .aload_n 0, 0, 0, 0, 0), (677, .iload_n 3, 0, 3, 0, 0), (678, .iconst 1, 1, 0, 0, 0), (679, .iadd, 0, 0, 0, 0), (680, .iaload, 0, 0, 0, 0), (681, .invokevirtual 87, 0, 503, 2, 132), (684, .if_icmp .eq 216, 0, 29, 0, 0), (687, .iconst 0, 0, 0, 0, 0), (688, .ireturn, 0, 1, 0, 0)]
def kL_law_689 : List e_Op := [(689, .aload_n 1, 0, 1, 0, 0), (690, .aload_n 0, 0, 0, 0, 0), (691, .iload_n 3, 0, 3, 0, 0), (692, .iconst 1, 1, 0, 0, 0), (693, .iadd, 0, 0, 0, 0), (694, .iaload, 0, 0, 0, 0), (695, .invokevirtual 88, 0, 246, 2, 67), (698, .aload_n 2, 0, 2, 0, 0), (699, .aload_n 0, 0, 0, 0, 0), (700, .iload_n 3, 0, 3, 0, 0), (701, .iconst 1, 1, 0, 0, 0), (702, .iadd, 0, 0, 0, 0), (703, .iaload, 0, 0, 0, 0), (704, .invokevirtual 91, 0, 504, 2, 133), (707, .if_icmp .eq 193, 0, 29, 0, 0), (710, .iconst 0, 0, 0, 0, 0), (711, .ireturn, 0, 1, 0, 0)]
def kL_law_712 : List e_Op := [(712, .aload_n 1, 0, 1, 0, 0), (713, .aload_n 0, 0, 0, 0, 0), (714, .iload_n 3, 0, 3, 0, 0), (715, .iconst 1, 1, 0, 0, 0), (716, .iadd, 0, 0, 0, 0), (717, .iaload, 0, 0, 0, 0), (718, .invokevirtual 92, 0, 249, 2, 68), (721, .aload_n 2, 0, 2, 0, 0), (722, .aload_n 0, 0, 0, 0, 0), (723, .iload_n 3, 0, 3, 0, 0), (724, .iconst 1, 1, 0, 0, 0), (725, .iadd, 0, 0, 0, 0), (726, .iaload, 0, 0, 0, 0), (727, .invokevirtual 95, 0, 505, 2, 134), (730, .if_icmp .eq 170, 0, 29, 0, 0), (733, .iconst 0, 0, 0, 0, 0), (734, .ireturn, 0, 1, 0, 0)]
def kL_law_735 : List e_Op := [(735, .aload_n 1, 0, 1, 0, 0), (736, .aload_n 0, 0, 0, 0, 0), (737, .iload_n 3, 0, 3, 0, 0), (738, .iconst 1, 1, 0, 0, 0), (739, .iadd, 0, 0, 0, 0), (740, .iaload, 0, 0, 0, 0), (741, .invokevirtual 96, 0, 252, 2, 69), (744, .aload_n 2, 0, 2, 0, 0), (745, .aload_n 0, 0, 0, 0, 0), (746, .iload_n 3, 0, 3, 0, 0), (747, .iconst 1, 1, 0, 0, 0), (748, .iadd, 0, 0, 0, 0), (749, .iaload, 0, 0, 0, 0), (750, .invokevirtual 99, 0, 506, 2, 135), (753, .if_icmp .eq 147, 0, 29, 0, 0), (756, .iconst 0, 0, 0, 0, 0), (757, .ireturn, 0, 1, 0, 0)]
def kL_law_758 : List e_Op := [(758, .aload_n 1, 0, 1, 0, 0), (759, .aload_n 0, 0, 0, 0, 0), (760, .iload_n 3, 0, 3, 0, 0), (761, .iconst 1, 1, 0, 0, 0), (762, .iadd, 0, 0, 0, 0), (763, .iaload, 0, 0, 0, 0), (764, .invokevirtual 100, 0, 255, 2, 70), (767, .aload_n 2, 0, 2, 0, 0), (768, .aload_n 0, 0, 0, 0, 0), (769, .iload_n 3, 0, 3, 0, 0), (770, .iconst 1, 1, 0, 0, 0), (771, .iadd, 0, 0, 0, 0), (772, .iaload, 0, 0, 0, 0), (773, .invokevirtual 103, 0, 507, 2, 136), (776, .if_icmp .eq 124, 0, 29, 0, 0), (779, .iconst 0, 0, 0, 0, 0), (780, .ireturn, 0, 1, 0, 0)]
def kL_law_781 : List e_Op := [(781, .aload_n 1, 0, 1, 0, 0), (782, .invokevirtual 104, 0, 258, 1, 71), (785, .aload_n 2, 0, 2, 0, 0), (786, .invokevirtual 107, 0, 508, 1, 137), (789, .if_icmp .eq 111, 0, 29, 0, 0), (792, .iconst 0, 0, 0, 0, 0), (793, .ireturn, 0, 1, 0, 0)]
def kL_law_794 : List e_Op := [(794, .aload_n 1, 0, 1, 0, 0), (795, .aload_n 0, 0, 0, 0, 0), (796, .iload_n 3, 0, 3, 0, 0), (797, .iconst 1, 1, 0, 0, 0), (798, .iadd, 0, 0, 0, 0), (799, .iaload, 0, 0, 0, 0), (800, .invokevirtual 108, 0, 259, 2, 72), (803, .aload_n 2, 0, 2, 0, 0), (804, .aload_n 0, 0, 0, 0, 0), (805, .iload_n 3, 0, 3, 0, 0), (806, .iconst 1, 1, 0, 0, 0), (807, .iadd, 0, 0, 0, 0), (808, .iaload, 0, 0, 0, 0), (809, .invokevirtual 111, 0, 537, 2, 142), (812, .if_icmp .eq 88, 0, 29, 0, 0), (815, .iconst 0, 0, 0, 0, 0), (816, .ireturn, 0, 1, 0, 0)]
def kL_law_817 : List e_Op := [(817, .aload_n 1, 0, 1, 0, 0), (818, .aload_n 0, 0, 0, 0, 0), (819, .iload_n 3, 0, 3, 0, 0), (820, .iconst 1, 1, 0, 0, 0), (821, .iadd, 0, 0, 0, 0), (822, .iaload, 0, 0, 0, 0), (823, .aload_n 0, 0, 0, 0, 0), (824, .iload_n 3, 0, 3, 0, 0), (825, .iconst 2, 2, 0, 0, 0), (826, .iadd, 0, 0, 0, 0), (827, .iaload, 0, 0, 0, 0), (828, .invokevirtual 112, 0, 263, 3, 73), (831, .aload_n 2, 0, 2, 0, 0), (832, .aload_n 0, 0, 0, 0, 0), (833, .iload_n 3, 0, 3, 0, 0), (834, .iconst 1, 1, 0, 0, 0), (835, .iadd, 0, 0, 0, 0), (836, .iaload, 0, 0, 0, 0), (837, .aload_n 0, 0, 0, 0, 0), (838, .iload_n 3, 0, 3, 0, 0), (839, .iconst 2, 2, 0, 0, 0), (840, .iadd, 0, 0, 0, 0), (841, .iaload, 0, 0, 0, 0), (842, .invokevirtual 115, 0, 539, 3, 143), (845, .if_icmp .eq 55, 0, 29, 0, 0), (848, .iconst 0, 0, 0, 0, 0), (849, .ireturn, 0, 1, 0, 0)]
def kL_law_850 : List e_Op := [(850, .aload_n 1, 0, 1, 0, 0), (851, .invokevirtual 116, 0, 268, 1, 74), (854, .aload_n 2, 0, 2, 0, 0), (855, .invokevirtual 119, 0, 545, 1, 144), (858, .if_icmp .eq 42, 0, 29, 0, 0), (861, .iconst 0, 0, 0, 0, 0), (862, .ireturn, 0, 1, 0, 0)]
def kL_law_863 : List e_Op := [(863, .aload_n 1, 0, 1, 0, 0), (864, .aload_n 0, 0, 0, 0, 0), (865, .iload_n 3, 0, 3, 0, 0), (866, .iconst 1, 1, 0, 0, 0), (867, .iadd, 0, 0, 0, 0), (868, .iaload, 0, 0, 0, 0), (869, .invokevirtual 120, 0, 270, 2, 75), (872, .aload_n 2, 0, 2, 0, 0), (873, .aload_n 0, 0, 0, 0, 0), (874, .iload_n 3, 0, 3, 0, 0), (875, .iconst 1, 1, 0, 0, 0), (876, .iadd, 0, 0, 0, 0), (877, .iaload, 0, 0, 0, 0), (878, .invokevirtual 123, 0, 549, 2, 145), (881, .if_icmp .eq 19, 0, 29, 0, 0), (884, .iconst 0, 0, 0, 0, 0), (885, .ireturn, 0, 1, 0, 0)]
def kL_law_886 : List e_Op := [(886, .aload_n 1, 0, 1, 0, 0), (887, .invokevirtual 124, 0, 273, 1, 76), (890, .aload_n 2, 0, 2, 0, 0), (891, .invokevirtual 128, 0, 553, 1, 147), (894, .lcmp, 0, 0, 0, 0), (895, .ifCond .eq 5, 0, 29, 0, 0), (898, .iconst 0, 0, 0, 0, 0), (899, .ireturn, 0, 1, 0, 0)]
def kL_law_0 : List e_Op := [(0, .new 7, 0, 8, 7, 0), (3, .dup, 0, 0, 0, 0), (4, .invokespecial 9, 0, 185, 1, 48), (7, .astore_n 1, 0, 1, 0, 0), (8, .new 10, 0, 9, 12, 0), (11, .dup, 0, 0, 0, 0), (12, .invokespecial 12, 0, 316, 1, 90), (15, .astore_n 2, 0, 2, 0, 0), (16, .iconst 0, 0, 0, 0, 0), (17, .istore_n 3, 0, 3, 0, 0), (18, .nop, 0, 28, 0, 0)]
def kL_law_18 : List e_Op := [(18, .iload_n 3, 0, 3, 0, 0), (19, .aload_n 0, 0, 0, 0, 0), (20, .arraylength, 0, 0, 0, 0), (21, .bipush 7, 7, 0, 0, 0), (23, .isub, 0, 0, 0, 0), (24, .if_icmp .gt 882, 0, 30, 0, 0), (27, .aload_n 0, 0, 0, 0, 0), (28, .iload_n 3, 0, 3, 0, 0), (29, .iaload, 0, 0, 0, 0), (30, .bipush 31, 31, 0, 0, 0), (32, .iand, 0, 0, 0, 0), (33, .tableswitch 867 0 26 #[123, 146, 199, 242, 275, 298, 311, 324, 387, 420, 495, 528, 551, 564, 587, 610, 633, 656, 679, 702, 725, 748, 761, 784, 817, 830, 853], 0, 0, 29, 0)]
def kL_law_900 : List e_Op := [(900, .iinc 3 7, 7, 3, 0, 0), (903, .goto (-885), 0, 28, 0, 0)]
def kL_law_906 : List e_Op := [(906, .iconst 1, 1, 0, 0, 0), (907, .ireturn, 0, 1, 0, 0)]
def kX0_init_0 : List e_Op := [(0, .aload_n 0, 0, 0, 0, 0), (1, .invokespecial 3, 0, 0, 0, 999), (4, .return_, 0, 0, 0, 0)]
def kX0_copyFrom_0 : List e_Op := [(0, .aload_n 0, 0, 0, 0, 0), (1, .aload_n 1, 0, 1, 0, 0), (2, .getfield 9, 0, 0, 0, 1), (5, .putfield 9, 0, 0, 0, 1), (8, .aload_n 0, 0, 0, 0, 0), (9, .aload_n 1, 0, 1, 0, 0), (10, .getfield 15, 0, 0, 1, 0), (13, .putfield 15, 0, 0, 1, 0), (16, .aload_n 0, 0, 0, 0, 0), (17, .aload_n 1, 0, 1, 0, 0), (18, .getfield 19, 0, 0, 2, 0), (21, .putfield 19, 0, 0, 2, 0), (24, .aload_n 0, 0, 0, 0, 0), (25, .aload_n 1, 0, 1, 0, 0), (26, .getfield 22, 0, 0, 3, 0), (29, .putfield 22, 0, 0, 3, 0), (32, .aload_n 0, 0, 0, 0, 0), (33, .aload_n 1, 0, 1, 0, 0), (34, .getfield 25, 0, 0, 4, 0), (37, .putfield 25, 0, 0, 4, 0), (40, .aload_n 0, 0, 0, 0, 0), (41, .aload_n 1, 0, 1, 0, 0), (42, .getfield 28, 0, 0, 5, 0), (45, .putfield 28, 0, 0, 5, 0), (48, .aload_n 0, 0, 0, 0, 0), (49, .aload_n 1, 0, 1, 0, 0), (50, .getfield 31, 0, 0, 6, 1), (53, .putfield 31, 0, 0, 6, 1), (56, .aload_n 0, 0, 0, 0, 0), (57, .aload_n 1, 0, 1, 0, 0), (58, .getfield 34, 0, 0, 7, 0), (61, .putfield 34, 0, 0, 7, 0), (64, .return_, 0, 0, 0, 0)]
def kX0_isByTime_0 : List e_Op := [(0, .aload_n 0, 0, 0, 0, 0), (1, .getfield 9, 0, 0, 0, 1), (4, .ifCond .eq 15, 0, 34, 0, 0), (7, .aload_n 0, 0, 0, 0, 0), (8, .getfield 19, 0, 0, 2, 0), (11, .iconst 1, 1, 0, 0, 0), (12, .if_icmp .ne 7, 0, 34, 0, 0), (15, .iconst 1, 1, 0, 0, 0), (16, .goto 4, 0, 35, 0, 0)]
def kX0_isByTime_19 : List e_Op := [(19, .iconst 0, 0, 0, 0, 0), (20, .nop, 0, 35, 0, 0)]
def kX0_isByTime_20 : List e_Op := [(20, .ireturn, 0, 1, 0, 0)]
def kX0_isByFlow_0 : List e_Op := [(0, .aload_n 0, 0, 0, 0, 0), (1, .getfield 9, 0, 0, 0, 1), (4, .ifCond .eq 15, 0, 37, 0, 0), (7, .aload_n 0, 0, 0, 0, 0), (8, .getfield 19, 0, 0, 2, 0), (11, .iconst 2, 2, 0, 0, 0), (12, .if_icmp .ne 7, 0, 37, 0, 0), (15, .iconst 1, 1, 0, 0, 0), (16, .goto 4, 0, 38, 0, 0)]
def kX0_isByFlow_19 : List e_Op := [(19, .iconst 0, 0, 0, 0, 0), (20, .nop, 0, 38, 0, 0)]
def kX0_isByFlow_20 : List e_Op := [(20, .ireturn, 0, 1, 0, 0)]
def kX0_isOnByTime_0 : List e_Op := [(0, .aload_n 0, 0, 0, 0, 0), (1, .getfield 22, 0, 0, 3, 0), (4, .aload_n 0, 0, 0, 0, 0), (5, .getfield 25, 0, 0, 4, 0), (8, .if_icmp .ge 27, 0, 41, 0, 0), (11, .aload_n 0, 0, 0, 0, 0), (12, .getfield 22, 0, 0, 3, 0), (15, .iload_n 1, 0, 1, 0, 0), (16, .if_icmp .gt 15, 0, 40, 0, 0), (19, .iload_n 1, 0, 1, 0, 0), (20, .aload_n 0, 0, 0, 0, 0), (21, .getfield 25, 0, 0, 4, 0), (24, .if_icmp .ge 7, 0, 40, 0, 0), (27, .iconst 1, 1, 0, 0, 0), (28, .goto 28, 0, 44, 0, 0)]
def kX0_isOnByTime_31 : List e_Op := [(31, .iconst 0, 0, 0, 0, 0), (32, .goto 24, 0, 44, 0, 0)]
def kX0_isOnByTime_35 : List e_Op := [(35, .iload_n 1, 0, 1, 0, 0), (36, .aload_n 0, 0, 0, 0, 0), (37, .getfield 22, 0, 0, 3, 0), (40, .if_icmp .ge 11, 0, 42, 0, 0), (43, .iload_n 1, 0, 1, 0, 0), (44, .aload_n 0, 0, 0, 0, 0), (45, .getfield 25, 0, 0, 4, 0), (48, .if_icmp .ge 7, 0, 43, 0, 0), (51, .nop, 0, 42, 0, 0)]
def kX0_isOnByTime_51 : List e_Op := [(51, .iconst 1, 1, 0, 0, 0), (52, .goto 4, 0, 44, 0, 0)]
def kX0_isOnByTime_55 : List e_Op := [(55, .iconst 0, 0, 0, 0, 0), (56, .nop, 0, 44, 0, 0)]
def kX0_isOnByTime_56 : List e_Op := [(56, .ireturn, 0, 1, 0, 0)]
def kX0_supply_0 : List e_Op := [(0, .iload_n 2, 0, 2, 0, 0), (1, .ifCond .eq 18, 0, 46, 0, 0), (4, .aload_n 0, 0, 0, 0, 0), (5, .invokevirtual 37, 0, 33, 1, 3), (8, .ifCond .eq 11, 0, 46, 0, 0), (11, .aload_n 0, 0, 0, 0, 0), (12, .iload_n 1, 0, 1, 0, 0), (13, .invokevirtual 41, 0, 39, 2, 5), (16, .goto 7, 0, 47, 0, 0)]
def kX0_supply_19 : List e_Op := [(19, .aload_n 0, 0, 0, 0, 0), (20, .getfield 31, 0, 0, 6, 1), (23, .nop, 0, 47, 0, 0)]
def kX0_supply_23 : List e_Op := [(23, .istore_n 3, 0, 3, 0, 0), (24, .iload_n 3, 0, 3, 0, 0), (25, .ifCond .eq 10, 0, 48, 0, 0), (28, .aload_n 0, 0, 0, 0, 0), (29, .getfield 15, 0, 0, 1, 0), (32, .goto 4, 0, 49, 0, 0)]
def kX0_supply_35 : List e_Op := [(35, .iconst 0, 0, 0, 0, 0), (36, .nop, 0, 49, 0, 0)]
def kX0_supply_36 : List e_Op := [(36, .ireturn, 0, 0, 0, 0)]
def kX0_countMinute_0 : List e_Op := [(0, .aload_n 0, 0, 0, 0, 0), (1, .getfield 31, 0, 0, 6, 1), (4, .ifCond .eq 19, 0, 52, 0, 0), (7, .iload_n 1, 0, 1, 0, 0), (8, .aload_n 0, 0, 0, 0, 0), (9, .getfield 22, 0, 0, 3, 0), (12, .if_icmp .ge 7, 0, 51, 0, 0), (15, .iconst 1, 1, 0, 0, 0), (16, .goto 20, 0, 54, 0, 0)]
def kX0_countMinute_19 : List e_Op := [(19, .iconst 0, 0, 0, 0, 0), (20, .goto 16, 0, 54, 0, 0)]
def kX0_countMinute_23 : List e_Op := [(23, .iload_n 1, 0, 1, 0, 0), (24, .aload_n 0, 0, 0, 0, 0), (25, .getfield 25, 0, 0, 4, 0), (28, .if_icmp .le 7, 0, 53, 0, 0), (31, .iconst 1, 1, 0, 0, 0), (32, .goto 4, 0, 54, 0, 0)]
def kX0_countMinute_35 : List e_Op := [(35, .iconst 0, 0, 0, 0, 0), (36, .nop, 0, 54, 0, 0)]
def kX0_countMinute_36 : List e_Op := [(36, .istore_n 2, 0, 2, 0, 0), (37, .aload_n 0, 0, 0, 0, 0), (38, .iload_n 2, 0, 2, 0, 0), (39, .ifCond .eq 12, 0, 55, 0, 0), (42, .aload_n 0, 0, 0, 0, 0), (43, .getfield 34, 0, 0, 7, 0), (46, .iconst 1, 1, 0, 0, 0), (47, .iadd, 0, 0, 0, 0), (48, .goto 4, 0, 56, 0, 0)]
def kX0_countMinute_51 : List e_Op := [(51, .iconst 0, 0, 0, 0, 0), (52, .nop, 0, 56, 0, 0)]
def kX0_countMinute_52 : List e_Op := [(52, .putfield 34, 0, 0, 7, 0), (55, .return_, 0, 0, 0, 0)]
def kX0_isDue_0 : List e_Op := [(0, .aload_n 0, 0, 0, 0, 0), (1, .getfield 34, 0, 0, 7, 0), (4, .aload_n 0, 0, 0, 0, 0), (5, .getfield 28, 0, 0, 5, 0), (8, .if_icmp .le 7, 0, 58, 0, 0), (11, .iconst 1, 1, 0, 0, 0), (12, .goto 4, 0, 59, 0, 0)]
def kX0_isDue_15 : List e_Op := [(15, .iconst 0, 0, 0, 0, 0), (16, .nop, 0, 59, 0, 0)]
def kX0_isDue_16 : List e_Op := [(16, .ireturn, 0, 1, 0, 0)]
def kX0_change_0 : List e_Op := [(0, .aload_n 0, 0, 0, 0, 0), (1, .aload_n 0, 0, 0, 0, 0), (2, .getfield 31, 0, 0, 6, 1), (5, .ifCond .ne 7, 0, 61, 0, 0), (8, .iconst 1, 1, 0, 0, 0), (9, .goto 4, 0, 62, 0, 0)]
def kX0_change_12 : List e_Op := [(12, .iconst 0, 0, 0, 0, 0), (13, .nop, 0, 62, 0, 0)]
def kX0_change_13 : List e_Op := [(13, .putfield 31, 0, 0, 6, 1), (16, .aload_n 0, 0, 0, 0, 0), (17, .iconst 0, 0, 0, 0, 0), (18, .putfield 34, 0, 0, 7, 0), (21, .return_, 0, 0, 0, 0)]
def kX1_init_0 : List e_Op := [(0, .aload_n 0, 0, 0, 0, 0), (1, .invokespecial 3, 0, 0, 0, 999), (4, .aload_n 0, 0, 0, 0, 0), (5, .sipush 10000, 10000, 0, 0, 0), (8, .putfield 9, 0, 1, 1, 0), (11, .aload_n 0, 0, 0, 0, 0), (12, .bipush 24, 24, 0, 0, 0), (14, .newarray .int, 0, 10, 0, 0), (16, .putfield 15, 0, 1, 4, 2), (19, .aload_n 0, 0, 0, 0, 0), (20, .bipush 9, 9, 0, 0, 0), (22, .anewarray 19, 0, 13, 4, 0), (25, .putfield 21, 0, 1, 5, 2), (28, .iconst 0, 0, 0, 0, 0), (29, .istore_n 1, 0, 1, 0, 0), (30, .nop, 0, 64, 0, 0)]
def kX1_init_30 : List e_Op := [(30, .iload_n 1, 0, 1, 0, 0), (31, .bipush 24, 24, 0, 0, 0), (33, .if_icmp .ge 17, 0, 65, 0, 0), (36, .aload_n 0, 0, 0, 0, 0), (37, .getfield 15, 0, 1, 4, 2), (40, .iload_n 1, 0, 1, 0, 0), (41, .bipush 100, 100, 0, 0, 0), (43, .iastore, 0, 0, 0, 0), (44, .iinc 1 1, 1, 1, 0, 0), (47, .goto (-17), 0, 64, 0, 0)]
def kX1_init_50 : List e_Op := [(50, .iconst 0, 0, 0, 0, 0), (51, .istore_n 1, 0, 1, 0, 0), (52, .nop, 0, 66, 0, 0)]
def kX1_init_52 : List e_Op := [(52, .iload_n 1, 0, 1, 0, 0), (53, .bipush 8, 8, 0, 0, 0), (55, .if_icmp .gt 22, 0, 67, 0, 0), (58, .aload_n 0, 0, 0, 0, 0), (59, .getfield 21, 0, 1, 5, 2), (62, .iload_n 1, 0, 1, 0, 0), (63, .new 19, 0, 4, 6, 0), (66, .dup, 0, 0, 0, 0), (67, .invokespecial 25, 0, 110, 1, 26), (70, .aastore, 0, 0, 0, 0), (71, .iinc 1 1, 1, 1, 0, 0), (74, .goto (-22), 0, 66, 0, 0)]
def kX1_init_77 : List e_Op := [(77, .return_, 0, 0, 0, 0)]
def kX1_copyFrom_0 : List e_Op := [(0, .aload_n 0, 0, 0, 0, 0), (1, .aload_n 1, 0, 1, 0, 0), (2, .getfield 26, 0, 1, 0, 0), (5, .putfield 26, 0, 1, 0, 0), (8, .aload_n 0, 0, 0, 0, 0), (9, .aload_n 1, 0, 1, 0, 0), (10, .getfield 9, 0, 1, 1, 0), (13, .putfield 9, 0, 1, 1, 0), (16, .aload_n 0, 0, 0, 0, 0), (17, .aload_n 1, 0, 1, 0, 0), (18, .getfield 29, 0, 1, 2, 0), (21, .putfield 29, 0, 1, 2, 0), (24, .aload_n 0, 0, 0, 0, 0), (25, .aload_n 1, 0, 1, 0, 0), (26, .getfield 32, 0, 1, 3, 0), (29, .putfield 32, 0, 1, 3, 0), (32, .aload_n 1, 0, 1, 0, 0), (33, .getfield 15, 0, 1, 4, 2), (36, .iconst 0, 0, 0, 0, 0), (37, .aload_n 0, 0, 0, 0, 0), (38, .getfield 15, 0, 1, 4, 2), (41, .iconst 0, 0, 0, 0, 0), (42, .bipush 24, 24, 0, 0, 0), (44, .invokestatic 35, 0, 0, 0, 998), (47, .iconst 1, 1, 0, 0, 0), (48, .istore_n 2, 0, 2, 0, 0), (49, .nop, 0, 69, 0, 0)]
def kX1_copyFrom_49 : List e_Op := [(49, .iload_n 2, 0, 2, 0, 0), (50, .bipush 8, 8, 0, 0, 0), (52, .if_icmp .gt 24, 0, 70, 0, 0), (55, .aload_n 0, 0, 0, 0, 0), (56, .getfield 21, 0, 1, 5, 2), (59, .iload_n 2, 0, 2, 0, 0), (60, .aaload, 0, 0, 0, 0), (61, .aload_n 1, 0, 1, 0, 0), (62, .getfield 21, 0, 1, 5, 2), (65, .iload_n 2, 0, 2, 0, 0), (66, .aaload, 0, 0, 0, 0), (67, .invokevirtual 41, 0, 111, 2, 27), (70, .iinc 2 1, 1, 2, 0, 0), (73, .goto (-24), 0, 69, 0, 0)]
def kX1_copyFrom_76 : List e_Op := [(76, .return_, 0, 0, 0, 0)]
def kX1_hour_0 : List e_Op := [(0, .aload_n 0, 0, 0, 0, 0), (1, .getfield 26, 0, 1, 0, 0), (4, .bipush 60, 60, 0, 0, 0), (6, .idiv, 0, 0, 0, 0), (7, .bipush 24, 24, 0, 0, 0), (9, .invokestatic 45, 0, 0, 0, 994), (12, .ireturn, 0, 0, 0, 0)]
def kX1_releaseLocks_0 : List e_Op := [(0, .iconst 1, 1, 0, 0, 0), (1, .istore_n 1, 0, 1, 0, 0), (2, .nop, 0, 73, 0, 0)]
def kX1_releaseLocks_2 : List e_Op := [(2, .iload_n 1, 0, 1, 0, 0), (3, .aload_n 0, 0, 0, 0, 0), (4, .getfield 29, 0, 1, 2, 0), (7, .if_icmp .gt 21, 0, 74, 0, 0), (10, .aload_n 0, 0, 0, 0, 0), (11, .getfield 21, 0, 1, 5, 2), (14, .iload_n 1, 0, 1, 0, 0), (15, .aaload, 0, 0, 0, 0), (16, .getfield 51, 0, 4, 4, 2), (19, .invokevirtual 55, 0, 167, 1, 43), (22, .iinc 1 1, 1, 1, 0, 0), (25, .goto (-23), 0, 73, 0, 0)]
def kX1_releaseLocks_28 : List e_Op := [(28, .return_, 0, 0, 0, 0)]
def kX1_switchBanksByTime_0 : List e_Op := [(0, .aload_n 0, 0, 0, 0, 0), (1, .invokevirtual 60, 0, 71, 1, 12), (4, .istore_n 1, 0, 1, 0, 0), (5, .iconst 1, 1, 0, 0, 0), (6, .istore_n 2, 0, 2, 0, 0), (7, .nop, 0, 76, 0, 0)]
def kX1_switchBanksByTime_7 : List e_Op := [(7, .iload_n 2, 0, 2, 0, 0), (8, .aload_n 0, 0, 0, 0, 0), (9, .getfield 29, 0, 1, 2, 0), (12, .if_icmp .gt 35, 0, 78, 0, 0), (15, .aload_n 0, 0, 0, 0, 0), (16, .getfield 21, 0, 1, 5, 2), (19, .iload_n 2, 0, 2, 0, 0), (20, .aaload, 0, 0, 0, 0), (21, .getfield 64, 0, 4, 5, 2), (24, .astore_n 3, 0, 3, 0, 0), (25, .aload_n 3, 0, 3, 0, 0), (26, .invokevirtual 68, 0, 33, 1, 3), (29, .ifCond .eq 12, 0, 77, 0, 0), (32, .aload_n 3, 0, 3, 0, 0), (33, .aload_n 3, 0, 3, 0, 0), (34, .iload_n 1, 0, 1, 0, 0), (35, .invokevirtual 74, 0, 39, 2, 5), (38, .putfield 78, 0, 0, 6, 1), (41, .nop, 0, 77, 0, 0)]
def kX1_switchBanksByTime_41 : List e_Op := [(41, .iinc 2 1, 1, 2, 0, 0), (44, .goto (-37), 0, 76, 0, 0)]
def kX1_switchBanksByTime_47 : List e_Op := [(47, .return_, 0, 0, 0, 0)]
def kX1_switchBankByFlow_0 : List e_Op := [(0, .iconst 0, 0, 0, 0, 0), (1, .istore_n 2, 0, 2, 0, 0), (2, .iconst 1, 1, 0, 0, 0), (3, .istore_n 3, 0, 3, 0, 0), (4, .nop, 0, 80, 0, 0)]
def kX1_switchBankByFlow_4 : List e_Op := [(4, .iload_n 3, 0, 3, 0, 0), (5, .aload_n 0, 0, 0, 0, 0), (6, .getfield 29, 0, 1, 2, 0), (9, .if_icmp .gt 58, 0, 82, 0, 0), (12, .aload_n 0, 0, 0, 0, 0), (13, .getfield 21, 0, 1, 5, 2), (16, .iload_n 3, 0, 3, 0, 0), (17, .aaload, 0, 0, 0, 0), (18, .getfield 64, 0, 4, 5, 2), (21, .astore 4, 0, 4, 0, 0), (23, .aload 4, 0, 4, 0, 0), (25, .invokevirtual 82, 0, 36, 1, 4), (28, .ifCond .eq 33, 0, 81, 0, 0), (31, .aload 4, 0, 4, 0, 0), (33, .aload_n 1, 0, 1, 0, 0), (34, .getfield 85, 0, 2, 1, 2), (37, .iload_n 3, 0, 3, 0, 0), (38, .iaload, 0, 0, 0, 0), (39, .invokevirtual 90, 0, 50, 2, 7), (42, .iload_n 2, 0, 2, 0, 0), (43, .ifCond .ne 18, 0, 81, 0, 0), (46, .aload 4, 0, 4, 0, 0), (48, .invokevirtual 94, 0, 57, 1, 8), (51, .ifCond .eq 10, 0, 81, 0, 0), (54, .aload 4, 0, 4, 0, 0), (56, .invokevirtual 97, 0, 60, 1, 9), (59, .iconst 1, 1, 0, 0, 0), (60, .istore_n 2, 0, 2, 0, 0), (61, .nop, 0, 81, 0, 0)]
def kX1_switchBankByFlow_61 : List e_Op := [(61, .iinc 3 1, 1, 3, 0, 0), (64, .goto (-60), 0, 80, 0, 0)]
def kX1_switchBankByFlow_67 : List e_Op := [(67, .iload_n 2, 0, 2, 0, 0), (68, .ireturn, 0, 1, 0, 0)]
def kX1_moveRegulators_0 : List e_Op := [(0, .iconst 0, 0, 0, 0, 0), (1, .istore_n 3, 0, 3, 0, 0), (2, .iconst 1, 1, 0, 0, 0), (3, .istore 4, 0, 4, 0, 0), (5, .nop, 0, 84, 0, 0)]
def kX1_moveRegulators_5 : List e_Op := [(5, .iload 4, 0, 4, 0, 0), (7, .aload_n 0, 0, 0, 0, 0), (8, .getfield 29, 0, 1, 2, 0), (11, .if_icmp .gt 76, 0, 86, 0, 0), (14, .aload_n 0, 0, 0, 0, 0), (15, .getfield 21, 0, 1, 5, 2), (18, .iload 4, 0, 4, 0, 0), (20, .aaload, 0, 0, 0, 0), (21, .getfield 51, 0, 4, 4, 2), (24, .astore 5, 0, 5, 0, 0), (26, .aload 5, 0, 5, 0, 0), (28, .getfield 100, 0, 7, 0, 1), (31, .ifCond .eq 50, 0, 85, 0, 0), (34, .aload 5, 0, 5, 0, 0), (36, .aload 5, 0, 5, 0, 0), (38, .aload_n 1, 0, 1, 0, 0), (39, .getfield 103, 0, 2, 2, 2), (42, .iload 4, 0, 4, 0, 0), (44, .iaload, 0, 0, 0, 0), (45, .aload_n 1, 0, 1, 0, 0), (46, .getfield 106, 0, 2, 0, 2), (49, .iload 4, 0, 4, 0, 0), (51, .iaload, 0, 0, 0, 0), (52, .invokevirtual 109, 0, 168, 3, 44), (55, .invokevirtual 112, 0, 174, 2, 45), (58, .iload_n 2, 0, 2, 0, 0), (59, .ifCond .eq 22, 0, 85, 0, 0), (62, .iload_n 3, 0, 3, 0, 0), (63, .ifCond .ne 18, 0, 85, 0, 0), (66, .aload 5, 0, 5, 0, 0), (68, .invokevirtual 113, 0, 178, 1, 46), (71, .ifCond .eq 10, 0, 85, 0, 0), (74, .aload 5, 0, 5, 0, 0), (76, .invokevirtual 114, 0, 181, 1, 47), (79, .iconst 1, 1, 0, 0, 0), (80, .istore_n 3, 0, 3, 0, 0), (81, .nop, 0, 85, 0, 0)]
def kX1_moveRegulators_81 : List e_Op := [(81, .iinc 4 1, 1, 4, 0, 0), (84, .goto (-79), 0, 84, 0, 0)]
def kX1_moveRegulators_87 : List e_Op := [(87, .iload_n 3, 0, 3, 0, 0), (88, .ireturn, 0, 1, 0, 0)]
def kX2_init_0 : List e_Op := [(0, .aload_n 0, 0, 0, 0, 0), (1, .invokespecial 3, 0, 0, 0, 999), (4, .aload_n 0, 0, 0, 0, 0), (5, .bipush 9, 9, 0, 0, 0), (7, .newarray .int, 0, 10, 0, 0), (9, .putfield 9, 0, 2, 0, 2), (12, .aload_n 0, 0, 0, 0, 0), (13, .bipush 9, 9, 0, 0, 0), (15, .newarray .int, 0, 10, 0, 0), (17, .putfield 15, 0, 2, 1, 2), (20, .aload_n 0, 0, 0, 0, 0), (21, .bipush 9, 9, 0, 0, 0), (23, .newarray .int, 0, 10, 0, 0), (25, .putfield 18, 0, 2, 2, 2), (28, .return_, 0, 0, 0, 0)]
def kX2_solve_0 : List e_Op := [(0, .aload_n 0, 0, 0, 0, 0), (1, .aload_n 1, 0, 1, 0, 0), (2, .aload_n 1, 0, 1, 0, 0), (3, .invokevirtual 21, 0, 71, 1, 12), (6, .iconst 0, 0, 0, 0, 0), (7, .invokevirtual 27, 0, 89, 4, 19), (10, .aload_n 0, 0, 0, 0, 0), (11, .aload_n 1, 0, 1, 0, 0), (12, .iconst 0, 0, 0, 0, 0), (13, .iconst 0, 0, 0, 0, 0), (14, .invokevirtual 31, 0, 92, 4, 20), (17, .return_, 0, 0, 0, 0)]
def kX2_sumLoads_0 : List e_Op := [(0, .aload_n 1, 0, 1, 0, 0), (1, .getfield 35, 0, 1, 4, 2), (4, .iload_n 2, 0, 2, 0, 0), (5, .iaload, 0, 0, 0, 0), (6, .istore 4, 0, 4, 0, 0), (8, .iconst 0, 0, 0, 0, 0), (9, .istore 5, 0, 5, 0, 0), (11, .iconst 0, 0, 0, 0, 0), (12, .istore 6, 0, 6, 0, 0), (14, .aload_n 1, 0, 1, 0, 0), (15, .getfield 38, 0, 1, 2, 0), (18, .istore 7, 0, 7, 0, 0), (20, .nop, 0, 90, 0, 0)]
def kX2_sumLoads_20 : List e_Op := [(20, .iload 7, 0, 7, 0, 0), (22, .iconst 1, 1, 0, 0, 0), (23, .if_icmp .lt 79, 0, 91, 0, 0), (26, .aload_n 1, 0, 1, 0, 0), (27, .getfield 42, 0, 1, 5, 2), (30, .iload 7, 0, 7, 0, 0), (32, .aaload, 0, 0, 0, 0), (33, .astore 8, 0, 8, 0, 0), (35, .iload 5, 0, 5, 0, 0), (37, .aload 8, 0, 8, 0, 0), (39, .getfield 46, 0, 4, 2, 0), (42, .iload 4, 0, 4, 0, 0), (44, .imul, 0, 0, 0, 0), (45, .bipush 100, 100, 0, 0, 0), (47, .idiv, 0, 0, 0, 0), (48, .iadd, 0, 0, 0, 0), (49, .istore 5, 0, 5, 0, 0), (51, .iload 6, 0, 6, 0, 0), (53, .aload 8, 0, 8, 0, 0), (55, .getfield 51, 0, 4, 3, 0), (58, .iload 4, 0, 4, 0, 0), (60, .imul, 0, 0, 0, 0), (61, .bipush 100, 100, 0, 0, 0), (63, .idiv, 0, 0, 0, 0), (64, .aload 8, 0, 8, 0, 0), (66, .getfield 54, 0, 4, 5, 2), (69, .iload_n 2, 0, 2, 0, 0), (70, .iload_n 3, 0, 3, 0, 0), (71, .invokevirtual 58, 0, 45, 3, 6), (74, .isub, 0, 0, 0, 0), (75, .iadd, 0, 0, 0, 0), (76, .istore 6, 0, 6, 0, 0), (78, .aload_n 0, 0, 0, 0, 0), (79, .getfield 9, 0, 2, 0, 2), (82, .iload 7, 0, 7, 0, 0), (84, .iload 5, 0, 5, 0, 0), (86, .iastore, 0, 0, 0, 0), (87, .aload_n 0, 0, 0, 0, 0), (88, .getfield 15, 0, 2, 1, 2), (91, .iload 7, 0, 7, 0, 0), (93, .iload 6, 0, 6, 0, 0), (95, .iastore, 0, 0, 0, 0), (96, .iinc 7 (-1), (-1), 7, 0, 0), (99, .goto (-79), 0, 90, 0, 0)]
def kX2_sumLoads_102 : List e_Op := [(102, .return_, 0, 0, 0, 0)]
def kX2_findVoltages_0 : List e_Op := [(0, .aload_n 1, 0, 1, 0, 0), (1, .getfield 64, 0, 1, 1, 0), (4, .istore 4, 0, 4, 0, 0), (6, .aload_n 0, 0, 0, 0, 0), (7, .getfield 18, 0, 2, 2, 2), (10, .iconst 0, 0, 0, 0, 0), (11, .iload 4, 0, 4, 0, 0), (13, .iastore, 0, 0, 0, 0), (14, .iconst 1, 1, 0, 0, 0), (15, .istore 5, 0, 5, 0, 0), (17, .nop, 0, 93, 0, 0)]
def kX2_findVoltages_17 : List e_Op := [(17, .iload 5, 0, 5, 0, 0), (19, .aload_n 1, 0, 1, 0, 0), (20, .getfield 38, 0, 1, 2, 0), (23, .if_icmp .gt 105, 0, 96, 0, 0), (26, .aload_n 1, 0, 1, 0, 0), (27, .getfield 42, 0, 1, 5, 2), (30, .iload 5, 0, 5, 0, 0), (32, .aaload, 0, 0, 0, 0), (33, .astore 6, 0, 6, 0, 0), (35, .iload 5, 0, 5, 0, 0), (37, .iload_n 2, 0, 2, 0, 0), (38, .if_icmp .ne 7, 0, 94, 0, 0), (41, .iload_n 3, 0, 3, 0, 0), (42, .goto 11, 0, 95, 0, 0)]
def kX2_findVoltages_45 : List e_Op := [(45, .aload 6, 0, 6, 0, 0), (47, .getfield 67, 0, 4, 4, 2), (50, .getfield 71, 0, 7, 5, 0), (53, .nop, 0, 95, 0, 0)]
def kX2_findVoltages_53 : List e_Op := [(53, .istore 7, 0, 7, 0, 0), (55, .iload 4, 0, 4, 0, 0), (57, .sipush 160, 160, 0, 0, 0), (60, .iload 7, 0, 7, 0, 0), (62, .iadd, 0, 0, 0, 0), (63, .imul, 0, 0, 0, 0), (64, .sipush 160, 160, 0, 0, 0), (67, .idiv, 0, 0, 0, 0), (68, .istore 8, 0, 8, 0, 0), (70, .iload 8, 0, 8, 0, 0), (72, .aload 6, 0, 6, 0, 0), (74, .getfield 76, 0, 4, 0, 0), (77, .aload_n 0, 0, 0, 0, 0), (78, .getfield 9, 0, 2, 0, 2), (81, .iload 5, 0, 5, 0, 0), (83, .iaload, 0, 0, 0, 0), (84, .imul, 0, 0, 0, 0), (85, .aload 6, 0, 6, 0, 0), (87, .getfield 79, 0, 4, 1, 0), (90, .aload_n 0, 0, 0, 0, 0), (91, .getfield 15, 0, 2, 1, 2), (94, .iload 5, 0, 5, 0, 0), (96, .iaload, 0, 0, 0, 0), (97, .imul, 0, 0, 0, 0), (98, .iadd, 0, 0, 0, 0), (99, .bipush 100, 100, 0, 0, 0), (101, .idiv, 0, 0, 0, 0), (102, .isub, 0, 0, 0, 0), (103, .istore 9, 0, 9, 0, 0), (105, .iload 9, 0, 9, 0, 0), (107, .iconst 0, 0, 0, 0, 0), (108, .invokestatic 82, 0, 0, 0, 991), (111, .istore 4, 0, 4, 0, 0), (113, .aload_n 0, 0, 0, 0, 0), (114, .getfield 18, 0, 2, 2, 2), (117, .iload 5, 0, 5, 0, 0), (119, .iload 4, 0, 4, 0, 0), (121, .iastore, 0, 0, 0, 0), (122, .iinc 5 1, 1, 5, 0, 0), (125, .goto (-108), 0, 93, 0, 0)]
def kX2_findVoltages_128 : List e_Op := [(128, .return_, 0, 0, 0, 0)]
def kX2_countBadNodes_0 : List e_Op := [(0, .iconst 0, 0, 0, 0, 0), (1, .istore_n 2, 0, 2, 0, 0), (2, .iconst 1, 1, 0, 0, 0), (3, .istore_n 3, 0, 3, 0, 0), (4, .nop, 0, 98, 0, 0)]
def kX2_countBadNodes_4 : List e_Op := [(4, .iload_n 3, 0, 3, 0, 0), (5, .iload_n 1, 0, 1, 0, 0), (6, .if_icmp .gt 36, 0, 100, 0, 0), (9, .iload_n 3, 0, 3, 0, 0), (10, .bipush 8, 8, 0, 0, 0), (12, .if_icmp .gt 30, 0, 100, 0, 0), (15, .aload_n 0, 0, 0, 0, 0), (16, .getfield 18, 0, 2, 2, 2), (19, .iload_n 3, 0, 3, 0, 0), (20, .iaload, 0, 0, 0, 0), (21, .sipush 9500, 9500, 0, 0, 0), (24, .sipush 10500, 10500, 0, 0, 0), (27, .invokestatic 88, 0, 285, 3, 80), (30, .ifCond .ne 6, 0, 99, 0, 0), (33, .iinc 2 1, 1, 2, 0, 0), (36, .nop, 0, 99, 0, 0)]
def kX2_countBadNodes_36 : List e_Op := [(36, .iinc 3 1, 1, 3, 0, 0), (39, .goto (-35), 0, 98, 0, 0)]
def kX2_countBadNodes_42 : List e_Op := [(42, .iload_n 2, 0, 2, 0, 0), (43, .ireturn, 0, 0, 0, 0)]
def kX3_init_0 : List e_Op := [(0, .aload_n 0, 0, 0, 0, 0), (1, .invokespecial 3, 0, 0, 0, 999), (4, .aload_n 0, 0, 0, 0, 0), (5, .iconst 3, 3, 0, 0, 0), (6, .anewarray 9, 0, 12, 1, 0), (9, .putfield 11, 0, 3, 0, 2), (12, .iconst 0, 0, 0, 0, 0), (13, .istore_n 1, 0, 1, 0, 0), (14, .nop, 0, 102, 0, 0)]
def kX3_init_14 : List e_Op := [(14, .iload_n 1, 0, 1, 0, 0), (15, .iconst 3, 3, 0, 0, 0), (16, .if_icmp .ge 22, 0, 103, 0, 0), (19, .aload_n 0, 0, 0, 0, 0), (20, .getfield 11, 0, 3, 0, 2), (23, .iload_n 1, 0, 1, 0, 0), (24, .new 9, 0, 1, 6, 0), (27, .dup, 0, 0, 0, 0), (28, .invokespecial 17, 0, 63, 1, 10), (31, .aastore, 0, 0, 0, 0), (32, .iinc 1 1, 1, 1, 0, 0), (35, .goto (-21), 0, 102, 0, 0)]
def kX3_init_38 : List e_Op := [(38, .return_, 0, 0, 0, 0)]
def kX3_save_0 : List e_Op := [(0, .aload_n 0, 0, 0, 0, 0), (1, .getfield 18, 0, 3, 1, 0), (4, .iconst 3, 3, 0, 0, 0), (5, .if_icmp .lt 7, 0, 105, 0, 0), (8, .aload_n 0, 0, 0, 0, 0), (9, .invokevirtual 22, 0, 106, 1, 24), (12, .nop, 0, 105, 0, 0)]
def kX3_save_12 : List e_Op := [(12, .aload_n 0, 0, 0, 0, 0), (13, .getfield 11, 0, 3, 0, 2), (16, .aload_n 0, 0, 0, 0, 0), (17, .getfield 18, 0, 3, 1, 0), (20, .aaload, 0, 0, 0, 0), (21, .aload_n 1, 0, 1, 0, 0), (22, .invokevirtual 25, 0, 68, 2, 11), (25, .aload_n 0, 0, 0, 0, 0), (26, .dup, 0, 0, 0, 0), (27, .getfield 18, 0, 3, 1, 0), (30, .iconst 1, 1, 0, 0, 0), (31, .iadd, 0, 0, 0, 0), (32, .putfield 18, 0, 3, 1, 0), (35, .return_, 0, 0, 0, 0)]
def kX3_dropOldest_0 : List e_Op := [(0, .aload_n 0, 0, 0, 0, 0), (1, .getfield 11, 0, 3, 0, 2), (4, .iconst 0, 0, 0, 0, 0), (5, .aaload, 0, 0, 0, 0), (6, .astore_n 1, 0, 1, 0, 0), (7, .iconst 1, 1, 0, 0, 0), (8, .istore_n 2, 0, 2, 0, 0), (9, .nop, 0, 107, 0, 0)]
def kX3_dropOldest_9 : List e_Op := [(9, .iload_n 2, 0, 2, 0, 0), (10, .iconst 3, 3, 0, 0, 0), (11, .if_icmp .ge 23, 0, 108, 0, 0), (14, .aload_n 0, 0, 0, 0, 0), (15, .getfield 11, 0, 3, 0, 2), (18, .iload_n 2, 0, 2, 0, 0), (19, .iconst 1, 1, 0, 0, 0), (20, .isub, 0, 0, 0, 0), (21, .aload_n 0, 0, 0, 0, 0), (22, .getfield 11, 0, 3, 0, 2), (25, .iload_n 2, 0, 2, 0, 0), (26, .aaload, 0, 0, 0, 0), (27, .aastore, 0, 0, 0, 0), (28, .iinc 2 1, 1, 2, 0, 0), (31, .goto (-22), 0, 107, 0, 0)]
def kX3_dropOldest_34 : List e_Op := [(34, .aload_n 0, 0, 0, 0, 0), (35, .getfield 11, 0, 3, 0, 2), (38, .iconst 2, 2, 0, 0, 0), (39, .aload_n 1, 0, 1, 0, 0), (40, .aastore, 0, 0, 0, 0), (41, .aload_n 0, 0, 0, 0, 0), (42, .iconst 2, 2, 0, 0, 0), (43, .putfield 18, 0, 3, 1, 0), (46, .return_, 0, 0, 0, 0)]
def kX3_restore_0 : List e_Op := [(0, .aload_n 0, 0, 0, 0, 0), (1, .dup, 0, 0, 0, 0), (2, .getfield 18, 0, 3, 1, 0), (5, .iconst 1, 1, 0, 0, 0), (6, .isub, 0, 0, 0, 0), (7, .putfield 18, 0, 3, 1, 0), (10, .aload_n 1, 0, 1, 0, 0), (11, .aload_n 0, 0, 0, 0, 0), (12, .getfield 11, 0, 3, 0, 2), (15, .aload_n 0, 0, 0, 0, 0), (16, .getfield 18, 0, 3, 1, 0), (19, .aaload, 0, 0, 0, 0), (20, .invokevirtual 25, 0, 68, 2, 11), (23, .return_, 0, 0, 0, 0)]
def kX4_init_0 : List e_Op := [(0, .aload_n 0, 0, 0, 0, 0), (1, .invokespecial 1, 0, 0, 0, 999), (4, .aload_n 0, 0, 0, 0, 0), (5, .new 7, 0, 7, 12, 0), (8, .dup, 0, 0, 0, 0), (9, .invokespecial 9, 0, 165, 1, 41), (12, .putfield 10, 0, 4, 4, 2), (15, .aload_n 0, 0, 0, 0, 0), (16, .new 16, 0, 0, 8, 0), (19, .dup, 0, 0, 0, 0), (20, .invokespecial 18, 0, 31, 1, 1), (23, .putfield 19, 0, 4, 5, 2), (26, .return_, 0, 0, 0, 0)]
def kX4_copyFrom_0 : List e_Op := [(0, .aload_n 0, 0, 0, 0, 0), (1, .aload_n 1, 0, 1, 0, 0), (2, .getfield 23, 0, 4, 0, 0), (5, .putfield 23, 0, 4, 0, 0), (8, .aload_n 0, 0, 0, 0, 0), (9, .aload_n 1, 0, 1, 0, 0), (10, .getfield 27, 0, 4, 1, 0), (13, .putfield 27, 0, 4, 1, 0), (16, .aload_n 0, 0, 0, 0, 0), (17, .aload_n 1, 0, 1, 0, 0), (18, .getfield 30, 0, 4, 2, 0), (21, .putfield 30, 0, 4, 2, 0), (24, .aload_n 0, 0, 0, 0, 0), (25, .aload_n 1, 0, 1, 0, 0), (26, .getfield 33, 0, 4, 3, 0), (29, .putfield 33, 0, 4, 3, 0), (32, .aload_n 0, 0, 0, 0, 0), (33, .getfield 10, 0, 4, 4, 2), (36, .aload_n 1, 0, 1, 0, 0), (37, .getfield 10, 0, 4, 4, 2), (40, .invokevirtual 36, 0, 166, 2, 42), (43, .aload_n 0, 0, 0, 0, 0), (44, .getfield 19, 0, 4, 5, 2), (47, .aload_n 1, 0, 1, 0, 0), (48, .getfield 19, 0, 4, 5, 2), (51, .invokevirtual 40, 0, 32, 2, 2), (54, .return_, 0, 0, 0, 0)]
def kX5_init_0 : List e_Op := [(0, .aload_n 0, 0, 0, 0, 0), (1, .invokespecial 3, 0, 0, 0, 999), (4, .aload_n 0, 0, 0, 0, 0), (5, .new 9, 0, 2, 3, 0), (8, .dup, 0, 0, 0, 0), (9, .invokespecial 11, 0, 87, 1, 17), (12, .putfield 12, 0, 5, 0, 2), (15, .aload_n 0, 0, 0, 0, 0), (16, .bipush 24, 24, 0, 0, 0), (18, .bipush 33, 33, 0, 0, 0), (20, .multianewarray 18 2, 0, 14, 0, 0), (24, .putfield 20, 0, 5, 1, 2), (27, .aload_n 0, 0, 0, 0, 0), (28, .bipush 33, 33, 0, 0, 0), (30, .newarray .int, 0, 10, 0, 0), (32, .putfield 23, 0, 5, 2, 2), (35, .aload_n 0, 0, 0, 0, 0), (36, .bipush 24, 24, 0, 0, 0), (38, .newarray .int, 0, 10, 0, 0), (40, .putfield 27, 0, 5, 3, 2), (43, .return_, 0, 0, 0, 0)]
def kX5_makePlan_0 : List e_Op := [(0, .iconst 0, 0, 0, 0, 0), (1, .istore_n 3, 0, 3, 0, 0), (2, .nop, 0, 114, 0, 0)]
def kX5_makePlan_2 : List e_Op := [(2, .iload_n 3, 0, 3, 0, 0), (3, .bipush 33, 33, 0, 0, 0), (5, .if_icmp .ge 16, 0, 115, 0, 0), (8, .aload_n 0, 0, 0, 0, 0), (9, .getfield 23, 0, 5, 2, 2), (12, .iload_n 3, 0, 3, 0, 0), (13, .iconst 0, 0, 0, 0, 0), (14, .iastore, 0, 0, 0, 0), (15, .iinc 3 1, 1, 3, 0, 0), (18, .goto (-16), 0, 114, 0, 0)]
def kX5_makePlan_21 : List e_Op := [(21, .bipush 23, 23, 0, 0, 0), (23, .istore_n 3, 0, 3, 0, 0), (24, .nop, 0, 116, 0, 0)]
def kX5_makePlan_24 : List e_Op := [(24, .iload_n 3, 0, 3, 0, 0), (25, .ifCond .lt 21, 0, 117, 0, 0), (28, .aload_n 0, 0, 0, 0, 0), (29, .aload_n 1, 0, 1, 0, 0), (30, .iload_n 2, 0, 2, 0, 0), (31, .iload_n 3, 0, 3, 0, 0), (32, .invokevirtual 30, 0, 118, 4, 30), (35, .aload_n 0, 0, 0, 0, 0), (36, .iload_n 3, 0, 3, 0, 0), (37, .invokevirtual 34, 0, 125, 2, 31), (40, .iinc 3 (-1), (-1), 3, 0, 0), (43, .goto (-19), 0, 116, 0, 0)]
def kX5_makePlan_46 : List e_Op := [(46, .aload_n 0, 0, 0, 0, 0), (47, .aload_n 1, 0, 1, 0, 0), (48, .getfield 38, 0, 1, 5, 2), (51, .iload_n 2, 0, 2, 0, 0), (52, .aaload, 0, 0, 0, 0), (53, .getfield 44, 0, 4, 4, 2), (56, .getfield 50, 0, 7, 5, 0), (59, .bipush 16, 16, 0, 0, 0), (61, .iadd, 0, 0, 0, 0), (62, .invokevirtual 56, 0, 132, 2, 32), (65, .ireturn, 0, 1, 0, 0)]
def kX5_countStepsAfter_0 : List e_Op := [(0, .aload_n 0, 0, 0, 0, 0), (1, .getfield 12, 0, 5, 0, 2), (4, .aload_n 1, 0, 1, 0, 0), (5, .iload_n 3, 0, 3, 0, 0), (6, .iconst 1, 1, 0, 0, 0), (7, .invokevirtual 60, 0, 89, 4, 19), (10, .iconst 0, 0, 0, 0, 0), (11, .istore 4, 0, 4, 0, 0), (13, .nop, 0, 119, 0, 0)]
def kX5_countStepsAfter_13 : List e_Op := [(13, .iload 4, 0, 4, 0, 0), (15, .bipush 33, 33, 0, 0, 0), (17, .if_icmp .ge 70, 0, 124, 0, 0), (20, .aload_n 0, 0, 0, 0, 0), (21, .getfield 12, 0, 5, 0, 2), (24, .aload_n 1, 0, 1, 0, 0), (25, .iload_n 2, 0, 2, 0, 0), (26, .iload 4, 0, 4, 0, 0), (28, .bipush 16, 16, 0, 0, 0), (30, .isub, 0, 0, 0, 0), (31, .invokevirtual 64, 0, 92, 4, 20), (34, .aload_n 0, 0, 0, 0, 0), (35, .getfield 12, 0, 5, 0, 2), (38, .aload_n 1, 0, 1, 0, 0), (39, .getfield 67, 0, 1, 2, 0), (42, .invokevirtual 70, 0, 97, 2, 21), (45, .ifCond .ne 7, 0, 120, 0, 0), (48, .iconst 1, 1, 0, 0, 0), (49, .goto 4, 0, 121, 0, 0)]
def kX5_countStepsAfter_52 : List e_Op := [(52, .iconst 0, 0, 0, 0, 0), (53, .nop, 0, 121, 0, 0)]
def kX5_countStepsAfter_53 : List e_Op := [(53, .istore 5, 0, 5, 0, 0), (55, .aload_n 0, 0, 0, 0, 0), (56, .getfield 20, 0, 5, 1, 2), (59, .iload_n 3, 0, 3, 0, 0), (60, .aaload, 0, 0, 0, 0), (61, .iload 4, 0, 4, 0, 0), (63, .iload 5, 0, 5, 0, 0), (65, .ifCond .eq 13, 0, 122, 0, 0), (68, .aload_n 0, 0, 0, 0, 0), (69, .getfield 23, 0, 5, 2, 2), (72, .iload 4, 0, 4, 0, 0), (74, .iaload, 0, 0, 0, 0), (75, .goto 5, 0, 123, 0, 0)]
def kX5_countStepsAfter_78 : List e_Op := [(78, .ldc 74, 1000000, 0, 0, 0), (80, .nop, 0, 123, 0, 0)]
def kX5_countStepsAfter_80 : List e_Op := [(80, .iastore, 0, 0, 0, 0), (81, .iinc 4 1, 1, 4, 0, 0), (84, .goto (-71), 0, 119, 0, 0)]
def kX5_countStepsAfter_87 : List e_Op := [(87, .return_, 0, 0, 0, 0)]
def kX5_countStepsFrom_0 : List e_Op := [(0, .iconst 0, 0, 0, 0, 0), (1, .istore_n 2, 0, 2, 0, 0), (2, .nop, 0, 126, 0, 0)]
def kX5_countStepsFrom_2 : List e_Op := [(2, .iload_n 2, 0, 2, 0, 0), (3, .bipush 33, 33, 0, 0, 0), (5, .if_icmp .ge 23, 0, 127, 0, 0), (8, .aload_n 0, 0, 0, 0, 0), (9, .getfield 23, 0, 5, 2, 2), (12, .iload_n 2, 0, 2, 0, 0), (13, .aload_n 0, 0, 0, 0, 0), (14, .getfield 20, 0, 5, 1, 2), (17, .iload_n 1, 0, 1, 0, 0), (18, .aaload, 0, 0, 0, 0), (19, .iload_n 2, 0, 2, 0, 0), (20, .iaload, 0, 0, 0, 0), (21, .iastore, 0, 0, 0, 0), (22, .iinc 2 1, 1, 2, 0, 0), (25, .goto (-23), 0, 126, 0, 0)]
def kX5_countStepsFrom_28 : List e_Op := [(28, .iconst 1, 1, 0, 0, 0), (29, .istore_n 2, 0, 2, 0, 0), (30, .nop, 0, 128, 0, 0)]
def kX5_countStepsFrom_30 : List e_Op := [(30, .iload_n 2, 0, 2, 0, 0), (31, .bipush 33, 33, 0, 0, 0), (33, .if_icmp .ge 34, 0, 129, 0, 0), (36, .aload_n 0, 0, 0, 0, 0), (37, .getfield 23, 0, 5, 2, 2), (40, .iload_n 2, 0, 2, 0, 0), (41, .aload_n 0, 0, 0, 0, 0), (42, .getfield 23, 0, 5, 2, 2), (45, .iload_n 2, 0, 2, 0, 0), (46, .iaload, 0, 0, 0, 0), (47, .aload_n 0, 0, 0, 0, 0), (48, .getfield 23, 0, 5, 2, 2), (51, .iload_n 2, 0, 2, 0, 0), (52, .iconst 1, 1, 0, 0, 0), (53, .isub, 0, 0, 0, 0), (54, .iaload, 0, 0, 0, 0), (55, .iconst 1, 1, 0, 0, 0), (56, .iadd, 0, 0, 0, 0), (57, .invokestatic 75, 0, 0, 0, 992), (60, .iastore, 0, 0, 0, 0), (61, .iinc 2 1, 1, 2, 0, 0), (64, .goto (-34), 0, 128, 0, 0)]
def kX5_countStepsFrom_67 : List e_Op := [(67, .bipush 31, 31, 0, 0, 0), (69, .istore_n 2, 0, 2, 0, 0), (70, .nop, 0, 130, 0, 0)]
def kX5_countStepsFrom_70 : List e_Op := [(70, .iload_n 2, 0, 2, 0, 0), (71, .ifCond .lt 34, 0, 131, 0, 0), (74, .aload_n 0, 0, 0, 0, 0), (75, .getfield 23, 0, 5, 2, 2), (78, .iload_n 2, 0, 2, 0, 0), (79, .aload_n 0, 0, 0, 0, 0), (80, .getfield 23, 0, 5, 2, 2), (83, .iload_n 2, 0, 2, 0, 0), (84, .iaload, 0, 0, 0, 0), (85, .aload_n 0, 0, 0, 0, 0), (86, .getfield 23, 0, 5, 2, 2), (89, .iload_n 2, 0, 2, 0, 0), (90, .iconst 1, 1, 0, 0, 0), (91, .iadd, 0, 0, 0, 0), (92, .iaload, 0, 0, 0, 0), (93, .iconst 1, 1, 0, 0, 0), (94, .iadd, 0, 0, 0, 0), (95, .invokestatic 75, 0, 0, 0, 992), (98, .iastore, 0, 0, 0, 0), (99, .iinc 2 (-1), (-1), 2, 0, 0), (102, .goto (-32), 0, 130, 0, 0)]
def kX5_countStepsFrom_105 : List e_Op := [(105, .return_, 0, 0, 0, 0)]
def kX5_chooseTaps_0 : List e_Op := [(0, .aload_n 0, 0, 0, 0, 0), (1, .iconst 0, 0, 0, 0, 0), (2, .putfield 81, 0, 5, 4, 0), (5, .iload_n 1, 0, 1, 0, 0), (6, .istore_n 2, 0, 2, 0, 0), (7, .iconst 0, 0, 0, 0, 0), (8, .istore_n 3, 0, 3, 0, 0), (9, .nop, 0, 133, 0, 0)]
def kX5_chooseTaps_9 : List e_Op := [(9, .iload_n 3, 0, 3, 0, 0), (10, .bipush 24, 24, 0, 0, 0), (12, .if_icmp .ge 54, 0, 135, 0, 0), (15, .aload_n 0, 0, 0, 0, 0), (16, .iload_n 3, 0, 3, 0, 0), (17, .iload_n 2, 0, 2, 0, 0), (18, .invokevirtual 84, 0, 136, 3, 33), (21, .istore 4, 0, 4, 0, 0), (23, .iload 4, 0, 4, 0, 0), (25, .ifCond .ge 5, 0, 134, 0, 0), (28, .iconst 0, 0, 0, 0, 0), (29, .ireturn, 0, 1, 0, 0)]
def kX5_chooseTaps_30 : List e_Op := [(30, .aload_n 0, 0, 0, 0, 0), (31, .dup, 0, 0, 0, 0), (32, .getfield 81, 0, 5, 4, 0), (35, .iload 4, 0, 4, 0, 0), (37, .iload_n 2, 0, 2, 0, 0), (38, .isub, 0, 0, 0, 0), (39, .invokestatic 87, 0, 0, 0, 993), (42, .iadd, 0, 0, 0, 0), (43, .putfield 81, 0, 5, 4, 0), (46, .aload_n 0, 0, 0, 0, 0), (47, .getfield 27, 0, 5, 3, 2), (50, .iload_n 3, 0, 3, 0, 0), (51, .iload 4, 0, 4, 0, 0), (53, .bipush 16, 16, 0, 0, 0), (55, .isub, 0, 0, 0, 0), (56, .iastore, 0, 0, 0, 0), (57, .iload 4, 0, 4, 0, 0), (59, .istore_n 2, 0, 2, 0, 0), (60, .iinc 3 1, 1, 3, 0, 0), (63, .goto (-54), 0, 133, 0, 0)]
def kX5_chooseTaps_66 : List e_Op := [(66, .iconst 1, 1, 0, 0, 0), (67, .ireturn, 0, 1, 0, 0)]
def kX5_bestPlace_0 : List e_Op := [(0, .iconst (-1), (-1), 0, 0, 0), (1, .istore_n 3, 0, 3, 0, 0), (2, .ldc 74, 1000000, 0, 0, 0), (4, .istore 4, 0, 4, 0, 0), (6, .iconst 0, 0, 0, 0, 0), (7, .istore 5, 0, 5, 0, 0), (9, .nop, 0, 137, 0, 0)]
def kX5_bestPlace_9 : List e_Op := [(9, .iload 5, 0, 5, 0, 0), (11, .bipush 33, 33, 0, 0, 0), (13, .if_icmp .ge 42, 0, 139, 0, 0), (16, .iload 5, 0, 5, 0, 0), (18, .iload_n 2, 0, 2, 0, 0), (19, .isub, 0, 0, 0, 0), (20, .invokestatic 87, 0, 0, 0, 993), (23, .aload_n 0, 0, 0, 0, 0), (24, .getfield 20, 0, 5, 1, 2), (27, .iload_n 1, 0, 1, 0, 0), (28, .aaload, 0, 0, 0, 0), (29, .iload 5, 0, 5, 0, 0), (31, .iaload, 0, 0, 0, 0), (32, .iadd, 0, 0, 0, 0), (33, .istore 6, 0, 6, 0, 0), (35, .iload 6, 0, 6, 0, 0), (37, .iload 4, 0, 4, 0, 0), (39, .if_icmp .ge 10, 0, 138, 0, 0), (42, .iload 5, 0, 5, 0, 0), (44, .istore_n 3, 0, 3, 0, 0), (45, .iload 6, 0, 6, 0, 0), (47, .istore 4, 0, 4, 0, 0), (49, .nop, 0, 138, 0, 0)]
def kX5_bestPlace_49 : List e_Op := [(49, .iinc 5 1, 1, 5, 0, 0), (52, .goto (-43), 0, 137, 0, 0)]
def kX5_bestPlace_55 : List e_Op := [(55, .iload_n 3, 0, 3, 0, 0), (56, .ireturn, 0, 0, 0, 0)]
def kX6_init_0 : List e_Op := [(0, .aload_n 0, 0, 0, 0, 0), (1, .invokespecial 3, 0, 0, 0, 999), (4, .aload_n 0, 0, 0, 0, 0), (5, .bipush 120, 120, 0, 0, 0), (7, .newarray .byte, 0, 11, 0, 0), (9, .putfield 9, 0, 6, 0, 2), (12, .return_, 0, 0, 0, 0)]
def kX6_readItems_0 : List e_Op := [(0, .aload_n 0, 0, 0, 0, 0), (1, .iconst 0, 0, 0, 0, 0), (2, .putfield 15, 0, 6, 2, 0), (5, .aload_n 0, 0, 0, 0, 0), (6, .iconst (-1), (-1), 0, 0, 0), (7, .putfield 19, 0, 6, 3, 0), (10, .iconst 0, 0, 0, 0, 0), (11, .istore_n 2, 0, 2, 0, 0), (12, .aload_n 0, 0, 0, 0, 0), (13, .invokevirtual 22, 0, 163, 1, 40), (16, .aload_n 0, 0, 0, 0, 0), (17, .getfield 25, 0, 6, 1, 0), (20, .istore_n 3, 0, 3, 0, 0), (21, .nop, 0, 142, 0, 0)]
def kX6_readItems_21 : List e_Op := [(21, .iload_n 3, 0, 3, 0, 0), (22, .ifCond .le 39, 0, 143, 0, 0), (25, .aload_n 0, 0, 0, 0, 0), (26, .getfield 15, 0, 6, 2, 0), (29, .aload_n 0, 0, 0, 0, 0), (30, .getfield 25, 0, 6, 1, 0), (33, .if_icmp .ge 28, 0, 143, 0, 0), (36, .aload_n 0, 0, 0, 0, 0), (37, .getfield 19, 0, 6, 3, 0), (40, .ifCond .ge 21, 0, 143, 0, 0), (43, .aload_n 0, 0, 0, 0, 0), (44, .aload_n 1, 0, 1, 0, 0), (45, .invokevirtual 28, 0, 144, 2, 36), (48, .aload_n 0, 0, 0, 0, 0), (49, .invokevirtual 22, 0, 163, 1, 40), (52, .iinc 2 1, 1, 2, 0, 0), (55, .iinc 3 (-1), (-1), 3, 0, 0), (58, .goto (-37), 0, 142, 0, 0)]
def kX6_readItems_61 : List e_Op := [(61, .iload_n 2, 0, 2, 0, 0), (62, .ireturn, 0, 0, 0, 0)]
def kX6_readItem_0 : List e_Op := [(0, .aload_n 0, 0, 0, 0, 0), (1, .iconst 0, 0, 0, 0, 0), (2, .bipush 23, 23, 0, 0, 0), (4, .invokevirtual 32, 0, 149, 3, 37), (7, .istore_n 2, 0, 2, 0, 0), (8, .iload_n 2, 0, 2, 0, 0), (9, .istore_n 3, 0, 3, 0, 0), (10, .aload_n 0, 0, 0, 0, 0), (11, .bipush 45, 45, 0, 0, 0), (13, .invokevirtual 36, 0, 156, 2, 38), (16, .ifCond .eq 17, 0, 145, 0, 0), (19, .aload_n 0, 0, 0, 0, 0), (20, .bipush 45, 45, 0, 0, 0), (22, .invokevirtual 40, 0, 159, 2, 39), (25, .aload_n 0, 0, 0, 0, 0), (26, .iload_n 2, 0, 2, 0, 0), (27, .bipush 23, 23, 0, 0, 0), (29, .invokevirtual 32, 0, 149, 3, 37), (32, .istore_n 3, 0, 3, 0, 0), (33, .nop, 0, 145, 0, 0)]
def kX6_readItem_33 : List e_Op := [(33, .aload_n 0, 0, 0, 0, 0), (34, .bipush 58, 58, 0, 0, 0), (36, .invokevirtual 40, 0, 159, 2, 39), (39, .aload_n 0, 0, 0, 0, 0), (40, .iconst 0, 0, 0, 0, 0), (41, .sipush 200, 200, 0, 0, 0), (44, .invokevirtual 32, 0, 149, 3, 37), (47, .istore 4, 0, 4, 0, 0), (49, .aload_n 0, 0, 0, 0, 0), (50, .bipush 59, 59, 0, 0, 0), (52, .invokevirtual 40, 0, 159, 2, 39), (55, .aload_n 0, 0, 0, 0, 0), (56, .getfield 19, 0, 6, 3, 0), (59, .ifCond .lt 4, 0, 146, 0, 0), (62, .return_, 0, 0, 0, 0)]
def kX6_readItem_63 : List e_Op := [(63, .iload_n 2, 0, 2, 0, 0), (64, .istore 5, 0, 5, 0, 0), (66, .nop, 0, 147, 0, 0)]
def kX6_readItem_66 : List e_Op := [(66, .iload 5, 0, 5, 0, 0), (68, .iload_n 3, 0, 3, 0, 0), (69, .if_icmp .gt 15, 0, 148, 0, 0), (72, .aload_n 1, 0, 1, 0, 0), (73, .iload 5, 0, 5, 0, 0), (75, .iload 4, 0, 4, 0, 0), (77, .iastore, 0, 0, 0, 0), (78, .iinc 5 1, 1, 5, 0, 0), (81, .goto (-15), 0, 147, 0, 0)]
def kX6_readItem_84 : List e_Op := [(84, .return_, 0, 0, 0, 0)]
def kX6_readNumber_0 : List e_Op := [(0, .aload_n 0, 0, 0, 0, 0), (1, .getfield 19, 0, 6, 3, 0), (4, .ifCond .lt 5, 0, 150, 0, 0), (7, .iload_n 1, 0, 1, 0, 0), (8, .ireturn, 0, 0, 0, 0)]
def kX6_readNumber_9 : List e_Op := [(9, .aload_n 0, 0, 0, 0, 0), (10, .invokevirtual 22, 0, 163, 1, 40), (13, .aload_n 0, 0, 0, 0, 0), (14, .getfield 15, 0, 6, 2, 0), (17, .istore_n 3, 0, 3, 0, 0), (18, .iconst 0, 0, 0, 0, 0), (19, .istore 4, 0, 4, 0, 0), (21, .nop, 0, 151, 0, 0)]
def kX6_readNumber_21 : List e_Op := [(21, .aload_n 0, 0, 0, 0, 0), (22, .getfield 15, 0, 6, 2, 0), (25, .aload_n 0, 0, 0, 0, 0), (26, .getfield 25, 0, 6, 1, 0), (29, .if_icmp .ge 75, 0, 153, 0, 0), (32, .aload_n 0, 0, 0, 0, 0), (33, .getfield 9, 0, 6, 0, 2), (36, .aload_n 0, 0, 0, 0, 0), (37, .getfield 15, 0, 6, 2, 0), (40, .baload, 0, 0, 0, 0), (41, .bipush 48, 48, 0, 0, 0), (43, .bipush 57, 57, 0, 0, 0), (45, .invokestatic 44, 0, 285, 3, 80), (48, .ifCond .eq 56, 0, 153, 0, 0), (51, .aload_n 0, 0, 0, 0, 0), (52, .getfield 15, 0, 6, 2, 0), (55, .iload_n 3, 0, 3, 0, 0), (56, .isub, 0, 0, 0, 0), (57, .iconst 3, 3, 0, 0, 0), (58, .if_icmp .ne 13, 0, 152, 0, 0), (61, .aload_n 0, 0, 0, 0, 0), (62, .aload_n 0, 0, 0, 0, 0), (63, .getfield 15, 0, 6, 2, 0), (66, .putfield 19, 0, 6, 3, 0), (69, .iload_n 1, 0, 1, 0, 0), (70, .ireturn, 0, 0, 0, 0)]
def kX6_readNumber_71 : List e_Op := [(71, .bipush 10, 10, 0, 0, 0), (73, .iload 4, 0, 4, 0, 0), (75, .imul, 0, 0, 0, 0), (76, .aload_n 0, 0, 0, 0, 0), (77, .getfield 9, 0, 6, 0, 2), (80, .aload_n 0, 0, 0, 0, 0), (81, .getfield 15, 0, 6, 2, 0), (84, .baload, 0, 0, 0, 0), (85, .iadd, 0, 0, 0, 0), (86, .bipush 48, 48, 0, 0, 0), (88, .isub, 0, 0, 0, 0), (89, .istore 4, 0, 4, 0, 0), (91, .aload_n 0, 0, 0, 0, 0), (92, .dup, 0, 0, 0, 0), (93, .getfield 15, 0, 6, 2, 0), (96, .iconst 1, 1, 0, 0, 0), (97, .iadd, 0, 0, 0, 0), (98, .putfield 15, 0, 6, 2, 0), (101, .goto (-80), 0, 151, 0, 0)]
def kX6_readNumber_104 : List e_Op := [(104, .aload_n 0, 0, 0, 0, 0), (105, .getfield 15, 0, 6, 2, 0), (108, .iload_n 3, 0, 3, 0, 0), (109, .if_icmp .eq 13, 0, 154, 0, 0), (112, .iload 4, 0, 4, 0, 0), (114, .iload_n 1, 0, 1, 0, 0), (115, .iload_n 2, 0, 2, 0, 0), (116, .invokestatic 44, 0, 285, 3, 80), (119, .ifCond .ne 10, 0, 155, 0, 0), (122, .nop, 0, 154, 0, 0)]
def kX6_readNumber_122 : List e_Op := [(122, .aload_n 0, 0, 0, 0, 0), (123, .iload_n 3, 0, 3, 0, 0), (124, .putfield 19, 0, 6, 3, 0), (127, .iload_n 1, 0, 1, 0, 0), (128, .ireturn, 0, 0, 0, 0)]
def kX6_readNumber_129 : List e_Op := [(129, .iload 4, 0, 4, 0, 0), (131, .ireturn, 0, 0, 0, 0)]
def kX6_isNext_0 : List e_Op := [(0, .aload_n 0, 0, 0, 0, 0), (1, .invokevirtual 22, 0, 163, 1, 40), (4, .aload_n 0, 0, 0, 0, 0), (5, .getfield 15, 0, 6, 2, 0), (8, .aload_n 0, 0, 0, 0, 0), (9, .getfield 25, 0, 6, 1, 0), (12, .if_icmp .ge 20, 0, 157, 0, 0), (15, .aload_n 0, 0, 0, 0, 0), (16, .getfield 9, 0, 6, 0, 2), (19, .aload_n 0, 0, 0, 0, 0), (20, .getfield 15, 0, 6, 2, 0), (23, .baload, 0, 0, 0, 0), (24, .iload_n 1, 0, 1, 0, 0), (25, .if_icmp .ne 7, 0, 157, 0, 0), (28, .iconst 1, 1, 0, 0, 0), (29, .goto 4, 0, 158, 0, 0)]
def kX6_isNext_32 : List e_Op := [(32, .iconst 0, 0, 0, 0, 0), (33, .nop, 0, 158, 0, 0)]
def kX6_isNext_33 : List e_Op := [(33, .ireturn, 0, 1, 0, 0)]
def kX6_expect_0 : List e_Op := [(0, .aload_n 0, 0, 0, 0, 0), (1, .getfield 19, 0, 6, 3, 0), (4, .ifCond .lt 4, 0, 160, 0, 0), (7, .return_, 0, 0, 0, 0)]
def kX6_expect_8 : List e_Op := [(8, .aload_n 0, 0, 0, 0, 0), (9, .iload_n 1, 0, 1, 0, 0), (10, .invokevirtual 36, 0, 156, 2, 38), (13, .ifCond .eq 16, 0, 161, 0, 0), (16, .aload_n 0, 0, 0, 0, 0), (17, .dup, 0, 0, 0, 0), (18, .getfield 15, 0, 6, 2, 0), (21, .iconst 1, 1, 0, 0, 0), (22, .iadd, 0, 0, 0, 0), (23, .putfield 15, 0, 6, 2, 0), (26, .goto 11, 0, 162, 0, 0)]
def kX6_expect_29 : List e_Op := [(29, .aload_n 0, 0, 0, 0, 0), (30, .aload_n 0, 0, 0, 0, 0), (31, .getfield 15, 0, 6, 2, 0), (34, .putfield 19, 0, 6, 3, 0), (37, .nop, 0, 162, 0, 0)]
def kX6_expect_37 : List e_Op := [(37, .return_, 0, 0, 0, 0)]
def kX6_skipSpaces_0 : List e_Op := [(0, .aload_n 0, 0, 0, 0, 0), (1, .getfield 15, 0, 6, 2, 0), (4, .aload_n 0, 0, 0, 0, 0), (5, .getfield 25, 0, 6, 1, 0), (8, .if_icmp .ge 30, 0, 164, 0, 0), (11, .aload_n 0, 0, 0, 0, 0), (12, .getfield 9, 0, 6, 0, 2), (15, .aload_n 0, 0, 0, 0, 0), (16, .getfield 15, 0, 6, 2, 0), (19, .baload, 0, 0, 0, 0), (20, .bipush 32, 32, 0, 0, 0), (22, .if_icmp .ne 16, 0, 164, 0, 0), (25, .aload_n 0, 0, 0, 0, 0), (26, .dup, 0, 0, 0, 0), (27, .getfield 15, 0, 6, 2, 0), (30, .iconst 1, 1, 0, 0, 0), (31, .iadd, 0, 0, 0, 0), (32, .putfield 15, 0, 6, 2, 0), (35, .goto (-35), 0, 163, 0, 0)]
def kX6_skipSpaces_38 : List e_Op := [(38, .return_, 0, 0, 0, 0)]
def kX7_init_0 : List e_Op := [(0, .aload_n 0, 0, 0, 0, 0), (1, .invokespecial 3, 0, 0, 0, 999), (4, .return_, 0, 0, 0, 0)]
def kX7_copyFrom_0 : List e_Op := [(0, .aload_n 0, 0, 0, 0, 0), (1, .aload_n 1, 0, 1, 0, 0), (2, .getfield 9, 0, 7, 0, 1), (5, .putfield 9, 0, 7, 0, 1), (8, .aload_n 0, 0, 0, 0, 0), (9, .aload_n 1, 0, 1, 0, 0), (10, .getfield 15, 0, 7, 1, 0), (13, .putfield 15, 0, 7, 1, 0), (16, .aload_n 0, 0, 0, 0, 0), (17, .aload_n 1, 0, 1, 0, 0), (18, .getfield 19, 0, 7, 2, 0), (21, .putfield 19, 0, 7, 2, 0), (24, .aload_n 0, 0, 0, 0, 0), (25, .aload_n 1, 0, 1, 0, 0), (26, .getfield 22, 0, 7, 3, 0), (29, .putfield 22, 0, 7, 3, 0), (32, .aload_n 0, 0, 0, 0, 0), (33, .aload_n 1, 0, 1, 0, 0), (34, .getfield 25, 0, 7, 4, 1), (37, .putfield 25, 0, 7, 4, 1), (40, .aload_n 0, 0, 0, 0, 0), (41, .aload_n 1, 0, 1, 0, 0), (42, .getfield 28, 0, 7, 5, 0), (45, .putfield 28, 0, 7, 5, 0), (48, .aload_n 0, 0, 0, 0, 0), (49, .aload_n 1, 0, 1, 0, 0), (50, .getfield 31, 0, 7, 6, 0), (53, .putfield 31, 0, 7, 6, 0), (56, .aload_n 0, 0, 0, 0, 0), (57, .aload_n 1, 0, 1, 0, 0), (58, .getfield 34, 0, 7, 7, 0), (61, .putfield 34, 0, 7, 7, 0), (64, .aload_n 0, 0, 0, 0, 0), (65, .aload_n 1, 0, 1, 0, 0), (66, .getfield 37, 0, 7, 8, 1), (69, .putfield 37, 0, 7, 8, 1), (72, .aload_n 0, 0, 0, 0, 0), (73, .aload_n 1, 0, 1, 0, 0), (74, .getfield 40, 0, 7, 9, 0), (77, .putfield 40, 0, 7, 9, 0), (80, .aload_n 0, 0, 0, 0, 0), (81, .aload_n 1, 0, 1, 0, 0), (82, .getfield 43, 0, 7, 10, 0), (85, .putfield 43, 0, 7, 10, 0), (88, .aload_n 0, 0, 0, 0, 0), (89, .aload_n 1, 0, 1, 0, 0), (90, .getfield 46, 0, 7, 11, 0), (93, .putfield 46, 0, 7, 11, 0), (96, .return_, 0, 0, 0, 0)]
def kX7_release_0 : List e_Op := [(0, .aload_n 0, 0, 0, 0, 0), (1, .iconst 0, 0, 0, 0, 0), (2, .putfield 37, 0, 7, 8, 1), (5, .aload_n 0, 0, 0, 0, 0), (6, .iconst 0, 0, 0, 0, 0), (7, .putfield 46, 0, 7, 11, 0), (10, .return_, 0, 0, 0, 0)]
def kX7_wantedDirection_0 : List e_Op := [(0, .aload_n 0, 0, 0, 0, 0), (1, .getfield 37, 0, 7, 8, 1), (4, .ifCond .ne 14, 0, 169, 0, 0), (7, .aload_n 0, 0, 0, 0, 0), (8, .getfield 25, 0, 7, 4, 1), (11, .ifCond .eq 9, 0, 170, 0, 0), (14, .iload_n 2, 0, 2, 0, 0), (15, .ifCond .ge 5, 0, 170, 0, 0), (18, .nop, 0, 169, 0, 0)]
def kX7_wantedDirection_18 : List e_Op := [(18, .iconst 0, 0, 0, 0, 0), (19, .ireturn, 0, 0, 0, 0)]
def kX7_wantedDirection_20 : List e_Op := [(20, .iload_n 1, 0, 1, 0, 0), (21, .aload_n 0, 0, 0, 0, 0), (22, .getfield 15, 0, 7, 1, 0), (25, .aload_n 0, 0, 0, 0, 0), (26, .getfield 19, 0, 7, 2, 0), (29, .isub, 0, 0, 0, 0), (30, .if_icmp .ge 14, 0, 171, 0, 0), (33, .aload_n 0, 0, 0, 0, 0), (34, .getfield 28, 0, 7, 5, 0), (37, .bipush 16, 16, 0, 0, 0), (39, .if_icmp .ge 5, 0, 171, 0, 0), (42, .iconst 1, 1, 0, 0, 0), (43, .ireturn, 0, 0, 0, 0)]
def kX7_wantedDirection_44 : List e_Op := [(44, .iload_n 1, 0, 1, 0, 0), (45, .aload_n 0, 0, 0, 0, 0), (46, .getfield 15, 0, 7, 1, 0), (49, .aload_n 0, 0, 0, 0, 0), (50, .getfield 19, 0, 7, 2, 0), (53, .iadd, 0, 0, 0, 0), (54, .if_icmp .le 16, 0, 172, 0, 0), (57, .aload_n 0, 0, 0, 0, 0), (58, .getfield 28, 0, 7, 5, 0), (61, .bipush (-16), (-16), 0, 0, 0), (63, .if_icmp .le 7, 0, 172, 0, 0), (66, .iconst (-1), (-1), 0, 0, 0), (67, .goto 4, 0, 173, 0, 0)]
def kX7_wantedDirection_70 : List e_Op := [(70, .iconst 0, 0, 0, 0, 0), (71, .nop, 0, 173, 0, 0)]
def kX7_wantedDirection_71 : List e_Op := [(71, .ireturn, 0, 0, 0, 0)]
def kX7_countMinute_0 : List e_Op := [(0, .iload_n 1, 0, 1, 0, 0), (1, .ifCond .ne 11, 0, 175, 0, 0), (4, .aload_n 0, 0, 0, 0, 0), (5, .iconst 0, 0, 0, 0, 0), (6, .putfield 31, 0, 7, 6, 0), (9, .goto 30, 0, 177, 0, 0)]
def kX7_countMinute_12 : List e_Op := [(12, .iload_n 1, 0, 1, 0, 0), (13, .aload_n 0, 0, 0, 0, 0), (14, .getfield 40, 0, 7, 9, 0), (17, .ineg, 0, 0, 0, 0), (18, .if_icmp .ne 11, 0, 176, 0, 0), (21, .aload_n 0, 0, 0, 0, 0), (22, .iconst 1, 1, 0, 0, 0), (23, .putfield 31, 0, 7, 6, 0), (26, .goto 13, 0, 177, 0, 0)]
def kX7_countMinute_29 : List e_Op := [(29, .aload_n 0, 0, 0, 0, 0), (30, .dup, 0, 0, 0, 0), (31, .getfield 31, 0, 7, 6, 0), (34, .iconst 1, 1, 0, 0, 0), (35, .iadd, 0, 0, 0, 0), (36, .putfield 31, 0, 7, 6, 0), (39, .nop, 0, 177, 0, 0)]
def kX7_countMinute_39 : List e_Op := [(39, .aload_n 0, 0, 0, 0, 0), (40, .iload_n 1, 0, 1, 0, 0), (41, .putfield 40, 0, 7, 9, 0), (44, .return_, 0, 0, 0, 0)]
def kX7_isDue_0 : List e_Op := [(0, .aload_n 0, 0, 0, 0, 0), (1, .getfield 40, 0, 7, 9, 0), (4, .ifCond .eq 18, 0, 179, 0, 0), (7, .aload_n 0, 0, 0, 0, 0), (8, .getfield 31, 0, 7, 6, 0), (11, .aload_n 0, 0, 0, 0, 0), (12, .getfield 22, 0, 7, 3, 0), (15, .if_icmp .le 7, 0, 179, 0, 0), (18, .iconst 1, 1, 0, 0, 0), (19, .goto 4, 0, 180, 0, 0)]
def kX7_isDue_22 : List e_Op := [(22, .iconst 0, 0, 0, 0, 0), (23, .nop, 0, 180, 0, 0)]
def kX7_isDue_23 : List e_Op := [(23, .ireturn, 0, 1, 0, 0)]
def kX7_makeStep_0 : List e_Op := [(0, .aload_n 0, 0, 0, 0, 0), (1, .getfield 43, 0, 7, 10, 0), (4, .aload_n 0, 0, 0, 0, 0), (5, .getfield 40, 0, 7, 9, 0), (8, .ineg, 0, 0, 0, 0), (9, .if_icmp .ne 30, 0, 184, 0, 0), (12, .aload_n 0, 0, 0, 0, 0), (13, .dup, 0, 0, 0, 0), (14, .getfield 46, 0, 7, 11, 0), (17, .iconst 1, 1, 0, 0, 0), (18, .iadd, 0, 0, 0, 0), (19, .putfield 46, 0, 7, 11, 0), (22, .aload_n 0, 0, 0, 0, 0), (23, .aload_n 0, 0, 0, 0, 0), (24, .getfield 46, 0, 7, 11, 0), (27, .iconst 3, 3, 0, 0, 0), (28, .if_icmp .lt 7, 0, 182, 0, 0), (31, .iconst 1, 1, 0, 0, 0), (32, .goto 4, 0, 183, 0, 0)]
def kX7_makeStep_35 : List e_Op := [(35, .iconst 0, 0, 0, 0, 0), (36, .nop, 0, 183, 0, 0)]
def kX7_makeStep_36 : List e_Op := [(36, .putfield 37, 0, 7, 8, 1), (39, .nop, 0, 184, 0, 0)]
def kX7_makeStep_39 : List e_Op := [(39, .aload_n 0, 0, 0, 0, 0), (40, .aload_n 0, 0, 0, 0, 0), (41, .getfield 40, 0, 7, 9, 0), (44, .putfield 43, 0, 7, 10, 0), (47, .aload_n 0, 0, 0, 0, 0), (48, .dup, 0, 0, 0, 0), (49, .getfield 28, 0, 7, 5, 0), (52, .aload_n 0, 0, 0, 0, 0), (53, .getfield 40, 0, 7, 9, 0), (56, .iadd, 0, 0, 0, 0), (57, .putfield 28, 0, 7, 5, 0), (60, .aload_n 0, 0, 0, 0, 0), (61, .dup, 0, 0, 0, 0), (62, .getfield 34, 0, 7, 7, 0), (65, .iconst 1, 1, 0, 0, 0), (66, .iadd, 0, 0, 0, 0), (67, .putfield 34, 0, 7, 7, 0), (70, .aload_n 0, 0, 0, 0, 0), (71, .iconst 0, 0, 0, 0, 0), (72, .putfield 31, 0, 7, 6, 0), (75, .aload_n 0, 0, 0, 0, 0), (76, .iconst 0, 0, 0, 0, 0), (77, .putfield 40, 0, 7, 9, 0), (80, .return_, 0, 0, 0, 0)]
def kX8_init_0 : List e_Op := [(0, .aload_n 0, 0, 0, 0, 0), (1, .invokespecial 1, 0, 0, 0, 999), (4, .aload_n 0, 0, 0, 0, 0), (5, .new 7, 0, 1, 6, 0), (8, .dup, 0, 0, 0, 0), (9, .invokespecial 9, 0, 63, 1, 10), (12, .putfield 10, 0, 8, 0, 2), (15, .aload_n 0, 0, 0, 0, 0), (16, .new 16, 0, 2, 3, 0), (19, .dup, 0, 0, 0, 0), (20, .invokespecial 18, 0, 87, 1, 17), (23, .putfield 19, 0, 8, 1, 2), (26, .aload_n 0, 0, 0, 0, 0), (27, .new 23, 0, 5, 5, 0), (30, .dup, 0, 0, 0, 0), (31, .invokespecial 25, 0, 112, 1, 28), (34, .putfield 26, 0, 8, 2, 2), (37, .aload_n 0, 0, 0, 0, 0), (38, .new 30, 0, 6, 4, 0), (41, .dup, 0, 0, 0, 0), (42, .invokespecial 32, 0, 140, 1, 34), (45, .putfield 33, 0, 8, 3, 2), (48, .aload_n 0, 0, 0, 0, 0), (49, .new 37, 0, 3, 2, 0), (52, .dup, 0, 0, 0, 0), (53, .invokespecial 39, 0, 101, 1, 22), (56, .putfield 40, 0, 8, 4, 2), (59, .aload_n 0, 0, 0, 0, 0), (60, .bipush 24, 24, 0, 0, 0), (62, .newarray .int, 0, 10, 0, 0), (64, .putfield 44, 0, 8, 5, 2), (67, .aload_n 0, 0, 0, 0, 0), (68, .iconst 5, 5, 0, 0, 0), (69, .newarray .int, 0, 10, 0, 0), (71, .putfield 48, 0, 8, 6, 2), (74, .return_, 0, 0, 0, 0)]
def kX8_setSource_0 : List e_Op := [(0, .iload_n 1, 0, 1, 0, 0), (1, .sipush 9000, 9000, 0, 0, 0), (4, .sipush 11000, 11000, 0, 0, 0), (7, .invokestatic 51, 0, 285, 3, 80), (10, .ifCond .ne 10, 0, 187, 0, 0), (13, .aload_n 0, 0, 0, 0, 0), (14, .bipush (-2), (-2), 0, 0, 0), (16, .invokevirtual 55, 0, 314, 2, 89), (19, .ireturn, 0, 0, 0, 0)]
def kX8_setSource_20 : List e_Op := [(20, .aload_n 0, 0, 0, 0, 0), (21, .getfield 40, 0, 8, 4, 2), (24, .aload_n 0, 0, 0, 0, 0), (25, .getfield 10, 0, 8, 0, 2), (28, .invokevirtual 59, 0, 104, 2, 23), (31, .aload_n 0, 0, 0, 0, 0), (32, .getfield 10, 0, 8, 0, 2), (35, .getfield 63, 0, 1, 1, 0), (38, .istore_n 2, 0, 2, 0, 0), (39, .aload_n 0, 0, 0, 0, 0), (40, .getfield 10, 0, 8, 0, 2), (43, .iload_n 1, 0, 1, 0, 0), (44, .putfield 63, 0, 1, 1, 0), (47, .iload_n 2, 0, 2, 0, 0), (48, .ireturn, 0, 0, 0, 0)]
def kX8_addNode_0 : List e_Op := [(0, .iload_n 1, 0, 1, 0, 0), (1, .iconst 0, 0, 0, 0, 0), (2, .bipush 50, 50, 0, 0, 0), (4, .invokestatic 51, 0, 285, 3, 80), (7, .ifCond .eq 22, 0, 189, 0, 0), (10, .iload_n 2, 0, 2, 0, 0), (11, .iconst 0, 0, 0, 0, 0), (12, .bipush 50, 50, 0, 0, 0), (14, .invokestatic 51, 0, 285, 3, 80), (17, .ifCond .eq 12, 0, 189, 0, 0), (20, .iload_n 3, 0, 3, 0, 0), (21, .iload 4, 0, 4, 0, 0), (23, .invokestatic 67, 0, 289, 2, 82), (26, .ifCond .ne 10, 0, 190, 0, 0), (29, .nop, 0, 189, 0, 0)]
def kX8_addNode_29 : List e_Op := [(29, .aload_n 0, 0, 0, 0, 0), (30, .bipush (-2), (-2), 0, 0, 0), (32, .invokevirtual 55, 0, 314, 2, 89), (35, .ireturn, 0, 0, 0, 0)]
def kX8_addNode_36 : List e_Op := [(36, .aload_n 0, 0, 0, 0, 0), (37, .getfield 10, 0, 8, 0, 2), (40, .getfield 71, 0, 1, 2, 0), (43, .bipush 8, 8, 0, 0, 0), (45, .if_icmp .lt 10, 0, 191, 0, 0), (48, .aload_n 0, 0, 0, 0, 0), (49, .bipush (-5), (-5), 0, 0, 0), (51, .invokevirtual 55, 0, 314, 2, 89), (54, .ireturn, 0, 0, 0, 0)]
def kX8_addNode_55 : List e_Op := [(55, .aload_n 0, 0, 0, 0, 0), (56, .getfield 40, 0, 8, 4, 2), (59, .aload_n 0, 0, 0, 0, 0), (60, .getfield 10, 0, 8, 0, 2), (63, .invokevirtual 59, 0, 104, 2, 23), (66, .aload_n 0, 0, 0, 0, 0), (67, .getfield 10, 0, 8, 0, 2), (70, .dup, 0, 0, 0, 0), (71, .getfield 71, 0, 1, 2, 0), (74, .iconst 1, 1, 0, 0, 0), (75, .iadd, 0, 0, 0, 0), (76, .putfield 71, 0, 1, 2, 0), (79, .aload_n 0, 0, 0, 0, 0), (80, .getfield 10, 0, 8, 0, 2), (83, .getfield 74, 0, 1, 5, 2), (86, .aload_n 0, 0, 0, 0, 0), (87, .getfield 10, 0, 8, 0, 2), (90, .getfield 71, 0, 1, 2, 0), (93, .aaload, 0, 0, 0, 0), (94, .astore 5, 0, 5, 0, 0), (96, .aload 5, 0, 5, 0, 0), (98, .iload_n 1, 0, 1, 0, 0), (99, .putfield 78, 0, 4, 0, 0), (102, .aload 5, 0, 5, 0, 0), (104, .iload_n 2, 0, 2, 0, 0), (105, .putfield 83, 0, 4, 1, 0), (108, .aload 5, 0, 5, 0, 0), (110, .iload_n 3, 0, 3, 0, 0), (111, .putfield 86, 0, 4, 2, 0), (114, .aload 5, 0, 5, 0, 0), (116, .iload 4, 0, 4, 0, 0), (118, .putfield 89, 0, 4, 3, 0), (121, .aload_n 0, 0, 0, 0, 0), (122, .getfield 10, 0, 8, 0, 2), (125, .getfield 71, 0, 1, 2, 0), (128, .ireturn, 0, 0, 0, 0)]
def kX8_setLoad_0 : List e_Op := [(0, .aload_n 0, 0, 0, 0, 0), (1, .iload_n 1, 0, 1, 0, 0), (2, .invokevirtual 92, 0, 304, 2, 85), (5, .ifCond .eq 11, 0, 193, 0, 0), (8, .iload_n 2, 0, 2, 0, 0), (9, .iload_n 3, 0, 3, 0, 0), (10, .invokestatic 67, 0, 289, 2, 82), (13, .ifCond .ne 10, 0, 194, 0, 0), (16, .nop, 0, 193, 0, 0)]
def kX8_setLoad_16 : List e_Op := [(16, .aload_n 0, 0, 0, 0, 0), (17, .bipush (-2), (-2), 0, 0, 0), (19, .invokevirtual 55, 0, 314, 2, 89), (22, .ireturn, 0, 0, 0, 0)]
def kX8_setLoad_23 : List e_Op := [(23, .aload_n 0, 0, 0, 0, 0), (24, .getfield 40, 0, 8, 4, 2), (27, .aload_n 0, 0, 0, 0, 0), (28, .getfield 10, 0, 8, 0, 2), (31, .invokevirtual 59, 0, 104, 2, 23), (34, .aload_n 0, 0, 0, 0, 0), (35, .getfield 10, 0, 8, 0, 2), (38, .getfield 74, 0, 1, 5, 2), (41, .iload_n 1, 0, 1, 0, 0), (42, .aaload, 0, 0, 0, 0), (43, .iload_n 2, 0, 2, 0, 0), (44, .putfield 86, 0, 4, 2, 0), (47, .aload_n 0, 0, 0, 0, 0), (48, .getfield 10, 0, 8, 0, 2), (51, .getfield 74, 0, 1, 5, 2), (54, .iload_n 1, 0, 1, 0, 0), (55, .aaload, 0, 0, 0, 0), (56, .iload_n 3, 0, 3, 0, 0), (57, .putfield 89, 0, 4, 3, 0), (60, .iconst 1, 1, 0, 0, 0), (61, .ireturn, 0, 0, 0, 0)]
def kX8_setFactor_0 : List e_Op := [(0, .iload_n 1, 0, 1, 0, 0), (1, .invokestatic 96, 0, 288, 1, 81), (4, .ifCond .eq 14, 0, 196, 0, 0), (7, .iload_n 2, 0, 2, 0, 0), (8, .iconst 0, 0, 0, 0, 0), (9, .sipush 200, 200, 0, 0, 0), (12, .invokestatic 51, 0, 285, 3, 80), (15, .ifCond .ne 10, 0, 197, 0, 0), (18, .nop, 0, 196, 0, 0)]
def kX8_setFactor_18 : List e_Op := [(18, .aload_n 0, 0, 0, 0, 0), (19, .bipush (-2), (-2), 0, 0, 0), (21, .invokevirtual 55, 0, 314, 2, 89), (24, .ireturn, 0, 0, 0, 0)]
def kX8_setFactor_25 : List e_Op := [(25, .aload_n 0, 0, 0, 0, 0), (26, .getfield 40, 0, 8, 4, 2), (29, .aload_n 0, 0, 0, 0, 0), (30, .getfield 10, 0, 8, 0, 2), (33, .invokevirtual 59, 0, 104, 2, 23), (36, .aload_n 0, 0, 0, 0, 0), (37, .getfield 10, 0, 8, 0, 2), (40, .getfield 99, 0, 1, 4, 2), (43, .iload_n 1, 0, 1, 0, 0), (44, .iaload, 0, 0, 0, 0), (45, .istore_n 3, 0, 3, 0, 0), (46, .aload_n 0, 0, 0, 0, 0), (47, .getfield 10, 0, 8, 0, 2), (50, .getfield 99, 0, 1, 4, 2), (53, .iload_n 1, 0, 1, 0, 0), (54, .iload_n 2, 0, 2, 0, 0), (55, .iastore, 0, 0, 0, 0), (56, .iload_n 3, 0, 3, 0, 0), (57, .ireturn, 0, 0, 0, 0)]
def kX8_append_0 : List e_Op := [(0, .iload_n 1, 0, 1, 0, 0), (1, .iconst 0, 0, 0, 0, 0), (2, .bipush 127, 127, 0, 0, 0), (4, .invokestatic 51, 0, 285, 3, 80), (7, .ifCond .ne 10, 0, 199, 0, 0), (10, .aload_n 0, 0, 0, 0, 0), (11, .bipush (-2), (-2), 0, 0, 0), (13, .invokevirtual 55, 0, 314, 2, 89), (16, .ireturn, 0, 0, 0, 0)]
def kX8_append_17 : List e_Op := [(17, .aload_n 0, 0, 0, 0, 0), (18, .getfield 33, 0, 8, 3, 2), (21, .getfield 102, 0, 6, 1, 0), (24, .bipush 120, 120, 0, 0, 0), (26, .if_icmp .lt 10, 0, 200, 0, 0), (29, .aload_n 0, 0, 0, 0, 0), (30, .bipush (-5), (-5), 0, 0, 0), (32, .invokevirtual 55, 0, 314, 2, 89), (35, .ireturn, 0, 0, 0, 0)]
def kX8_append_36 : List e_Op := [(36, .aload_n 0, 0, 0, 0, 0), (37, .getfield 33, 0, 8, 3, 2), (40, .getfield 105, 0, 6, 0, 2), (43, .aload_n 0, 0, 0, 0, 0), (44, .getfield 33, 0, 8, 3, 2), (47, .getfield 102, 0, 6, 1, 0), (50, .iload_n 1, 0, 1, 0, 0), (51, .i2b, 0, 0, 0, 0), (52, .bastore, 0, 0, 0, 0), (53, .aload_n 0, 0, 0, 0, 0), (54, .getfield 33, 0, 8, 3, 2), (57, .dup, 0, 0, 0, 0), (58, .getfield 102, 0, 6, 1, 0), (61, .iconst 1, 1, 0, 0, 0), (62, .iadd, 0, 0, 0, 0), (63, .putfield 102, 0, 6, 1, 0), (66, .aload_n 0, 0, 0, 0, 0), (67, .getfield 33, 0, 8, 3, 2), (70, .getfield 102, 0, 6, 1, 0), (73, .ireturn, 0, 0, 0, 0)]
def kX8_clearText_0 : List e_Op := [(0, .aload_n 0, 0, 0, 0, 0), (1, .getfield 33, 0, 8, 3, 2), (4, .getfield 102, 0, 6, 1, 0), (7, .istore_n 1, 0, 1, 0, 0), (8, .aload_n 0, 0, 0, 0, 0), (9, .getfield 33, 0, 8, 3, 2), (12, .iconst 0, 0, 0, 0, 0), (13, .putfield 102, 0, 6, 1, 0), (16, .iload_n 1, 0, 1, 0, 0), (17, .ireturn, 0, 0, 0, 0)]
def kX8_parseProfile_0 : List e_Op := [(0, .aload_n 0, 0, 0, 0, 0), (1, .getfield 10, 0, 8, 0, 2), (4, .getfield 99, 0, 1, 4, 2), (7, .iconst 0, 0, 0, 0, 0), (8, .aload_n 0, 0, 0, 0, 0), (9, .getfield 44, 0, 8, 5, 2), (12, .iconst 0, 0, 0, 0, 0), (13, .bipush 24, 24, 0, 0, 0), (15, .invokestatic 109, 0, 0, 0, 998), (18, .aload_n 0, 0, 0, 0, 0), (19, .getfield 33, 0, 8, 3, 2), (22, .aload_n 0, 0, 0, 0, 0), (23, .getfield 44, 0, 8, 5, 2), (26, .invokevirtual 115, 0, 141, 2, 35), (29, .istore_n 1, 0, 1, 0, 0), (30, .aload_n 0, 0, 0, 0, 0), (31, .getfield 33, 0, 8, 3, 2), (34, .getfield 119, 0, 6, 3, 0), (37, .ifCond .lt 14, 0, 203, 0, 0), (40, .bipush (-10), (-10), 0, 0, 0), (42, .aload_n 0, 0, 0, 0, 0), (43, .getfield 33, 0, 8, 3, 2), (46, .getfield 119, 0, 6, 3, 0), (49, .isub, 0, 0, 0, 0), (50, .ireturn, 0, 0, 0, 0)]
def kX8_parseProfile_51 : List e_Op := [(51, .aload_n 0, 0, 0, 0, 0), (52, .getfield 40, 0, 8, 4, 2), (55, .aload_n 0, 0, 0, 0, 0), (56, .getfield 10, 0, 8, 0, 2), (59, .invokevirtual 59, 0, 104, 2, 23), (62, .aload_n 0, 0, 0, 0, 0), (63, .getfield 44, 0, 8, 5, 2), (66, .iconst 0, 0, 0, 0, 0), (67, .aload_n 0, 0, 0, 0, 0), (68, .getfield 10, 0, 8, 0, 2), (71, .getfield 99, 0, 1, 4, 2), (74, .iconst 0, 0, 0, 0, 0), (75, .bipush 24, 24, 0, 0, 0), (77, .invokestatic 109, 0, 0, 0, 998), (80, .iload_n 1, 0, 1, 0, 0), (81, .ireturn, 0, 0, 0, 0)]
def kX8_addRegulator_0 : List e_Op := [(0, .aload_n 0, 0, 0, 0, 0), (1, .iload_n 1, 0, 1, 0, 0), (2, .invokevirtual 92, 0, 304, 2, 85), (5, .ifCond .eq 49, 0, 205, 0, 0), (8, .iload_n 2, 0, 2, 0, 0), (9, .sipush 9000, 9000, 0, 0, 0), (12, .sipush 11000, 11000, 0, 0, 0), (15, .invokestatic 51, 0, 285, 3, 80), (18, .ifCond .eq 36, 0, 205, 0, 0), (21, .iload_n 3, 0, 3, 0, 0), (22, .bipush 10, 10, 0, 0, 0), (24, .sipush 500, 500, 0, 0, 0), (27, .invokestatic 51, 0, 285, 3, 80), (30, .ifCond .eq 24, 0, 205, 0, 0), (33, .iload 4, 0, 4, 0, 0), (35, .iconst 0, 0, 0, 0, 0), (36, .bipush 30, 30, 0, 0, 0), (38, .invokestatic 51, 0, 285, 3, 80), (41, .ifCond .eq 13, 0, 205, 0, 0), (44, .iload 5, 0, 5, 0, 0), (46, .iconst 0, 0, 0, 0, 0), (47, .iconst 1, 1, 0, 0, 0), (48, .invokestatic 51, 0, 285, 3, 80), (51, .ifCond .ne 10, 0, 206, 0, 0), (54, .nop, 0, 205, 0, 0)]
def kX8_addRegulator_54 : List e_Op := [(54, .aload_n 0, 0, 0, 0, 0), (55, .bipush (-2), (-2), 0, 0, 0), (57, .invokevirtual 55, 0, 314, 2, 89), (60, .ireturn, 0, 0, 0, 0)]
def kX8_addRegulator_61 : List e_Op := [(61, .aload_n 0, 0, 0, 0, 0), (62, .getfield 10, 0, 8, 0, 2), (65, .getfield 74, 0, 1, 5, 2), (68, .iload_n 1, 0, 1, 0, 0), (69, .aaload, 0, 0, 0, 0), (70, .getfield 122, 0, 4, 4, 2), (73, .astore 6, 0, 6, 0, 0), (75, .aload 6, 0, 6, 0, 0), (77, .getfield 126, 0, 7, 0, 1), (80, .ifCond .eq 10, 0, 207, 0, 0), (83, .aload_n 0, 0, 0, 0, 0), (84, .bipush (-3), (-3), 0, 0, 0), (86, .invokevirtual 55, 0, 314, 2, 89), (89, .ireturn, 0, 0, 0, 0)]
def kX8_addRegulator_90 : List e_Op := [(90, .aload_n 0, 0, 0, 0, 0), (91, .getfield 40, 0, 8, 4, 2), (94, .aload_n 0, 0, 0, 0, 0), (95, .getfield 10, 0, 8, 0, 2), (98, .invokevirtual 59, 0, 104, 2, 23), (101, .aload 6, 0, 6, 0, 0), (103, .iconst 1, 1, 0, 0, 0), (104, .putfield 126, 0, 7, 0, 1), (107, .aload 6, 0, 6, 0, 0), (109, .iload_n 2, 0, 2, 0, 0), (110, .putfield 132, 0, 7, 1, 0), (113, .aload 6, 0, 6, 0, 0), (115, .iload_n 3, 0, 3, 0, 0), (116, .putfield 135, 0, 7, 2, 0), (119, .aload 6, 0, 6, 0, 0), (121, .iload 4, 0, 4, 0, 0), (123, .putfield 138, 0, 7, 3, 0), (126, .aload 6, 0, 6, 0, 0), (128, .iload 5, 0, 5, 0, 0), (130, .iconst 1, 1, 0, 0, 0), (131, .if_icmp .ne 7, 0, 208, 0, 0), (134, .iconst 1, 1, 0, 0, 0), (135, .goto 4, 0, 209, 0, 0)]
def kX8_addRegulator_138 : List e_Op := [(138, .iconst 0, 0, 0, 0, 0), (139, .nop, 0, 209, 0, 0)]
def kX8_addRegulator_139 : List e_Op := [(139, .putfield 141, 0, 7, 4, 1), (142, .iconst 1, 1, 0, 0, 0), (143, .ireturn, 0, 0, 0, 0)]
def kX8_setTap_0 : List e_Op := [(0, .iload_n 2, 0, 2, 0, 0), (1, .bipush (-16), (-16), 0, 0, 0), (3, .bipush 16, 16, 0, 0, 0), (5, .invokestatic 51, 0, 285, 3, 80), (8, .ifCond .ne 10, 0, 211, 0, 0), (11, .aload_n 0, 0, 0, 0, 0), (12, .bipush (-2), (-2), 0, 0, 0), (14, .invokevirtual 55, 0, 314, 2, 89), (17, .ireturn, 0, 0, 0, 0)]
def kX8_setTap_18 : List e_Op := [(18, .aload_n 0, 0, 0, 0, 0), (19, .iload_n 1, 0, 1, 0, 0), (20, .invokevirtual 144, 0, 305, 2, 86), (23, .istore_n 3, 0, 3, 0, 0), (24, .iload_n 3, 0, 3, 0, 0), (25, .ifCond .eq 9, 0, 212, 0, 0), (28, .aload_n 0, 0, 0, 0, 0), (29, .iload_n 3, 0, 3, 0, 0), (30, .invokevirtual 55, 0, 314, 2, 89), (33, .ireturn, 0, 0, 0, 0)]
def kX8_setTap_34 : List e_Op := [(34, .aload_n 0, 0, 0, 0, 0), (35, .getfield 40, 0, 8, 4, 2), (38, .aload_n 0, 0, 0, 0, 0), (39, .getfield 10, 0, 8, 0, 2), (42, .invokevirtual 59, 0, 104, 2, 23), (45, .aload_n 0, 0, 0, 0, 0), (46, .getfield 10, 0, 8, 0, 2), (49, .getfield 74, 0, 1, 5, 2), (52, .iload_n 1, 0, 1, 0, 0), (53, .aaload, 0, 0, 0, 0), (54, .getfield 122, 0, 4, 4, 2), (57, .astore 4, 0, 4, 0, 0), (59, .aload 4, 0, 4, 0, 0), (61, .getfield 147, 0, 7, 5, 0), (64, .istore 5, 0, 5, 0, 0), (66, .aload 4, 0, 4, 0, 0), (68, .iload_n 2, 0, 2, 0, 0), (69, .putfield 147, 0, 7, 5, 0), (72, .bipush 100, 100, 0, 0, 0), (74, .iload 5, 0, 5, 0, 0), (76, .iadd, 0, 0, 0, 0), (77, .ireturn, 0, 0, 0, 0)]
def kX8_addBank_0 : List e_Op := [(0, .aload_n 0, 0, 0, 0, 0), (1, .iload_n 1, 0, 1, 0, 0), (2, .invokevirtual 92, 0, 304, 2, 85), (5, .ifCond .eq 36, 0, 214, 0, 0), (8, .iload_n 2, 0, 2, 0, 0), (9, .iconst 1, 1, 0, 0, 0), (10, .sipush 300, 300, 0, 0, 0), (13, .invokestatic 51, 0, 285, 3, 80), (16, .ifCond .eq 25, 0, 214, 0, 0), (19, .iload_n 3, 0, 3, 0, 0), (20, .iload 4, 0, 4, 0, 0), (22, .iload 5, 0, 5, 0, 0), (24, .invokestatic 150, 0, 292, 3, 83), (27, .ifCond .eq 14, 0, 214, 0, 0), (30, .iload 6, 0, 6, 0, 0), (32, .iconst 0, 0, 0, 0, 0), (33, .bipush 30, 30, 0, 0, 0), (35, .invokestatic 51, 0, 285, 3, 80), (38, .ifCond .ne 10, 0, 215, 0, 0), (41, .nop, 0, 214, 0, 0)]
def kX8_addBank_41 : List e_Op := [(41, .aload_n 0, 0, 0, 0, 0), (42, .bipush (-2), (-2), 0, 0, 0), (44, .invokevirtual 55, 0, 314, 2, 89), (47, .ireturn, 0, 0, 0, 0)]
def kX8_addBank_48 : List e_Op := [(48, .aload_n 0, 0, 0, 0, 0), (49, .getfield 10, 0, 8, 0, 2), (52, .getfield 74, 0, 1, 5, 2), (55, .iload_n 1, 0, 1, 0, 0), (56, .aaload, 0, 0, 0, 0), (57, .getfield 153, 0, 4, 5, 2), (60, .astore 7, 0, 7, 0, 0), (62, .aload 7, 0, 7, 0, 0), (64, .getfield 157, 0, 0, 0, 1), (67, .ifCond .eq 10, 0, 216, 0, 0), (70, .aload_n 0, 0, 0, 0, 0), (71, .bipush (-3), (-3), 0, 0, 0), (73, .invokevirtual 55, 0, 314, 2, 89), (76, .ireturn, 0, 0, 0, 0)]
def kX8_addBank_77 : List e_Op := [(77, .aload_n 0, 0, 0, 0, 0), (78, .getfield 40, 0, 8, 4, 2), (81, .aload_n 0, 0, 0, 0, 0), (82, .getfield 10, 0, 8, 0, 2), (85, .invokevirtual 59, 0, 104, 2, 23), (88, .aload 7, 0, 7, 0, 0), (90, .iconst 1, 1, 0, 0, 0), (91, .putfield 157, 0, 0, 0, 1), (94, .aload 7, 0, 7, 0, 0), (96, .iload_n 2, 0, 2, 0, 0), (97, .putfield 160, 0, 0, 1, 0), (100, .aload 7, 0, 7, 0, 0), (102, .iload_n 3, 0, 3, 0, 0), (103, .putfield 163, 0, 0, 2, 0), (106, .aload 7, 0, 7, 0, 0), (108, .iload 4, 0, 4, 0, 0), (110, .putfield 166, 0, 0, 3, 0), (113, .aload 7, 0, 7, 0, 0), (115, .iload 5, 0, 5, 0, 0), (117, .putfield 169, 0, 0, 4, 0), (120, .aload 7, 0, 7, 0, 0), (122, .iload 6, 0, 6, 0, 0), (124, .putfield 172, 0, 0, 5, 0), (127, .iconst 1, 1, 0, 0, 0), (128, .ireturn, 0, 0, 0, 0)]
def kX8_switchBank_0 : List e_Op := [(0, .iload_n 2, 0, 2, 0, 0), (1, .iconst 0, 0, 0, 0, 0), (2, .iconst 1, 1, 0, 0, 0), (3, .invokestatic 51, 0, 285, 3, 80), (6, .ifCond .ne 10, 0, 218, 0, 0), (9, .aload_n 0, 0, 0, 0, 0), (10, .bipush (-2), (-2), 0, 0, 0), (12, .invokevirtual 55, 0, 314, 2, 89), (15, .ireturn, 0, 0, 0, 0)]
def kX8_switchBank_16 : List e_Op := [(16, .aload_n 0, 0, 0, 0, 0), (17, .iload_n 1, 0, 1, 0, 0), (18, .invokevirtual 173, 0, 309, 2, 87), (21, .istore_n 3, 0, 3, 0, 0), (22, .iload_n 3, 0, 3, 0, 0), (23, .ifCond .eq 9, 0, 219, 0, 0), (26, .aload_n 0, 0, 0, 0, 0), (27, .iload_n 3, 0, 3, 0, 0), (28, .invokevirtual 55, 0, 314, 2, 89), (31, .ireturn, 0, 0, 0, 0)]
def kX8_switchBank_32 : List e_Op := [(32, .aload_n 0, 0, 0, 0, 0), (33, .getfield 40, 0, 8, 4, 2), (36, .aload_n 0, 0, 0, 0, 0), (37, .getfield 10, 0, 8, 0, 2), (40, .invokevirtual 59, 0, 104, 2, 23), (43, .aload_n 0, 0, 0, 0, 0), (44, .getfield 10, 0, 8, 0, 2), (47, .getfield 74, 0, 1, 5, 2), (50, .iload_n 1, 0, 1, 0, 0), (51, .aaload, 0, 0, 0, 0), (52, .getfield 153, 0, 4, 5, 2), (55, .astore 4, 0, 4, 0, 0), (57, .aload 4, 0, 4, 0, 0), (59, .getfield 176, 0, 0, 6, 1), (62, .invokestatic 179, 0, 301, 1, 84), (65, .istore 5, 0, 5, 0, 0), (67, .aload 4, 0, 4, 0, 0), (69, .iload_n 2, 0, 2, 0, 0), (70, .iconst 1, 1, 0, 0, 0), (71, .if_icmp .ne 7, 0, 220, 0, 0), (74, .iconst 1, 1, 0, 0, 0), (75, .goto 4, 0, 221, 0, 0)]
def kX8_switchBank_78 : List e_Op := [(78, .iconst 0, 0, 0, 0, 0), (79, .nop, 0, 221, 0, 0)]
def kX8_switchBank_79 : List e_Op := [(79, .putfield 176, 0, 0, 6, 1), (82, .iload 5, 0, 5, 0, 0), (84, .ireturn, 0, 0, 0, 0)]
def kX8_run_0 : List e_Op := [(0, .iload_n 1, 0, 1, 0, 0), (1, .iconst 0, 0, 0, 0, 0), (2, .sipush 1440, 1440, 0, 0, 0), (5, .invokestatic 51, 0, 285, 3, 80), (8, .ifCond .ne 10, 0, 223, 0, 0), (11, .aload_n 0, 0, 0, 0, 0), (12, .bipush (-2), (-2), 0, 0, 0), (14, .invokevirtual 55, 0, 314, 2, 89), (17, .ireturn, 0, 0, 0, 0)]
def kX8_run_18 : List e_Op := [(18, .aload_n 0, 0, 0, 0, 0), (19, .getfield 40, 0, 8, 4, 2), (22, .aload_n 0, 0, 0, 0, 0), (23, .getfield 10, 0, 8, 0, 2), (26, .invokevirtual 59, 0, 104, 2, 23), (29, .iconst 0, 0, 0, 0, 0), (30, .istore_n 2, 0, 2, 0, 0), (31, .iconst 0, 0, 0, 0, 0), (32, .istore_n 3, 0, 3, 0, 0), (33, .nop, 0, 224, 0, 0)]
def kX8_run_33 : List e_Op := [(33, .iload_n 3, 0, 3, 0, 0), (34, .iload_n 1, 0, 1, 0, 0), (35, .if_icmp .ge 19, 0, 226, 0, 0), (38, .aload_n 0, 0, 0, 0, 0), (39, .invokevirtual 183, 0, 228, 1, 62), (42, .ifCond .eq 6, 0, 225, 0, 0), (45, .iinc 2 1, 1, 2, 0, 0), (48, .nop, 0, 225, 0, 0)]
def kX8_run_48 : List e_Op := [(48, .iinc 3 1, 1, 3, 0, 0), (51, .goto (-18), 0, 224, 0, 0)]
def kX8_run_54 : List e_Op := [(54, .iload_n 2, 0, 2, 0, 0), (55, .ireturn, 0, 0, 0, 0)]
def kX8_minute_0 : List e_Op := [(0, .aload_n 0, 0, 0, 0, 0), (1, .getfield 10, 0, 8, 0, 2), (4, .getfield 187, 0, 1, 0, 0), (7, .ireturn, 0, 0, 0, 0)]
def kX8_passMinute_0 : List e_Op := [(0, .aload_n 0, 0, 0, 0, 0), (1, .getfield 10, 0, 8, 0, 2), (4, .dup, 0, 0, 0, 0), (5, .getfield 187, 0, 1, 0, 0), (8, .iconst 1, 1, 0, 0, 0), (9, .iadd, 0, 0, 0, 0), (10, .putfield 187, 0, 1, 0, 0), (13, .aload_n 0, 0, 0, 0, 0), (14, .getfield 10, 0, 8, 0, 2), (17, .getfield 187, 0, 1, 0, 0), (20, .bipush 60, 60, 0, 0, 0), (22, .irem, 0, 0, 0, 0), (23, .ifCond .ne 10, 0, 229, 0, 0), (26, .aload_n 0, 0, 0, 0, 0), (27, .getfield 10, 0, 8, 0, 2), (30, .invokevirtual 190, 0, 72, 1, 13), (33, .nop, 0, 229, 0, 0)]
def kX8_passMinute_33 : List e_Op := [(33, .aload_n 0, 0, 0, 0, 0), (34, .getfield 10, 0, 8, 0, 2), (37, .invokevirtual 193, 0, 75, 1, 14), (40, .aload_n 0, 0, 0, 0, 0), (41, .getfield 19, 0, 8, 1, 2), (44, .aload_n 0, 0, 0, 0, 0), (45, .getfield 10, 0, 8, 0, 2), (48, .invokevirtual 196, 0, 88, 2, 18), (51, .aload_n 0, 0, 0, 0, 0), (52, .getfield 10, 0, 8, 0, 2), (55, .aload_n 0, 0, 0, 0, 0), (56, .getfield 19, 0, 8, 1, 2), (59, .invokevirtual 199, 0, 79, 2, 15), (62, .istore_n 1, 0, 1, 0, 0), (63, .aload_n 0, 0, 0, 0, 0), (64, .getfield 10, 0, 8, 0, 2), (67, .aload_n 0, 0, 0, 0, 0), (68, .getfield 19, 0, 8, 1, 2), (71, .iload_n 1, 0, 1, 0, 0), (72, .ifCond .ne 7, 0, 230, 0, 0), (75, .iconst 1, 1, 0, 0, 0), (76, .goto 4, 0, 231, 0, 0)]
def kX8_passMinute_79 : List e_Op := [(79, .iconst 0, 0, 0, 0, 0), (80, .nop, 0, 231, 0, 0)]
def kX8_passMinute_80 : List e_Op := [(80, .invokevirtual 203, 0, 83, 3, 16), (83, .istore_n 2, 0, 2, 0, 0), (84, .iload_n 1, 0, 1, 0, 0), (85, .ifCond .ne 7, 0, 232, 0, 0), (88, .iload_n 2, 0, 2, 0, 0), (89, .ifCond .eq 14, 0, 233, 0, 0), (92, .nop, 0, 232, 0, 0)]
def kX8_passMinute_92 : List e_Op := [(92, .aload_n 0, 0, 0, 0, 0), (93, .getfield 19, 0, 8, 1, 2), (96, .aload_n 0, 0, 0, 0, 0), (97, .getfield 10, 0, 8, 0, 2), (100, .invokevirtual 196, 0, 88, 2, 18), (103, .nop, 0, 233, 0, 0)]
def kX8_passMinute_103 : List e_Op := [(103, .aload_n 0, 0, 0, 0, 0), (104, .getfield 10, 0, 8, 0, 2), (107, .dup, 0, 0, 0, 0), (108, .getfield 207, 0, 1, 3, 0), (111, .aload_n 0, 0, 0, 0, 0), (112, .getfield 19, 0, 8, 1, 2), (115, .aload_n 0, 0, 0, 0, 0), (116, .getfield 10, 0, 8, 0, 2), (119, .getfield 71, 0, 1, 2, 0), (122, .invokevirtual 210, 0, 97, 2, 21), (125, .iadd, 0, 0, 0, 0), (126, .putfield 207, 0, 1, 3, 0), (129, .iload_n 1, 0, 1, 0, 0), (130, .ifCond .ne 7, 0, 234, 0, 0), (133, .iload_n 2, 0, 2, 0, 0), (134, .ifCond .eq 7, 0, 235, 0, 0), (137, .nop, 0, 234, 0, 0)]
def kX8_passMinute_137 : List e_Op := [(137, .iconst 1, 1, 0, 0, 0), (138, .goto 4, 0, 236, 0, 0)]
def kX8_passMinute_141 : List e_Op := [(141, .iconst 0, 0, 0, 0, 0), (142, .nop, 0, 236, 0, 0)]
def kX8_passMinute_142 : List e_Op := [(142, .ireturn, 0, 1, 0, 0)]
def kX8_voltage_0 : List e_Op := [(0, .iload_n 1, 0, 1, 0, 0), (1, .iconst 0, 0, 0, 0, 0), (2, .aload_n 0, 0, 0, 0, 0), (3, .getfield 10, 0, 8, 0, 2), (6, .getfield 71, 0, 1, 2, 0), (9, .invokestatic 51, 0, 285, 3, 80), (12, .ifCond .ne 10, 0, 238, 0, 0), (15, .aload_n 0, 0, 0, 0, 0), (16, .bipush (-2), (-2), 0, 0, 0), (18, .invokevirtual 55, 0, 314, 2, 89), (21, .ireturn, 0, 0, 0, 0)]
def kX8_voltage_22 : List e_Op := [(22, .aload_n 0, 0, 0, 0, 0), (23, .getfield 19, 0, 8, 1, 2), (26, .aload_n 0, 0, 0, 0, 0), (27, .getfield 10, 0, 8, 0, 2), (30, .invokevirtual 196, 0, 88, 2, 18), (33, .aload_n 0, 0, 0, 0, 0), (34, .getfield 19, 0, 8, 1, 2), (37, .getfield 213, 0, 2, 2, 2), (40, .iload_n 1, 0, 1, 0, 0), (41, .iaload, 0, 0, 0, 0), (42, .ireturn, 0, 0, 0, 0)]
def kX8_activeFlow_0 : List e_Op := [(0, .aload_n 0, 0, 0, 0, 0), (1, .iload_n 1, 0, 1, 0, 0), (2, .invokevirtual 92, 0, 304, 2, 85), (5, .ifCond .ne 10, 0, 240, 0, 0), (8, .aload_n 0, 0, 0, 0, 0), (9, .bipush (-2), (-2), 0, 0, 0), (11, .invokevirtual 55, 0, 314, 2, 89), (14, .ireturn, 0, 0, 0, 0)]
def kX8_activeFlow_15 : List e_Op := [(15, .aload_n 0, 0, 0, 0, 0), (16, .getfield 19, 0, 8, 1, 2), (19, .aload_n 0, 0, 0, 0, 0), (20, .getfield 10, 0, 8, 0, 2), (23, .invokevirtual 196, 0, 88, 2, 18), (26, .sipush 10000, 10000, 0, 0, 0), (29, .aload_n 0, 0, 0, 0, 0), (30, .getfield 19, 0, 8, 1, 2), (33, .getfield 216, 0, 2, 0, 2), (36, .iload_n 1, 0, 1, 0, 0), (37, .iaload, 0, 0, 0, 0), (38, .iadd, 0, 0, 0, 0), (39, .ireturn, 0, 0, 0, 0)]
def kX8_reactiveFlow_0 : List e_Op := [(0, .aload_n 0, 0, 0, 0, 0), (1, .iload_n 1, 0, 1, 0, 0), (2, .invokevirtual 92, 0, 304, 2, 85), (5, .ifCond .ne 10, 0, 242, 0, 0), (8, .aload_n 0, 0, 0, 0, 0), (9, .bipush (-2), (-2), 0, 0, 0), (11, .invokevirtual 55, 0, 314, 2, 89), (14, .ireturn, 0, 0, 0, 0)]
def kX8_reactiveFlow_15 : List e_Op := [(15, .aload_n 0, 0, 0, 0, 0), (16, .getfield 19, 0, 8, 1, 2), (19, .aload_n 0, 0, 0, 0, 0), (20, .getfield 10, 0, 8, 0, 2), (23, .invokevirtual 196, 0, 88, 2, 18), (26, .sipush 10000, 10000, 0, 0, 0), (29, .aload_n 0, 0, 0, 0, 0), (30, .getfield 19, 0, 8, 1, 2), (33, .getfield 219, 0, 2, 1, 2), (36, .iload_n 1, 0, 1, 0, 0), (37, .iaload, 0, 0, 0, 0), (38, .iadd, 0, 0, 0, 0), (39, .ireturn, 0, 0, 0, 0)]
def kX8_tap_0 : List e_Op := [(0, .aload_n 0, 0, 0, 0, 0), (1, .iload_n 1, 0, 1, 0, 0), (2, .invokevirtual 144, 0, 305, 2, 86), (5, .istore_n 2, 0, 2, 0, 0), (6, .iload_n 2, 0, 2, 0, 0), (7, .ifCond .eq 11, 0, 244, 0, 0), (10, .aload_n 0, 0, 0, 0, 0), (11, .iload_n 2, 0, 2, 0, 0), (12, .invokevirtual 55, 0, 314, 2, 89), (15, .goto 21, 0, 245, 0, 0)]
def kX8_tap_18 : List e_Op := [(18, .bipush 100, 100, 0, 0, 0), (20, .aload_n 0, 0, 0, 0, 0), (21, .getfield 10, 0, 8, 0, 2), (24, .getfield 74, 0, 1, 5, 2), (27, .iload_n 1, 0, 1, 0, 0), (28, .aaload, 0, 0, 0, 0), (29, .getfield 122, 0, 4, 4, 2), (32, .getfield 147, 0, 7, 5, 0), (35, .iadd, 0, 0, 0, 0), (36, .nop, 0, 245, 0, 0)]
def kX8_tap_36 : List e_Op := [(36, .ireturn, 0, 0, 0, 0)]
def kX8_timer_0 : List e_Op := [(0, .aload_n 0, 0, 0, 0, 0), (1, .iload_n 1, 0, 1, 0, 0), (2, .invokevirtual 144, 0, 305, 2, 86), (5, .istore_n 2, 0, 2, 0, 0), (6, .iload_n 2, 0, 2, 0, 0), (7, .ifCond .eq 11, 0, 247, 0, 0), (10, .aload_n 0, 0, 0, 0, 0), (11, .iload_n 2, 0, 2, 0, 0), (12, .invokevirtual 55, 0, 314, 2, 89), (15, .goto 18, 0, 248, 0, 0)]
def kX8_timer_18 : List e_Op := [(18, .aload_n 0, 0, 0, 0, 0), (19, .getfield 10, 0, 8, 0, 2), (22, .getfield 74, 0, 1, 5, 2), (25, .iload_n 1, 0, 1, 0, 0), (26, .aaload, 0, 0, 0, 0), (27, .getfield 122, 0, 4, 4, 2), (30, .getfield 222, 0, 7, 6, 0), (33, .nop, 0, 248, 0, 0)]
def kX8_timer_33 : List e_Op := [(33, .ireturn, 0, 0, 0, 0)]
def kX8_isLocked_0 : List e_Op := [(0, .aload_n 0, 0, 0, 0, 0), (1, .iload_n 1, 0, 1, 0, 0), (2, .invokevirtual 144, 0, 305, 2, 86), (5, .istore_n 2, 0, 2, 0, 0), (6, .iload_n 2, 0, 2, 0, 0), (7, .ifCond .eq 11, 0, 250, 0, 0), (10, .aload_n 0, 0, 0, 0, 0), (11, .iload_n 2, 0, 2, 0, 0), (12, .invokevirtual 55, 0, 314, 2, 89), (15, .goto 21, 0, 251, 0, 0)]
def kX8_isLocked_18 : List e_Op := [(18, .aload_n 0, 0, 0, 0, 0), (19, .getfield 10, 0, 8, 0, 2), (22, .getfield 74, 0, 1, 5, 2), (25, .iload_n 1, 0, 1, 0, 0), (26, .aaload, 0, 0, 0, 0), (27, .getfield 122, 0, 4, 4, 2), (30, .getfield 225, 0, 7, 8, 1), (33, .invokestatic 179, 0, 301, 1, 84), (36, .nop, 0, 251, 0, 0)]
def kX8_isLocked_36 : List e_Op := [(36, .ireturn, 0, 0, 0, 0)]
def kX8_steps_0 : List e_Op := [(0, .aload_n 0, 0, 0, 0, 0), (1, .iload_n 1, 0, 1, 0, 0), (2, .invokevirtual 144, 0, 305, 2, 86), (5, .istore_n 2, 0, 2, 0, 0), (6, .iload_n 2, 0, 2, 0, 0), (7, .ifCond .eq 11, 0, 253, 0, 0), (10, .aload_n 0, 0, 0, 0, 0), (11, .iload_n 2, 0, 2, 0, 0), (12, .invokevirtual 55, 0, 314, 2, 89), (15, .goto 18, 0, 254, 0, 0)]
def kX8_steps_18 : List e_Op := [(18, .aload_n 0, 0, 0, 0, 0), (19, .getfield 10, 0, 8, 0, 2), (22, .getfield 74, 0, 1, 5, 2), (25, .iload_n 1, 0, 1, 0, 0), (26, .aaload, 0, 0, 0, 0), (27, .getfield 122, 0, 4, 4, 2), (30, .getfield 228, 0, 7, 7, 0), (33, .nop, 0, 254, 0, 0)]
def kX8_steps_33 : List e_Op := [(33, .ireturn, 0, 0, 0, 0)]
def kX8_isOn_0 : List e_Op := [(0, .aload_n 0, 0, 0, 0, 0), (1, .iload_n 1, 0, 1, 0, 0), (2, .invokevirtual 173, 0, 309, 2, 87), (5, .istore_n 2, 0, 2, 0, 0), (6, .iload_n 2, 0, 2, 0, 0), (7, .ifCond .eq 11, 0, 256, 0, 0), (10, .aload_n 0, 0, 0, 0, 0), (11, .iload_n 2, 0, 2, 0, 0), (12, .invokevirtual 55, 0, 314, 2, 89), (15, .goto 21, 0, 257, 0, 0)]
def kX8_isOn_18 : List e_Op := [(18, .aload_n 0, 0, 0, 0, 0), (19, .getfield 10, 0, 8, 0, 2), (22, .getfield 74, 0, 1, 5, 2), (25, .iload_n 1, 0, 1, 0, 0), (26, .aaload, 0, 0, 0, 0), (27, .getfield 153, 0, 4, 5, 2), (30, .getfield 176, 0, 0, 6, 1), (33, .invokestatic 179, 0, 301, 1, 84), (36, .nop, 0, 257, 0, 0)]
def kX8_isOn_36 : List e_Op := [(36, .ireturn, 0, 0, 0, 0)]
def kX8_violations_0 : List e_Op := [(0, .aload_n 0, 0, 0, 0, 0), (1, .getfield 10, 0, 8, 0, 2), (4, .getfield 207, 0, 1, 3, 0), (7, .ireturn, 0, 0, 0, 0)]
def kX8_planSteps_0 : List e_Op := [(0, .aload_n 0, 0, 0, 0, 0), (1, .iload_n 1, 0, 1, 0, 0), (2, .invokevirtual 144, 0, 305, 2, 86), (5, .istore_n 2, 0, 2, 0, 0), (6, .iload_n 2, 0, 2, 0, 0), (7, .ifCond .eq 9, 0, 260, 0, 0), (10, .aload_n 0, 0, 0, 0, 0), (11, .iload_n 2, 0, 2, 0, 0), (12, .invokevirtual 55, 0, 314, 2, 89), (15, .ireturn, 0, 0, 0, 0)]
def kX8_planSteps_16 : List e_Op := [(16, .aload_n 0, 0, 0, 0, 0), (17, .getfield 26, 0, 8, 2, 2), (20, .aload_n 0, 0, 0, 0, 0), (21, .getfield 10, 0, 8, 0, 2), (24, .iload_n 1, 0, 1, 0, 0), (25, .invokevirtual 231, 0, 113, 3, 29), (28, .ifCond .eq 13, 0, 261, 0, 0), (31, .aload_n 0, 0, 0, 0, 0), (32, .getfield 26, 0, 8, 2, 2), (35, .getfield 235, 0, 5, 4, 0), (38, .goto 9, 0, 262, 0, 0)]
def kX8_planSteps_41 : List e_Op := [(41, .aload_n 0, 0, 0, 0, 0), (42, .bipush (-4), (-4), 0, 0, 0), (44, .invokevirtual 55, 0, 314, 2, 89), (47, .nop, 0, 262, 0, 0)]
def kX8_planSteps_47 : List e_Op := [(47, .ireturn, 0, 0, 0, 0)]
def kX8_planTap_0 : List e_Op := [(0, .iload_n 2, 0, 2, 0, 0), (1, .invokestatic 96, 0, 288, 1, 81), (4, .ifCond .ne 10, 0, 264, 0, 0), (7, .aload_n 0, 0, 0, 0, 0), (8, .bipush (-2), (-2), 0, 0, 0), (10, .invokevirtual 55, 0, 314, 2, 89), (13, .ireturn, 0, 0, 0, 0)]
def kX8_planTap_14 : List e_Op := [(14, .aload_n 0, 0, 0, 0, 0), (15, .iload_n 1, 0, 1, 0, 0), (16, .invokevirtual 144, 0, 305, 2, 86), (19, .istore_n 3, 0, 3, 0, 0), (20, .iload_n 3, 0, 3, 0, 0), (21, .ifCond .eq 9, 0, 265, 0, 0), (24, .aload_n 0, 0, 0, 0, 0), (25, .iload_n 3, 0, 3, 0, 0), (26, .invokevirtual 55, 0, 314, 2, 89), (29, .ireturn, 0, 0, 0, 0)]
def kX8_planTap_30 : List e_Op := [(30, .aload_n 0, 0, 0, 0, 0), (31, .getfield 26, 0, 8, 2, 2), (34, .aload_n 0, 0, 0, 0, 0), (35, .getfield 10, 0, 8, 0, 2), (38, .iload_n 1, 0, 1, 0, 0), (39, .invokevirtual 231, 0, 113, 3, 29), (42, .ifCond .eq 18, 0, 266, 0, 0), (45, .bipush 100, 100, 0, 0, 0), (47, .aload_n 0, 0, 0, 0, 0), (48, .getfield 26, 0, 8, 2, 2), (51, .getfield 236, 0, 5, 3, 2), (54, .iload_n 2, 0, 2, 0, 0), (55, .iaload, 0, 0, 0, 0), (56, .iadd, 0, 0, 0, 0), (57, .goto 9, 0, 267, 0, 0)]
def kX8_planTap_60 : List e_Op := [(60, .aload_n 0, 0, 0, 0, 0), (61, .bipush (-4), (-4), 0, 0, 0), (63, .invokevirtual 55, 0, 314, 2, 89), (66, .nop, 0, 267, 0, 0)]
def kX8_planTap_66 : List e_Op := [(66, .ireturn, 0, 0, 0, 0)]
def kX8_undo_0 : List e_Op := [(0, .aload_n 0, 0, 0, 0, 0), (1, .getfield 40, 0, 8, 4, 2), (4, .getfield 239, 0, 3, 1, 0), (7, .ifCond .gt 10, 0, 269, 0, 0), (10, .aload_n 0, 0, 0, 0, 0), (11, .bipush (-6), (-6), 0, 0, 0), (13, .invokevirtual 55, 0, 314, 2, 89), (16, .ireturn, 0, 0, 0, 0)]
def kX8_undo_17 : List e_Op := [(17, .aload_n 0, 0, 0, 0, 0), (18, .getfield 40, 0, 8, 4, 2), (21, .aload_n 0, 0, 0, 0, 0), (22, .getfield 10, 0, 8, 0, 2), (25, .invokevirtual 240, 0, 109, 2, 25), (28, .aload_n 0, 0, 0, 0, 0), (29, .getfield 40, 0, 8, 4, 2), (32, .getfield 239, 0, 3, 1, 0), (35, .ireturn, 0, 0, 0, 0)]
def kX8_errorCount_0 : List e_Op := [(0, .iload_n 1, 0, 1, 0, 0), (1, .invokestatic 243, 0, 313, 1, 88), (4, .ifCond .eq 15, 0, 271, 0, 0), (7, .aload_n 0, 0, 0, 0, 0), (8, .getfield 48, 0, 8, 6, 2), (11, .bipush (-2), (-2), 0, 0, 0), (13, .iload_n 1, 0, 1, 0, 0), (14, .isub, 0, 0, 0, 0), (15, .iaload, 0, 0, 0, 0), (16, .goto 9, 0, 272, 0, 0)]
def kX8_errorCount_19 : List e_Op := [(19, .aload_n 0, 0, 0, 0, 0), (20, .bipush (-2), (-2), 0, 0, 0), (22, .invokevirtual 55, 0, 314, 2, 89), (25, .nop, 0, 272, 0, 0)]
def kX8_errorCount_25 : List e_Op := [(25, .ireturn, 0, 0, 0, 0)]
def kX8_digest_0 : List e_Op := [(0, .aload_n 0, 0, 0, 0, 0), (1, .getfield 19, 0, 8, 1, 2), (4, .aload_n 0, 0, 0, 0, 0), (5, .getfield 10, 0, 8, 0, 2), (8, .invokevirtual 196, 0, 88, 2, 18), (11, .ldc2_w 246, 2749, 0, 0, 0), (14, .lstore_n 1, 0, 1, 0, 0), (15, .iconst 0, 0, 0, 0, 0), (16, .istore_n 3, 0, 3, 0, 0), (17, .nop, 0, 274, 0, 0)]
def kX8_digest_17 : List e_Op := [(17, .iload_n 3, 0, 3, 0, 0), (18, .iconst 5, 5, 0, 0, 0), (19, .if_icmp .ge 20, 0, 275, 0, 0), (22, .lload_n 1, 0, 1, 0, 0), (23, .aload_n 0, 0, 0, 0, 0), (24, .getfield 48, 0, 8, 6, 2), (27, .iload_n 3, 0, 3, 0, 0), (28, .iaload, 0, 0, 0, 0), (29, .invokestatic 248, 0, 284, 2, 79), (32, .lstore_n 1, 0, 1, 0, 0), (33, .iinc 3 1, 1, 3, 0, 0), (36, .goto (-19), 0, 274, 0, 0)]
def kX8_digest_39 : List e_Op := [(39, .lload_n 1, 0, 1, 0, 0), (40, .aload_n 0, 0, 0, 0, 0), (41, .getfield 33, 0, 8, 3, 2), (44, .getfield 102, 0, 6, 1, 0), (47, .invokestatic 248, 0, 284, 2, 79), (50, .lstore_n 1, 0, 1, 0, 0), (51, .lload_n 1, 0, 1, 0, 0), (52, .aload_n 0, 0, 0, 0, 0), (53, .getfield 10, 0, 8, 0, 2), (56, .getfield 187, 0, 1, 0, 0), (59, .invokestatic 248, 0, 284, 2, 79), (62, .lstore_n 1, 0, 1, 0, 0), (63, .lload_n 1, 0, 1, 0, 0), (64, .aload_n 0, 0, 0, 0, 0), (65, .getfield 10, 0, 8, 0, 2), (68, .getfield 63, 0, 1, 1, 0), (71, .invokestatic 248, 0, 284, 2, 79), (74, .lstore_n 1, 0, 1, 0, 0), (75, .iconst 0, 0, 0, 0, 0), (76, .istore_n 3, 0, 3, 0, 0), (77, .nop, 0, 276, 0, 0)]
def kX8_digest_77 : List e_Op := [(77, .iload_n 3, 0, 3, 0, 0), (78, .bipush 24, 24, 0, 0, 0), (80, .if_icmp .ge 23, 0, 277, 0, 0), (83, .lload_n 1, 0, 1, 0, 0), (84, .aload_n 0, 0, 0, 0, 0), (85, .getfield 10, 0, 8, 0, 2), (88, .getfield 99, 0, 1, 4, 2), (91, .iload_n 3, 0, 3, 0, 0), (92, .iaload, 0, 0, 0, 0), (93, .invokestatic 248, 0, 284, 2, 79), (96, .lstore_n 1, 0, 1, 0, 0), (97, .iinc 3 1, 1, 3, 0, 0), (100, .goto (-23), 0, 276, 0, 0)]
def kX8_digest_103 : List e_Op := [(103, .lload_n 1, 0, 1, 0, 0), (104, .aload_n 0, 0, 0, 0, 0), (105, .getfield 10, 0, 8, 0, 2), (108, .getfield 71, 0, 1, 2, 0), (111, .invokestatic 248, 0, 284, 2, 79), (114, .lstore_n 1, 0, 1, 0, 0), (115, .iconst 1, 1, 0, 0, 0), (116, .istore_n 3, 0, 3, 0, 0), (117, .nop, 0, 278, 0, 0)]
def kX8_digest_117 : List e_Op := [(117, .iload_n 3, 0, 3, 0, 0), (118, .aload_n 0, 0, 0, 0, 0), (119, .getfield 10, 0, 8, 0, 2), (122, .getfield 71, 0, 1, 2, 0), (125, .if_icmp .gt 85, 0, 279, 0, 0), (128, .lload_n 1, 0, 1, 0, 0), (129, .aload_n 0, 0, 0, 0, 0), (130, .getfield 19, 0, 8, 1, 2), (133, .getfield 213, 0, 2, 2, 2), (136, .iload_n 3, 0, 3, 0, 0), (137, .iaload, 0, 0, 0, 0), (138, .invokestatic 248, 0, 284, 2, 79), (141, .lstore_n 1, 0, 1, 0, 0), (142, .lload_n 1, 0, 1, 0, 0), (143, .aload_n 0, 0, 0, 0, 0), (144, .getfield 19, 0, 8, 1, 2), (147, .getfield 216, 0, 2, 0, 2), (150, .iload_n 3, 0, 3, 0, 0), (151, .iaload, 0, 0, 0, 0), (152, .invokestatic 248, 0, 284, 2, 79), (155, .lstore_n 1, 0, 1, 0, 0), (156, .lload_n 1, 0, 1, 0, 0), (157, .aload_n 0, 0, 0, 0, 0), (158, .getfield 19, 0, 8, 1, 2), (161, .getfield 219, 0, 2, 1, 2), (164, .iload_n 3, 0, 3, 0, 0), (165, .iaload, 0, 0, 0, 0), (166, .invokestatic 248, 0, 284, 2, 79), (169, .lstore_n 1, 0, 1, 0, 0), (170, .lload_n 1, 0, 1, 0, 0), (171, .aload_n 0, 0, 0, 0, 0), (172, .getfield 10, 0, 8, 0, 2), (175, .getfield 74, 0, 1, 5, 2), (178, .iload_n 3, 0, 3, 0, 0), (179, .aaload, 0, 0, 0, 0), (180, .getfield 122, 0, 4, 4, 2), (183, .invokestatic 252, 0, 280, 2, 77), (186, .lstore_n 1, 0, 1, 0, 0), (187, .lload_n 1, 0, 1, 0, 0), (188, .aload_n 0, 0, 0, 0, 0), (189, .getfield 10, 0, 8, 0, 2), (192, .getfield 74, 0, 1, 5, 2), (195, .iload_n 3, 0, 3, 0, 0), (196, .aaload, 0, 0, 0, 0), (197, .getfield 153, 0, 4, 5, 2), (200, .invokestatic 256, 0, 282, 2, 78), (203, .lstore_n 1, 0, 1, 0, 0), (204, .iinc 3 1, 1, 3, 0, 0), (207, .goto (-90), 0, 278, 0, 0)]
def kX8_digest_210 : List e_Op := [(210, .lload_n 1, 0, 1, 0, 0), (211, .aload_n 0, 0, 0, 0, 0), (212, .getfield 10, 0, 8, 0, 2), (215, .getfield 207, 0, 1, 3, 0), (218, .invokestatic 248, 0, 284, 2, 79), (221, .lstore_n 1, 0, 1, 0, 0), (222, .lload_n 1, 0, 1, 0, 0), (223, .aload_n 0, 0, 0, 0, 0), (224, .getfield 40, 0, 8, 4, 2), (227, .getfield 239, 0, 3, 1, 0), (230, .invokestatic 248, 0, 284, 2, 79), (233, .lreturn, 0, 0, 0, 0)]
def kX8_mixRegulator_0 : List e_Op := [(0, .lload_n 0, 0, 0, 0, 0), (1, .aload_n 2, 0, 2, 0, 0), (2, .getfield 126, 0, 7, 0, 1), (5, .invokestatic 179, 0, 301, 1, 84), (8, .invokestatic 248, 0, 284, 2, 79), (11, .lstore_n 3, 0, 3, 0, 0), (12, .aload_n 2, 0, 2, 0, 0), (13, .getfield 126, 0, 7, 0, 1), (16, .ifCond .ne 5, 0, 281, 0, 0), (19, .lload_n 3, 0, 3, 0, 0), (20, .lreturn, 0, 0, 0, 0)]
def kX8_mixRegulator_21 : List e_Op := [(21, .lload_n 3, 0, 3, 0, 0), (22, .aload_n 2, 0, 2, 0, 0), (23, .getfield 147, 0, 7, 5, 0), (26, .invokestatic 248, 0, 284, 2, 79), (29, .lstore_n 3, 0, 3, 0, 0), (30, .lload_n 3, 0, 3, 0, 0), (31, .aload_n 2, 0, 2, 0, 0), (32, .getfield 222, 0, 7, 6, 0), (35, .invokestatic 248, 0, 284, 2, 79), (38, .lstore_n 3, 0, 3, 0, 0), (39, .lload_n 3, 0, 3, 0, 0), (40, .aload_n 2, 0, 2, 0, 0), (41, .getfield 225, 0, 7, 8, 1), (44, .invokestatic 179, 0, 301, 1, 84), (47, .invokestatic 248, 0, 284, 2, 79), (50, .lstore_n 3, 0, 3, 0, 0), (51, .lload_n 3, 0, 3, 0, 0), (52, .aload_n 2, 0, 2, 0, 0), (53, .getfield 228, 0, 7, 7, 0), (56, .invokestatic 248, 0, 284, 2, 79), (59, .lreturn, 0, 0, 0, 0)]
def kX8_mixBank_0 : List e_Op := [(0, .lload_n 0, 0, 0, 0, 0), (1, .aload_n 2, 0, 2, 0, 0), (2, .getfield 157, 0, 0, 0, 1), (5, .invokestatic 179, 0, 301, 1, 84), (8, .invokestatic 248, 0, 284, 2, 79), (11, .lstore_n 3, 0, 3, 0, 0), (12, .aload_n 2, 0, 2, 0, 0), (13, .getfield 157, 0, 0, 0, 1), (16, .ifCond .ne 5, 0, 283, 0, 0), (19, .lload_n 3, 0, 3, 0, 0), (20, .lreturn, 0, 0, 0, 0)]
def kX8_mixBank_21 : List e_Op := [(21, .lload_n 3, 0, 3, 0, 0), (22, .aload_n 2, 0, 2, 0, 0), (23, .getfield 176, 0, 0, 6, 1), (26, .invokestatic 179, 0, 301, 1, 84), (29, .invokestatic 248, 0, 284, 2, 79), (32, .lstore_n 3, 0, 3, 0, 0), (33, .lload_n 3, 0, 3, 0, 0), (34, .aload_n 2, 0, 2, 0, 0), (35, .getfield 260, 0, 0, 7, 0), (38, .invokestatic 248, 0, 284, 2, 79), (41, .lreturn, 0, 0, 0, 0)]
def kX8_mix_0 : List e_Op := [(0, .ldc2_w 261, 31, 0, 0, 0), (3, .lload_n 0, 0, 0, 0, 0), (4, .lmul, 0, 0, 0, 0), (5, .iload_n 2, 0, 2, 0, 0), (6, .i2l, 0, 0, 0, 0), (7, .ladd, 0, 0, 0, 0), (8, .lreturn, 0, 0, 0, 0)]
def kX8_isWithin_0 : List e_Op := [(0, .iload_n 0, 0, 0, 0, 0), (1, .iload_n 1, 0, 1, 0, 0), (2, .if_icmp .lt 12, 0, 286, 0, 0), (5, .iload_n 0, 0, 0, 0, 0), (6, .iload_n 2, 0, 2, 0, 0), (7, .if_icmp .gt 7, 0, 286, 0, 0), (10, .iconst 1, 1, 0, 0, 0), (11, .goto 4, 0, 287, 0, 0)]
def kX8_isWithin_14 : List e_Op := [(14, .iconst 0, 0, 0, 0, 0), (15, .nop, 0, 287, 0, 0)]
def kX8_isWithin_15 : List e_Op := [(15, .ireturn, 0, 1, 0, 0)]
def kX8_isHour_0 : List e_Op := [(0, .iload_n 0, 0, 0, 0, 0), (1, .iconst 0, 0, 0, 0, 0), (2, .bipush 23, 23, 0, 0, 0), (4, .invokestatic 51, 0, 285, 3, 80), (7, .ireturn, 0, 1, 0, 0)]
def kX8_isLoad_0 : List e_Op := [(0, .iload_n 0, 0, 0, 0, 0), (1, .sipush (-500), (-500), 0, 0, 0), (4, .sipush 500, 500, 0, 0, 0), (7, .invokestatic 51, 0, 285, 3, 80), (10, .ifCond .eq 20, 0, 290, 0, 0), (13, .iload_n 1, 0, 1, 0, 0), (14, .sipush (-300), (-300), 0, 0, 0), (17, .sipush 300, 300, 0, 0, 0), (20, .invokestatic 51, 0, 285, 3, 80), (23, .ifCond .eq 7, 0, 290, 0, 0), (26, .iconst 1, 1, 0, 0, 0), (27, .goto 4, 0, 291, 0, 0)]
def kX8_isLoad_30 : List e_Op := [(30, .iconst 0, 0, 0, 0, 0), (31, .nop, 0, 291, 0, 0)]
def kX8_isLoad_31 : List e_Op := [(31, .ireturn, 0, 1, 0, 0)]
def kX8_areBankSettings_0 : List e_Op := [(0, .iload_n 0, 0, 0, 0, 0), (1, .iconst 1, 1, 0, 0, 0), (2, .if_icmp .ne 23, 0, 295, 0, 0), (5, .iload_n 1, 0, 1, 0, 0), (6, .invokestatic 96, 0, 288, 1, 81), (9, .ifCond .eq 14, 0, 293, 0, 0), (12, .iload_n 2, 0, 2, 0, 0), (13, .invokestatic 96, 0, 288, 1, 81), (16, .ifCond .eq 7, 0, 293, 0, 0), (19, .iconst 1, 1, 0, 0, 0), (20, .goto 4, 0, 294, 0, 0)]
def kX8_areBankSettings_23 : List e_Op := [(23, .iconst 0, 0, 0, 0, 0), (24, .nop, 0, 294, 0, 0)]
def kX8_areBankSettings_24 : List e_Op := [(24, .ireturn, 0, 1, 0, 0)]
def kX8_areBankSettings_25 : List e_Op := [(25, .iload_n 0, 0, 0, 0, 0), (26, .iconst 2, 2, 0, 0, 0), (27, .if_icmp .ne 40, 0, 298, 0, 0), (30, .iload_n 1, 0, 1, 0, 0), (31, .sipush (-3000), (-3000), 0, 0, 0), (34, .sipush 3000, 3000, 0, 0, 0), (37, .invokestatic 51, 0, 285, 3, 80), (40, .ifCond .eq 25, 0, 296, 0, 0), (43, .iload_n 2, 0, 2, 0, 0), (44, .sipush (-3000), (-3000), 0, 0, 0), (47, .sipush 3000, 3000, 0, 0, 0), (50, .invokestatic 51, 0, 285, 3, 80), (53, .ifCond .eq 12, 0, 296, 0, 0), (56, .iload_n 1, 0, 1, 0, 0), (57, .iload_n 2, 0, 2, 0, 0), (58, .if_icmp .ge 7, 0, 296, 0, 0), (61, .iconst 1, 1, 0, 0, 0), (62, .goto 4, 0, 297, 0, 0)]
def kX8_areBankSettings_65 : List e_Op := [(65, .iconst 0, 0, 0, 0, 0), (66, .nop, 0, 297, 0, 0)]
def kX8_areBankSettings_66 : List e_Op := [(66, .ireturn, 0, 1, 0, 0)]
def kX8_areBankSettings_67 : List e_Op := [(67, .iload_n 0, 0, 0, 0, 0), (68, .ifCond .ne 7, 0, 299, 0, 0), (71, .iconst 1, 1, 0, 0, 0), (72, .goto 4, 0, 300, 0, 0)]
def kX8_areBankSettings_75 : List e_Op := [(75, .iconst 0, 0, 0, 0, 0), (76, .nop, 0, 300, 0, 0)]
def kX8_areBankSettings_76 : List e_Op := [(76, .ireturn, 0, 1, 0, 0)]
def kX8_bit_0 : List e_Op := [(0, .iload_n 0, 0, 0, 0, 0), (1, .ifCond .eq 7, 0, 302, 0, 0), (4, .iconst 1, 1, 0, 0, 0), (5, .goto 4, 0, 303, 0, 0)]
def kX8_bit_8 : List e_Op := [(8, .iconst 0, 0, 0, 0, 0), (9, .nop, 0, 303, 0, 0)]
def kX8_bit_9 : List e_Op := [(9, .ireturn, 0, 0, 0, 0)]
def kX8_hasNode_0 : List e_Op := [(0, .iload_n 1, 0, 1, 0, 0), (1, .iconst 1, 1, 0, 0, 0), (2, .aload_n 0, 0, 0, 0, 0), (3, .getfield 10, 0, 8, 0, 2), (6, .getfield 71, 0, 1, 2, 0), (9, .invokestatic 51, 0, 285, 3, 80), (12, .ireturn, 0, 1, 0, 0)]
def kX8_regulatorFault_0 : List e_Op := [(0, .aload_n 0, 0, 0, 0, 0), (1, .iload_n 1, 0, 1, 0, 0), (2, .invokevirtual 92, 0, 304, 2, 85), (5, .ifCond .ne 6, 0, 306, 0, 0), (8, .bipush (-2), (-2), 0, 0, 0), (10, .ireturn, 0, 0, 0, 0)]
def kX8_regulatorFault_11 : List e_Op := [(11, .aload_n 0, 0, 0, 0, 0), (12, .getfield 10, 0, 8, 0, 2), (15, .getfield 74, 0, 1, 5, 2), (18, .iload_n 1, 0, 1, 0, 0), (19, .aaload, 0, 0, 0, 0), (20, .getfield 122, 0, 4, 4, 2), (23, .getfield 126, 0, 7, 0, 1), (26, .ifCond .eq 7, 0, 307, 0, 0), (29, .iconst 0, 0, 0, 0, 0), (30, .goto 5, 0, 308, 0, 0)]
def kX8_regulatorFault_33 : List e_Op := [(33, .bipush (-4), (-4), 0, 0, 0), (35, .nop, 0, 308, 0, 0)]
def kX8_regulatorFault_35 : List e_Op := [(35, .ireturn, 0, 0, 0, 0)]
def kX8_bankFault_0 : List e_Op := [(0, .aload_n 0, 0, 0, 0, 0), (1, .iload_n 1, 0, 1, 0, 0), (2, .invokevirtual 92, 0, 304, 2, 85), (5, .ifCond .ne 6, 0, 310, 0, 0), (8, .bipush (-2), (-2), 0, 0, 0), (10, .ireturn, 0, 0, 0, 0)]
def kX8_bankFault_11 : List e_Op := [(11, .aload_n 0, 0, 0, 0, 0), (12, .getfield 10, 0, 8, 0, 2), (15, .getfield 74, 0, 1, 5, 2), (18, .iload_n 1, 0, 1, 0, 0), (19, .aaload, 0, 0, 0, 0), (20, .getfield 153, 0, 4, 5, 2), (23, .getfield 157, 0, 0, 0, 1), (26, .ifCond .eq 7, 0, 311, 0, 0), (29, .iconst 0, 0, 0, 0, 0), (30, .goto 5, 0, 312, 0, 0)]
def kX8_bankFault_33 : List e_Op := [(33, .bipush (-4), (-4), 0, 0, 0), (35, .nop, 0, 312, 0, 0)]
def kX8_bankFault_35 : List e_Op := [(35, .ireturn, 0, 0, 0, 0)]
def kX8_isErrorCode_0 : List e_Op := [(0, .iload_n 0, 0, 0, 0, 0), (1, .bipush (-6), (-6), 0, 0, 0), (3, .bipush (-2), (-2), 0, 0, 0), (5, .invokestatic 51, 0, 285, 3, 80), (8, .ireturn, 0, 1, 0, 0)]
def kX8_refuse_0 : List e_Op := [(0, .iload_n 1, 0, 1, 0, 0), (1, .invokestatic 243, 0, 313, 1, 88), (4, .ifCond .eq 16, 0, 315, 0, 0), (7, .aload_n 0, 0, 0, 0, 0), (8, .getfield 48, 0, 8, 6, 2), (11, .bipush (-2), (-2), 0, 0, 0), (13, .iload_n 1, 0, 1, 0, 0), (14, .isub, 0, 0, 0, 0), (15, .dup2, 0, 0, 0, 0), (16, .iaload, 0, 0, 0, 0), (17, .iconst 1, 1, 0, 0, 0), (18, .iadd, 0, 0, 0, 0), (19, .iastore, 0, 0, 0, 0), (20, .nop, 0, 315, 0, 0)]
def kX8_refuse_20 : List e_Op := [(20, .iload_n 1, 0, 1, 0, 0), (21, .ireturn, 0, 0, 0, 0)]
def kX9_init_0 : List e_Op := [(0, .aload_n 0, 0, 0, 0, 0), (1, .invokespecial 1, 0, 0, 0, 999), (4, .aload_n 0, 0, 0, 0, 0), (5, .sipush 220, 220, 0, 0, 0), (8, .newarray .int, 0, 10, 0, 0), (10, .putfield 7, 0, 9, 0, 2), (13, .aload_n 0, 0, 0, 0, 0), (14, .sipush 660, 660, 0, 0, 0), (17, .newarray .int, 0, 10, 0, 0), (19, .putfield 13, 0, 9, 1, 2), (22, .aload_n 0, 0, 0, 0, 0), (23, .bipush 120, 120, 0, 0, 0), (25, .newarray .int, 0, 10, 0, 0), (27, .putfield 16, 0, 9, 3, 2), (30, .aload_n 0, 0, 0, 0, 0), (31, .bipush 7, 7, 0, 0, 0), (33, .newarray .int, 0, 10, 0, 0), (35, .putfield 19, 0, 9, 5, 2), (38, .aload_n 0, 0, 0, 0, 0), (39, .bipush 9, 9, 0, 0, 0), (41, .newarray .int, 0, 10, 0, 0), (43, .putfield 22, 0, 9, 6, 2), (46, .aload_n 0, 0, 0, 0, 0), (47, .bipush 9, 9, 0, 0, 0), (49, .newarray .int, 0, 10, 0, 0), (51, .putfield 25, 0, 9, 7, 2), (54, .aload_n 0, 0, 0, 0, 0), (55, .bipush 9, 9, 0, 0, 0), (57, .newarray .int, 0, 10, 0, 0), (59, .putfield 28, 0, 9, 8, 2), (62, .aload_n 0, 0, 0, 0, 0), (63, .bipush 24, 24, 0, 0, 0), (65, .newarray .int, 0, 10, 0, 0), (67, .putfield 31, 0, 9, 10, 2), (70, .aload_n 0, 0, 0, 0, 0), (71, .sipush 792, 792, 0, 0, 0), (74, .newarray .int, 0, 10, 0, 0), (76, .putfield 34, 0, 9, 11, 2), (79, .aload_n 0, 0, 0, 0, 0), (80, .getfield 7, 0, 9, 0, 2), (83, .iconst 1, 1, 0, 0, 0), (84, .sipush 10000, 10000, 0, 0, 0), (87, .iastore, 0, 0, 0, 0), (88, .iconst 0, 0, 0, 0, 0), (89, .istore_n 1, 0, 1, 0, 0), (90, .nop, 0, 317, 0, 0)]
def kX9_init_90 : List e_Op := [(90, .iload_n 1, 0, 1, 0, 0), (91, .bipush 24, 24, 0, 0, 0), (93, .if_icmp .ge 19, 0, 318, 0, 0), (96, .aload_n 0, 0, 0, 0, 0), (97, .getfield 7, 0, 9, 0, 2), (100, .iconst 4, 4, 0, 0, 0), (101, .iload_n 1, 0, 1, 0, 0), (102, .iadd, 0, 0, 0, 0), (103, .bipush 100, 100, 0, 0, 0), (105, .iastore, 0, 0, 0, 0), (106, .iinc 1 1, 1, 1, 0, 0), (109, .goto (-19), 0, 317, 0, 0)]
def kX9_init_112 : List e_Op := [(112, .return_, 0, 0, 0, 0)]
def kX9_in_0 : List e_Op := [(0, .iload_n 0, 0, 0, 0, 0), (1, .iload_n 1, 0, 1, 0, 0), (2, .if_icmp .lt 12, 0, 320, 0, 0), (5, .iload_n 0, 0, 0, 0, 0), (6, .iload_n 2, 0, 2, 0, 0), (7, .if_icmp .gt 7, 0, 320, 0, 0), (10, .iconst 1, 1, 0, 0, 0), (11, .goto 4, 0, 321, 0, 0)]
def kX9_in_14 : List e_Op := [(14, .iconst 0, 0, 0, 0, 0), (15, .nop, 0, 321, 0, 0)]
def kX9_in_15 : List e_Op := [(15, .ireturn, 0, 1, 0, 0)]
def kX9_error_0 : List e_Op := [(0, .aload_n 0, 0, 0, 0, 0), (1, .getfield 19, 0, 9, 5, 2), (4, .iload_n 1, 0, 1, 0, 0), (5, .ineg, 0, 0, 0, 0), (6, .dup2, 0, 0, 0, 0), (7, .iaload, 0, 0, 0, 0), (8, .iconst 1, 1, 0, 0, 0), (9, .iadd, 0, 0, 0, 0), (10, .iastore, 0, 0, 0, 0), (11, .iload_n 1, 0, 1, 0, 0), (12, .ireturn, 0, 0, 0, 0)]
def kX9_isNode_0 : List e_Op := [(0, .iload_n 1, 0, 1, 0, 0), (1, .iconst 1, 1, 0, 0, 0), (2, .aload_n 0, 0, 0, 0, 0), (3, .getfield 7, 0, 9, 0, 2), (6, .iconst 3, 3, 0, 0, 0), (7, .iaload, 0, 0, 0, 0), (8, .invokestatic 37, 0, 319, 3, 91), (11, .ireturn, 0, 1, 0, 0)]
def kX9_spot_0 : List e_Op := [(0, .bipush 28, 28, 0, 0, 0), (2, .bipush 24, 24, 0, 0, 0), (4, .iload_n 0, 0, 0, 0, 0), (5, .iconst 1, 1, 0, 0, 0), (6, .isub, 0, 0, 0, 0), (7, .imul, 0, 0, 0, 0), (8, .iadd, 0, 0, 0, 0), (9, .iload_n 1, 0, 1, 0, 0), (10, .iadd, 0, 0, 0, 0), (11, .ireturn, 0, 0, 0, 0)]
def kX9_of_0 : List e_Op := [(0, .aload_n 0, 0, 0, 0, 0), (1, .getfield 7, 0, 9, 0, 2), (4, .iload_n 1, 0, 1, 0, 0), (5, .iload_n 2, 0, 2, 0, 0), (6, .invokestatic 41, 0, 324, 2, 94), (9, .iaload, 0, 0, 0, 0), (10, .ireturn, 0, 0, 0, 0)]
def kX9_put_0 : List e_Op := [(0, .aload_n 0, 0, 0, 0, 0), (1, .getfield 7, 0, 9, 0, 2), (4, .iload_n 1, 0, 1, 0, 0), (5, .iload_n 2, 0, 2, 0, 0), (6, .invokestatic 41, 0, 324, 2, 94), (9, .iload_n 3, 0, 3, 0, 0), (10, .iastore, 0, 0, 0, 0), (11, .return_, 0, 0, 0, 0)]
def kX9_save_0 : List e_Op := [(0, .aload_n 0, 0, 0, 0, 0), (1, .getfield 45, 0, 9, 2, 0), (4, .iconst 3, 3, 0, 0, 0), (5, .if_icmp .ne 44, 0, 330, 0, 0), (8, .iconst 0, 0, 0, 0, 0), (9, .istore_n 1, 0, 1, 0, 0), (10, .nop, 0, 328, 0, 0)]
def kX9_save_10 : List e_Op := [(10, .iload_n 1, 0, 1, 0, 0), (11, .sipush 440, 440, 0, 0, 0), (14, .if_icmp .ge 25, 0, 329, 0, 0), (17, .aload_n 0, 0, 0, 0, 0), (18, .getfield 13, 0, 9, 1, 2), (21, .iload_n 1, 0, 1, 0, 0), (22, .aload_n 0, 0, 0, 0, 0), (23, .getfield 13, 0, 9, 1, 2), (26, .iload_n 1, 0, 1, 0, 0), (27, .sipush 220, 220, 0, 0, 0), (30, .iadd, 0, 0, 0, 0), (31, .iaload, 0, 0, 0, 0), (32, .iastore, 0, 0, 0, 0), (33, .iinc 1 1, 1, 1, 0, 0), (36, .goto (-26), 0, 328, 0, 0)]
def kX9_save_39 : List e_Op := [(39, .aload_n 0, 0, 0, 0, 0), (40, .dup, 0, 0, 0, 0), (41, .getfield 45, 0, 9, 2, 0), (44, .iconst 1, 1, 0, 0, 0), (45, .isub, 0, 0, 0, 0), (46, .putfield 45, 0, 9, 2, 0), (49, .nop, 0, 330, 0, 0)]
def kX9_save_49 : List e_Op := [(49, .iconst 0, 0, 0, 0, 0), (50, .istore_n 1, 0, 1, 0, 0), (51, .nop, 0, 331, 0, 0)]
def kX9_save_51 : List e_Op := [(51, .iload_n 1, 0, 1, 0, 0), (52, .sipush 220, 220, 0, 0, 0), (55, .if_icmp .ge 30, 0, 332, 0, 0), (58, .aload_n 0, 0, 0, 0, 0), (59, .getfield 13, 0, 9, 1, 2), (62, .sipush 220, 220, 0, 0, 0), (65, .aload_n 0, 0, 0, 0, 0), (66, .getfield 45, 0, 9, 2, 0), (69, .imul, 0, 0, 0, 0), (70, .iload_n 1, 0, 1, 0, 0), (71, .iadd, 0, 0, 0, 0), (72, .aload_n 0, 0, 0, 0, 0), (73, .getfield 7, 0, 9, 0, 2), (76, .iload_n 1, 0, 1, 0, 0), (77, .iaload, 0, 0, 0, 0), (78, .iastore, 0, 0, 0, 0), (79, .iinc 1 1, 1, 1, 0, 0), (82, .goto (-31), 0, 331, 0, 0)]
def kX9_save_85 : List e_Op := [(85, .aload_n 0, 0, 0, 0, 0), (86, .dup, 0, 0, 0, 0), (87, .getfield 45, 0, 9, 2, 0), (90, .iconst 1, 1, 0, 0, 0), (91, .iadd, 0, 0, 0, 0), (92, .putfield 45, 0, 9, 2, 0), (95, .return_, 0, 0, 0, 0)]
def kX9_setSource_0 : List e_Op := [(0, .iload_n 1, 0, 1, 0, 0), (1, .sipush 9000, 9000, 0, 0, 0), (4, .sipush 11000, 11000, 0, 0, 0), (7, .invokestatic 37, 0, 319, 3, 91), (10, .ifCond .ne 10, 0, 334, 0, 0), (13, .aload_n 0, 0, 0, 0, 0), (14, .bipush (-2), (-2), 0, 0, 0), (16, .invokevirtual 49, 0, 322, 2, 92), (19, .ireturn, 0, 0, 0, 0)]
def kX9_setSource_20 : List e_Op := [(20, .aload_n 0, 0, 0, 0, 0), (21, .invokevirtual 53, 0, 327, 1, 97), (24, .aload_n 0, 0, 0, 0, 0), (25, .getfield 7, 0, 9, 0, 2), (28, .iconst 1, 1, 0, 0, 0), (29, .iaload, 0, 0, 0, 0), (30, .istore_n 2, 0, 2, 0, 0), (31, .aload_n 0, 0, 0, 0, 0), (32, .getfield 7, 0, 9, 0, 2), (35, .iconst 1, 1, 0, 0, 0), (36, .iload_n 1, 0, 1, 0, 0), (37, .iastore, 0, 0, 0, 0), (38, .iload_n 2, 0, 2, 0, 0), (39, .ireturn, 0, 0, 0, 0)]
def kX9_isLoad_0 : List e_Op := [(0, .iload_n 0, 0, 0, 0, 0), (1, .sipush (-500), (-500), 0, 0, 0), (4, .sipush 500, 500, 0, 0, 0), (7, .invokestatic 37, 0, 319, 3, 91), (10, .ifCond .eq 20, 0, 336, 0, 0), (13, .iload_n 1, 0, 1, 0, 0), (14, .sipush (-300), (-300), 0, 0, 0), (17, .sipush 300, 300, 0, 0, 0), (20, .invokestatic 37, 0, 319, 3, 91), (23, .ifCond .eq 7, 0, 336, 0, 0), (26, .iconst 1, 1, 0, 0, 0), (27, .goto 4, 0, 337, 0, 0)]
def kX9_isLoad_30 : List e_Op := [(30, .iconst 0, 0, 0, 0, 0), (31, .nop, 0, 337, 0, 0)]
def kX9_isLoad_31 : List e_Op := [(31, .ireturn, 0, 1, 0, 0)]
def kX9_addNode_0 : List e_Op := [(0, .iload_n 1, 0, 1, 0, 0), (1, .iconst 0, 0, 0, 0, 0), (2, .bipush 50, 50, 0, 0, 0), (4, .invokestatic 37, 0, 319, 3, 91), (7, .ifCond .eq 22, 0, 339, 0, 0), (10, .iload_n 2, 0, 2, 0, 0), (11, .iconst 0, 0, 0, 0, 0), (12, .bipush 50, 50, 0, 0, 0), (14, .invokestatic 37, 0, 319, 3, 91), (17, .ifCond .eq 12, 0, 339, 0, 0), (20, .iload_n 3, 0, 3, 0, 0), (21, .iload 4, 0, 4, 0, 0), (23, .invokestatic 56, 0, 335, 2, 99), (26, .ifCond .ne 10, 0, 340, 0, 0), (29, .nop, 0, 339, 0, 0)]
def kX9_addNode_29 : List e_Op := [(29, .aload_n 0, 0, 0, 0, 0), (30, .bipush (-2), (-2), 0, 0, 0), (32, .invokevirtual 49, 0, 322, 2, 92), (35, .ireturn, 0, 0, 0, 0)]
def kX9_addNode_36 : List e_Op := [(36, .aload_n 0, 0, 0, 0, 0), (37, .getfield 7, 0, 9, 0, 2), (40, .iconst 3, 3, 0, 0, 0), (41, .iaload, 0, 0, 0, 0), (42, .bipush 8, 8, 0, 0, 0), (44, .if_icmp .ne 10, 0, 341, 0, 0), (47, .aload_n 0, 0, 0, 0, 0), (48, .bipush (-5), (-5), 0, 0, 0), (50, .invokevirtual 49, 0, 322, 2, 92), (53, .ireturn, 0, 0, 0, 0)]
def kX9_addNode_54 : List e_Op := [(54, .aload_n 0, 0, 0, 0, 0), (55, .invokevirtual 53, 0, 327, 1, 97), (58, .aload_n 0, 0, 0, 0, 0), (59, .getfield 7, 0, 9, 0, 2), (62, .iconst 3, 3, 0, 0, 0), (63, .dup2, 0, 0, 0, 0), (64, .iaload, 0, 0, 0, 0), (65, .iconst 1, 1, 0, 0, 0), (66, .iadd, 0, 0, 0, 0), (67, .iastore, 0, 0, 0, 0), (68, .aload_n 0, 0, 0, 0, 0), (69, .getfield 7, 0, 9, 0, 2), (72, .iconst 3, 3, 0, 0, 0), (73, .iaload, 0, 0, 0, 0), (74, .istore 5, 0, 5, 0, 0), (76, .iconst 0, 0, 0, 0, 0), (77, .istore 6, 0, 6, 0, 0), (79, .nop, 0, 342, 0, 0)]
def kX9_addNode_79 : List e_Op := [(79, .iload 6, 0, 6, 0, 0), (81, .bipush 24, 24, 0, 0, 0), (83, .if_icmp .ge 18, 0, 343, 0, 0), (86, .aload_n 0, 0, 0, 0, 0), (87, .iload 5, 0, 5, 0, 0), (89, .iload 6, 0, 6, 0, 0), (91, .iconst 0, 0, 0, 0, 0), (92, .invokevirtual 60, 0, 326, 4, 96), (95, .iinc 6 1, 1, 6, 0, 0), (98, .goto (-19), 0, 342, 0, 0)]
def kX9_addNode_101 : List e_Op := [(101, .aload_n 0, 0, 0, 0, 0), (102, .iload 5, 0, 5, 0, 0), (104, .iconst 0, 0, 0, 0, 0), (105, .iload_n 1, 0, 1, 0, 0), (106, .invokevirtual 60, 0, 326, 4, 96), (109, .aload_n 0, 0, 0, 0, 0), (110, .iload 5, 0, 5, 0, 0), (112, .iconst 1, 1, 0, 0, 0), (113, .iload_n 2, 0, 2, 0, 0), (114, .invokevirtual 60, 0, 326, 4, 96), (117, .aload_n 0, 0, 0, 0, 0), (118, .iload 5, 0, 5, 0, 0), (120, .iconst 2, 2, 0, 0, 0), (121, .iload_n 3, 0, 3, 0, 0), (122, .invokevirtual 60, 0, 326, 4, 96), (125, .aload_n 0, 0, 0, 0, 0), (126, .iload 5, 0, 5, 0, 0), (128, .iconst 3, 3, 0, 0, 0), (129, .iload 4, 0, 4, 0, 0), (131, .invokevirtual 60, 0, 326, 4, 96), (134, .iload 5, 0, 5, 0, 0), (136, .ireturn, 0, 0, 0, 0)]
def kX9_setLoad_0 : List e_Op := [(0, .aload_n 0, 0, 0, 0, 0), (1, .iload_n 1, 0, 1, 0, 0), (2, .invokevirtual 64, 0, 323, 2, 93), (5, .ifCond .eq 11, 0, 345, 0, 0), (8, .iload_n 2, 0, 2, 0, 0), (9, .iload_n 3, 0, 3, 0, 0), (10, .invokestatic 56, 0, 335, 2, 99), (13, .ifCond .ne 10, 0, 346, 0, 0), (16, .nop, 0, 345, 0, 0)]
def kX9_setLoad_16 : List e_Op := [(16, .aload_n 0, 0, 0, 0, 0), (17, .bipush (-2), (-2), 0, 0, 0), (19, .invokevirtual 49, 0, 322, 2, 92), (22, .ireturn, 0, 0, 0, 0)]
def kX9_setLoad_23 : List e_Op := [(23, .aload_n 0, 0, 0, 0, 0), (24, .invokevirtual 53, 0, 327, 1, 97), (27, .aload_n 0, 0, 0, 0, 0), (28, .iload_n 1, 0, 1, 0, 0), (29, .iconst 2, 2, 0, 0, 0), (30, .iload_n 2, 0, 2, 0, 0), (31, .invokevirtual 60, 0, 326, 4, 96), (34, .aload_n 0, 0, 0, 0, 0), (35, .iload_n 1, 0, 1, 0, 0), (36, .iconst 3, 3, 0, 0, 0), (37, .iload_n 3, 0, 3, 0, 0), (38, .invokevirtual 60, 0, 326, 4, 96), (41, .iconst 1, 1, 0, 0, 0), (42, .ireturn, 0, 0, 0, 0)]
def kX9_setFactor_0 : List e_Op := [(0, .iload_n 1, 0, 1, 0, 0), (1, .iconst 0, 0, 0, 0, 0), (2, .bipush 23, 23, 0, 0, 0), (4, .invokestatic 37, 0, 319, 3, 91), (7, .ifCond .eq 14, 0, 348, 0, 0), (10, .iload_n 2, 0, 2, 0, 0), (11, .iconst 0, 0, 0, 0, 0), (12, .sipush 200, 200, 0, 0, 0), (15, .invokestatic 37, 0, 319, 3, 91), (18, .ifCond .ne 10, 0, 349, 0, 0), (21, .nop, 0, 348, 0, 0)]
def kX9_setFactor_21 : List e_Op := [(21, .aload_n 0, 0, 0, 0, 0), (22, .bipush (-2), (-2), 0, 0, 0), (24, .invokevirtual 49, 0, 322, 2, 92), (27, .ireturn, 0, 0, 0, 0)]
def kX9_setFactor_28 : List e_Op := [(28, .aload_n 0, 0, 0, 0, 0), (29, .invokevirtual 53, 0, 327, 1, 97), (32, .aload_n 0, 0, 0, 0, 0), (33, .getfield 7, 0, 9, 0, 2), (36, .iconst 4, 4, 0, 0, 0), (37, .iload_n 1, 0, 1, 0, 0), (38, .iadd, 0, 0, 0, 0), (39, .iaload, 0, 0, 0, 0), (40, .istore_n 3, 0, 3, 0, 0), (41, .aload_n 0, 0, 0, 0, 0), (42, .getfield 7, 0, 9, 0, 2), (45, .iconst 4, 4, 0, 0, 0), (46, .iload_n 1, 0, 1, 0, 0), (47, .iadd, 0, 0, 0, 0), (48, .iload_n 2, 0, 2, 0, 0), (49, .iastore, 0, 0, 0, 0), (50, .iload_n 3, 0, 3, 0, 0), (51, .ireturn, 0, 0, 0, 0)]
def kX9_append_0 : List e_Op := [(0, .iload_n 1, 0, 1, 0, 0), (1, .iconst 0, 0, 0, 0, 0), (2, .bipush 127, 127, 0, 0, 0), (4, .invokestatic 37, 0, 319, 3, 91), (7, .ifCond .ne 10, 0, 351, 0, 0), (10, .aload_n 0, 0, 0, 0, 0), (11, .bipush (-2), (-2), 0, 0, 0), (13, .invokevirtual 49, 0, 322, 2, 92), (16, .ireturn, 0, 0, 0, 0)]
def kX9_append_17 : List e_Op := [(17, .aload_n 0, 0, 0, 0, 0), (18, .getfield 68, 0, 9, 4, 0), (21, .bipush 120, 120, 0, 0, 0), (23, .if_icmp .ne 10, 0, 352, 0, 0), (26, .aload_n 0, 0, 0, 0, 0), (27, .bipush (-5), (-5), 0, 0, 0), (29, .invokevirtual 49, 0, 322, 2, 92), (32, .ireturn, 0, 0, 0, 0)]
def kX9_append_33 : List e_Op := [(33, .aload_n 0, 0, 0, 0, 0), (34, .getfield 16, 0, 9, 3, 2), (37, .aload_n 0, 0, 0, 0, 0), (38, .getfield 68, 0, 9, 4, 0), (41, .iload_n 1, 0, 1, 0, 0), (42, .iastore, 0, 0, 0, 0), (43, .aload_n 0, 0, 0, 0, 0), (44, .dup, 0, 0, 0, 0), (45, .getfield 68, 0, 9, 4, 0), (48, .iconst 1, 1, 0, 0, 0), (49, .iadd, 0, 0, 0, 0), (50, .putfield 68, 0, 9, 4, 0), (53, .aload_n 0, 0, 0, 0, 0), (54, .getfield 68, 0, 9, 4, 0), (57, .ireturn, 0, 0, 0, 0)]
def kX9_clearText_0 : List e_Op := [(0, .aload_n 0, 0, 0, 0, 0), (1, .getfield 68, 0, 9, 4, 0), (4, .istore_n 1, 0, 1, 0, 0), (5, .aload_n 0, 0, 0, 0, 0), (6, .iconst 0, 0, 0, 0, 0), (7, .putfield 68, 0, 9, 4, 0), (10, .iload_n 1, 0, 1, 0, 0), (11, .ireturn, 0, 0, 0, 0)]
def kX9_next_0 : List e_Op := [(0, .aload_n 0, 0, 0, 0, 0), (1, .getfield 71, 0, 9, 9, 0), (4, .aload_n 0, 0, 0, 0, 0), (5, .getfield 68, 0, 9, 4, 0), (8, .if_icmp .ge 30, 0, 355, 0, 0), (11, .aload_n 0, 0, 0, 0, 0), (12, .getfield 16, 0, 9, 3, 2), (15, .aload_n 0, 0, 0, 0, 0), (16, .getfield 71, 0, 9, 9, 0), (19, .iaload, 0, 0, 0, 0), (20, .bipush 32, 32, 0, 0, 0), (22, .if_icmp .ne 16, 0, 355, 0, 0), (25, .aload_n 0, 0, 0, 0, 0), (26, .dup, 0, 0, 0, 0), (27, .getfield 71, 0, 9, 9, 0), (30, .iconst 1, 1, 0, 0, 0), (31, .iadd, 0, 0, 0, 0), (32, .putfield 71, 0, 9, 9, 0), (35, .goto (-35), 0, 354, 0, 0)]
def kX9_next_38 : List e_Op := [(38, .aload_n 0, 0, 0, 0, 0), (39, .getfield 71, 0, 9, 9, 0), (42, .aload_n 0, 0, 0, 0, 0), (43, .getfield 68, 0, 9, 4, 0), (46, .if_icmp .ge 15, 0, 356, 0, 0), (49, .aload_n 0, 0, 0, 0, 0), (50, .getfield 16, 0, 9, 3, 2), (53, .aload_n 0, 0, 0, 0, 0), (54, .getfield 71, 0, 9, 9, 0), (57, .iaload, 0, 0, 0, 0), (58, .goto 4, 0, 357, 0, 0)]
def kX9_next_61 : List e_Op := [(61, .iconst (-1), (-1), 0, 0, 0), (62, .nop, 0, 357, 0, 0)]
def kX9_next_62 : List e_Op := [(62, .ireturn, 0, 0, 0, 0)]
def kX9_takes_0 : List e_Op := [(0, .aload_n 0, 0, 0, 0, 0), (1, .invokevirtual 74, 0, 354, 1, 105), (4, .iload_n 1, 0, 1, 0, 0), (5, .if_icmp .ne 7, 0, 359, 0, 0), (8, .iconst 1, 1, 0, 0, 0), (9, .goto 4, 0, 360, 0, 0)]
def kX9_takes_12 : List e_Op := [(12, .iconst 0, 0, 0, 0, 0), (13, .nop, 0, 360, 0, 0)]
def kX9_takes_13 : List e_Op := [(13, .istore_n 2, 0, 2, 0, 0), (14, .aload_n 0, 0, 0, 0, 0), (15, .dup, 0, 0, 0, 0), (16, .getfield 71, 0, 9, 9, 0), (19, .iload_n 2, 0, 2, 0, 0), (20, .ifCond .eq 7, 0, 361, 0, 0), (23, .iconst 1, 1, 0, 0, 0), (24, .goto 4, 0, 362, 0, 0)]
def kX9_takes_27 : List e_Op := [(27, .iconst 0, 0, 0, 0, 0), (28, .nop, 0, 362, 0, 0)]
def kX9_takes_28 : List e_Op := [(28, .iadd, 0, 0, 0, 0), (29, .putfield 71, 0, 9, 9, 0), (32, .iload_n 2, 0, 2, 0, 0), (33, .ireturn, 0, 1, 0, 0)]
def kX9_number_0 : List e_Op := [(0, .aload_n 0, 0, 0, 0, 0), (1, .invokevirtual 74, 0, 354, 1, 105), (4, .pop, 0, 0, 0, 0), (5, .aload_n 0, 0, 0, 0, 0), (6, .getfield 71, 0, 9, 9, 0), (9, .istore_n 3, 0, 3, 0, 0), (10, .iconst 0, 0, 0, 0, 0), (11, .istore 4, 0, 4, 0, 0), (13, .nop, 0, 364, 0, 0)]
def kX9_number_13 : List e_Op := [(13, .aload_n 0, 0, 0, 0, 0), (14, .getfield 71, 0, 9, 9, 0), (17, .aload_n 0, 0, 0, 0, 0), (18, .getfield 68, 0, 9, 4, 0), (21, .if_icmp .ge 65, 0, 365, 0, 0), (24, .aload_n 0, 0, 0, 0, 0), (25, .getfield 16, 0, 9, 3, 2), (28, .aload_n 0, 0, 0, 0, 0), (29, .getfield 71, 0, 9, 9, 0), (32, .iaload, 0, 0, 0, 0), (33, .bipush 48, 48, 0, 0, 0), (35, .bipush 57, 57, 0, 0, 0), (37, .invokestatic 37, 0, 319, 3, 91), (40, .ifCond .eq 46, 0, 365, 0, 0), (43, .aload_n 0, 0, 0, 0, 0), (44, .getfield 71, 0, 9, 9, 0), (47, .iload_n 3, 0, 3, 0, 0), (48, .iconst 3, 3, 0, 0, 0), (49, .iadd, 0, 0, 0, 0), (50, .if_icmp .ge 36, 0, 365, 0, 0), (53, .bipush 10, 10, 0, 0, 0), (55, .iload 4, 0, 4, 0, 0), (57, .imul, 0, 0, 0, 0), (58, .aload_n 0, 0, 0, 0, 0), (59, .getfield 16, 0, 9, 3, 2), (62, .aload_n 0, 0, 0, 0, 0), (63, .getfield 71, 0, 9, 9, 0), (66, .iaload, 0, 0, 0, 0), (67, .iadd, 0, 0, 0, 0), (68, .bipush 48, 48, 0, 0, 0), (70, .isub, 0, 0, 0, 0), (71, .istore 4, 0, 4, 0, 0), (73, .aload_n 0, 0, 0, 0, 0), (74, .dup, 0, 0, 0, 0), (75, .getfield 71, 0, 9, 9, 0), (78, .iconst 1, 1, 0, 0, 0), (79, .iadd, 0, 0, 0, 0), (80, .putfield 71, 0, 9, 9, 0), (83, .goto (-70), 0, 364, 0, 0)]
def kX9_number_86 : List e_Op := [(86, .aload_n 0, 0, 0, 0, 0), (87, .getfield 71, 0, 9, 9, 0), (90, .iload_n 3, 0, 3, 0, 0), (91, .iconst 3, 3, 0, 0, 0), (92, .iadd, 0, 0, 0, 0), (93, .if_icmp .ne 37, 0, 366, 0, 0), (96, .aload_n 0, 0, 0, 0, 0), (97, .getfield 71, 0, 9, 9, 0), (100, .aload_n 0, 0, 0, 0, 0), (101, .getfield 68, 0, 9, 4, 0), (104, .if_icmp .ge 26, 0, 366, 0, 0), (107, .aload_n 0, 0, 0, 0, 0), (108, .getfield 16, 0, 9, 3, 2), (111, .aload_n 0, 0, 0, 0, 0), (112, .getfield 71, 0, 9, 9, 0), (115, .iaload, 0, 0, 0, 0), (116, .bipush 48, 48, 0, 0, 0), (118, .bipush 57, 57, 0, 0, 0), (120, .invokestatic 37, 0, 319, 3, 91), (123, .ifCond .eq 7, 0, 366, 0, 0), (126, .iconst 1, 1, 0, 0, 0), (127, .goto 4, 0, 367, 0, 0)]
def kX9_number_130 : List e_Op := [(130, .iconst 0, 0, 0, 0, 0), (131, .nop, 0, 367, 0, 0)]
def kX9_number_131 : List e_Op := [(131, .istore 5, 0, 5, 0, 0), (133, .aload_n 0, 0, 0, 0, 0), (134, .getfield 71, 0, 9, 9, 0), (137, .iload_n 3, 0, 3, 0, 0), (138, .if_icmp .eq 8, 0, 368, 0, 0), (141, .iload 5, 0, 5, 0, 0), (143, .ifCond .eq 5, 0, 369, 0, 0), (146, .nop, 0, 368, 0, 0)]
def kX9_number_146 : List e_Op := [(146, .iconst (-1), (-1), 0, 0, 0), (147, .ireturn, 0, 0, 0, 0)]
def kX9_number_148 : List e_Op := [(148, .iload 4, 0, 4, 0, 0), (150, .iload_n 1, 0, 1, 0, 0), (151, .iload_n 2, 0, 2, 0, 0), (152, .invokestatic 37, 0, 319, 3, 91), (155, .ifCond .ne 10, 0, 370, 0, 0), (158, .aload_n 0, 0, 0, 0, 0), (159, .iload_n 3, 0, 3, 0, 0), (160, .putfield 71, 0, 9, 9, 0), (163, .iconst (-1), (-1), 0, 0, 0), (164, .ireturn, 0, 0, 0, 0)]
def kX9_number_165 : List e_Op := [(165, .iload 4, 0, 4, 0, 0), (167, .ireturn, 0, 0, 0, 0)]
def kX9_readsItem_0 : List e_Op := [(0, .aload_n 0, 0, 0, 0, 0), (1, .iconst 0, 0, 0, 0, 0), (2, .bipush 23, 23, 0, 0, 0), (4, .invokevirtual 78, 0, 363, 3, 107), (7, .istore_n 1, 0, 1, 0, 0), (8, .iload_n 1, 0, 1, 0, 0), (9, .ifCond .ge 5, 0, 372, 0, 0), (12, .iconst 0, 0, 0, 0, 0), (13, .ireturn, 0, 1, 0, 0)]
def kX9_readsItem_14 : List e_Op := [(14, .iload_n 1, 0, 1, 0, 0), (15, .istore_n 2, 0, 2, 0, 0), (16, .aload_n 0, 0, 0, 0, 0), (17, .bipush 45, 45, 0, 0, 0), (19, .invokevirtual 81, 0, 358, 2, 106), (22, .ifCond .eq 17, 0, 373, 0, 0), (25, .aload_n 0, 0, 0, 0, 0), (26, .iload_n 1, 0, 1, 0, 0), (27, .bipush 23, 23, 0, 0, 0), (29, .invokevirtual 78, 0, 363, 3, 107), (32, .istore_n 2, 0, 2, 0, 0), (33, .iload_n 2, 0, 2, 0, 0), (34, .ifCond .ge 5, 0, 373, 0, 0), (37, .iconst 0, 0, 0, 0, 0), (38, .ireturn, 0, 1, 0, 0)]
def kX9_readsItem_39 : List e_Op := [(39, .aload_n 0, 0, 0, 0, 0), (40, .bipush 58, 58, 0, 0, 0), (42, .invokevirtual 81, 0, 358, 2, 106), (45, .ifCond .ne 5, 0, 374, 0, 0), (48, .iconst 0, 0, 0, 0, 0), (49, .ireturn, 0, 1, 0, 0)]
def kX9_readsItem_50 : List e_Op := [(50, .aload_n 0, 0, 0, 0, 0), (51, .iconst 0, 0, 0, 0, 0), (52, .sipush 200, 200, 0, 0, 0), (55, .invokevirtual 78, 0, 363, 3, 107), (58, .istore_n 3, 0, 3, 0, 0), (59, .iload_n 3, 0, 3, 0, 0), (60, .ifCond .lt 12, 0, 375, 0, 0), (63, .aload_n 0, 0, 0, 0, 0), (64, .bipush 59, 59, 0, 0, 0), (66, .invokevirtual 81, 0, 358, 2, 106), (69, .ifCond .ne 5, 0, 376, 0, 0), (72, .nop, 0, 375, 0, 0)]
def kX9_readsItem_72 : List e_Op := [(72, .iconst 0, 0, 0, 0, 0), (73, .ireturn, 0, 1, 0, 0)]
def kX9_readsItem_74 : List e_Op := [(74, .iload_n 1, 0, 1, 0, 0), (75, .istore 4, 0, 4, 0, 0), (77, .nop, 0, 377, 0, 0)]
def kX9_readsItem_77 : List e_Op := [(77, .iload 4, 0, 4, 0, 0), (79, .iload_n 2, 0, 2, 0, 0), (80, .if_icmp .gt 17, 0, 378, 0, 0), (83, .aload_n 0, 0, 0, 0, 0), (84, .getfield 31, 0, 9, 10, 2), (87, .iload 4, 0, 4, 0, 0), (89, .iload_n 3, 0, 3, 0, 0), (90, .iastore, 0, 0, 0, 0), (91, .iinc 4 1, 1, 4, 0, 0), (94, .goto (-17), 0, 377, 0, 0)]
def kX9_readsItem_97 : List e_Op := [(97, .iconst 1, 1, 0, 0, 0), (98, .ireturn, 0, 1, 0, 0)]
def kX9_parseProfile_0 : List e_Op := [(0, .iconst 0, 0, 0, 0, 0), (1, .istore_n 1, 0, 1, 0, 0), (2, .nop, 0, 380, 0, 0)]
def kX9_parseProfile_2 : List e_Op := [(2, .iload_n 1, 0, 1, 0, 0), (3, .bipush 24, 24, 0, 0, 0), (5, .if_icmp .ge 23, 0, 381, 0, 0), (8, .aload_n 0, 0, 0, 0, 0), (9, .getfield 31, 0, 9, 10, 2), (12, .iload_n 1, 0, 1, 0, 0), (13, .aload_n 0, 0, 0, 0, 0), (14, .getfield 7, 0, 9, 0, 2), (17, .iconst 4, 4, 0, 0, 0), (18, .iload_n 1, 0, 1, 0, 0), (19, .iadd, 0, 0, 0, 0), (20, .iaload, 0, 0, 0, 0), (21, .iastore, 0, 0, 0, 0), (22, .iinc 1 1, 1, 1, 0, 0), (25, .goto (-23), 0, 380, 0, 0)]
def kX9_parseProfile_28 : List e_Op := [(28, .aload_n 0, 0, 0, 0, 0), (29, .iconst 0, 0, 0, 0, 0), (30, .putfield 71, 0, 9, 9, 0), (33, .iconst 0, 0, 0, 0, 0), (34, .istore_n 1, 0, 1, 0, 0), (35, .nop, 0, 382, 0, 0)]
def kX9_parseProfile_35 : List e_Op := [(35, .aload_n 0, 0, 0, 0, 0), (36, .invokevirtual 74, 0, 354, 1, 105), (39, .ifCond .lt 24, 0, 384, 0, 0), (42, .aload_n 0, 0, 0, 0, 0), (43, .invokevirtual 84, 0, 371, 1, 108), (46, .ifCond .ne 11, 0, 383, 0, 0), (49, .bipush (-10), (-10), 0, 0, 0), (51, .aload_n 0, 0, 0, 0, 0), (52, .getfield 71, 0, 9, 9, 0), (55, .isub, 0, 0, 0, 0), (56, .ireturn, 0, 0, 0, 0)]
def kX9_parseProfile_57 : List e_Op := [(57, .iinc 1 1, 1, 1, 0, 0), (60, .goto (-25), 0, 382, 0, 0)]
def kX9_parseProfile_63 : List e_Op := [(63, .aload_n 0, 0, 0, 0, 0), (64, .invokevirtual 53, 0, 327, 1, 97), (67, .iconst 0, 0, 0, 0, 0), (68, .istore_n 2, 0, 2, 0, 0), (69, .nop, 0, 385, 0, 0)]
def kX9_parseProfile_69 : List e_Op := [(69, .iload_n 2, 0, 2, 0, 0), (70, .bipush 24, 24, 0, 0, 0), (72, .if_icmp .ge 23, 0, 386, 0, 0), (75, .aload_n 0, 0, 0, 0, 0), (76, .getfield 7, 0, 9, 0, 2), (79, .iconst 4, 4, 0, 0, 0), (80, .iload_n 2, 0, 2, 0, 0), (81, .iadd, 0, 0, 0, 0), (82, .aload_n 0, 0, 0, 0, 0), (83, .getfield 31, 0, 9, 10, 2), (86, .iload_n 2, 0, 2, 0, 0), (87, .iaload, 0, 0, 0, 0), (88, .iastore, 0, 0, 0, 0), (89, .iinc 2 1, 1, 2, 0, 0), (92, .goto (-23), 0, 385, 0, 0)]
def kX9_parseProfile_95 : List e_Op := [(95, .iload_n 1, 0, 1, 0, 0), (96, .ireturn, 0, 0, 0, 0)]
def kX9_addRegulator_0 : List e_Op := [(0, .aload_n 0, 0, 0, 0, 0), (1, .iload_n 1, 0, 1, 0, 0), (2, .invokevirtual 64, 0, 323, 2, 93), (5, .ifCond .eq 49, 0, 388, 0, 0), (8, .iload_n 2, 0, 2, 0, 0), (9, .sipush 9000, 9000, 0, 0, 0), (12, .sipush 11000, 11000, 0, 0, 0), (15, .invokestatic 37, 0, 319, 3, 91), (18, .ifCond .eq 36, 0, 388, 0, 0), (21, .iload_n 3, 0, 3, 0, 0), (22, .bipush 10, 10, 0, 0, 0), (24, .sipush 500, 500, 0, 0, 0), (27, .invokestatic 37, 0, 319, 3, 91), (30, .ifCond .eq 24, 0, 388, 0, 0), (33, .iload 4, 0, 4, 0, 0), (35, .iconst 0, 0, 0, 0, 0), (36, .bipush 30, 30, 0, 0, 0), (38, .invokestatic 37, 0, 319, 3, 91), (41, .ifCond .eq 13, 0, 388, 0, 0), (44, .iload 5, 0, 5, 0, 0), (46, .iconst 0, 0, 0, 0, 0), (47, .iconst 1, 1, 0, 0, 0), (48, .invokestatic 37, 0, 319, 3, 91), (51, .ifCond .ne 10, 0, 389, 0, 0), (54, .nop, 0, 388, 0, 0)]
def kX9_addRegulator_54 : List e_Op := [(54, .aload_n 0, 0, 0, 0, 0), (55, .bipush (-2), (-2), 0, 0, 0), (57, .invokevirtual 49, 0, 322, 2, 92), (60, .ireturn, 0, 0, 0, 0)]
def kX9_addRegulator_61 : List e_Op := [(61, .aload_n 0, 0, 0, 0, 0), (62, .iload_n 1, 0, 1, 0, 0), (63, .iconst 4, 4, 0, 0, 0), (64, .invokevirtual 88, 0, 325, 3, 95), (67, .iconst 1, 1, 0, 0, 0), (68, .if_icmp .ne 10, 0, 390, 0, 0), (71, .aload_n 0, 0, 0, 0, 0), (72, .bipush (-3), (-3), 0, 0, 0), (74, .invokevirtual 49, 0, 322, 2, 92), (77, .ireturn, 0, 0, 0, 0)]
def kX9_addRegulator_78 : List e_Op := [(78, .aload_n 0, 0, 0, 0, 0), (79, .invokevirtual 53, 0, 327, 1, 97), (82, .aload_n 0, 0, 0, 0, 0), (83, .iload_n 1, 0, 1, 0, 0), (84, .iconst 4, 4, 0, 0, 0), (85, .iconst 1, 1, 0, 0, 0), (86, .invokevirtual 60, 0, 326, 4, 96), (89, .aload_n 0, 0, 0, 0, 0), (90, .iload_n 1, 0, 1, 0, 0), (91, .iconst 5, 5, 0, 0, 0), (92, .iload_n 2, 0, 2, 0, 0), (93, .invokevirtual 60, 0, 326, 4, 96), (96, .aload_n 0, 0, 0, 0, 0), (97, .iload_n 1, 0, 1, 0, 0), (98, .bipush 6, 6, 0, 0, 0), (100, .iload_n 3, 0, 3, 0, 0), (101, .invokevirtual 60, 0, 326, 4, 96), (104, .aload_n 0, 0, 0, 0, 0), (105, .iload_n 1, 0, 1, 0, 0), (106, .bipush 7, 7, 0, 0, 0), (108, .iload 4, 0, 4, 0, 0), (110, .invokevirtual 60, 0, 326, 4, 96), (113, .aload_n 0, 0, 0, 0, 0), (114, .iload_n 1, 0, 1, 0, 0), (115, .bipush 8, 8, 0, 0, 0), (117, .iload 5, 0, 5, 0, 0), (119, .invokevirtual 60, 0, 326, 4, 96), (122, .iconst 1, 1, 0, 0, 0), (123, .ireturn, 0, 0, 0, 0)]
def kX9_lacks_0 : List e_Op := [(0, .aload_n 0, 0, 0, 0, 0), (1, .iload_n 1, 0, 1, 0, 0), (2, .invokevirtual 64, 0, 323, 2, 93), (5, .ifCond .ne 8, 0, 392, 0, 0), (8, .bipush (-2), (-2), 0, 0, 0), (10, .goto 18, 0, 394, 0, 0)]
def kX9_lacks_13 : List e_Op := [(13, .aload_n 0, 0, 0, 0, 0), (14, .iload_n 1, 0, 1, 0, 0), (15, .iload_n 2, 0, 2, 0, 0), (16, .invokevirtual 88, 0, 325, 3, 95), (19, .ifCond .ne 8, 0, 393, 0, 0), (22, .bipush (-4), (-4), 0, 0, 0), (24, .goto 4, 0, 394, 0, 0)]
def kX9_lacks_27 : List e_Op := [(27, .iconst 0, 0, 0, 0, 0), (28, .nop, 0, 394, 0, 0)]
def kX9_lacks_28 : List e_Op := [(28, .ireturn, 0, 0, 0, 0)]
def kX9_setTap_0 : List e_Op := [(0, .iload_n 2, 0, 2, 0, 0), (1, .bipush (-16), (-16), 0, 0, 0), (3, .bipush 16, 16, 0, 0, 0), (5, .invokestatic 37, 0, 319, 3, 91), (8, .ifCond .eq 12, 0, 396, 0, 0), (11, .aload_n 0, 0, 0, 0, 0), (12, .iload_n 1, 0, 1, 0, 0), (13, .iconst 4, 4, 0, 0, 0), (14, .invokevirtual 91, 0, 391, 3, 111), (17, .goto 5, 0, 397, 0, 0)]
def kX9_setTap_20 : List e_Op := [(20, .bipush (-2), (-2), 0, 0, 0), (22, .nop, 0, 397, 0, 0)]
def kX9_setTap_22 : List e_Op := [(22, .istore_n 3, 0, 3, 0, 0), (23, .iload_n 3, 0, 3, 0, 0), (24, .ifCond .ge 9, 0, 398, 0, 0), (27, .aload_n 0, 0, 0, 0, 0), (28, .iload_n 3, 0, 3, 0, 0), (29, .invokevirtual 49, 0, 322, 2, 92), (32, .ireturn, 0, 0, 0, 0)]
def kX9_setTap_33 : List e_Op := [(33, .aload_n 0, 0, 0, 0, 0), (34, .invokevirtual 53, 0, 327, 1, 97), (37, .aload_n 0, 0, 0, 0, 0), (38, .iload_n 1, 0, 1, 0, 0), (39, .bipush 10, 10, 0, 0, 0), (41, .invokevirtual 88, 0, 325, 3, 95), (44, .istore 4, 0, 4, 0, 0), (46, .aload_n 0, 0, 0, 0, 0), (47, .iload_n 1, 0, 1, 0, 0), (48, .bipush 10, 10, 0, 0, 0), (50, .iload_n 2, 0, 2, 0, 0), (51, .invokevirtual 60, 0, 326, 4, 96), (54, .iload 4, 0, 4, 0, 0), (56, .bipush 100, 100, 0, 0, 0), (58, .iadd, 0, 0, 0, 0), (59, .ireturn, 0, 0, 0, 0)]
def kX9_addBank_0 : List e_Op := [(0, .iload_n 3, 0, 3, 0, 0), (1, .iconst 1, 1, 0, 0, 0), (2, .if_icmp .ne 25, 0, 400, 0, 0), (5, .iload 4, 0, 4, 0, 0), (7, .iconst 0, 0, 0, 0, 0), (8, .bipush 23, 23, 0, 0, 0), (10, .invokestatic 37, 0, 319, 3, 91), (13, .ifCond .eq 18, 0, 401, 0, 0), (16, .iload 5, 0, 5, 0, 0), (18, .iconst 0, 0, 0, 0, 0), (19, .bipush 23, 23, 0, 0, 0), (21, .invokestatic 37, 0, 319, 3, 91), (24, .ifCond .eq 7, 0, 401, 0, 0), (27, .nop, 0, 400, 0, 0)]
def kX9_addBank_27 : List e_Op := [(27, .iconst 1, 1, 0, 0, 0), (28, .goto 4, 0, 402, 0, 0)]
def kX9_addBank_31 : List e_Op := [(31, .iconst 0, 0, 0, 0, 0), (32, .nop, 0, 402, 0, 0)]
def kX9_addBank_32 : List e_Op := [(32, .istore 7, 0, 7, 0, 0), (34, .iload_n 3, 0, 3, 0, 0), (35, .iconst 2, 2, 0, 0, 0), (36, .if_icmp .ne 38, 0, 403, 0, 0), (39, .iload 4, 0, 4, 0, 0), (41, .sipush (-3000), (-3000), 0, 0, 0), (44, .sipush 3000, 3000, 0, 0, 0), (47, .invokestatic 37, 0, 319, 3, 91), (50, .ifCond .eq 28, 0, 404, 0, 0), (53, .iload 5, 0, 5, 0, 0), (55, .sipush (-3000), (-3000), 0, 0, 0), (58, .sipush 3000, 3000, 0, 0, 0), (61, .invokestatic 37, 0, 319, 3, 91), (64, .ifCond .eq 14, 0, 404, 0, 0), (67, .iload 4, 0, 4, 0, 0), (69, .iload 5, 0, 5, 0, 0), (71, .if_icmp .ge 7, 0, 404, 0, 0), (74, .nop, 0, 403, 0, 0)]
def kX9_addBank_74 : List e_Op := [(74, .iconst 1, 1, 0, 0, 0), (75, .goto 4, 0, 405, 0, 0)]
def kX9_addBank_78 : List e_Op := [(78, .iconst 0, 0, 0, 0, 0), (79, .nop, 0, 405, 0, 0)]
def kX9_addBank_79 : List e_Op := [(79, .istore 8, 0, 8, 0, 0), (81, .aload_n 0, 0, 0, 0, 0), (82, .iload_n 1, 0, 1, 0, 0), (83, .invokevirtual 64, 0, 323, 2, 93), (86, .ifCond .eq 44, 0, 406, 0, 0), (89, .iload_n 2, 0, 2, 0, 0), (90, .iconst 1, 1, 0, 0, 0), (91, .sipush 300, 300, 0, 0, 0), (94, .invokestatic 37, 0, 319, 3, 91), (97, .ifCond .eq 33, 0, 406, 0, 0), (100, .iload_n 3, 0, 3, 0, 0), (101, .iconst 0, 0, 0, 0, 0), (102, .iconst 2, 2, 0, 0, 0), (103, .invokestatic 37, 0, 319, 3, 91), (106, .ifCond .eq 24, 0, 406, 0, 0), (109, .iload 7, 0, 7, 0, 0), (111, .ifCond .eq 19, 0, 406, 0, 0), (114, .iload 8, 0, 8, 0, 0), (116, .ifCond .eq 14, 0, 406, 0, 0), (119, .iload 6, 0, 6, 0, 0), (121, .iconst 0, 0, 0, 0, 0), (122, .bipush 30, 30, 0, 0, 0), (124, .invokestatic 37, 0, 319, 3, 91), (127, .ifCond .ne 10, 0, 407, 0, 0), (130, .nop, 0, 406, 0, 0)]
def kX9_addBank_130 : List e_Op := [(130, .aload_n 0, 0, 0, 0, 0), (131, .bipush (-2), (-2), 0, 0, 0), (133, .invokevirtual 49, 0, 322, 2, 92), (136, .ireturn, 0, 0, 0, 0)]
def kX9_addBank_137 : List e_Op := [(137, .aload_n 0, 0, 0, 0, 0), (138, .iload_n 1, 0, 1, 0, 0), (139, .bipush 16, 16, 0, 0, 0), (141, .invokevirtual 88, 0, 325, 3, 95), (144, .iconst 1, 1, 0, 0, 0), (145, .if_icmp .ne 10, 0, 408, 0, 0), (148, .aload_n 0, 0, 0, 0, 0), (149, .bipush (-3), (-3), 0, 0, 0), (151, .invokevirtual 49, 0, 322, 2, 92), (154, .ireturn, 0, 0, 0, 0)]
def kX9_addBank_155 : List e_Op := [(155, .aload_n 0, 0, 0, 0, 0), (156, .invokevirtual 53, 0, 327, 1, 97), (159, .aload_n 0, 0, 0, 0, 0), (160, .iload_n 1, 0, 1, 0, 0), (161, .bipush 16, 16, 0, 0, 0), (163, .iconst 1, 1, 0, 0, 0), (164, .invokevirtual 60, 0, 326, 4, 96), (167, .aload_n 0, 0, 0, 0, 0), (168, .iload_n 1, 0, 1, 0, 0), (169, .bipush 17, 17, 0, 0, 0), (171, .iload_n 2, 0, 2, 0, 0), (172, .invokevirtual 60, 0, 326, 4, 96), (175, .aload_n 0, 0, 0, 0, 0), (176, .iload_n 1, 0, 1, 0, 0), (177, .bipush 18, 18, 0, 0, 0), (179, .iload_n 3, 0, 3, 0, 0), (180, .invokevirtual 60, 0, 326, 4, 96), (183, .aload_n 0, 0, 0, 0, 0), (184, .iload_n 1, 0, 1, 0, 0), (185, .bipush 19, 19, 0, 0, 0), (187, .iload 4, 0, 4, 0, 0), (189, .invokevirtual 60, 0, 326, 4, 96), (192, .aload_n 0, 0, 0, 0, 0), (193, .iload_n 1, 0, 1, 0, 0), (194, .bipush 20, 20, 0, 0, 0), (196, .iload 5, 0, 5, 0, 0), (198, .invokevirtual 60, 0, 326, 4, 96), (201, .aload_n 0, 0, 0, 0, 0), (202, .iload_n 1, 0, 1, 0, 0), (203, .bipush 21, 21, 0, 0, 0), (205, .iload 6, 0, 6, 0, 0), (207, .invokevirtual 60, 0, 326, 4, 96), (210, .iconst 1, 1, 0, 0, 0), (211, .ireturn, 0, 0, 0, 0)]
def kX9_switchBank_0 : List e_Op := [(0, .iload_n 2, 0, 2, 0, 0), (1, .iconst 0, 0, 0, 0, 0), (2, .iconst 1, 1, 0, 0, 0), (3, .invokestatic 37, 0, 319, 3, 91), (6, .ifCond .eq 13, 0, 410, 0, 0), (9, .aload_n 0, 0, 0, 0, 0), (10, .iload_n 1, 0, 1, 0, 0), (11, .bipush 16, 16, 0, 0, 0), (13, .invokevirtual 91, 0, 391, 3, 111), (16, .goto 5, 0, 411, 0, 0)]
def kX9_switchBank_19 : List e_Op := [(19, .bipush (-2), (-2), 0, 0, 0), (21, .nop, 0, 411, 0, 0)]
def kX9_switchBank_21 : List e_Op := [(21, .istore_n 3, 0, 3, 0, 0), (22, .iload_n 3, 0, 3, 0, 0), (23, .ifCond .ge 9, 0, 412, 0, 0), (26, .aload_n 0, 0, 0, 0, 0), (27, .iload_n 3, 0, 3, 0, 0), (28, .invokevirtual 49, 0, 322, 2, 92), (31, .ireturn, 0, 0, 0, 0)]
def kX9_switchBank_32 : List e_Op := [(32, .aload_n 0, 0, 0, 0, 0), (33, .invokevirtual 53, 0, 327, 1, 97), (36, .aload_n 0, 0, 0, 0, 0), (37, .iload_n 1, 0, 1, 0, 0), (38, .bipush 23, 23, 0, 0, 0), (40, .invokevirtual 88, 0, 325, 3, 95), (43, .istore 4, 0, 4, 0, 0), (45, .aload_n 0, 0, 0, 0, 0), (46, .iload_n 1, 0, 1, 0, 0), (47, .bipush 23, 23, 0, 0, 0), (49, .iload_n 2, 0, 2, 0, 0), (50, .invokevirtual 60, 0, 326, 4, 96), (53, .iload 4, 0, 4, 0, 0), (55, .ireturn, 0, 0, 0, 0)]
def kX9_hour_0 : List e_Op := [(0, .aload_n 0, 0, 0, 0, 0), (1, .getfield 7, 0, 9, 0, 2), (4, .iconst 0, 0, 0, 0, 0), (5, .iaload, 0, 0, 0, 0), (6, .bipush 60, 60, 0, 0, 0), (8, .idiv, 0, 0, 0, 0), (9, .bipush 24, 24, 0, 0, 0), (11, .irem, 0, 0, 0, 0), (12, .ireturn, 0, 0, 0, 0)]
def kX9_isTime_0 : List e_Op := [(0, .aload_n 0, 0, 0, 0, 0), (1, .iload_n 1, 0, 1, 0, 0), (2, .bipush 19, 19, 0, 0, 0), (4, .invokevirtual 88, 0, 325, 3, 95), (7, .istore_n 3, 0, 3, 0, 0), (8, .aload_n 0, 0, 0, 0, 0), (9, .iload_n 1, 0, 1, 0, 0), (10, .bipush 20, 20, 0, 0, 0), (12, .invokevirtual 88, 0, 325, 3, 95), (15, .istore 4, 0, 4, 0, 0), (17, .iload_n 3, 0, 3, 0, 0), (18, .iload 4, 0, 4, 0, 0), (20, .if_icmp .ge 22, 0, 416, 0, 0), (23, .iload_n 2, 0, 2, 0, 0), (24, .iload_n 3, 0, 3, 0, 0), (25, .if_icmp .lt 13, 0, 415, 0, 0), (28, .iload_n 2, 0, 2, 0, 0), (29, .iload 4, 0, 4, 0, 0), (31, .if_icmp .ge 7, 0, 415, 0, 0), (34, .iconst 1, 1, 0, 0, 0), (35, .goto 23, 0, 419, 0, 0)]
def kX9_isTime_38 : List e_Op := [(38, .iconst 0, 0, 0, 0, 0), (39, .goto 19, 0, 419, 0, 0)]
def kX9_isTime_42 : List e_Op := [(42, .iload_n 2, 0, 2, 0, 0), (43, .iload_n 3, 0, 3, 0, 0), (44, .if_icmp .ge 9, 0, 417, 0, 0), (47, .iload_n 2, 0, 2, 0, 0), (48, .iload 4, 0, 4, 0, 0), (50, .if_icmp .ge 7, 0, 418, 0, 0), (53, .nop, 0, 417, 0, 0)]
def kX9_isTime_53 : List e_Op := [(53, .iconst 1, 1, 0, 0, 0), (54, .goto 4, 0, 419, 0, 0)]
def kX9_isTime_57 : List e_Op := [(57, .iconst 0, 0, 0, 0, 0), (58, .nop, 0, 419, 0, 0)]
def kX9_isTime_58 : List e_Op := [(58, .ireturn, 0, 1, 0, 0)]
def kX9_compute_0 : List e_Op := [(0, .iconst 0, 0, 0, 0, 0), (1, .istore 5, 0, 5, 0, 0), (3, .iconst 0, 0, 0, 0, 0), (4, .istore 6, 0, 6, 0, 0), (6, .aload_n 0, 0, 0, 0, 0), (7, .getfield 7, 0, 9, 0, 2), (10, .iconst 3, 3, 0, 0, 0), (11, .iaload, 0, 0, 0, 0), (12, .istore 7, 0, 7, 0, 0), (14, .nop, 0, 421, 0, 0)]
def kX9_compute_14 : List e_Op := [(14, .iload 7, 0, 7, 0, 0), (16, .ifCond .le 154, 0, 427, 0, 0), (19, .iload 5, 0, 5, 0, 0), (21, .aload_n 0, 0, 0, 0, 0), (22, .iload 7, 0, 7, 0, 0), (24, .iconst 2, 2, 0, 0, 0), (25, .invokevirtual 88, 0, 325, 3, 95), (28, .aload_n 0, 0, 0, 0, 0), (29, .getfield 7, 0, 9, 0, 2), (32, .iconst 4, 4, 0, 0, 0), (33, .iload_n 1, 0, 1, 0, 0), (34, .iadd, 0, 0, 0, 0), (35, .iaload, 0, 0, 0, 0), (36, .imul, 0, 0, 0, 0), (37, .bipush 100, 100, 0, 0, 0), (39, .idiv, 0, 0, 0, 0), (40, .iadd, 0, 0, 0, 0), (41, .istore 5, 0, 5, 0, 0), (43, .iload 6, 0, 6, 0, 0), (45, .aload_n 0, 0, 0, 0, 0), (46, .iload 7, 0, 7, 0, 0), (48, .iconst 3, 3, 0, 0, 0), (49, .invokevirtual 88, 0, 325, 3, 95), (52, .aload_n 0, 0, 0, 0, 0), (53, .getfield 7, 0, 9, 0, 2), (56, .iconst 4, 4, 0, 0, 0), (57, .iload_n 1, 0, 1, 0, 0), (58, .iadd, 0, 0, 0, 0), (59, .iaload, 0, 0, 0, 0), (60, .imul, 0, 0, 0, 0), (61, .bipush 100, 100, 0, 0, 0), (63, .idiv, 0, 0, 0, 0), (64, .iadd, 0, 0, 0, 0), (65, .istore 6, 0, 6, 0, 0), (67, .iload_n 2, 0, 2, 0, 0), (68, .ifCond .eq 25, 0, 422, 0, 0), (71, .aload_n 0, 0, 0, 0, 0), (72, .iload 7, 0, 7, 0, 0), (74, .bipush 18, 18, 0, 0, 0), (76, .invokevirtual 88, 0, 325, 3, 95), (79, .iconst 1, 1, 0, 0, 0), (80, .if_icmp .ne 13, 0, 422, 0, 0), (83, .aload_n 0, 0, 0, 0, 0), (84, .iload 7, 0, 7, 0, 0), (86, .iload_n 1, 0, 1, 0, 0), (87, .invokevirtual 94, 0, 414, 3, 116), (90, .goto 20, 0, 424, 0, 0)]
def kX9_compute_93 : List e_Op := [(93, .aload_n 0, 0, 0, 0, 0), (94, .iload 7, 0, 7, 0, 0), (96, .bipush 23, 23, 0, 0, 0), (98, .invokevirtual 88, 0, 325, 3, 95), (101, .iconst 1, 1, 0, 0, 0), (102, .if_icmp .ne 7, 0, 423, 0, 0), (105, .iconst 1, 1, 0, 0, 0), (106, .goto 4, 0, 424, 0, 0)]
def kX9_compute_109 : List e_Op := [(109, .iconst 0, 0, 0, 0, 0), (110, .nop, 0, 424, 0, 0)]
def kX9_compute_110 : List e_Op := [(110, .istore 8, 0, 8, 0, 0), (112, .iload 6, 0, 6, 0, 0), (114, .aload_n 0, 0, 0, 0, 0), (115, .iload 7, 0, 7, 0, 0), (117, .bipush 16, 16, 0, 0, 0), (119, .invokevirtual 88, 0, 325, 3, 95), (122, .iconst 1, 1, 0, 0, 0), (123, .if_icmp .ne 19, 0, 425, 0, 0), (126, .iload 8, 0, 8, 0, 0), (128, .ifCond .eq 14, 0, 425, 0, 0), (131, .aload_n 0, 0, 0, 0, 0), (132, .iload 7, 0, 7, 0, 0), (134, .bipush 17, 17, 0, 0, 0), (136, .invokevirtual 88, 0, 325, 3, 95), (139, .goto 4, 0, 426, 0, 0)]
def kX9_compute_142 : List e_Op := [(142, .iconst 0, 0, 0, 0, 0), (143, .nop, 0, 426, 0, 0)]
def kX9_compute_143 : List e_Op := [(143, .isub, 0, 0, 0, 0), (144, .istore 6, 0, 6, 0, 0), (146, .aload_n 0, 0, 0, 0, 0), (147, .getfield 22, 0, 9, 6, 2), (150, .iload 7, 0, 7, 0, 0), (152, .iload 5, 0, 5, 0, 0), (154, .iastore, 0, 0, 0, 0), (155, .aload_n 0, 0, 0, 0, 0), (156, .getfield 25, 0, 9, 7, 2), (159, .iload 7, 0, 7, 0, 0), (161, .iload 6, 0, 6, 0, 0), (163, .iastore, 0, 0, 0, 0), (164, .iinc 7 (-1), (-1), 7, 0, 0), (167, .goto (-153), 0, 421, 0, 0)]
def kX9_compute_170 : List e_Op := [(170, .aload_n 0, 0, 0, 0, 0), (171, .getfield 28, 0, 9, 8, 2), (174, .iconst 0, 0, 0, 0, 0), (175, .aload_n 0, 0, 0, 0, 0), (176, .getfield 7, 0, 9, 0, 2), (179, .iconst 1, 1, 0, 0, 0), (180, .iaload, 0, 0, 0, 0), (181, .iastore, 0, 0, 0, 0), (182, .iconst 1, 1, 0, 0, 0), (183, .istore 7, 0, 7, 0, 0), (185, .nop, 0, 428, 0, 0)]
def kX9_compute_185 : List e_Op := [(185, .iload 7, 0, 7, 0, 0), (187, .aload_n 0, 0, 0, 0, 0), (188, .getfield 7, 0, 9, 0, 2), (191, .iconst 3, 3, 0, 0, 0), (192, .iaload, 0, 0, 0, 0), (193, .if_icmp .gt 132, 0, 435, 0, 0), (196, .iload 7, 0, 7, 0, 0), (198, .iload_n 3, 0, 3, 0, 0), (199, .if_icmp .ne 8, 0, 429, 0, 0), (202, .iload 4, 0, 4, 0, 0), (204, .goto 11, 0, 430, 0, 0)]
def kX9_compute_207 : List e_Op := [(207, .aload_n 0, 0, 0, 0, 0), (208, .iload 7, 0, 7, 0, 0), (210, .bipush 10, 10, 0, 0, 0), (212, .invokevirtual 88, 0, 325, 3, 95), (215, .nop, 0, 430, 0, 0)]
def kX9_compute_215 : List e_Op := [(215, .istore 8, 0, 8, 0, 0), (217, .aload_n 0, 0, 0, 0, 0), (218, .iload 7, 0, 7, 0, 0), (220, .iconst 4, 4, 0, 0, 0), (221, .invokevirtual 88, 0, 325, 3, 95), (224, .iconst 1, 1, 0, 0, 0), (225, .if_icmp .ne 26, 0, 431, 0, 0), (228, .aload_n 0, 0, 0, 0, 0), (229, .getfield 28, 0, 9, 8, 2), (232, .iload 7, 0, 7, 0, 0), (234, .iconst 1, 1, 0, 0, 0), (235, .isub, 0, 0, 0, 0), (236, .iaload, 0, 0, 0, 0), (237, .sipush 160, 160, 0, 0, 0), (240, .iload 8, 0, 8, 0, 0), (242, .iadd, 0, 0, 0, 0), (243, .imul, 0, 0, 0, 0), (244, .sipush 160, 160, 0, 0, 0), (247, .idiv, 0, 0, 0, 0), (248, .goto 12, 0, 432, 0, 0)]
def kX9_compute_251 : List e_Op := [(251, .aload_n 0, 0, 0, 0, 0), (252, .getfield 28, 0, 9, 8, 2), (255, .iload 7, 0, 7, 0, 0), (257, .iconst 1, 1, 0, 0, 0), (258, .isub, 0, 0, 0, 0), (259, .iaload, 0, 0, 0, 0), (260, .nop, 0, 432, 0, 0)]
def kX9_compute_260 : List e_Op := [(260, .istore 9, 0, 9, 0, 0), (262, .iload 9, 0, 9, 0, 0), (264, .aload_n 0, 0, 0, 0, 0), (265, .iload 7, 0, 7, 0, 0), (267, .iconst 0, 0, 0, 0, 0), (268, .invokevirtual 88, 0, 325, 3, 95), (271, .aload_n 0, 0, 0, 0, 0), (272, .getfield 22, 0, 9, 6, 2), (275, .iload 7, 0, 7, 0, 0), (277, .iaload, 0, 0, 0, 0), (278, .imul, 0, 0, 0, 0), (279, .aload_n 0, 0, 0, 0, 0), (280, .iload 7, 0, 7, 0, 0), (282, .iconst 1, 1, 0, 0, 0), (283, .invokevirtual 88, 0, 325, 3, 95), (286, .aload_n 0, 0, 0, 0, 0), (287, .getfield 25, 0, 9, 7, 2), (290, .iload 7, 0, 7, 0, 0), (292, .iaload, 0, 0, 0, 0), (293, .imul, 0, 0, 0, 0), (294, .iadd, 0, 0, 0, 0), (295, .bipush 100, 100, 0, 0, 0), (297, .idiv, 0, 0, 0, 0), (298, .isub, 0, 0, 0, 0), (299, .istore 10, 0, 10, 0, 0), (301, .aload_n 0, 0, 0, 0, 0), (302, .getfield 28, 0, 9, 8, 2), (305, .iload 7, 0, 7, 0, 0), (307, .iload 10, 0, 10, 0, 0), (309, .ifCond .ge 7, 0, 433, 0, 0), (312, .iconst 0, 0, 0, 0, 0), (313, .goto 5, 0, 434, 0, 0)]
def kX9_compute_316 : List e_Op := [(316, .iload 10, 0, 10, 0, 0), (318, .nop, 0, 434, 0, 0)]
def kX9_compute_318 : List e_Op := [(318, .iastore, 0, 0, 0, 0), (319, .iinc 7 1, 1, 7, 0, 0), (322, .goto (-137), 0, 428, 0, 0)]
def kX9_compute_325 : List e_Op := [(325, .return_, 0, 0, 0, 0)]
def kX9_outside_0 : List e_Op := [(0, .iconst 0, 0, 0, 0, 0), (1, .istore_n 1, 0, 1, 0, 0), (2, .iconst 1, 1, 0, 0, 0), (3, .istore_n 2, 0, 2, 0, 0), (4, .nop, 0, 437, 0, 0)]
def kX9_outside_4 : List e_Op := [(4, .iload_n 2, 0, 2, 0, 0), (5, .aload_n 0, 0, 0, 0, 0), (6, .getfield 7, 0, 9, 0, 2), (9, .iconst 3, 3, 0, 0, 0), (10, .iaload, 0, 0, 0, 0), (11, .if_icmp .gt 35, 0, 440, 0, 0), (14, .iload_n 1, 0, 1, 0, 0), (15, .aload_n 0, 0, 0, 0, 0), (16, .getfield 28, 0, 9, 8, 2), (19, .iload_n 2, 0, 2, 0, 0), (20, .iaload, 0, 0, 0, 0), (21, .sipush 9500, 9500, 0, 0, 0), (24, .sipush 10500, 10500, 0, 0, 0), (27, .invokestatic 37, 0, 319, 3, 91), (30, .ifCond .eq 7, 0, 438, 0, 0), (33, .iconst 0, 0, 0, 0, 0), (34, .goto 4, 0, 439, 0, 0)]
def kX9_outside_37 : List e_Op := [(37, .iconst 1, 1, 0, 0, 0), (38, .nop, 0, 439, 0, 0)]
def kX9_outside_38 : List e_Op := [(38, .iadd, 0, 0, 0, 0), (39, .istore_n 1, 0, 1, 0, 0), (40, .iinc 2 1, 1, 2, 0, 0), (43, .goto (-39), 0, 437, 0, 0)]
def kX9_outside_46 : List e_Op := [(46, .iload_n 1, 0, 1, 0, 0), (47, .ireturn, 0, 0, 0, 0)]
def kX9_computeNow_0 : List e_Op := [(0, .aload_n 0, 0, 0, 0, 0), (1, .aload_n 0, 0, 0, 0, 0), (2, .invokevirtual 97, 0, 413, 1, 115), (5, .iconst 0, 0, 0, 0, 0), (6, .iconst 0, 0, 0, 0, 0), (7, .iconst 0, 0, 0, 0, 0), (8, .invokevirtual 100, 0, 420, 5, 117), (11, .return_, 0, 0, 0, 0)]
def kX9_unlocks_0 : List e_Op := [(0, .iconst 1, 1, 0, 0, 0), (1, .istore_n 1, 0, 1, 0, 0), (2, .nop, 0, 443, 0, 0)]
def kX9_unlocks_2 : List e_Op := [(2, .iload_n 1, 0, 1, 0, 0), (3, .aload_n 0, 0, 0, 0, 0), (4, .getfield 7, 0, 9, 0, 2), (7, .iconst 3, 3, 0, 0, 0), (8, .iaload, 0, 0, 0, 0), (9, .if_icmp .gt 25, 0, 444, 0, 0), (12, .aload_n 0, 0, 0, 0, 0), (13, .iload_n 1, 0, 1, 0, 0), (14, .bipush 14, 14, 0, 0, 0), (16, .iconst 0, 0, 0, 0, 0), (17, .invokevirtual 60, 0, 326, 4, 96), (20, .aload_n 0, 0, 0, 0, 0), (21, .iload_n 1, 0, 1, 0, 0), (22, .bipush 13, 13, 0, 0, 0), (24, .iconst 0, 0, 0, 0, 0), (25, .invokevirtual 60, 0, 326, 4, 96), (28, .iinc 1 1, 1, 1, 0, 0), (31, .goto (-29), 0, 443, 0, 0)]
def kX9_unlocks_34 : List e_Op := [(34, .return_, 0, 0, 0, 0)]
def kX9_switches_0 : List e_Op := [(0, .iconst 0, 0, 0, 0, 0), (1, .istore_n 1, 0, 1, 0, 0), (2, .iconst 1, 1, 0, 0, 0), (3, .istore_n 2, 0, 2, 0, 0), (4, .nop, 0, 446, 0, 0)]
def kX9_switches_4 : List e_Op := [(4, .iload_n 2, 0, 2, 0, 0), (5, .aload_n 0, 0, 0, 0, 0), (6, .getfield 7, 0, 9, 0, 2), (9, .iconst 3, 3, 0, 0, 0), (10, .iaload, 0, 0, 0, 0), (11, .if_icmp .gt 162, 0, 454, 0, 0), (14, .aload_n 0, 0, 0, 0, 0), (15, .iload_n 2, 0, 2, 0, 0), (16, .bipush 16, 16, 0, 0, 0), (18, .invokevirtual 88, 0, 325, 3, 95), (21, .iconst 1, 1, 0, 0, 0), (22, .if_icmp .ne 145, 0, 453, 0, 0), (25, .aload_n 0, 0, 0, 0, 0), (26, .iload_n 2, 0, 2, 0, 0), (27, .bipush 18, 18, 0, 0, 0), (29, .invokevirtual 88, 0, 325, 3, 95), (32, .iconst 2, 2, 0, 0, 0), (33, .if_icmp .ne 134, 0, 453, 0, 0), (36, .aload_n 0, 0, 0, 0, 0), (37, .iload_n 2, 0, 2, 0, 0), (38, .bipush 23, 23, 0, 0, 0), (40, .invokevirtual 88, 0, 325, 3, 95), (43, .ifCond .ne 27, 0, 448, 0, 0), (46, .aload_n 0, 0, 0, 0, 0), (47, .getfield 25, 0, 9, 7, 2), (50, .iload_n 2, 0, 2, 0, 0), (51, .iaload, 0, 0, 0, 0), (52, .aload_n 0, 0, 0, 0, 0), (53, .iload_n 2, 0, 2, 0, 0), (54, .bipush 20, 20, 0, 0, 0), (56, .invokevirtual 88, 0, 325, 3, 95), (59, .if_icmp .le 7, 0, 447, 0, 0), (62, .iconst 1, 1, 0, 0, 0), (63, .goto 28, 0, 450, 0, 0)]
def kX9_switches_66 : List e_Op := [(66, .iconst 0, 0, 0, 0, 0), (67, .goto 24, 0, 450, 0, 0)]
def kX9_switches_70 : List e_Op := [(70, .aload_n 0, 0, 0, 0, 0), (71, .getfield 25, 0, 9, 7, 2), (74, .iload_n 2, 0, 2, 0, 0), (75, .iaload, 0, 0, 0, 0), (76, .aload_n 0, 0, 0, 0, 0), (77, .iload_n 2, 0, 2, 0, 0), (78, .bipush 19, 19, 0, 0, 0), (80, .invokevirtual 88, 0, 325, 3, 95), (83, .if_icmp .ge 7, 0, 449, 0, 0), (86, .iconst 1, 1, 0, 0, 0), (87, .goto 4, 0, 450, 0, 0)]
def kX9_switches_90 : List e_Op := [(90, .iconst 0, 0, 0, 0, 0), (91, .nop, 0, 450, 0, 0)]
def kX9_switches_91 : List e_Op := [(91, .istore_n 3, 0, 3, 0, 0), (92, .aload_n 0, 0, 0, 0, 0), (93, .iload_n 2, 0, 2, 0, 0), (94, .bipush 22, 22, 0, 0, 0), (96, .iload_n 3, 0, 3, 0, 0), (97, .ifCond .eq 15, 0, 451, 0, 0), (100, .aload_n 0, 0, 0, 0, 0), (101, .iload_n 2, 0, 2, 0, 0), (102, .bipush 22, 22, 0, 0, 0), (104, .invokevirtual 88, 0, 325, 3, 95), (107, .iconst 1, 1, 0, 0, 0), (108, .iadd, 0, 0, 0, 0), (109, .goto 4, 0, 452, 0, 0)]
def kX9_switches_112 : List e_Op := [(112, .iconst 0, 0, 0, 0, 0), (113, .nop, 0, 452, 0, 0)]
def kX9_switches_113 : List e_Op := [(113, .invokevirtual 60, 0, 326, 4, 96), (116, .iload_n 3, 0, 3, 0, 0), (117, .ifCond .eq 50, 0, 453, 0, 0), (120, .iload_n 1, 0, 1, 0, 0), (121, .ifCond .ne 46, 0, 453, 0, 0), (124, .aload_n 0, 0, 0, 0, 0), (125, .iload_n 2, 0, 2, 0, 0), (126, .bipush 22, 22, 0, 0, 0), (128, .invokevirtual 88, 0, 325, 3, 95), (131, .aload_n 0, 0, 0, 0, 0), (132, .iload_n 2, 0, 2, 0, 0), (133, .bipush 21, 21, 0, 0, 0), (135, .invokevirtual 88, 0, 325, 3, 95), (138, .if_icmp .le 29, 0, 453, 0, 0), (141, .aload_n 0, 0, 0, 0, 0), (142, .iload_n 2, 0, 2, 0, 0), (143, .bipush 23, 23, 0, 0, 0), (145, .iconst 1, 1, 0, 0, 0), (146, .aload_n 0, 0, 0, 0, 0), (147, .iload_n 2, 0, 2, 0, 0), (148, .bipush 23, 23, 0, 0, 0), (150, .invokevirtual 88, 0, 325, 3, 95), (153, .isub, 0, 0, 0, 0), (154, .invokevirtual 60, 0, 326, 4, 96), (157, .aload_n 0, 0, 0, 0, 0), (158, .iload_n 2, 0, 2, 0, 0), (159, .bipush 22, 22, 0, 0, 0), (161, .iconst 0, 0, 0, 0, 0), (162, .invokevirtual 60, 0, 326, 4, 96), (165, .iconst 1, 1, 0, 0, 0), (166, .istore_n 1, 0, 1, 0, 0), (167, .nop, 0, 453, 0, 0)]
def kX9_switches_167 : List e_Op := [(167, .iinc 2 1, 1, 2, 0, 0), (170, .goto (-166), 0, 446, 0, 0)]
def kX9_switches_173 : List e_Op := [(173, .iload_n 1, 0, 1, 0, 0), (174, .ireturn, 0, 1, 0, 0)]
def kX9_wants_0 : List e_Op := [(0, .aload_n 0, 0, 0, 0, 0), (1, .iload_n 1, 0, 1, 0, 0), (2, .bipush 8, 8, 0, 0, 0), (4, .invokevirtual 88, 0, 325, 3, 95), (7, .iconst 1, 1, 0, 0, 0), (8, .if_icmp .ne 12, 0, 456, 0, 0), (11, .aload_n 0, 0, 0, 0, 0), (12, .getfield 22, 0, 9, 6, 2), (15, .iload_n 1, 0, 1, 0, 0), (16, .iaload, 0, 0, 0, 0), (17, .ifCond .lt 14, 0, 457, 0, 0), (20, .nop, 0, 456, 0, 0)]
def kX9_wants_20 : List e_Op := [(20, .aload_n 0, 0, 0, 0, 0), (21, .iload_n 1, 0, 1, 0, 0), (22, .bipush 14, 14, 0, 0, 0), (24, .invokevirtual 88, 0, 325, 3, 95), (27, .iconst 1, 1, 0, 0, 0), (28, .if_icmp .ne 5, 0, 458, 0, 0), (31, .nop, 0, 457, 0, 0)]
def kX9_wants_31 : List e_Op := [(31, .iconst 0, 0, 0, 0, 0), (32, .ireturn, 0, 0, 0, 0)]
def kX9_wants_33 : List e_Op := [(33, .aload_n 0, 0, 0, 0, 0), (34, .getfield 28, 0, 9, 8, 2), (37, .iload_n 1, 0, 1, 0, 0), (38, .iaload, 0, 0, 0, 0), (39, .aload_n 0, 0, 0, 0, 0), (40, .iload_n 1, 0, 1, 0, 0), (41, .iconst 5, 5, 0, 0, 0), (42, .invokevirtual 88, 0, 325, 3, 95), (45, .aload_n 0, 0, 0, 0, 0), (46, .iload_n 1, 0, 1, 0, 0), (47, .bipush 6, 6, 0, 0, 0), (49, .invokevirtual 88, 0, 325, 3, 95), (52, .isub, 0, 0, 0, 0), (53, .if_icmp .ge 19, 0, 459, 0, 0), (56, .aload_n 0, 0, 0, 0, 0), (57, .iload_n 1, 0, 1, 0, 0), (58, .bipush 10, 10, 0, 0, 0), (60, .invokevirtual 88, 0, 325, 3, 95), (63, .bipush 16, 16, 0, 0, 0), (65, .if_icmp .ge 7, 0, 459, 0, 0), (68, .iconst 1, 1, 0, 0, 0), (69, .goto 4, 0, 460, 0, 0)]
def kX9_wants_72 : List e_Op := [(72, .iconst 0, 0, 0, 0, 0), (73, .nop, 0, 460, 0, 0)]
def kX9_wants_73 : List e_Op := [(73, .istore_n 2, 0, 2, 0, 0), (74, .aload_n 0, 0, 0, 0, 0), (75, .getfield 28, 0, 9, 8, 2), (78, .iload_n 1, 0, 1, 0, 0), (79, .iaload, 0, 0, 0, 0), (80, .aload_n 0, 0, 0, 0, 0), (81, .iload_n 1, 0, 1, 0, 0), (82, .iconst 5, 5, 0, 0, 0), (83, .invokevirtual 88, 0, 325, 3, 95), (86, .aload_n 0, 0, 0, 0, 0), (87, .iload_n 1, 0, 1, 0, 0), (88, .bipush 6, 6, 0, 0, 0), (90, .invokevirtual 88, 0, 325, 3, 95), (93, .iadd, 0, 0, 0, 0), (94, .if_icmp .le 19, 0, 461, 0, 0), (97, .aload_n 0, 0, 0, 0, 0), (98, .iload_n 1, 0, 1, 0, 0), (99, .bipush 10, 10, 0, 0, 0), (101, .invokevirtual 88, 0, 325, 3, 95), (104, .bipush (-16), (-16), 0, 0, 0), (106, .if_icmp .le 7, 0, 461, 0, 0), (109, .iconst 1, 1, 0, 0, 0), (110, .goto 4, 0, 462, 0, 0)]
def kX9_wants_113 : List e_Op := [(113, .iconst 0, 0, 0, 0, 0), (114, .nop, 0, 462, 0, 0)]
def kX9_wants_114 : List e_Op := [(114, .istore_n 3, 0, 3, 0, 0), (115, .iload_n 2, 0, 2, 0, 0), (116, .ifCond .eq 7, 0, 463, 0, 0), (119, .iconst 1, 1, 0, 0, 0), (120, .goto 12, 0, 465, 0, 0)]
def kX9_wants_123 : List e_Op := [(123, .iload_n 3, 0, 3, 0, 0), (124, .ifCond .eq 7, 0, 464, 0, 0), (127, .iconst (-1), (-1), 0, 0, 0), (128, .goto 4, 0, 465, 0, 0)]
def kX9_wants_131 : List e_Op := [(131, .iconst 0, 0, 0, 0, 0), (132, .nop, 0, 465, 0, 0)]
def kX9_wants_132 : List e_Op := [(132, .ireturn, 0, 0, 0, 0)]
def kX9_goes_0 : List e_Op := [(0, .aload_n 0, 0, 0, 0, 0), (1, .iload_n 1, 0, 1, 0, 0), (2, .bipush 10, 10, 0, 0, 0), (4, .aload_n 0, 0, 0, 0, 0), (5, .iload_n 1, 0, 1, 0, 0), (6, .bipush 10, 10, 0, 0, 0), (8, .invokevirtual 88, 0, 325, 3, 95), (11, .iload_n 2, 0, 2, 0, 0), (12, .iadd, 0, 0, 0, 0), (13, .invokevirtual 60, 0, 326, 4, 96), (16, .aload_n 0, 0, 0, 0, 0), (17, .iload_n 1, 0, 1, 0, 0), (18, .bipush 9, 9, 0, 0, 0), (20, .iconst 0, 0, 0, 0, 0), (21, .invokevirtual 60, 0, 326, 4, 96), (24, .aload_n 0, 0, 0, 0, 0), (25, .iload_n 1, 0, 1, 0, 0), (26, .bipush 11, 11, 0, 0, 0), (28, .iconst 0, 0, 0, 0, 0), (29, .invokevirtual 60, 0, 326, 4, 96), (32, .aload_n 0, 0, 0, 0, 0), (33, .iload_n 1, 0, 1, 0, 0), (34, .bipush 15, 15, 0, 0, 0), (36, .aload_n 0, 0, 0, 0, 0), (37, .iload_n 1, 0, 1, 0, 0), (38, .bipush 15, 15, 0, 0, 0), (40, .invokevirtual 88, 0, 325, 3, 95), (43, .iconst 1, 1, 0, 0, 0), (44, .iadd, 0, 0, 0, 0), (45, .invokevirtual 60, 0, 326, 4, 96), (48, .aload_n 0, 0, 0, 0, 0), (49, .iload_n 1, 0, 1, 0, 0), (50, .bipush 12, 12, 0, 0, 0), (52, .invokevirtual 88, 0, 325, 3, 95), (55, .iload_n 2, 0, 2, 0, 0), (56, .ineg, 0, 0, 0, 0), (57, .if_icmp .ne 42, 0, 469, 0, 0), (60, .aload_n 0, 0, 0, 0, 0), (61, .iload_n 1, 0, 1, 0, 0), (62, .bipush 13, 13, 0, 0, 0), (64, .aload_n 0, 0, 0, 0, 0), (65, .iload_n 1, 0, 1, 0, 0), (66, .bipush 13, 13, 0, 0, 0), (68, .invokevirtual 88, 0, 325, 3, 95), (71, .iconst 1, 1, 0, 0, 0), (72, .iadd, 0, 0, 0, 0), (73, .invokevirtual 60, 0, 326, 4, 96), (76, .aload_n 0, 0, 0, 0, 0), (77, .iload_n 1, 0, 1, 0, 0), (78, .bipush 14, 14, 0, 0, 0), (80, .aload_n 0, 0, 0, 0, 0), (81, .iload_n 1, 0, 1, 0, 0), (82, .bipush 13, 13, 0, 0, 0), (84, .invokevirtual 88, 0, 325, 3, 95), (87, .iconst 2, 2, 0, 0, 0), (88, .if_icmp .le 7, 0, 467, 0, 0), (91, .iconst 1, 1, 0, 0, 0), (92, .goto 4, 0, 468, 0, 0)]
def kX9_goes_95 : List e_Op := [(95, .iconst 0, 0, 0, 0, 0), (96, .nop, 0, 468, 0, 0)]
def kX9_goes_96 : List e_Op := [(96, .invokevirtual 60, 0, 326, 4, 96), (99, .nop, 0, 469, 0, 0)]
def kX9_goes_99 : List e_Op := [(99, .aload_n 0, 0, 0, 0, 0), (100, .iload_n 1, 0, 1, 0, 0), (101, .bipush 12, 12, 0, 0, 0), (103, .iload_n 2, 0, 2, 0, 0), (104, .invokevirtual 60, 0, 326, 4, 96), (107, .return_, 0, 0, 0, 0)]
def kX9_regulates_0 : List e_Op := [(0, .iconst 0, 0, 0, 0, 0), (1, .istore_n 2, 0, 2, 0, 0), (2, .iconst 1, 1, 0, 0, 0), (3, .istore_n 3, 0, 3, 0, 0), (4, .nop, 0, 471, 0, 0)]
def kX9_regulates_4 : List e_Op := [(4, .iload_n 3, 0, 3, 0, 0), (5, .aload_n 0, 0, 0, 0, 0), (6, .getfield 7, 0, 9, 0, 2), (9, .iconst 3, 3, 0, 0, 0), (10, .iaload, 0, 0, 0, 0), (11, .if_icmp .gt 116, 0, 476, 0, 0), (14, .aload_n 0, 0, 0, 0, 0), (15, .iload_n 3, 0, 3, 0, 0), (16, .iconst 4, 4, 0, 0, 0), (17, .invokevirtual 88, 0, 325, 3, 95), (20, .iconst 1, 1, 0, 0, 0), (21, .if_icmp .ne 100, 0, 475, 0, 0), (24, .aload_n 0, 0, 0, 0, 0), (25, .iload_n 3, 0, 3, 0, 0), (26, .invokevirtual 104, 0, 455, 2, 122), (29, .istore 4, 0, 4, 0, 0), (31, .aload_n 0, 0, 0, 0, 0), (32, .iload_n 3, 0, 3, 0, 0), (33, .bipush 9, 9, 0, 0, 0), (35, .iload 4, 0, 4, 0, 0), (37, .ifCond .ne 7, 0, 472, 0, 0), (40, .iconst 0, 0, 0, 0, 0), (41, .goto 29, 0, 474, 0, 0)]
def kX9_regulates_44 : List e_Op := [(44, .iload 4, 0, 4, 0, 0), (46, .aload_n 0, 0, 0, 0, 0), (47, .iload_n 3, 0, 3, 0, 0), (48, .bipush 11, 11, 0, 0, 0), (50, .invokevirtual 88, 0, 325, 3, 95), (53, .ineg, 0, 0, 0, 0), (54, .if_icmp .ne 7, 0, 473, 0, 0), (57, .iconst 1, 1, 0, 0, 0), (58, .goto 12, 0, 474, 0, 0)]
def kX9_regulates_61 : List e_Op := [(61, .aload_n 0, 0, 0, 0, 0), (62, .iload_n 3, 0, 3, 0, 0), (63, .bipush 9, 9, 0, 0, 0), (65, .invokevirtual 88, 0, 325, 3, 95), (68, .iconst 1, 1, 0, 0, 0), (69, .iadd, 0, 0, 0, 0), (70, .nop, 0, 474, 0, 0)]
def kX9_regulates_70 : List e_Op := [(70, .invokevirtual 60, 0, 326, 4, 96), (73, .aload_n 0, 0, 0, 0, 0), (74, .iload_n 3, 0, 3, 0, 0), (75, .bipush 11, 11, 0, 0, 0), (77, .iload 4, 0, 4, 0, 0), (79, .invokevirtual 60, 0, 326, 4, 96), (82, .iload 4, 0, 4, 0, 0), (84, .ifCond .eq 37, 0, 475, 0, 0), (87, .iload_n 1, 0, 1, 0, 0), (88, .ifCond .eq 33, 0, 475, 0, 0), (91, .iload_n 2, 0, 2, 0, 0), (92, .ifCond .ne 29, 0, 475, 0, 0), (95, .aload_n 0, 0, 0, 0, 0), (96, .iload_n 3, 0, 3, 0, 0), (97, .bipush 9, 9, 0, 0, 0), (99, .invokevirtual 88, 0, 325, 3, 95), (102, .aload_n 0, 0, 0, 0, 0), (103, .iload_n 3, 0, 3, 0, 0), (104, .bipush 7, 7, 0, 0, 0), (106, .invokevirtual 88, 0, 325, 3, 95), (109, .if_icmp .le 12, 0, 475, 0, 0), (112, .aload_n 0, 0, 0, 0, 0), (113, .iload_n 3, 0, 3, 0, 0), (114, .iload 4, 0, 4, 0, 0), (116, .invokevirtual 107, 0, 466, 3, 123), (119, .iconst 1, 1, 0, 0, 0), (120, .istore_n 2, 0, 2, 0, 0), (121, .nop, 0, 475, 0, 0)]
def kX9_regulates_121 : List e_Op := [(121, .iinc 3 1, 1, 3, 0, 0), (124, .goto (-120), 0, 471, 0, 0)]
def kX9_regulates_127 : List e_Op := [(127, .iload_n 2, 0, 2, 0, 0), (128, .ireturn, 0, 1, 0, 0)]
def kX9_passes_0 : List e_Op := [(0, .aload_n 0, 0, 0, 0, 0), (1, .getfield 7, 0, 9, 0, 2), (4, .iconst 0, 0, 0, 0, 0), (5, .dup2, 0, 0, 0, 0), (6, .iaload, 0, 0, 0, 0), (7, .iconst 1, 1, 0, 0, 0), (8, .iadd, 0, 0, 0, 0), (9, .iastore, 0, 0, 0, 0), (10, .aload_n 0, 0, 0, 0, 0), (11, .getfield 7, 0, 9, 0, 2), (14, .iconst 0, 0, 0, 0, 0), (15, .iaload, 0, 0, 0, 0), (16, .bipush 60, 60, 0, 0, 0), (18, .irem, 0, 0, 0, 0), (19, .ifCond .ne 7, 0, 478, 0, 0), (22, .aload_n 0, 0, 0, 0, 0), (23, .invokevirtual 111, 0, 442, 1, 120), (26, .nop, 0, 478, 0, 0)]
def kX9_passes_26 : List e_Op := [(26, .iconst 1, 1, 0, 0, 0), (27, .istore_n 1, 0, 1, 0, 0), (28, .nop, 0, 479, 0, 0)]
def kX9_passes_28 : List e_Op := [(28, .iload_n 1, 0, 1, 0, 0), (29, .aload_n 0, 0, 0, 0, 0), (30, .getfield 7, 0, 9, 0, 2), (33, .iconst 3, 3, 0, 0, 0), (34, .iaload, 0, 0, 0, 0), (35, .if_icmp .gt 55, 0, 483, 0, 0), (38, .aload_n 0, 0, 0, 0, 0), (39, .iload_n 1, 0, 1, 0, 0), (40, .bipush 16, 16, 0, 0, 0), (42, .invokevirtual 88, 0, 325, 3, 95), (45, .iconst 1, 1, 0, 0, 0), (46, .if_icmp .ne 38, 0, 482, 0, 0), (49, .aload_n 0, 0, 0, 0, 0), (50, .iload_n 1, 0, 1, 0, 0), (51, .bipush 18, 18, 0, 0, 0), (53, .invokevirtual 88, 0, 325, 3, 95), (56, .iconst 1, 1, 0, 0, 0), (57, .if_icmp .ne 27, 0, 482, 0, 0), (60, .aload_n 0, 0, 0, 0, 0), (61, .iload_n 1, 0, 1, 0, 0), (62, .bipush 23, 23, 0, 0, 0), (64, .aload_n 0, 0, 0, 0, 0), (65, .iload_n 1, 0, 1, 0, 0), (66, .aload_n 0, 0, 0, 0, 0), (67, .invokevirtual 97, 0, 413, 1, 115), (70, .invokevirtual 94, 0, 414, 3, 116), (73, .ifCond .eq 7, 0, 480, 0, 0), (76, .iconst 1, 1, 0, 0, 0), (77, .goto 4, 0, 481, 0, 0)]
def kX9_passes_80 : List e_Op := [(80, .iconst 0, 0, 0, 0, 0), (81, .nop, 0, 481, 0, 0)]
def kX9_passes_81 : List e_Op := [(81, .invokevirtual 60, 0, 326, 4, 96), (84, .nop, 0, 482, 0, 0)]
def kX9_passes_84 : List e_Op := [(84, .iinc 1 1, 1, 1, 0, 0), (87, .goto (-59), 0, 479, 0, 0)]
def kX9_passes_90 : List e_Op := [(90, .aload_n 0, 0, 0, 0, 0), (91, .invokevirtual 114, 0, 441, 1, 119), (94, .aload_n 0, 0, 0, 0, 0), (95, .invokevirtual 117, 0, 445, 1, 121), (98, .istore_n 1, 0, 1, 0, 0), (99, .aload_n 0, 0, 0, 0, 0), (100, .iload_n 1, 0, 1, 0, 0), (101, .ifCond .ne 7, 0, 484, 0, 0), (104, .iconst 1, 1, 0, 0, 0), (105, .goto 4, 0, 485, 0, 0)]
def kX9_passes_108 : List e_Op := [(108, .iconst 0, 0, 0, 0, 0), (109, .nop, 0, 485, 0, 0)]
def kX9_passes_109 : List e_Op := [(109, .invokevirtual 120, 0, 470, 2, 124), (112, .istore_n 2, 0, 2, 0, 0), (113, .aload_n 0, 0, 0, 0, 0), (114, .invokevirtual 114, 0, 441, 1, 119), (117, .aload_n 0, 0, 0, 0, 0), (118, .getfield 7, 0, 9, 0, 2), (121, .iconst 2, 2, 0, 0, 0), (122, .dup2, 0, 0, 0, 0), (123, .iaload, 0, 0, 0, 0), (124, .aload_n 0, 0, 0, 0, 0), (125, .invokevirtual 124, 0, 436, 1, 118), (128, .iadd, 0, 0, 0, 0), (129, .iastore, 0, 0, 0, 0), (130, .iload_n 1, 0, 1, 0, 0), (131, .ifCond .ne 7, 0, 486, 0, 0), (134, .iload_n 2, 0, 2, 0, 0), (135, .ifCond .eq 7, 0, 487, 0, 0), (138, .nop, 0, 486, 0, 0)]
def kX9_passes_138 : List e_Op := [(138, .iconst 1, 1, 0, 0, 0), (139, .goto 4, 0, 488, 0, 0)]
def kX9_passes_142 : List e_Op := [(142, .iconst 0, 0, 0, 0, 0), (143, .nop, 0, 488, 0, 0)]
def kX9_passes_143 : List e_Op := [(143, .ireturn, 0, 0, 0, 0)]
def kX9_run_0 : List e_Op := [(0, .iload_n 1, 0, 1, 0, 0), (1, .iconst 0, 0, 0, 0, 0), (2, .sipush 1440, 1440, 0, 0, 0), (5, .invokestatic 37, 0, 319, 3, 91), (8, .ifCond .ne 10, 0, 490, 0, 0), (11, .aload_n 0, 0, 0, 0, 0), (12, .bipush (-2), (-2), 0, 0, 0), (14, .invokevirtual 49, 0, 322, 2, 92), (17, .ireturn, 0, 0, 0, 0)]
def kX9_run_18 : List e_Op := [(18, .aload_n 0, 0, 0, 0, 0), (19, .invokevirtual 53, 0, 327, 1, 97), (22, .iconst 0, 0, 0, 0, 0), (23, .istore_n 2, 0, 2, 0, 0), (24, .iconst 0, 0, 0, 0, 0), (25, .istore_n 3, 0, 3, 0, 0), (26, .nop, 0, 491, 0, 0)]
def kX9_run_26 : List e_Op := [(26, .iload_n 3, 0, 3, 0, 0), (27, .iload_n 1, 0, 1, 0, 0), (28, .if_icmp .ge 16, 0, 492, 0, 0), (31, .iload_n 2, 0, 2, 0, 0), (32, .aload_n 0, 0, 0, 0, 0), (33, .invokevirtual 127, 0, 477, 1, 125), (36, .iadd, 0, 0, 0, 0), (37, .istore_n 2, 0, 2, 0, 0), (38, .iinc 3 1, 1, 3, 0, 0), (41, .goto (-15), 0, 491, 0, 0)]
def kX9_run_44 : List e_Op := [(44, .iload_n 2, 0, 2, 0, 0), (45, .ireturn, 0, 0, 0, 0)]
def kX9_minute_0 : List e_Op := [(0, .aload_n 0, 0, 0, 0, 0), (1, .getfield 7, 0, 9, 0, 2), (4, .iconst 0, 0, 0, 0, 0), (5, .iaload, 0, 0, 0, 0), (6, .ireturn, 0, 0, 0, 0)]
def kX9_voltage_0 : List e_Op := [(0, .iload_n 1, 0, 1, 0, 0), (1, .ifCond .eq 18, 0, 495, 0, 0), (4, .aload_n 0, 0, 0, 0, 0), (5, .iload_n 1, 0, 1, 0, 0), (6, .invokevirtual 64, 0, 323, 2, 93), (9, .ifCond .ne 10, 0, 495, 0, 0), (12, .aload_n 0, 0, 0, 0, 0), (13, .bipush (-2), (-2), 0, 0, 0), (15, .invokevirtual 49, 0, 322, 2, 92), (18, .ireturn, 0, 0, 0, 0)]
def kX9_voltage_19 : List e_Op := [(19, .aload_n 0, 0, 0, 0, 0), (20, .invokevirtual 114, 0, 441, 1, 119), (23, .aload_n 0, 0, 0, 0, 0), (24, .getfield 28, 0, 9, 8, 2), (27, .iload_n 1, 0, 1, 0, 0), (28, .iaload, 0, 0, 0, 0), (29, .ireturn, 0, 0, 0, 0)]
def kX9_activeFlow_0 : List e_Op := [(0, .aload_n 0, 0, 0, 0, 0), (1, .iload_n 1, 0, 1, 0, 0), (2, .invokevirtual 64, 0, 323, 2, 93), (5, .ifCond .ne 10, 0, 497, 0, 0), (8, .aload_n 0, 0, 0, 0, 0), (9, .bipush (-2), (-2), 0, 0, 0), (11, .invokevirtual 49, 0, 322, 2, 92), (14, .ireturn, 0, 0, 0, 0)]
def kX9_activeFlow_15 : List e_Op := [(15, .aload_n 0, 0, 0, 0, 0), (16, .invokevirtual 114, 0, 441, 1, 119), (19, .sipush 10000, 10000, 0, 0, 0), (22, .aload_n 0, 0, 0, 0, 0), (23, .getfield 22, 0, 9, 6, 2), (26, .iload_n 1, 0, 1, 0, 0), (27, .iaload, 0, 0, 0, 0), (28, .iadd, 0, 0, 0, 0), (29, .ireturn, 0, 0, 0, 0)]
def kX9_reactiveFlow_0 : List e_Op := [(0, .aload_n 0, 0, 0, 0, 0), (1, .iload_n 1, 0, 1, 0, 0), (2, .invokevirtual 64, 0, 323, 2, 93), (5, .ifCond .ne 10, 0, 499, 0, 0), (8, .aload_n 0, 0, 0, 0, 0), (9, .bipush (-2), (-2), 0, 0, 0), (11, .invokevirtual 49, 0, 322, 2, 92), (14, .ireturn, 0, 0, 0, 0)]
def kX9_reactiveFlow_15 : List e_Op := [(15, .aload_n 0, 0, 0, 0, 0), (16, .invokevirtual 114, 0, 441, 1, 119), (19, .sipush 10000, 10000, 0, 0, 0), (22, .aload_n 0, 0, 0, 0, 0), (23, .getfield 25, 0, 9, 7, 2), (26, .iload_n 1, 0, 1, 0, 0), (27, .iaload, 0, 0, 0, 0), (28, .iadd, 0, 0, 0, 0), (29, .ireturn, 0, 0, 0, 0)]
def kX9_told_0 : List e_Op := [(0, .aload_n 0, 0, 0, 0, 0), (1, .iload_n 1, 0, 1, 0, 0), (2, .iload_n 2, 0, 2, 0, 0), (3, .invokevirtual 91, 0, 391, 3, 111), (6, .istore 5, 0, 5, 0, 0), (8, .iload 5, 0, 5, 0, 0), (10, .ifCond .ge 12, 0, 501, 0, 0), (13, .aload_n 0, 0, 0, 0, 0), (14, .iload 5, 0, 5, 0, 0), (16, .invokevirtual 49, 0, 322, 2, 92), (19, .goto 12, 0, 502, 0, 0)]
def kX9_told_22 : List e_Op := [(22, .aload_n 0, 0, 0, 0, 0), (23, .iload_n 1, 0, 1, 0, 0), (24, .iload_n 3, 0, 3, 0, 0), (25, .invokevirtual 88, 0, 325, 3, 95), (28, .iload 4, 0, 4, 0, 0), (30, .iadd, 0, 0, 0, 0), (31, .nop, 0, 502, 0, 0)]
def kX9_told_31 : List e_Op := [(31, .ireturn, 0, 0, 0, 0)]
def kX9_tap_0 : List e_Op := [(0, .aload_n 0, 0, 0, 0, 0), (1, .iload_n 1, 0, 1, 0, 0), (2, .iconst 4, 4, 0, 0, 0), (3, .bipush 10, 10, 0, 0, 0), (5, .bipush 100, 100, 0, 0, 0), (7, .invokevirtual 130, 0, 500, 5, 131), (10, .ireturn, 0, 0, 0, 0)]
def kX9_timer_0 : List e_Op := [(0, .aload_n 0, 0, 0, 0, 0), (1, .iload_n 1, 0, 1, 0, 0), (2, .iconst 4, 4, 0, 0, 0), (3, .bipush 9, 9, 0, 0, 0), (5, .iconst 0, 0, 0, 0, 0), (6, .invokevirtual 130, 0, 500, 5, 131), (9, .ireturn, 0, 0, 0, 0)]
def kX9_isLocked_0 : List e_Op := [(0, .aload_n 0, 0, 0, 0, 0), (1, .iload_n 1, 0, 1, 0, 0), (2, .iconst 4, 4, 0, 0, 0), (3, .bipush 14, 14, 0, 0, 0), (5, .iconst 0, 0, 0, 0, 0), (6, .invokevirtual 130, 0, 500, 5, 131), (9, .ireturn, 0, 0, 0, 0)]
def kX9_steps_0 : List e_Op := [(0, .aload_n 0, 0, 0, 0, 0), (1, .iload_n 1, 0, 1, 0, 0), (2, .iconst 4, 4, 0, 0, 0), (3, .bipush 15, 15, 0, 0, 0), (5, .iconst 0, 0, 0, 0, 0), (6, .invokevirtual 130, 0, 500, 5, 131), (9, .ireturn, 0, 0, 0, 0)]
def kX9_isOn_0 : List e_Op := [(0, .aload_n 0, 0, 0, 0, 0), (1, .iload_n 1, 0, 1, 0, 0), (2, .bipush 16, 16, 0, 0, 0), (4, .bipush 23, 23, 0, 0, 0), (6, .iconst 0, 0, 0, 0, 0), (7, .invokevirtual 130, 0, 500, 5, 131), (10, .ireturn, 0, 0, 0, 0)]
def kX9_violations_0 : List e_Op := [(0, .aload_n 0, 0, 0, 0, 0), (1, .getfield 7, 0, 9, 0, 2), (4, .iconst 2, 2, 0, 0, 0), (5, .iaload, 0, 0, 0, 0), (6, .ireturn, 0, 0, 0, 0)]
def kX9_apart_0 : List e_Op := [(0, .iload_n 0, 0, 0, 0, 0), (1, .iload_n 1, 0, 1, 0, 0), (2, .if_icmp .ge 9, 0, 510, 0, 0), (5, .iload_n 1, 0, 1, 0, 0), (6, .iload_n 0, 0, 0, 0, 0), (7, .isub, 0, 0, 0, 0), (8, .goto 6, 0, 511, 0, 0)]
def kX9_apart_11 : List e_Op := [(11, .iload_n 0, 0, 0, 0, 0), (12, .iload_n 1, 0, 1, 0, 0), (13, .isub, 0, 0, 0, 0), (14, .nop, 0, 511, 0, 0)]
def kX9_apart_14 : List e_Op := [(14, .ireturn, 0, 0, 0, 0)]
def kX9_best_0 : List e_Op := [(0, .iconst (-1), (-1), 0, 0, 0), (1, .istore_n 3, 0, 3, 0, 0), (2, .ldc 134, 99999, 0, 0, 0), (4, .istore 4, 0, 4, 0, 0), (6, .iconst 0, 0, 0, 0, 0), (7, .istore 5, 0, 5, 0, 0), (9, .nop, 0, 513, 0, 0)]
def kX9_best_9 : List e_Op := [(9, .iload 5, 0, 5, 0, 0), (11, .bipush 33, 33, 0, 0, 0), (13, .if_icmp .ge 61, 0, 515, 0, 0), (16, .aload_n 0, 0, 0, 0, 0), (17, .getfield 34, 0, 9, 11, 2), (20, .bipush 33, 33, 0, 0, 0), (22, .iload_n 1, 0, 1, 0, 0), (23, .imul, 0, 0, 0, 0), (24, .iload 5, 0, 5, 0, 0), (26, .iadd, 0, 0, 0, 0), (27, .iaload, 0, 0, 0, 0), (28, .iload 5, 0, 5, 0, 0), (30, .iload_n 2, 0, 2, 0, 0), (31, .invokestatic 135, 0, 509, 2, 138), (34, .iadd, 0, 0, 0, 0), (35, .istore 6, 0, 6, 0, 0), (37, .aload_n 0, 0, 0, 0, 0), (38, .getfield 34, 0, 9, 11, 2), (41, .bipush 33, 33, 0, 0, 0), (43, .iload_n 1, 0, 1, 0, 0), (44, .imul, 0, 0, 0, 0), (45, .iload 5, 0, 5, 0, 0), (47, .iadd, 0, 0, 0, 0), (48, .iaload, 0, 0, 0, 0), (49, .ldc 134, 99999, 0, 0, 0), (51, .if_icmp .ge 17, 0, 514, 0, 0), (54, .iload 6, 0, 6, 0, 0), (56, .iload 4, 0, 4, 0, 0), (58, .if_icmp .ge 10, 0, 514, 0, 0), (61, .iload 5, 0, 5, 0, 0), (63, .istore_n 3, 0, 3, 0, 0), (64, .iload 6, 0, 6, 0, 0), (66, .istore 4, 0, 4, 0, 0), (68, .nop, 0, 514, 0, 0)]
def kX9_best_68 : List e_Op := [(68, .iinc 5 1, 1, 5, 0, 0), (71, .goto (-62), 0, 513, 0, 0)]
def kX9_best_74 : List e_Op := [(74, .iload_n 3, 0, 3, 0, 0), (75, .ireturn, 0, 0, 0, 0)]
def kX9_plans_0 : List e_Op := [(0, .iconst 1, 1, 0, 0, 0), (1, .istore_n 2, 0, 2, 0, 0), (2, .bipush 23, 23, 0, 0, 0), (4, .istore_n 3, 0, 3, 0, 0), (5, .nop, 0, 517, 0, 0)]
def kX9_plans_5 : List e_Op := [(5, .iload_n 3, 0, 3, 0, 0), (6, .ifCond .lt 158, 0, 532, 0, 0), (9, .iconst 0, 0, 0, 0, 0), (10, .istore 4, 0, 4, 0, 0), (12, .iconst 0, 0, 0, 0, 0), (13, .istore 5, 0, 5, 0, 0), (15, .nop, 0, 518, 0, 0)]
def kX9_plans_15 : List e_Op := [(15, .iload 5, 0, 5, 0, 0), (17, .bipush 33, 33, 0, 0, 0), (19, .if_icmp .ge 124, 0, 529, 0, 0), (22, .aload_n 0, 0, 0, 0, 0), (23, .iload_n 3, 0, 3, 0, 0), (24, .iconst 1, 1, 0, 0, 0), (25, .iload_n 1, 0, 1, 0, 0), (26, .iload 5, 0, 5, 0, 0), (28, .bipush 16, 16, 0, 0, 0), (30, .isub, 0, 0, 0, 0), (31, .invokevirtual 100, 0, 420, 5, 117), (34, .iload_n 3, 0, 3, 0, 0), (35, .bipush 23, 23, 0, 0, 0), (37, .if_icmp .eq 7, 0, 519, 0, 0), (40, .iload_n 2, 0, 2, 0, 0), (41, .ifCond .ne 7, 0, 520, 0, 0), (44, .nop, 0, 519, 0, 0)]
def kX9_plans_44 : List e_Op := [(44, .iconst (-1), (-1), 0, 0, 0), (45, .goto 12, 0, 521, 0, 0)]
def kX9_plans_48 : List e_Op := [(48, .aload_n 0, 0, 0, 0, 0), (49, .iload_n 3, 0, 3, 0, 0), (50, .iconst 1, 1, 0, 0, 0), (51, .iadd, 0, 0, 0, 0), (52, .iload 5, 0, 5, 0, 0), (54, .invokevirtual 138, 0, 512, 3, 139), (57, .nop, 0, 521, 0, 0)]
def kX9_plans_57 : List e_Op := [(57, .istore 6, 0, 6, 0, 0), (59, .iload 6, 0, 6, 0, 0), (61, .ifCond .ge 7, 0, 522, 0, 0), (64, .iconst 0, 0, 0, 0, 0), (65, .goto 25, 0, 523, 0, 0)]
def kX9_plans_68 : List e_Op := [(68, .aload_n 0, 0, 0, 0, 0), (69, .getfield 34, 0, 9, 11, 2), (72, .bipush 33, 33, 0, 0, 0), (74, .iload_n 3, 0, 3, 0, 0), (75, .iconst 1, 1, 0, 0, 0), (76, .iadd, 0, 0, 0, 0), (77, .imul, 0, 0, 0, 0), (78, .iload 6, 0, 6, 0, 0), (80, .iadd, 0, 0, 0, 0), (81, .iaload, 0, 0, 0, 0), (82, .iload 5, 0, 5, 0, 0), (84, .iload 6, 0, 6, 0, 0), (86, .invokestatic 135, 0, 509, 2, 138), (89, .iadd, 0, 0, 0, 0), (90, .nop, 0, 523, 0, 0)]
def kX9_plans_90 : List e_Op := [(90, .istore 7, 0, 7, 0, 0), (92, .aload_n 0, 0, 0, 0, 0), (93, .getfield 34, 0, 9, 11, 2), (96, .bipush 33, 33, 0, 0, 0), (98, .iload_n 3, 0, 3, 0, 0), (99, .imul, 0, 0, 0, 0), (100, .iload 5, 0, 5, 0, 0), (102, .iadd, 0, 0, 0, 0), (103, .aload_n 0, 0, 0, 0, 0), (104, .invokevirtual 124, 0, 436, 1, 118), (107, .ifCond .ne 8, 0, 524, 0, 0), (110, .iload 7, 0, 7, 0, 0), (112, .goto 5, 0, 525, 0, 0)]
def kX9_plans_115 : List e_Op := [(115, .ldc 134, 99999, 0, 0, 0), (117, .nop, 0, 525, 0, 0)]
def kX9_plans_117 : List e_Op := [(117, .iastore, 0, 0, 0, 0), (118, .iload 4, 0, 4, 0, 0), (120, .ifCond .ne 10, 0, 526, 0, 0), (123, .aload_n 0, 0, 0, 0, 0), (124, .invokevirtual 124, 0, 436, 1, 118), (127, .ifCond .ne 7, 0, 527, 0, 0), (130, .nop, 0, 526, 0, 0)]
def kX9_plans_130 : List e_Op := [(130, .iconst 1, 1, 0, 0, 0), (131, .goto 4, 0, 528, 0, 0)]
def kX9_plans_134 : List e_Op := [(134, .iconst 0, 0, 0, 0, 0), (135, .nop, 0, 528, 0, 0)]
def kX9_plans_135 : List e_Op := [(135, .istore 4, 0, 4, 0, 0), (137, .iinc 5 1, 1, 5, 0, 0), (140, .goto (-125), 0, 518, 0, 0)]
def kX9_plans_143 : List e_Op := [(143, .iload_n 2, 0, 2, 0, 0), (144, .ifCond .eq 12, 0, 530, 0, 0), (147, .iload 4, 0, 4, 0, 0), (149, .ifCond .eq 7, 0, 530, 0, 0), (152, .iconst 1, 1, 0, 0, 0), (153, .goto 4, 0, 531, 0, 0)]
def kX9_plans_156 : List e_Op := [(156, .iconst 0, 0, 0, 0, 0), (157, .nop, 0, 531, 0, 0)]
def kX9_plans_157 : List e_Op := [(157, .istore_n 2, 0, 2, 0, 0), (158, .iinc 3 (-1), (-1), 3, 0, 0), (161, .goto (-156), 0, 517, 0, 0)]
def kX9_plans_164 : List e_Op := [(164, .iload_n 2, 0, 2, 0, 0), (165, .ireturn, 0, 1, 0, 0)]
def kX9_lacksPlan_0 : List e_Op := [(0, .aload_n 0, 0, 0, 0, 0), (1, .iload_n 1, 0, 1, 0, 0), (2, .iconst 4, 4, 0, 0, 0), (3, .invokevirtual 91, 0, 391, 3, 111), (6, .istore_n 2, 0, 2, 0, 0), (7, .iload_n 2, 0, 2, 0, 0), (8, .ifCond .ge 7, 0, 534, 0, 0), (11, .iload_n 2, 0, 2, 0, 0), (12, .goto 17, 0, 536, 0, 0)]
def kX9_lacksPlan_15 : List e_Op := [(15, .aload_n 0, 0, 0, 0, 0), (16, .iload_n 1, 0, 1, 0, 0), (17, .invokevirtual 141, 0, 516, 2, 140), (20, .ifCond .eq 7, 0, 535, 0, 0), (23, .iconst 0, 0, 0, 0, 0), (24, .goto 5, 0, 536, 0, 0)]
def kX9_lacksPlan_27 : List e_Op := [(27, .bipush (-4), (-4), 0, 0, 0), (29, .nop, 0, 536, 0, 0)]
def kX9_lacksPlan_29 : List e_Op := [(29, .ireturn, 0, 0, 0, 0)]
def kX9_planSteps_0 : List e_Op := [(0, .aload_n 0, 0, 0, 0, 0), (1, .iload_n 1, 0, 1, 0, 0), (2, .invokevirtual 144, 0, 533, 2, 141), (5, .istore_n 2, 0, 2, 0, 0), (6, .iload_n 2, 0, 2, 0, 0), (7, .ifCond .ge 9, 0, 538, 0, 0), (10, .aload_n 0, 0, 0, 0, 0), (11, .iload_n 2, 0, 2, 0, 0), (12, .invokevirtual 49, 0, 322, 2, 92), (15, .ireturn, 0, 0, 0, 0)]
def kX9_planSteps_16 : List e_Op := [(16, .aload_n 0, 0, 0, 0, 0), (17, .iload_n 1, 0, 1, 0, 0), (18, .bipush 10, 10, 0, 0, 0), (20, .invokevirtual 88, 0, 325, 3, 95), (23, .bipush 16, 16, 0, 0, 0), (25, .iadd, 0, 0, 0, 0), (26, .istore_n 3, 0, 3, 0, 0), (27, .aload_n 0, 0, 0, 0, 0), (28, .iconst 0, 0, 0, 0, 0), (29, .iload_n 3, 0, 3, 0, 0), (30, .invokevirtual 138, 0, 512, 3, 139), (33, .istore 4, 0, 4, 0, 0), (35, .aload_n 0, 0, 0, 0, 0), (36, .getfield 34, 0, 9, 11, 2), (39, .iload 4, 0, 4, 0, 0), (41, .iaload, 0, 0, 0, 0), (42, .iload 4, 0, 4, 0, 0), (44, .iload_n 3, 0, 3, 0, 0), (45, .invokestatic 135, 0, 509, 2, 138), (48, .iadd, 0, 0, 0, 0), (49, .ireturn, 0, 0, 0, 0)]
def kX9_planTap_0 : List e_Op := [(0, .iload_n 2, 0, 2, 0, 0), (1, .iconst 0, 0, 0, 0, 0), (2, .bipush 23, 23, 0, 0, 0), (4, .invokestatic 37, 0, 319, 3, 91), (7, .ifCond .eq 11, 0, 540, 0, 0), (10, .aload_n 0, 0, 0, 0, 0), (11, .iload_n 1, 0, 1, 0, 0), (12, .invokevirtual 144, 0, 533, 2, 141), (15, .goto 5, 0, 541, 0, 0)]
def kX9_planTap_18 : List e_Op := [(18, .bipush (-2), (-2), 0, 0, 0), (20, .nop, 0, 541, 0, 0)]
def kX9_planTap_20 : List e_Op := [(20, .istore_n 3, 0, 3, 0, 0), (21, .iload_n 3, 0, 3, 0, 0), (22, .ifCond .ge 9, 0, 542, 0, 0), (25, .aload_n 0, 0, 0, 0, 0), (26, .iload_n 3, 0, 3, 0, 0), (27, .invokevirtual 49, 0, 322, 2, 92), (30, .ireturn, 0, 0, 0, 0)]
def kX9_planTap_31 : List e_Op := [(31, .aload_n 0, 0, 0, 0, 0), (32, .iload_n 1, 0, 1, 0, 0), (33, .bipush 10, 10, 0, 0, 0), (35, .invokevirtual 88, 0, 325, 3, 95), (38, .bipush 16, 16, 0, 0, 0), (40, .iadd, 0, 0, 0, 0), (41, .istore 4, 0, 4, 0, 0), (43, .iconst 0, 0, 0, 0, 0), (44, .istore 5, 0, 5, 0, 0), (46, .nop, 0, 543, 0, 0)]
def kX9_planTap_46 : List e_Op := [(46, .iload 5, 0, 5, 0, 0), (48, .iload_n 2, 0, 2, 0, 0), (49, .if_icmp .gt 19, 0, 544, 0, 0), (52, .aload_n 0, 0, 0, 0, 0), (53, .iload 5, 0, 5, 0, 0), (55, .iload 4, 0, 4, 0, 0), (57, .invokevirtual 138, 0, 512, 3, 139), (60, .istore 4, 0, 4, 0, 0), (62, .iinc 5 1, 1, 5, 0, 0), (65, .goto (-19), 0, 543, 0, 0)]
def kX9_planTap_68 : List e_Op := [(68, .bipush 100, 100, 0, 0, 0), (70, .iload 4, 0, 4, 0, 0), (72, .iadd, 0, 0, 0, 0), (73, .bipush 16, 16, 0, 0, 0), (75, .isub, 0, 0, 0, 0), (76, .ireturn, 0, 0, 0, 0)]
def kX9_undo_0 : List e_Op := [(0, .aload_n 0, 0, 0, 0, 0), (1, .getfield 45, 0, 9, 2, 0), (4, .ifCond .ne 10, 0, 546, 0, 0), (7, .aload_n 0, 0, 0, 0, 0), (8, .bipush (-6), (-6), 0, 0, 0), (10, .invokevirtual 49, 0, 322, 2, 92), (13, .ireturn, 0, 0, 0, 0)]
def kX9_undo_14 : List e_Op := [(14, .aload_n 0, 0, 0, 0, 0), (15, .dup, 0, 0, 0, 0), (16, .getfield 45, 0, 9, 2, 0), (19, .iconst 1, 1, 0, 0, 0), (20, .isub, 0, 0, 0, 0), (21, .putfield 45, 0, 9, 2, 0), (24, .iconst 0, 0, 0, 0, 0), (25, .istore_n 1, 0, 1, 0, 0), (26, .nop, 0, 547, 0, 0)]
def kX9_undo_26 : List e_Op := [(26, .iload_n 1, 0, 1, 0, 0), (27, .sipush 220, 220, 0, 0, 0), (30, .if_icmp .ge 30, 0, 548, 0, 0), (33, .aload_n 0, 0, 0, 0, 0), (34, .getfield 7, 0, 9, 0, 2), (37, .iload_n 1, 0, 1, 0, 0), (38, .aload_n 0, 0, 0, 0, 0), (39, .getfield 13, 0, 9, 1, 2), (42, .sipush 220, 220, 0, 0, 0), (45, .aload_n 0, 0, 0, 0, 0), (46, .getfield 45, 0, 9, 2, 0), (49, .imul, 0, 0, 0, 0), (50, .iload_n 1, 0, 1, 0, 0), (51, .iadd, 0, 0, 0, 0), (52, .iaload, 0, 0, 0, 0), (53, .iastore, 0, 0, 0, 0), (54, .iinc 1 1, 1, 1, 0, 0), (57, .goto (-31), 0, 547, 0, 0)]
def kX9_undo_60 : List e_Op := [(60, .aload_n 0, 0, 0, 0, 0), (61, .getfield 45, 0, 9, 2, 0), (64, .ireturn, 0, 0, 0, 0)]
def kX9_errorCount_0 : List e_Op := [(0, .iload_n 1, 0, 1, 0, 0), (1, .bipush (-6), (-6), 0, 0, 0), (3, .bipush (-2), (-2), 0, 0, 0), (5, .invokestatic 37, 0, 319, 3, 91), (8, .ifCond .eq 13, 0, 550, 0, 0), (11, .aload_n 0, 0, 0, 0, 0), (12, .getfield 19, 0, 9, 5, 2), (15, .iload_n 1, 0, 1, 0, 0), (16, .ineg, 0, 0, 0, 0), (17, .iaload, 0, 0, 0, 0), (18, .goto 9, 0, 551, 0, 0)]
def kX9_errorCount_21 : List e_Op := [(21, .aload_n 0, 0, 0, 0, 0), (22, .bipush (-2), (-2), 0, 0, 0), (24, .invokevirtual 49, 0, 322, 2, 92), (27, .nop, 0, 551, 0, 0)]
def kX9_errorCount_27 : List e_Op := [(27, .ireturn, 0, 0, 0, 0)]
def kX9_mixed_0 : List e_Op := [(0, .ldc2_w 147, 31, 0, 0, 0), (3, .lload_n 0, 0, 0, 0, 0), (4, .lmul, 0, 0, 0, 0), (5, .lload_n 2, 0, 2, 0, 0), (6, .ladd, 0, 0, 0, 0), (7, .lreturn, 0, 0, 0, 0)]
def kX9_digest_0 : List e_Op := [(0, .aload_n 0, 0, 0, 0, 0), (1, .invokevirtual 114, 0, 441, 1, 119), (4, .ldc2_w 149, 2749, 0, 0, 0), (7, .lstore_n 1, 0, 1, 0, 0), (8, .iconst 2, 2, 0, 0, 0), (9, .istore_n 3, 0, 3, 0, 0), (10, .nop, 0, 554, 0, 0)]
def kX9_digest_10 : List e_Op := [(10, .iload_n 3, 0, 3, 0, 0), (11, .bipush 7, 7, 0, 0, 0), (13, .if_icmp .ge 21, 0, 555, 0, 0), (16, .lload_n 1, 0, 1, 0, 0), (17, .aload_n 0, 0, 0, 0, 0), (18, .getfield 19, 0, 9, 5, 2), (21, .iload_n 3, 0, 3, 0, 0), (22, .iaload, 0, 0, 0, 0), (23, .i2l, 0, 0, 0, 0), (24, .invokestatic 151, 0, 552, 2, 146), (27, .lstore_n 1, 0, 1, 0, 0), (28, .iinc 3 1, 1, 3, 0, 0), (31, .goto (-21), 0, 554, 0, 0)]
def kX9_digest_34 : List e_Op := [(34, .lload_n 1, 0, 1, 0, 0), (35, .aload_n 0, 0, 0, 0, 0), (36, .getfield 68, 0, 9, 4, 0), (39, .i2l, 0, 0, 0, 0), (40, .invokestatic 151, 0, 552, 2, 146), (43, .aload_n 0, 0, 0, 0, 0), (44, .getfield 7, 0, 9, 0, 2), (47, .iconst 0, 0, 0, 0, 0), (48, .iaload, 0, 0, 0, 0), (49, .i2l, 0, 0, 0, 0), (50, .invokestatic 151, 0, 552, 2, 146), (53, .aload_n 0, 0, 0, 0, 0), (54, .getfield 7, 0, 9, 0, 2), (57, .iconst 1, 1, 0, 0, 0), (58, .iaload, 0, 0, 0, 0), (59, .i2l, 0, 0, 0, 0), (60, .invokestatic 151, 0, 552, 2, 146), (63, .lstore_n 1, 0, 1, 0, 0), (64, .iconst 0, 0, 0, 0, 0), (65, .istore_n 3, 0, 3, 0, 0), (66, .nop, 0, 556, 0, 0)]
def kX9_digest_66 : List e_Op := [(66, .iload_n 3, 0, 3, 0, 0), (67, .bipush 24, 24, 0, 0, 0), (69, .if_icmp .ge 23, 0, 557, 0, 0), (72, .lload_n 1, 0, 1, 0, 0), (73, .aload_n 0, 0, 0, 0, 0), (74, .getfield 7, 0, 9, 0, 2), (77, .iconst 4, 4, 0, 0, 0), (78, .iload_n 3, 0, 3, 0, 0), (79, .iadd, 0, 0, 0, 0), (80, .iaload, 0, 0, 0, 0), (81, .i2l, 0, 0, 0, 0), (82, .invokestatic 151, 0, 552, 2, 146), (85, .lstore_n 1, 0, 1, 0, 0), (86, .iinc 3 1, 1, 3, 0, 0), (89, .goto (-23), 0, 556, 0, 0)]
def kX9_digest_92 : List e_Op := [(92, .lload_n 1, 0, 1, 0, 0), (93, .aload_n 0, 0, 0, 0, 0), (94, .getfield 7, 0, 9, 0, 2), (97, .iconst 3, 3, 0, 0, 0), (98, .iaload, 0, 0, 0, 0), (99, .i2l, 0, 0, 0, 0), (100, .invokestatic 151, 0, 552, 2, 146), (103, .lstore_n 1, 0, 1, 0, 0), (104, .iconst 1, 1, 0, 0, 0), (105, .istore_n 3, 0, 3, 0, 0), (106, .nop, 0, 558, 0, 0)]
def kX9_digest_106 : List e_Op := [(106, .iload_n 3, 0, 3, 0, 0), (107, .aload_n 0, 0, 0, 0, 0), (108, .getfield 7, 0, 9, 0, 2), (111, .iconst 3, 3, 0, 0, 0), (112, .iaload, 0, 0, 0, 0), (113, .if_icmp .gt 157, 0, 561, 0, 0), (116, .lload_n 1, 0, 1, 0, 0), (117, .aload_n 0, 0, 0, 0, 0), (118, .getfield 28, 0, 9, 8, 2), (121, .iload_n 3, 0, 3, 0, 0), (122, .iaload, 0, 0, 0, 0), (123, .i2l, 0, 0, 0, 0), (124, .invokestatic 151, 0, 552, 2, 146), (127, .aload_n 0, 0, 0, 0, 0), (128, .getfield 22, 0, 9, 6, 2), (131, .iload_n 3, 0, 3, 0, 0), (132, .iaload, 0, 0, 0, 0), (133, .i2l, 0, 0, 0, 0), (134, .invokestatic 151, 0, 552, 2, 146), (137, .aload_n 0, 0, 0, 0, 0), (138, .getfield 25, 0, 9, 7, 2), (141, .iload_n 3, 0, 3, 0, 0), (142, .iaload, 0, 0, 0, 0), (143, .i2l, 0, 0, 0, 0), (144, .invokestatic 151, 0, 552, 2, 146), (147, .lstore_n 1, 0, 1, 0, 0), (148, .lload_n 1, 0, 1, 0, 0), (149, .aload_n 0, 0, 0, 0, 0), (150, .iload_n 3, 0, 3, 0, 0), (151, .iconst 4, 4, 0, 0, 0), (152, .invokevirtual 88, 0, 325, 3, 95), (155, .i2l, 0, 0, 0, 0), (156, .invokestatic 151, 0, 552, 2, 146), (159, .lstore_n 1, 0, 1, 0, 0), (160, .aload_n 0, 0, 0, 0, 0), (161, .iload_n 3, 0, 3, 0, 0), (162, .iconst 4, 4, 0, 0, 0), (163, .invokevirtual 88, 0, 325, 3, 95), (166, .iconst 1, 1, 0, 0, 0), (167, .if_icmp .ne 49, 0, 559, 0, 0), (170, .lload_n 1, 0, 1, 0, 0), (171, .aload_n 0, 0, 0, 0, 0), (172, .iload_n 3, 0, 3, 0, 0), (173, .bipush 10, 10, 0, 0, 0), (175, .invokevirtual 88, 0, 325, 3, 95), (178, .i2l, 0, 0, 0, 0), (179, .invokestatic 151, 0, 552, 2, 146), (182, .aload_n 0, 0, 0, 0, 0), (183, .iload_n 3, 0, 3, 0, 0), (184, .bipush 9, 9, 0, 0, 0), (186, .invokevirtual 88, 0, 325, 3, 95), (189, .i2l, 0, 0, 0, 0), (190, .invokestatic 151, 0, 552, 2, 146), (193, .aload_n 0, 0, 0, 0, 0), (194, .iload_n 3, 0, 3, 0, 0), (195, .bipush 14, 14, 0, 0, 0), (197, .invokevirtual 88, 0, 325, 3, 95), (200, .i2l, 0, 0, 0, 0), (201, .invokestatic 151, 0, 552, 2, 146), (204, .aload_n 0, 0, 0, 0, 0), (205, .iload_n 3, 0, 3, 0, 0), (206, .bipush 15, 15, 0, 0, 0), (208, .invokevirtual 88, 0, 325, 3, 95), (211, .i2l, 0, 0, 0, 0), (212, .invokestatic 151, 0, 552, 2, 146), (215, .lstore_n 1, 0, 1, 0, 0), (216, .nop, 0, 559, 0, 0)]
def kX9_digest_216 : List e_Op := [(216, .lload_n 1, 0, 1, 0, 0), (217, .aload_n 0, 0, 0, 0, 0), (218, .iload_n 3, 0, 3, 0, 0), (219, .bipush 16, 16, 0, 0, 0), (221, .invokevirtual 88, 0, 325, 3, 95), (224, .i2l, 0, 0, 0, 0), (225, .invokestatic 151, 0, 552, 2, 146), (228, .lstore_n 1, 0, 1, 0, 0), (229, .aload_n 0, 0, 0, 0, 0), (230, .iload_n 3, 0, 3, 0, 0), (231, .bipush 16, 16, 0, 0, 0), (233, .invokevirtual 88, 0, 325, 3, 95), (236, .iconst 1, 1, 0, 0, 0), (237, .if_icmp .ne 27, 0, 560, 0, 0), (240, .lload_n 1, 0, 1, 0, 0), (241, .aload_n 0, 0, 0, 0, 0), (242, .iload_n 3, 0, 3, 0, 0), (243, .bipush 23, 23, 0, 0, 0), (245, .invokevirtual 88, 0, 325, 3, 95), (248, .i2l, 0, 0, 0, 0), (249, .invokestatic 151, 0, 552, 2, 146), (252, .aload_n 0, 0, 0, 0, 0), (253, .iload_n 3, 0, 3, 0, 0), (254, .bipush 22, 22, 0, 0, 0), (256, .invokevirtual 88, 0, 325, 3, 95), (259, .i2l, 0, 0, 0, 0), (260, .invokestatic 151, 0, 552, 2, 146), (263, .lstore_n 1, 0, 1, 0, 0), (264, .nop, 0, 560, 0, 0)]
def kX9_digest_264 : List e_Op := [(264, .iinc 3 1, 1, 3, 0, 0), (267, .goto (-161), 0, 558, 0, 0)]
def kX9_digest_270 : List e_Op := [(270, .lload_n 1, 0, 1, 0, 0), (271, .aload_n 0, 0, 0, 0, 0), (272, .getfield 7, 0, 9, 0, 2), (275, .iconst 2, 2, 0, 0, 0), (276, .iaload, 0, 0, 0, 0), (277, .i2l, 0, 0, 0, 0), (278, .invokestatic 151, 0, 552, 2, 146), (281, .aload_n 0, 0, 0, 0, 0), (282, .getfield 45, 0, 9, 2, 0), (285, .i2l, 0, 0, 0, 0), (286, .invokestatic 151, 0, 552, 2, 146), (289, .lreturn, 0, 0, 0, 0)]
def e_labs : List (List e_Op) := [kL_law_156, kL_law_179, kL_law_232, kL_law_275, kL_law_308, kL_law_331, kL_law_344, kL_law_357, kL_law_420, kL_law_453, kL_law_528, kL_law_561, kL_law_584, kL_law_597, kL_law_620, kL_law_643, kL_law_666, kL_law_689, kL_law_712, kL_law_735, kL_law_758, kL_law_781, kL_law_794, kL_law_817, kL_law_850, kL_law_863, kL_law_886, kL_law_0, kL_law_18, kL_law_900, kL_law_906, kX0_init_0, kX0_copyFrom_0, kX0_isByTime_0, kX0_isByTime_19, kX0_isByTime_20, kX0_isByFlow_0, kX0_isByFlow_19, kX0_isByFlow_20, kX0_isOnByTime_0, kX0_isOnByTime_31, kX0_isOnByTime_35, kX0_isOnByTime_51, kX0_isOnByTime_55, kX0_isOnByTime_56, kX0_supply_0, kX0_supply_19, kX0_supply_23, kX0_supply_35, kX0_supply_36, kX0_countMinute_0, kX0_countMinute_19, kX0_countMinute_23, kX0_countMinute_35, kX0_countMinute_36, kX0_countMinute_51, kX0_countMinute_52, kX0_isDue_0, kX0_isDue_15, kX0_isDue_16, kX0_change_0, kX0_change_12, kX0_change_13, kX1_init_0, kX1_init_30, kX1_init_50, kX1_init_52, kX1_init_77, kX1_copyFrom_0, kX1_copyFrom_49, kX1_copyFrom_76, kX1_hour_0, kX1_releaseLocks_0, kX1_releaseLocks_2, kX1_releaseLocks_28, kX1_switchBanksByTime_0, kX1_switchBanksByTime_7, kX1_switchBanksByTime_41, kX1_switchBanksByTime_47, kX1_switchBankByFlow_0, kX1_switchBankByFlow_4, kX1_switchBankByFlow_61, kX1_switchBankByFlow_67, kX1_moveRegulators_0, kX1_moveRegulators_5, kX1_moveRegulators_81, kX1_moveRegulators_87, kX2_init_0, kX2_solve_0, kX2_sumLoads_0, kX2_sumLoads_20, kX2_sumLoads_102, kX2_findVoltages_0, kX2_findVoltages_17, kX2_findVoltages_45, kX2_findVoltages_53, kX2_findVoltages_128, kX2_countBadNodes_0, kX2_countBadNodes_4, kX2_countBadNodes_36, kX2_countBadNodes_42, kX3_init_0, kX3_init_14, kX3_init_38, kX3_save_0, kX3_save_12, kX3_dropOldest_0, kX3_dropOldest_9, kX3_dropOldest_34, kX3_restore_0, kX4_init_0, kX4_copyFrom_0, kX5_init_0, kX5_makePlan_0, kX5_makePlan_2, kX5_makePlan_21, kX5_makePlan_24, kX5_makePlan_46, kX5_countStepsAfter_0, kX5_countStepsAfter_13, kX5_countStepsAfter_52, kX5_countStepsAfter_53, kX5_countStepsAfter_78, kX5_countStepsAfter_80, kX5_countStepsAfter_87, kX5_countStepsFrom_0, kX5_countStepsFrom_2, kX5_countStepsFrom_28, kX5_countStepsFrom_30, kX5_countStepsFrom_67, kX5_countStepsFrom_70, kX5_countStepsFrom_105, kX5_chooseTaps_0, kX5_chooseTaps_9, kX5_chooseTaps_30, kX5_chooseTaps_66, kX5_bestPlace_0, kX5_bestPlace_9, kX5_bestPlace_49, kX5_bestPlace_55, kX6_init_0, kX6_readItems_0, kX6_readItems_21, kX6_readItems_61, kX6_readItem_0, kX6_readItem_33, kX6_readItem_63, kX6_readItem_66, kX6_readItem_84, kX6_readNumber_0, kX6_readNumber_9, kX6_readNumber_21, kX6_readNumber_71, kX6_readNumber_104, kX6_readNumber_122, kX6_readNumber_129, kX6_isNext_0, kX6_isNext_32, kX6_isNext_33, kX6_expect_0, kX6_expect_8, kX6_expect_29, kX6_expect_37, kX6_skipSpaces_0, kX6_skipSpaces_38, kX7_init_0, kX7_copyFrom_0, kX7_release_0, kX7_wantedDirection_0, kX7_wantedDirection_18, kX7_wantedDirection_20, kX7_wantedDirection_44, kX7_wantedDirection_70, kX7_wantedDirection_71, kX7_countMinute_0, kX7_countMinute_12, kX7_countMinute_29, kX7_countMinute_39, kX7_isDue_0, kX7_isDue_22, kX7_isDue_23, kX7_makeStep_0, kX7_makeStep_35, kX7_makeStep_36, kX7_makeStep_39, kX8_init_0, kX8_setSource_0, kX8_setSource_20, kX8_addNode_0, kX8_addNode_29, kX8_addNode_36, kX8_addNode_55, kX8_setLoad_0, kX8_setLoad_16, kX8_setLoad_23, kX8_setFactor_0, kX8_setFactor_18, kX8_setFactor_25, kX8_append_0, kX8_append_17, kX8_append_36, kX8_clearText_0, kX8_parseProfile_0, kX8_parseProfile_51, kX8_addRegulator_0, kX8_addRegulator_54, kX8_addRegulator_61, kX8_addRegulator_90, kX8_addRegulator_138, kX8_addRegulator_139, kX8_setTap_0, kX8_setTap_18, kX8_setTap_34, kX8_addBank_0, kX8_addBank_41, kX8_addBank_48, kX8_addBank_77, kX8_switchBank_0, kX8_switchBank_16, kX8_switchBank_32, kX8_switchBank_78, kX8_switchBank_79, kX8_run_0, kX8_run_18, kX8_run_33, kX8_run_48, kX8_run_54, kX8_minute_0, kX8_passMinute_0, kX8_passMinute_33, kX8_passMinute_79, kX8_passMinute_80, kX8_passMinute_92, kX8_passMinute_103, kX8_passMinute_137, kX8_passMinute_141, kX8_passMinute_142, kX8_voltage_0, kX8_voltage_22, kX8_activeFlow_0, kX8_activeFlow_15, kX8_reactiveFlow_0, kX8_reactiveFlow_15, kX8_tap_0, kX8_tap_18, kX8_tap_36, kX8_timer_0, kX8_timer_18, kX8_timer_33, kX8_isLocked_0, kX8_isLocked_18, kX8_isLocked_36, kX8_steps_0, kX8_steps_18, kX8_steps_33, kX8_isOn_0, kX8_isOn_18, kX8_isOn_36, kX8_violations_0, kX8_planSteps_0, kX8_planSteps_16, kX8_planSteps_41, kX8_planSteps_47, kX8_planTap_0, kX8_planTap_14, kX8_planTap_30, kX8_planTap_60, kX8_planTap_66, kX8_undo_0, kX8_undo_17, kX8_errorCount_0, kX8_errorCount_19, kX8_errorCount_25, kX8_digest_0, kX8_digest_17, kX8_digest_39, kX8_digest_77, kX8_digest_103, kX8_digest_117, kX8_digest_210, kX8_mixRegulator_0, kX8_mixRegulator_21, kX8_mixBank_0, kX8_mixBank_21, kX8_mix_0, kX8_isWithin_0, kX8_isWithin_14, kX8_isWithin_15, kX8_isHour_0, kX8_isLoad_0, kX8_isLoad_30, kX8_isLoad_31, kX8_areBankSettings_0, kX8_areBankSettings_23, kX8_areBankSettings_24, kX8_areBankSettings_25, kX8_areBankSettings_65, kX8_areBankSettings_66, kX8_areBankSettings_67, kX8_areBankSettings_75, kX8_areBankSettings_76, kX8_bit_0, kX8_bit_8, kX8_bit_9, kX8_hasNode_0, kX8_regulatorFault_0, kX8_regulatorFault_11, kX8_regulatorFault_33, kX8_regulatorFault_35, kX8_bankFault_0, kX8_bankFault_11, kX8_bankFault_33, kX8_bankFault_35, kX8_isErrorCode_0, kX8_refuse_0, kX8_refuse_20, kX9_init_0, kX9_init_90, kX9_init_112, kX9_in_0, kX9_in_14, kX9_in_15, kX9_error_0, kX9_isNode_0, kX9_spot_0, kX9_of_0, kX9_put_0, kX9_save_0, kX9_save_10, kX9_save_39, kX9_save_49, kX9_save_51, kX9_save_85, kX9_setSource_0, kX9_setSource_20, kX9_isLoad_0, kX9_isLoad_30, kX9_isLoad_31, kX9_addNode_0, kX9_addNode_29, kX9_addNode_36, kX9_addNode_54, kX9_addNode_79, kX9_addNode_101, kX9_setLoad_0, kX9_setLoad_16, kX9_setLoad_23, kX9_setFactor_0, kX9_setFactor_21, kX9_setFactor_28, kX9_append_0, kX9_append_17, kX9_append_33, kX9_clearText_0, kX9_next_0, kX9_next_38, kX9_next_61, kX9_next_62, kX9_takes_0, kX9_takes_12, kX9_takes_13, kX9_takes_27, kX9_takes_28, kX9_number_0, kX9_number_13, kX9_number_86, kX9_number_130, kX9_number_131, kX9_number_146, kX9_number_148, kX9_number_165, kX9_readsItem_0, kX9_readsItem_14, kX9_readsItem_39, kX9_readsItem_50, kX9_readsItem_72, kX9_readsItem_74, kX9_readsItem_77, kX9_readsItem_97, kX9_parseProfile_0, kX9_parseProfile_2, kX9_parseProfile_28, kX9_parseProfile_35, kX9_parseProfile_57, kX9_parseProfile_63, kX9_parseProfile_69, kX9_parseProfile_95, kX9_addRegulator_0, kX9_addRegulator_54, kX9_addRegulator_61, kX9_addRegulator_78, kX9_lacks_0, kX9_lacks_13, kX9_lacks_27, kX9_lacks_28, kX9_setTap_0, kX9_setTap_20, kX9_setTap_22, kX9_setTap_33, kX9_addBank_0, kX9_addBank_27, kX9_addBank_31, kX9_addBank_32, kX9_addBank_74, kX9_addBank_78, kX9_addBank_79, kX9_addBank_130, kX9_addBank_137, kX9_addBank_155, kX9_switchBank_0, kX9_switchBank_19, kX9_switchBank_21, kX9_switchBank_32, kX9_hour_0, kX9_isTime_0, kX9_isTime_38, kX9_isTime_42, kX9_isTime_53, kX9_isTime_57, kX9_isTime_58, kX9_compute_0, kX9_compute_14, kX9_compute_93, kX9_compute_109, kX9_compute_110, kX9_compute_142, kX9_compute_143, kX9_compute_170, kX9_compute_185, kX9_compute_207, kX9_compute_215, kX9_compute_251, kX9_compute_260, kX9_compute_316, kX9_compute_318, kX9_compute_325, kX9_outside_0, kX9_outside_4, kX9_outside_37, kX9_outside_38, kX9_outside_46, kX9_computeNow_0, kX9_unlocks_0, kX9_unlocks_2, kX9_unlocks_34, kX9_switches_0, kX9_switches_4, kX9_switches_66, kX9_switches_70, kX9_switches_90, kX9_switches_91, kX9_switches_112, kX9_switches_113, kX9_switches_167, kX9_switches_173, kX9_wants_0, kX9_wants_20, kX9_wants_31, kX9_wants_33, kX9_wants_72, kX9_wants_73, kX9_wants_113, kX9_wants_114, kX9_wants_123, kX9_wants_131, kX9_wants_132, kX9_goes_0, kX9_goes_95, kX9_goes_96, kX9_goes_99, kX9_regulates_0, kX9_regulates_4, kX9_regulates_44, kX9_regulates_61, kX9_regulates_70, kX9_regulates_121, kX9_regulates_127, kX9_passes_0, kX9_passes_26, kX9_passes_28, kX9_passes_80, kX9_passes_81, kX9_passes_84, kX9_passes_90, kX9_passes_108, kX9_passes_109, kX9_passes_138, kX9_passes_142, kX9_passes_143, kX9_run_0, kX9_run_18, kX9_run_26, kX9_run_44, kX9_minute_0, kX9_voltage_0, kX9_voltage_19, kX9_activeFlow_0, kX9_activeFlow_15, kX9_reactiveFlow_0, kX9_reactiveFlow_15, kX9_told_0, kX9_told_22, kX9_told_31, kX9_tap_0, kX9_timer_0, kX9_isLocked_0, kX9_steps_0, kX9_isOn_0, kX9_violations_0, kX9_apart_0, kX9_apart_11, kX9_apart_14, kX9_best_0, kX9_best_9, kX9_best_68, kX9_best_74, kX9_plans_0, kX9_plans_5, kX9_plans_15, kX9_plans_44, kX9_plans_48, kX9_plans_57, kX9_plans_68, kX9_plans_90, kX9_plans_115, kX9_plans_117, kX9_plans_130, kX9_plans_134, kX9_plans_135, kX9_plans_143, kX9_plans_156, kX9_plans_157, kX9_plans_164, kX9_lacksPlan_0, kX9_lacksPlan_15, kX9_lacksPlan_27, kX9_lacksPlan_29, kX9_planSteps_0, kX9_planSteps_16, kX9_planTap_0, kX9_planTap_18, kX9_planTap_20, kX9_planTap_31, kX9_planTap_46, kX9_planTap_68, kX9_undo_0, kX9_undo_14, kX9_undo_26, kX9_undo_60, kX9_errorCount_0, kX9_errorCount_21, kX9_errorCount_27, kX9_mixed_0, kX9_digest_0, kX9_digest_10, kX9_digest_34, kX9_digest_66, kX9_digest_92, kX9_digest_106, kX9_digest_216, kX9_digest_264, kX9_digest_270]
def e_lbl (n : Nat) : List e_Op := e_labs.getD n []
def e_lms : List Nat := [0, 0, 0, 0, 0, 0, 0, 0, 0, 0, 0, 0, 0, 0, 0, 0, 0, 0, 0, 0, 0, 0, 0, 0, 0, 0, 0, 0, 0, 0, 0, 1, 2, 3, 3, 3, 4, 4, 4, 5, 5, 5, 5, 5, 5, 6, 6, 6, 6, 6, 7, 7, 7, 7, 7, 7, 7, 8, 8, 8, 9, 9, 9, 10, 10, 10, 10, 10, 11, 11, 11, 12, 13, 13, 13, 14, 14, 14, 14, 15, 15, 15, 15, 16, 16, 16, 16, 17, 18, 19, 19, 19, 20, 20, 20, 20, 20, 21, 21, 21, 21, 22, 22, 22, 23, 23, 24, 24, 24, 25, 26, 27, 28, 29, 29, 29, 29, 29, 30, 30, 30, 30, 30, 30, 30, 31, 31, 31, 31, 31, 31, 31, 32, 32, 32, 32, 33, 33, 33, 33, 34, 35, 35, 35, 36, 36, 36, 36, 36, 37, 37, 37, 37, 37, 37, 37, 38, 38, 38, 39, 39, 39, 39, 40, 40, 41, 42, 43, 44, 44, 44, 44, 44, 44, 45, 45, 45, 45, 46, 46, 46, 47, 47, 47, 47, 48, 49, 49, 50, 50, 50, 50, 51, 51, 51, 52, 52, 52, 53, 53, 53, 54, 55, 55, 56, 56, 56, 56, 56, 56, 57, 57, 57, 58, 58, 58, 58, 59, 59, 59, 59, 59, 60, 60, 60, 60, 60, 61, 62, 62, 62, 62, 62, 62, 62, 62, 62, 63, 63, 64, 64, 65, 65, 66, 66, 66, 67, 67, 67, 68, 68, 68, 69, 69, 69, 70, 70, 70, 71, 72, 72, 72, 72, 73, 73, 73, 73, 73, 74, 74, 75, 75, 75, 76, 76, 76, 76, 76, 76, 76, 77, 77, 78, 78, 79, 80, 80, 80, 81, 82, 82, 82, 83, 83, 83, 83, 83, 83, 83, 83, 83, 84, 84, 84, 85, 86, 86, 86, 86, 87, 87, 87, 87, 88, 89, 89, 90, 90, 90, 91, 91, 91, 92, 93, 94, 95, 96, 97, 97, 97, 97, 97, 97, 98, 98, 99, 99, 99, 100, 100, 100, 100, 100, 100, 101, 101, 101, 102, 102, 102, 103, 103, 103, 104, 105, 105, 105, 105, 106, 106, 106, 106, 106, 107, 107, 107, 107, 107, 107, 107, 107, 108, 108, 108, 108, 108, 108, 108, 108, 109, 109, 109, 109, 109, 109, 109, 109, 110, 110, 110, 110, 111, 111, 111, 111, 112, 112, 112, 112, 113, 113, 113, 113, 113, 113, 113, 113, 113, 113, 114, 114, 114, 114, 115, 116, 116, 116, 116, 116, 116, 117, 117, 117, 117, 117, 117, 117, 117, 117, 117, 117, 117, 117, 117, 117, 117, 118, 118, 118, 118, 118, 119, 120, 120, 120, 121, 121, 121, 121, 121, 121, 121, 121, 121, 121, 122, 122, 122, 122, 122, 122, 122, 122, 122, 122, 122, 123, 123, 123, 123, 124, 124, 124, 124, 124, 124, 124, 125, 125, 125, 125, 125, 125, 125, 125, 125, 125, 125, 125, 126, 126, 126, 126, 127, 128, 128, 129, 129, 130, 130, 131, 131, 131, 132, 133, 134, 135, 136, 137, 138, 138, 138, 139, 139, 139, 139, 140, 140, 140, 140, 140, 140, 140, 140, 140, 140, 140, 140, 140, 140, 140, 140, 140, 141, 141, 141, 141, 142, 142, 143, 143, 143, 143, 143, 143, 144, 144, 144, 144, 145, 145, 145, 146, 147, 147, 147, 147, 147, 147, 147, 147, 147]
def e_lm (n : Nat) : Nat := e_lms.getD n 999
set_option maxRecDepth 20000 in
theorem lL_law_156 : e_lbl 0 = kL_law_156 := rfl
set_option maxRecDepth 20000 in
theorem lL_law_179 : e_lbl 1 = kL_law_179 := rfl
set_option maxRecDepth 20000 in
theorem lL_law_232 : e_lbl 2 = kL_law_232 := rfl
set_option maxRecDepth 20000 in
theorem lL_law_275 : e_lbl 3 = kL_law_275 := rfl
set_option maxRecDepth 20000 in
theorem lL_law_308 : e_lbl 4 = kL_law_308 := rfl
set_option maxRecDepth 20000 in
theorem lL_law_331 : e_lbl 5 = kL_law_331 := rfl
set_option maxRecDepth 20000 in
theorem lL_law_344 : e_lbl 6 = kL_law_344 := rfl
set_option maxRecDepth 20000 in
theorem lL_law_357 : e_lbl 7 = kL_law_357 := rfl
set_option maxRecDepth 20000 in
theorem lL_law_420 : e_lbl 8 = kL_law_420 := rfl
set_option maxRecDepth 20000 in
theorem lL_law_453 : e_lbl 9 = kL_law_453 := rfl
set_option maxRecDepth 20000 in
theorem lL_law_528 : e_lbl 10 = kL_law_528 := rfl
set_option maxRecDepth 20000 in
theorem lL_law_561 : e_lbl 11 = kL_law_561 := rfl
set_option maxRecDepth 20000 in
theorem lL_law_584 : e_lbl 12 = kL_law_584 := rfl
set_option maxRecDepth 20000 in
theorem lL_law_597 : e_lbl 13 = kL_law_597 := rfl
set_option maxRecDepth 20000 in
theorem lL_law_620 : e_lbl 14 = kL_law_620 := rfl
set_option maxRecDepth 20000 in
theorem lL_law_643 : e_lbl 15 = kL_law_643 := rfl
set_option maxRecDepth 20000 in
theorem lL_law_666 : e_lbl 16 = kL_law_666 := rfl
set_option maxRecDepth 20000 in
theorem lL_law_689 : e_lbl 17 = kL_law_689 := rfl
set_option maxRecDepth 20000 in
theorem lL_law_712 : e_lbl 18 = kL_law_712 := rfl
set_option maxRecDepth 20000 in
theorem lL_law_735 : e_lbl 19 = kL_law_735 := rfl
set_option maxRecDepth 20000 in
theorem lL_law_758 : e_lbl 20 = kL_law_758 := rfl
set_option maxRecDepth 20000 in
theorem lL_law_781 : e_lbl 21 = kL_law_781 := rfl
set_option maxRecDepth 20000 in
theorem lL_law_794 : e_lbl 22 = kL_law_794 := rfl
set_option maxRecDepth 20000 in
theorem lL_law_817 : e_lbl 23 = kL_law_817 := rfl
set_option maxRecDepth 20000 in
theorem lL_law_850 : e_lbl 24 = kL_law_850 := rfl
set_option maxRecDepth 20000 in
theorem lL_law_863 : e_lbl 25 = kL_law_863 := rfl
set_option maxRecDepth 20000 in
theorem lL_law_886 : e_lbl 26 = kL_law_886 := rfl
set_option maxRecDepth 20000 in
theorem lL_law_0 : e_lbl 27 = kL_law_0 := rfl
set_option maxRecDepth 20000 in
theorem lL_law_18 : e_lbl 28 = kL_law_18 := rfl
set_option maxRecDepth 20000 in
theorem lL_law_900 : e_lbl 29 = kL_law_900 := rfl
set_option maxRecDepth 20000 in
theorem lL_law_906 : e_lbl 30 = kL_law_906 := rfl
set_option maxRecDepth 20000 in
theorem lX0_init_0 : e_lbl 31 = kX0_init_0 := rfl
set_option maxRecDepth 20000 in
theorem lX0_copyFrom_0 : e_lbl 32 = kX0_copyFrom_0 := rfl
set_option maxRecDepth 20000 in
theorem lX0_isByTime_0 : e_lbl 33 = kX0_isByTime_0 := rfl
set_option maxRecDepth 20000 in
theorem lX0_isByTime_19 : e_lbl 34 = kX0_isByTime_19 := rfl
set_option maxRecDepth 20000 in
theorem lX0_isByTime_20 : e_lbl 35 = kX0_isByTime_20 := rfl
set_option maxRecDepth 20000 in
theorem lX0_isByFlow_0 : e_lbl 36 = kX0_isByFlow_0 := rfl
set_option maxRecDepth 20000 in
theorem lX0_isByFlow_19 : e_lbl 37 = kX0_isByFlow_19 := rfl
set_option maxRecDepth 20000 in
theorem lX0_isByFlow_20 : e_lbl 38 = kX0_isByFlow_20 := rfl
set_option maxRecDepth 20000 in
theorem lX0_isOnByTime_0 : e_lbl 39 = kX0_isOnByTime_0 := rfl
set_option maxRecDepth 20000 in
theorem lX0_isOnByTime_31 : e_lbl 40 = kX0_isOnByTime_31 := rfl
set_option maxRecDepth 20000 in
theorem lX0_isOnByTime_35 : e_lbl 41 = kX0_isOnByTime_35 := rfl
set_option maxRecDepth 20000 in
theorem lX0_isOnByTime_51 : e_lbl 42 = kX0_isOnByTime_51 := rfl
set_option maxRecDepth 20000 in
theorem lX0_isOnByTime_55 : e_lbl 43 = kX0_isOnByTime_55 := rfl
set_option maxRecDepth 20000 in
theorem lX0_isOnByTime_56 : e_lbl 44 = kX0_isOnByTime_56 := rfl
set_option maxRecDepth 20000 in
theorem lX0_supply_0 : e_lbl 45 = kX0_supply_0 := rfl
set_option maxRecDepth 20000 in
theorem lX0_supply_19 : e_lbl 46 = kX0_supply_19 := rfl
set_option maxRecDepth 20000 in
theorem lX0_supply_23 : e_lbl 47 = kX0_supply_23 := rfl
set_option maxRecDepth 20000 in
theorem lX0_supply_35 : e_lbl 48 = kX0_supply_35 := rfl
set_option maxRecDepth 20000 in
theorem lX0_supply_36 : e_lbl 49 = kX0_supply_36 := rfl
set_option maxRecDepth 20000 in
theorem lX0_countMinute_0 : e_lbl 50 = kX0_countMinute_0 := rfl
set_option maxRecDepth 20000 in
theorem lX0_countMinute_19 : e_lbl 51 = kX0_countMinute_19 := rfl
set_option maxRecDepth 20000 in
theorem lX0_countMinute_23 : e_lbl 52 = kX0_countMinute_23 := rfl
set_option maxRecDepth 20000 in
theorem lX0_countMinute_35 : e_lbl 53 = kX0_countMinute_35 := rfl
set_option maxRecDepth 20000 in
theorem lX0_countMinute_36 : e_lbl 54 = kX0_countMinute_36 := rfl
set_option maxRecDepth 20000 in
theorem lX0_countMinute_51 : e_lbl 55 = kX0_countMinute_51 := rfl
set_option maxRecDepth 20000 in
theorem lX0_countMinute_52 : e_lbl 56 = kX0_countMinute_52 := rfl
set_option maxRecDepth 20000 in
theorem lX0_isDue_0 : e_lbl 57 = kX0_isDue_0 := rfl
set_option maxRecDepth 20000 in
theorem lX0_isDue_15 : e_lbl 58 = kX0_isDue_15 := rfl
set_option maxRecDepth 20000 in
theorem lX0_isDue_16 : e_lbl 59 = kX0_isDue_16 := rfl
set_option maxRecDepth 20000 in
theorem lX0_change_0 : e_lbl 60 = kX0_change_0 := rfl
set_option maxRecDepth 20000 in
theorem lX0_change_12 : e_lbl 61 = kX0_change_12 := rfl
set_option maxRecDepth 20000 in
theorem lX0_change_13 : e_lbl 62 = kX0_change_13 := rfl
set_option maxRecDepth 20000 in
theorem lX1_init_0 : e_lbl 63 = kX1_init_0 := rfl
set_option maxRecDepth 20000 in
theorem lX1_init_30 : e_lbl 64 = kX1_init_30 := rfl
set_option maxRecDepth 20000 in
theorem lX1_init_50 : e_lbl 65 = kX1_init_50 := rfl
set_option maxRecDepth 20000 in
theorem lX1_init_52 : e_lbl 66 = kX1_init_52 := rfl
set_option maxRecDepth 20000 in
theorem lX1_init_77 : e_lbl 67 = kX1_init_77 := rfl
set_option maxRecDepth 20000 in
theorem lX1_copyFrom_0 : e_lbl 68 = kX1_copyFrom_0 := rfl
set_option maxRecDepth 20000 in
theorem lX1_copyFrom_49 : e_lbl 69 = kX1_copyFrom_49 := rfl
set_option maxRecDepth 20000 in
theorem lX1_copyFrom_76 : e_lbl 70 = kX1_copyFrom_76 := rfl
set_option maxRecDepth 20000 in
theorem lX1_hour_0 : e_lbl 71 = kX1_hour_0 := rfl
set_option maxRecDepth 20000 in
theorem lX1_releaseLocks_0 : e_lbl 72 = kX1_releaseLocks_0 := rfl
set_option maxRecDepth 20000 in
theorem lX1_releaseLocks_2 : e_lbl 73 = kX1_releaseLocks_2 := rfl
set_option maxRecDepth 20000 in
theorem lX1_releaseLocks_28 : e_lbl 74 = kX1_releaseLocks_28 := rfl
set_option maxRecDepth 20000 in
theorem lX1_switchBanksByTime_0 : e_lbl 75 = kX1_switchBanksByTime_0 := rfl
set_option maxRecDepth 20000 in
theorem lX1_switchBanksByTime_7 : e_lbl 76 = kX1_switchBanksByTime_7 := rfl
set_option maxRecDepth 20000 in
theorem lX1_switchBanksByTime_41 : e_lbl 77 = kX1_switchBanksByTime_41 := rfl
set_option maxRecDepth 20000 in
theorem lX1_switchBanksByTime_47 : e_lbl 78 = kX1_switchBanksByTime_47 := rfl
set_option maxRecDepth 20000 in
theorem lX1_switchBankByFlow_0 : e_lbl 79 = kX1_switchBankByFlow_0 := rfl
set_option maxRecDepth 20000 in
theorem lX1_switchBankByFlow_4 : e_lbl 80 = kX1_switchBankByFlow_4 := rfl
set_option maxRecDepth 20000 in
theorem lX1_switchBankByFlow_61 : e_lbl 81 = kX1_switchBankByFlow_61 := rfl
set_option maxRecDepth 20000 in
theorem lX1_switchBankByFlow_67 : e_lbl 82 = kX1_switchBankByFlow_67 := rfl
set_option maxRecDepth 20000 in
theorem lX1_moveRegulators_0 : e_lbl 83 = kX1_moveRegulators_0 := rfl
set_option maxRecDepth 20000 in
theorem lX1_moveRegulators_5 : e_lbl 84 = kX1_moveRegulators_5 := rfl
set_option maxRecDepth 20000 in
theorem lX1_moveRegulators_81 : e_lbl 85 = kX1_moveRegulators_81 := rfl
set_option maxRecDepth 20000 in
theorem lX1_moveRegulators_87 : e_lbl 86 = kX1_moveRegulators_87 := rfl
set_option maxRecDepth 20000 in
theorem lX2_init_0 : e_lbl 87 = kX2_init_0 := rfl
set_option maxRecDepth 20000 in
theorem lX2_solve_0 : e_lbl 88 = kX2_solve_0 := rfl
set_option maxRecDepth 20000 in
theorem lX2_sumLoads_0 : e_lbl 89 = kX2_sumLoads_0 := rfl
set_option maxRecDepth 20000 in
theorem lX2_sumLoads_20 : e_lbl 90 = kX2_sumLoads_20 := rfl
set_option maxRecDepth 20000 in
theorem lX2_sumLoads_102 : e_lbl 91 = kX2_sumLoads_102 := rfl
set_option maxRecDepth 20000 in
theorem lX2_findVoltages_0 : e_lbl 92 = kX2_findVoltages_0 := rfl
set_option maxRecDepth 20000 in
theorem lX2_findVoltages_17 : e_lbl 93 = kX2_findVoltages_17 := rfl
set_option maxRecDepth 20000 in
theorem lX2_findVoltages_45 : e_lbl 94 = kX2_findVoltages_45 := rfl
set_option maxRecDepth 20000 in
theorem lX2_findVoltages_53 : e_lbl 95 = kX2_findVoltages_53 := rfl
set_option maxRecDepth 20000 in
theorem lX2_findVoltages_128 : e_lbl 96 = kX2_findVoltages_128 := rfl
set_option maxRecDepth 20000 in
theorem lX2_countBadNodes_0 : e_lbl 97 = kX2_countBadNodes_0 := rfl
set_option maxRecDepth 20000 in
theorem lX2_countBadNodes_4 : e_lbl 98 = kX2_countBadNodes_4 := rfl
set_option maxRecDepth 20000 in
theorem lX2_countBadNodes_36 : e_lbl 99 = kX2_countBadNodes_36 := rfl
set_option maxRecDepth 20000 in
theorem lX2_countBadNodes_42 : e_lbl 100 = kX2_countBadNodes_42 := rfl
set_option maxRecDepth 20000 in
theorem lX3_init_0 : e_lbl 101 = kX3_init_0 := rfl
set_option maxRecDepth 20000 in
theorem lX3_init_14 : e_lbl 102 = kX3_init_14 := rfl
set_option maxRecDepth 20000 in
theorem lX3_init_38 : e_lbl 103 = kX3_init_38 := rfl
set_option maxRecDepth 20000 in
theorem lX3_save_0 : e_lbl 104 = kX3_save_0 := rfl
set_option maxRecDepth 20000 in
theorem lX3_save_12 : e_lbl 105 = kX3_save_12 := rfl
set_option maxRecDepth 20000 in
theorem lX3_dropOldest_0 : e_lbl 106 = kX3_dropOldest_0 := rfl
set_option maxRecDepth 20000 in
theorem lX3_dropOldest_9 : e_lbl 107 = kX3_dropOldest_9 := rfl
set_option maxRecDepth 20000 in
theorem lX3_dropOldest_34 : e_lbl 108 = kX3_dropOldest_34 := rfl
set_option maxRecDepth 20000 in
theorem lX3_restore_0 : e_lbl 109 = kX3_restore_0 := rfl
set_option maxRecDepth 20000 in
theorem lX4_init_0 : e_lbl 110 = kX4_init_0 := rfl
set_option maxRecDepth 20000 in
theorem lX4_copyFrom_0 : e_lbl 111 = kX4_copyFrom_0 := rfl
set_option maxRecDepth 20000 in
theorem lX5_init_0 : e_lbl 112 = kX5_init_0 := rfl
set_option maxRecDepth 20000 in
theorem lX5_makePlan_0 : e_lbl 113 = kX5_makePlan_0 := rfl
set_option maxRecDepth 20000 in
theorem lX5_makePlan_2 : e_lbl 114 = kX5_makePlan_2 := rfl
set_option maxRecDepth 20000 in
theorem lX5_makePlan_21 : e_lbl 115 = kX5_makePlan_21 := rfl
set_option maxRecDepth 20000 in
theorem lX5_makePlan_24 : e_lbl 116 = kX5_makePlan_24 := rfl
set_option maxRecDepth 20000 in
theorem lX5_makePlan_46 : e_lbl 117 = kX5_makePlan_46 := rfl
set_option maxRecDepth 20000 in
theorem lX5_countStepsAfter_0 : e_lbl 118 = kX5_countStepsAfter_0 := rfl
set_option maxRecDepth 20000 in
theorem lX5_countStepsAfter_13 : e_lbl 119 = kX5_countStepsAfter_13 := rfl
set_option maxRecDepth 20000 in
theorem lX5_countStepsAfter_52 : e_lbl 120 = kX5_countStepsAfter_52 := rfl
set_option maxRecDepth 20000 in
theorem lX5_countStepsAfter_53 : e_lbl 121 = kX5_countStepsAfter_53 := rfl
set_option maxRecDepth 20000 in
theorem lX5_countStepsAfter_78 : e_lbl 122 = kX5_countStepsAfter_78 := rfl
set_option maxRecDepth 20000 in
theorem lX5_countStepsAfter_80 : e_lbl 123 = kX5_countStepsAfter_80 := rfl
set_option maxRecDepth 20000 in
theorem lX5_countStepsAfter_87 : e_lbl 124 = kX5_countStepsAfter_87 := rfl
set_option maxRecDepth 20000 in
theorem lX5_countStepsFrom_0 : e_lbl 125 = kX5_countStepsFrom_0 := rfl
set_option maxRecDepth 20000 in
theorem lX5_countStepsFrom_2 : e_lbl 126 = kX5_countStepsFrom_2 := rfl
set_option maxRecDepth 20000 in
theorem lX5_countStepsFrom_28 : e_lbl 127 = kX5_countStepsFrom_28 := rfl
set_option maxRecDepth 20000 in
theorem lX5_countStepsFrom_30 : e_lbl 128 = kX5_countStepsFrom_30 := rfl
set_option maxRecDepth 20000 in
theorem lX5_countStepsFrom_67 : e_lbl 129 = kX5_countStepsFrom_67 := rfl
set_option maxRecDepth 20000 in
theorem lX5_countStepsFrom_70 : e_lbl 130 = kX5_countStepsFrom_70 := rfl
set_option maxRecDepth 20000 in
theorem lX5_countStepsFrom_105 : e_lbl 131 = kX5_countStepsFrom_105 := rfl
set_option maxRecDepth 20000 in
theorem lX5_chooseTaps_0 : e_lbl 132 = kX5_chooseTaps_0 := rfl
set_option maxRecDepth 20000 in
theorem lX5_chooseTaps_9 : e_lbl 133 = kX5_chooseTaps_9 := rfl
set_option maxRecDepth 20000 in
theorem lX5_chooseTaps_30 : e_lbl 134 = kX5_chooseTaps_30 := rfl
set_option maxRecDepth 20000 in
theorem lX5_chooseTaps_66 : e_lbl 135 = kX5_chooseTaps_66 := rfl
set_option maxRecDepth 20000 in
theorem lX5_bestPlace_0 : e_lbl 136 = kX5_bestPlace_0 := rfl
set_option maxRecDepth 20000 in
theorem lX5_bestPlace_9 : e_lbl 137 = kX5_bestPlace_9 := rfl
set_option maxRecDepth 20000 in
theorem lX5_bestPlace_49 : e_lbl 138 = kX5_bestPlace_49 := rfl
set_option maxRecDepth 20000 in
theorem lX5_bestPlace_55 : e_lbl 139 = kX5_bestPlace_55 := rfl
set_option maxRecDepth 20000 in
theorem lX6_init_0 : e_lbl 140 = kX6_init_0 := rfl
set_option maxRecDepth 20000 in
theorem lX6_readItems_0 : e_lbl 141 = kX6_readItems_0 := rfl
set_option maxRecDepth 20000 in
theorem lX6_readItems_21 : e_lbl 142 = kX6_readItems_21 := rfl
set_option maxRecDepth 20000 in
theorem lX6_readItems_61 : e_lbl 143 = kX6_readItems_61 := rfl
set_option maxRecDepth 20000 in
theorem lX6_readItem_0 : e_lbl 144 = kX6_readItem_0 := rfl
set_option maxRecDepth 20000 in
theorem lX6_readItem_33 : e_lbl 145 = kX6_readItem_33 := rfl
set_option maxRecDepth 20000 in
theorem lX6_readItem_63 : e_lbl 146 = kX6_readItem_63 := rfl
set_option maxRecDepth 20000 in
theorem lX6_readItem_66 : e_lbl 147 = kX6_readItem_66 := rfl
set_option maxRecDepth 20000 in
theorem lX6_readItem_84 : e_lbl 148 = kX6_readItem_84 := rfl
set_option maxRecDepth 20000 in
theorem lX6_readNumber_0 : e_lbl 149 = kX6_readNumber_0 := rfl
set_option maxRecDepth 20000 in
theorem lX6_readNumber_9 : e_lbl 150 = kX6_readNumber_9 := rfl
set_option maxRecDepth 20000 in
theorem lX6_readNumber_21 : e_lbl 151 = kX6_readNumber_21 := rfl
set_option maxRecDepth 20000 in
theorem lX6_readNumber_71 : e_lbl 152 = kX6_readNumber_71 := rfl
set_option maxRecDepth 20000 in
theorem lX6_readNumber_104 : e_lbl 153 = kX6_readNumber_104 := rfl
set_option maxRecDepth 20000 in
theorem lX6_readNumber_122 : e_lbl 154 = kX6_readNumber_122 := rfl
set_option maxRecDepth 20000 in
theorem lX6_readNumber_129 : e_lbl 155 = kX6_readNumber_129 := rfl
set_option maxRecDepth 20000 in
theorem lX6_isNext_0 : e_lbl 156 = kX6_isNext_0 := rfl
set_option maxRecDepth 20000 in
theorem lX6_isNext_32 : e_lbl 157 = kX6_isNext_32 := rfl
set_option maxRecDepth 20000 in
theorem lX6_isNext_33 : e_lbl 158 = kX6_isNext_33 := rfl
set_option maxRecDepth 20000 in
theorem lX6_expect_0 : e_lbl 159 = kX6_expect_0 := rfl
set_option maxRecDepth 20000 in
theorem lX6_expect_8 : e_lbl 160 = kX6_expect_8 := rfl
set_option maxRecDepth 20000 in
theorem lX6_expect_29 : e_lbl 161 = kX6_expect_29 := rfl
set_option maxRecDepth 20000 in
theorem lX6_expect_37 : e_lbl 162 = kX6_expect_37 := rfl
set_option maxRecDepth 20000 in
theorem lX6_skipSpaces_0 : e_lbl 163 = kX6_skipSpaces_0 := rfl
set_option maxRecDepth 20000 in
theorem lX6_skipSpaces_38 : e_lbl 164 = kX6_skipSpaces_38 := rfl
set_option maxRecDepth 20000 in
theorem lX7_init_0 : e_lbl 165 = kX7_init_0 := rfl
set_option maxRecDepth 20000 in
theorem lX7_copyFrom_0 : e_lbl 166 = kX7_copyFrom_0 := rfl
set_option maxRecDepth 20000 in
theorem lX7_release_0 : e_lbl 167 = kX7_release_0 := rfl
set_option maxRecDepth 20000 in
theorem lX7_wantedDirection_0 : e_lbl 168 = kX7_wantedDirection_0 := rfl
set_option maxRecDepth 20000 in
theorem lX7_wantedDirection_18 : e_lbl 169 = kX7_wantedDirection_18 := rfl
set_option maxRecDepth 20000 in
theorem lX7_wantedDirection_20 : e_lbl 170 = kX7_wantedDirection_20 := rfl
set_option maxRecDepth 20000 in
theorem lX7_wantedDirection_44 : e_lbl 171 = kX7_wantedDirection_44 := rfl
set_option maxRecDepth 20000 in
theorem lX7_wantedDirection_70 : e_lbl 172 = kX7_wantedDirection_70 := rfl
set_option maxRecDepth 20000 in
theorem lX7_wantedDirection_71 : e_lbl 173 = kX7_wantedDirection_71 := rfl
set_option maxRecDepth 20000 in
theorem lX7_countMinute_0 : e_lbl 174 = kX7_countMinute_0 := rfl
set_option maxRecDepth 20000 in
theorem lX7_countMinute_12 : e_lbl 175 = kX7_countMinute_12 := rfl
set_option maxRecDepth 20000 in
theorem lX7_countMinute_29 : e_lbl 176 = kX7_countMinute_29 := rfl
set_option maxRecDepth 20000 in
theorem lX7_countMinute_39 : e_lbl 177 = kX7_countMinute_39 := rfl
set_option maxRecDepth 20000 in
theorem lX7_isDue_0 : e_lbl 178 = kX7_isDue_0 := rfl
set_option maxRecDepth 20000 in
theorem lX7_isDue_22 : e_lbl 179 = kX7_isDue_22 := rfl
set_option maxRecDepth 20000 in
theorem lX7_isDue_23 : e_lbl 180 = kX7_isDue_23 := rfl
set_option maxRecDepth 20000 in
theorem lX7_makeStep_0 : e_lbl 181 = kX7_makeStep_0 := rfl
set_option maxRecDepth 20000 in
theorem lX7_makeStep_35 : e_lbl 182 = kX7_makeStep_35 := rfl
set_option maxRecDepth 20000 in
theorem lX7_makeStep_36 : e_lbl 183 = kX7_makeStep_36 := rfl
set_option maxRecDepth 20000 in
theorem lX7_makeStep_39 : e_lbl 184 = kX7_makeStep_39 := rfl
set_option maxRecDepth 20000 in
theorem lX8_init_0 : e_lbl 185 = kX8_init_0 := rfl
set_option maxRecDepth 20000 in
theorem lX8_setSource_0 : e_lbl 186 = kX8_setSource_0 := rfl
set_option maxRecDepth 20000 in
theorem lX8_setSource_20 : e_lbl 187 = kX8_setSource_20 := rfl
set_option maxRecDepth 20000 in
theorem lX8_addNode_0 : e_lbl 188 = kX8_addNode_0 := rfl
set_option maxRecDepth 20000 in
theorem lX8_addNode_29 : e_lbl 189 = kX8_addNode_29 := rfl
set_option maxRecDepth 20000 in
theorem lX8_addNode_36 : e_lbl 190 = kX8_addNode_36 := rfl
set_option maxRecDepth 20000 in
theorem lX8_addNode_55 : e_lbl 191 = kX8_addNode_55 := rfl
set_option maxRecDepth 20000 in
theorem lX8_setLoad_0 : e_lbl 192 = kX8_setLoad_0 := rfl
set_option maxRecDepth 20000 in
theorem lX8_setLoad_16 : e_lbl 193 = kX8_setLoad_16 := rfl
set_option maxRecDepth 20000 in
theorem lX8_setLoad_23 : e_lbl 194 = kX8_setLoad_23 := rfl
set_option maxRecDepth 20000 in
theorem lX8_setFactor_0 : e_lbl 195 = kX8_setFactor_0 := rfl
set_option maxRecDepth 20000 in
theorem lX8_setFactor_18 : e_lbl 196 = kX8_setFactor_18 := rfl
set_option maxRecDepth 20000 in
theorem lX8_setFactor_25 : e_lbl 197 = kX8_setFactor_25 := rfl
set_option maxRecDepth 20000 in
theorem lX8_append_0 : e_lbl 198 = kX8_append_0 := rfl
set_option maxRecDepth 20000 in
theorem lX8_append_17 : e_lbl 199 = kX8_append_17 := rfl
set_option maxRecDepth 20000 in
theorem lX8_append_36 : e_lbl 200 = kX8_append_36 := rfl
set_option maxRecDepth 20000 in
theorem lX8_clearText_0 : e_lbl 201 = kX8_clearText_0 := rfl
set_option maxRecDepth 20000 in
theorem lX8_parseProfile_0 : e_lbl 202 = kX8_parseProfile_0 := rfl
set_option maxRecDepth 20000 in
theorem lX8_parseProfile_51 : e_lbl 203 = kX8_parseProfile_51 := rfl
set_option maxRecDepth 20000 in
theorem lX8_addRegulator_0 : e_lbl 204 = kX8_addRegulator_0 := rfl
set_option maxRecDepth 20000 in
theorem lX8_addRegulator_54 : e_lbl 205 = kX8_addRegulator_54 := rfl
set_option maxRecDepth 20000 in
theorem lX8_addRegulator_61 : e_lbl 206 = kX8_addRegulator_61 := rfl
set_option maxRecDepth 20000 in
theorem lX8_addRegulator_90 : e_lbl 207 = kX8_addRegulator_90 := rfl
set_option maxRecDepth 20000 in
theorem lX8_addRegulator_138 : e_lbl 208 = kX8_addRegulator_138 := rfl
set_option maxRecDepth 20000 in
theorem lX8_addRegulator_139 : e_lbl 209 = kX8_addRegulator_139 := rfl
set_option maxRecDepth 20000 in
theorem lX8_setTap_0 : e_lbl 210 = kX8_setTap_0 := rfl
set_option maxRecDepth 20000 in
theorem lX8_setTap_18 : e_lbl 211 = kX8_setTap_18 := rfl
set_option maxRecDepth 20000 in
theorem lX8_setTap_34 : e_lbl 212 = kX8_setTap_34 := rfl
set_option maxRecDepth 20000 in
theorem lX8_addBank_0 : e_lbl 213 = kX8_addBank_0 := rfl
set_option maxRecDepth 20000 in
theorem lX8_addBank_41 : e_lbl 214 = kX8_addBank_41 := rfl
set_option maxRecDepth 20000 in
theorem lX8_addBank_48 : e_lbl 215 = kX8_addBank_48 := rfl
set_option maxRecDepth 20000 in
theorem lX8_addBank_77 : e_lbl 216 = kX8_addBank_77 := rfl
set_option maxRecDepth 20000 in
theorem lX8_switchBank_0 : e_lbl 217 = kX8_switchBank_0 := rfl
set_option maxRecDepth 20000 in
theorem lX8_switchBank_16 : e_lbl 218 = kX8_switchBank_16 := rfl
set_option maxRecDepth 20000 in
theorem lX8_switchBank_32 : e_lbl 219 = kX8_switchBank_32 := rfl
set_option maxRecDepth 20000 in
theorem lX8_switchBank_78 : e_lbl 220 = kX8_switchBank_78 := rfl
set_option maxRecDepth 20000 in
theorem lX8_switchBank_79 : e_lbl 221 = kX8_switchBank_79 := rfl
set_option maxRecDepth 20000 in
theorem lX8_run_0 : e_lbl 222 = kX8_run_0 := rfl
set_option maxRecDepth 20000 in
theorem lX8_run_18 : e_lbl 223 = kX8_run_18 := rfl
set_option maxRecDepth 20000 in
theorem lX8_run_33 : e_lbl 224 = kX8_run_33 := rfl
set_option maxRecDepth 20000 in
theorem lX8_run_48 : e_lbl 225 = kX8_run_48 := rfl
set_option maxRecDepth 20000 in
theorem lX8_run_54 : e_lbl 226 = kX8_run_54 := rfl
set_option maxRecDepth 20000 in
theorem lX8_minute_0 : e_lbl 227 = kX8_minute_0 := rfl
set_option maxRecDepth 20000 in
theorem lX8_passMinute_0 : e_lbl 228 = kX8_passMinute_0 := rfl
set_option maxRecDepth 20000 in
theorem lX8_passMinute_33 : e_lbl 229 = kX8_passMinute_33 := rfl
set_option maxRecDepth 20000 in
theorem lX8_passMinute_79 : e_lbl 230 = kX8_passMinute_79 := rfl
set_option maxRecDepth 20000 in
theorem lX8_passMinute_80 : e_lbl 231 = kX8_passMinute_80 := rfl
set_option maxRecDepth 20000 in
theorem lX8_passMinute_92 : e_lbl 232 = kX8_passMinute_92 := rfl
set_option maxRecDepth 20000 in
theorem lX8_passMinute_103 : e_lbl 233 = kX8_passMinute_103 := rfl
set_option maxRecDepth 20000 in
theorem lX8_passMinute_137 : e_lbl 234 = kX8_passMinute_137 := rfl
set_option maxRecDepth 20000 in
theorem lX8_passMinute_141 : e_lbl 235 = kX8_passMinute_141 := rfl
set_option maxRecDepth 20000 in
theorem lX8_passMinute_142 : e_lbl 236 = kX8_passMinute_142 := rfl
set_option maxRecDepth 20000 in
theorem lX8_voltage_0 : e_lbl 237 = kX8_voltage_0 := rfl
set_option maxRecDepth 20000 in
theorem lX8_voltage_22 : e_lbl 238 = kX8_voltage_22 := rfl
set_option maxRecDepth 20000 in
theorem lX8_activeFlow_0 : e_lbl 239 = kX8_activeFlow_0 := rfl
set_option maxRecDepth 20000 in
theorem lX8_activeFlow_15 : e_lbl 240 = kX8_activeFlow_15 := rfl
set_option maxRecDepth 20000 in
theorem lX8_reactiveFlow_0 : e_lbl 241 = kX8_reactiveFlow_0 := rfl
set_option maxRecDepth 20000 in
theorem lX8_reactiveFlow_15 : e_lbl 242 = kX8_reactiveFlow_15 := rfl
set_option maxRecDepth 20000 in
theorem lX8_tap_0 : e_lbl 243 = kX8_tap_0 := rfl
set_option maxRecDepth 20000 in
theorem lX8_tap_18 : e_lbl 244 = kX8_tap_18 := rfl
set_option maxRecDepth 20000 in
theorem lX8_tap_36 : e_lbl 245 = kX8_tap_36 := rfl
set_option maxRecDepth 20000 in
theorem lX8_timer_0 : e_lbl 246 = kX8_timer_0 := rfl
set_option maxRecDepth 20000 in
theorem lX8_timer_18 : e_lbl 247 = kX8_timer_18 := rfl
set_option maxRecDepth 20000 in
theorem lX8_timer_33 : e_lbl 248 = kX8_timer_33 := rfl
set_option maxRecDepth 20000 in
theorem lX8_isLocked_0 : e_lbl 249 = kX8_isLocked_0 := rfl
set_option maxRecDepth 20000 in
theorem lX8_isLocked_18 : e_lbl 250 = kX8_isLocked_18 := rfl
set_option maxRecDepth 20000 in
theorem lX8_isLocked_36 : e_lbl 251 = kX8_isLocked_36 := rfl
set_option maxRecDepth 20000 in
theorem lX8_steps_0 : e_lbl 252 = kX8_steps_0 := rfl
set_option maxRecDepth 20000 in
theorem lX8_steps_18 : e_lbl 253 = kX8_steps_18 := rfl
set_option maxRecDepth 20000 in
theorem lX8_steps_33 : e_lbl 254 = kX8_steps_33 := rfl
set_option maxRecDepth 20000 in
theorem lX8_isOn_0 : e_lbl 255 = kX8_isOn_0 := rfl
set_option maxRecDepth 20000 in
theorem lX8_isOn_18 : e_lbl 256 = kX8_isOn_18 := rfl
set_option maxRecDepth 20000 in
theorem lX8_isOn_36 : e_lbl 257 = kX8_isOn_36 := rfl
set_option maxRecDepth 20000 in
theorem lX8_violations_0 : e_lbl 258 = kX8_violations_0 := rfl
set_option maxRecDepth 20000 in
theorem lX8_planSteps_0 : e_lbl 259 = kX8_planSteps_0 := rfl
set_option maxRecDepth 20000 in
theorem lX8_planSteps_16 : e_lbl 260 = kX8_planSteps_16 := rfl
set_option maxRecDepth 20000 in
theorem lX8_planSteps_41 : e_lbl 261 = kX8_planSteps_41 := rfl
set_option maxRecDepth 20000 in
theorem lX8_planSteps_47 : e_lbl 262 = kX8_planSteps_47 := rfl
set_option maxRecDepth 20000 in
theorem lX8_planTap_0 : e_lbl 263 = kX8_planTap_0 := rfl
set_option maxRecDepth 20000 in
theorem lX8_planTap_14 : e_lbl 264 = kX8_planTap_14 := rfl
set_option maxRecDepth 20000 in
theorem lX8_planTap_30 : e_lbl 265 = kX8_planTap_30 := rfl
set_option maxRecDepth 20000 in
theorem lX8_planTap_60 : e_lbl 266 = kX8_planTap_60 := rfl
set_option maxRecDepth 20000 in
theorem lX8_planTap_66 : e_lbl 267 = kX8_planTap_66 := rfl
set_option maxRecDepth 20000 in
theorem lX8_undo_0 : e_lbl 268 = kX8_undo_0 := rfl
set_option maxRecDepth 20000 in
theorem lX8_undo_17 : e_lbl 269 = kX8_undo_17 := rfl
set_option maxRecDepth 20000 in
theorem lX8_errorCount_0 : e_lbl 270 = kX8_errorCount_0 := rfl
set_option maxRecDepth 20000 in
theorem lX8_errorCount_19 : e_lbl 271 = kX8_errorCount_19 := rfl
set_option maxRecDepth 20000 in
theorem lX8_errorCount_25 : e_lbl 272 = kX8_errorCount_25 := rfl
set_option maxRecDepth 20000 in
theorem lX8_digest_0 : e_lbl 273 = kX8_digest_0 := rfl
set_option maxRecDepth 20000 in
theorem lX8_digest_17 : e_lbl 274 = kX8_digest_17 := rfl
set_option maxRecDepth 20000 in
theorem lX8_digest_39 : e_lbl 275 = kX8_digest_39 := rfl
set_option maxRecDepth 20000 in
theorem lX8_digest_77 : e_lbl 276 = kX8_digest_77 := rfl
set_option maxRecDepth 20000 in
theorem lX8_digest_103 : e_lbl 277 = kX8_digest_103 := rfl
set_option maxRecDepth 20000 in
theorem lX8_digest_117 : e_lbl 278 = kX8_digest_117 := rfl
set_option maxRecDepth 20000 in
theorem lX8_digest_210 : e_lbl 279 = kX8_digest_210 := rfl
set_option maxRecDepth 20000 in
theorem lX8_mixRegulator_0 : e_lbl 280 = kX8_mixRegulator_0 := rfl
set_option maxRecDepth 20000 in
theorem lX8_mixRegulator_21 : e_lbl 281 = kX8_mixRegulator_21 := rfl
set_option maxRecDepth 20000 in
theorem lX8_mixBank_0 : e_lbl 282 = kX8_mixBank_0 := rfl
set_option maxRecDepth 20000 in
theorem lX8_mixBank_21 : e_lbl 283 = kX8_mixBank_21 := rfl
set_option maxRecDepth 20000 in
theorem lX8_mix_0 : e_lbl 284 = kX8_mix_0 := rfl
set_option maxRecDepth 20000 in
theorem lX8_isWithin_0 : e_lbl 285 = kX8_isWithin_0 := rfl
set_option maxRecDepth 20000 in
theorem lX8_isWithin_14 : e_lbl 286 = kX8_isWithin_14 := rfl
set_option maxRecDepth 20000 in
theorem lX8_isWithin_15 : e_lbl 287 = kX8_isWithin_15 := rfl
set_option maxRecDepth 20000 in
theorem lX8_isHour_0 : e_lbl 288 = kX8_isHour_0 := rfl
set_option maxRecDepth 20000 in
theorem lX8_isLoad_0 : e_lbl 289 = kX8_isLoad_0 := rfl
set_option maxRecDepth 20000 in
theorem lX8_isLoad_30 : e_lbl 290 = kX8_isLoad_30 := rfl
set_option maxRecDepth 20000 in
theorem lX8_isLoad_31 : e_lbl 291 = kX8_isLoad_31 := rfl
set_option maxRecDepth 20000 in
theorem lX8_areBankSettings_0 : e_lbl 292 = kX8_areBankSettings_0 := rfl
set_option maxRecDepth 20000 in
theorem lX8_areBankSettings_23 : e_lbl 293 = kX8_areBankSettings_23 := rfl
set_option maxRecDepth 20000 in
theorem lX8_areBankSettings_24 : e_lbl 294 = kX8_areBankSettings_24 := rfl
set_option maxRecDepth 20000 in
theorem lX8_areBankSettings_25 : e_lbl 295 = kX8_areBankSettings_25 := rfl
set_option maxRecDepth 20000 in
theorem lX8_areBankSettings_65 : e_lbl 296 = kX8_areBankSettings_65 := rfl
set_option maxRecDepth 20000 in
theorem lX8_areBankSettings_66 : e_lbl 297 = kX8_areBankSettings_66 := rfl
set_option maxRecDepth 20000 in
theorem lX8_areBankSettings_67 : e_lbl 298 = kX8_areBankSettings_67 := rfl
set_option maxRecDepth 20000 in
theorem lX8_areBankSettings_75 : e_lbl 299 = kX8_areBankSettings_75 := rfl
set_option maxRecDepth 20000 in
theorem lX8_areBankSettings_76 : e_lbl 300 = kX8_areBankSettings_76 := rfl
set_option maxRecDepth 20000 in
theorem lX8_bit_0 : e_lbl 301 = kX8_bit_0 := rfl
set_option maxRecDepth 20000 in
theorem lX8_bit_8 : e_lbl 302 = kX8_bit_8 := rfl
set_option maxRecDepth 20000 in
theorem lX8_bit_9 : e_lbl 303 = kX8_bit_9 := rfl
set_option maxRecDepth 20000 in
theorem lX8_hasNode_0 : e_lbl 304 = kX8_hasNode_0 := rfl
set_option maxRecDepth 20000 in
theorem lX8_regulatorFault_0 : e_lbl 305 = kX8_regulatorFault_0 := rfl
set_option maxRecDepth 20000 in
theorem lX8_regulatorFault_11 : e_lbl 306 = kX8_regulatorFault_11 := rfl
set_option maxRecDepth 20000 in
theorem lX8_regulatorFault_33 : e_lbl 307 = kX8_regulatorFault_33 := rfl
set_option maxRecDepth 20000 in
theorem lX8_regulatorFault_35 : e_lbl 308 = kX8_regulatorFault_35 := rfl
set_option maxRecDepth 20000 in
theorem lX8_bankFault_0 : e_lbl 309 = kX8_bankFault_0 := rfl
set_option maxRecDepth 20000 in
theorem lX8_bankFault_11 : e_lbl 310 = kX8_bankFault_11 := rfl
set_option maxRecDepth 20000 in
theorem lX8_bankFault_33 : e_lbl 311 = kX8_bankFault_33 := rfl
set_option maxRecDepth 20000 in
theorem lX8_bankFault_35 : e_lbl 312 = kX8_bankFault_35 := rfl
set_option maxRecDepth 20000 in
theorem lX8_isErrorCode_0 : e_lbl 313 = kX8_isErrorCode_0 := rfl
set_option maxRecDepth 20000 in
theorem lX8_refuse_0 : e_lbl 314 = kX8_refuse_0 := rfl
set_option maxRecDepth 20000 in
theorem lX8_refuse_20 : e_lbl 315 = kX8_refuse_20 := rfl
set_option maxRecDepth 20000 in
theorem lX9_init_0 : e_lbl 316 = kX9_init_0 := rfl
set_option maxRecDepth 20000 in
theorem lX9_init_90 : e_lbl 317 = kX9_init_90 := rfl
set_option maxRecDepth 20000 in
theorem lX9_init_112 : e_lbl 318 = kX9_init_112 := rfl
set_option maxRecDepth 20000 in
theorem lX9_in_0 : e_lbl 319 = kX9_in_0 := rfl
set_option maxRecDepth 20000 in
theorem lX9_in_14 : e_lbl 320 = kX9_in_14 := rfl
set_option maxRecDepth 20000 in
theorem lX9_in_15 : e_lbl 321 = kX9_in_15 := rfl
set_option maxRecDepth 20000 in
theorem lX9_error_0 : e_lbl 322 = kX9_error_0 := rfl
set_option maxRecDepth 20000 in
theorem lX9_isNode_0 : e_lbl 323 = kX9_isNode_0 := rfl
set_option maxRecDepth 20000 in
theorem lX9_spot_0 : e_lbl 324 = kX9_spot_0 := rfl
set_option maxRecDepth 20000 in
theorem lX9_of_0 : e_lbl 325 = kX9_of_0 := rfl
set_option maxRecDepth 20000 in
theorem lX9_put_0 : e_lbl 326 = kX9_put_0 := rfl
set_option maxRecDepth 20000 in
theorem lX9_save_0 : e_lbl 327 = kX9_save_0 := rfl
set_option maxRecDepth 20000 in
theorem lX9_save_10 : e_lbl 328 = kX9_save_10 := rfl
set_option maxRecDepth 20000 in
theorem lX9_save_39 : e_lbl 329 = kX9_save_39 := rfl
set_option maxRecDepth 20000 in
theorem lX9_save_49 : e_lbl 330 = kX9_save_49 := rfl
set_option maxRecDepth 20000 in
theorem lX9_save_51 : e_lbl 331 = kX9_save_51 := rfl
set_option maxRecDepth 20000 in
theorem lX9_save_85 : e_lbl 332 = kX9_save_85 := rfl
set_option maxRecDepth 20000 in
theorem lX9_setSource_0 : e_lbl 333 = kX9_setSource_0 := rfl
set_option maxRecDepth 20000 in
theorem lX9_setSource_20 : e_lbl 334 = kX9_setSource_20 := rfl
set_option maxRecDepth 20000 in
theorem lX9_isLoad_0 : e_lbl 335 = kX9_isLoad_0 := rfl
set_option maxRecDepth 20000 in
theorem lX9_isLoad_30 : e_lbl 336 = kX9_isLoad_30 := rfl
set_option maxRecDepth 20000 in
theorem lX9_isLoad_31 : e_lbl 337 = kX9_isLoad_31 := rfl
set_option maxRecDepth 20000 in
theorem lX9_addNode_0 : e_lbl 338 = kX9_addNode_0 := rfl
set_option maxRecDepth 20000 in
theorem lX9_addNode_29 : e_lbl 339 = kX9_addNode_29 := rfl
set_option maxRecDepth 20000 in
theorem lX9_addNode_36 : e_lbl 340 = kX9_addNode_36 := rfl
set_option maxRecDepth 20000 in
theorem lX9_addNode_54 : e_lbl 341 = kX9_addNode_54 := rfl
set_option maxRecDepth 20000 in
theorem lX9_addNode_79 : e_lbl 342 = kX9_addNode_79 := rfl
set_option maxRecDepth 20000 in
theorem lX9_addNode_101 : e_lbl 343 = kX9_addNode_101 := rfl
set_option maxRecDepth 20000 in
theorem lX9_setLoad_0 : e_lbl 344 = kX9_setLoad_0 := rfl
set_option maxRecDepth 20000 in
theorem lX9_setLoad_16 : e_lbl 345 = kX9_setLoad_16 := rfl
set_option maxRecDepth 20000 in
theorem lX9_setLoad_23 : e_lbl 346 = kX9_setLoad_23 := rfl
set_option maxRecDepth 20000 in
theorem lX9_setFactor_0 : e_lbl 347 = kX9_setFactor_0 := rfl
set_option maxRecDepth 20000 in
theorem lX9_setFactor_21 : e_lbl 348 = kX9_setFactor_21 := rfl
set_option maxRecDepth 20000 in
theorem lX9_setFactor_28 : e_lbl 349 = kX9_setFactor_28 := rfl
set_option maxRecDepth 20000 in
theorem lX9_append_0 : e_lbl 350 = kX9_append_0 := rfl
set_option maxRecDepth 20000 in
theorem lX9_append_17 : e_lbl 351 = kX9_append_17 := rfl
set_option maxRecDepth 20000 in
theorem lX9_append_33 : e_lbl 352 = kX9_append_33 := rfl
set_option maxRecDepth 20000 in
theorem lX9_clearText_0 : e_lbl 353 = kX9_clearText_0 := rfl
set_option maxRecDepth 20000 in
theorem lX9_next_0 : e_lbl 354 = kX9_next_0 := rfl
set_option maxRecDepth 20000 in
theorem lX9_next_38 : e_lbl 355 = kX9_next_38 := rfl
set_option maxRecDepth 20000 in
theorem lX9_next_61 : e_lbl 356 = kX9_next_61 := rfl
set_option maxRecDepth 20000 in
theorem lX9_next_62 : e_lbl 357 = kX9_next_62 := rfl
set_option maxRecDepth 20000 in
theorem lX9_takes_0 : e_lbl 358 = kX9_takes_0 := rfl
set_option maxRecDepth 20000 in
theorem lX9_takes_12 : e_lbl 359 = kX9_takes_12 := rfl
set_option maxRecDepth 20000 in
theorem lX9_takes_13 : e_lbl 360 = kX9_takes_13 := rfl
set_option maxRecDepth 20000 in
theorem lX9_takes_27 : e_lbl 361 = kX9_takes_27 := rfl
set_option maxRecDepth 20000 in
theorem lX9_takes_28 : e_lbl 362 = kX9_takes_28 := rfl
set_option maxRecDepth 20000 in
theorem lX9_number_0 : e_lbl 363 = kX9_number_0 := rfl
set_option maxRecDepth 20000 in
theorem lX9_number_13 : e_lbl 364 = kX9_number_13 := rfl
set_option maxRecDepth 20000 in
theorem lX9_number_86 : e_lbl 365 = kX9_number_86 := rfl
set_option maxRecDepth 20000 in
theorem lX9_number_130 : e_lbl 366 = kX9_number_130 := rfl
set_option maxRecDepth 20000 in
theorem lX9_number_131 : e_lbl 367 = kX9_number_131 := rfl
set_option maxRecDepth 20000 in
theorem lX9_number_146 : e_lbl 368 = kX9_number_146 := rfl
set_option maxRecDepth 20000 in
theorem lX9_number_148 : e_lbl 369 = kX9_number_148 := rfl
set_option maxRecDepth 20000 in
theorem lX9_number_165 : e_lbl 370 = kX9_number_165 := rfl
set_option maxRecDepth 20000 in
theorem lX9_readsItem_0 : e_lbl 371 = kX9_readsItem_0 := rfl
set_option maxRecDepth 20000 in
theorem lX9_readsItem_14 : e_lbl 372 = kX9_readsItem_14 := rfl
set_option maxRecDepth 20000 in
theorem lX9_readsItem_39 : e_lbl 373 = kX9_readsItem_39 := rfl
set_option maxRecDepth 20000 in
theorem lX9_readsItem_50 : e_lbl 374 = kX9_readsItem_50 := rfl
set_option maxRecDepth 20000 in
theorem lX9_readsItem_72 : e_lbl 375 = kX9_readsItem_72 := rfl
set_option maxRecDepth 20000 in
theorem lX9_readsItem_74 : e_lbl 376 = kX9_readsItem_74 := rfl
set_option maxRecDepth 20000 in
theorem lX9_readsItem_77 : e_lbl 377 = kX9_readsItem_77 := rfl
set_option maxRecDepth 20000 in
theorem lX9_readsItem_97 : e_lbl 378 = kX9_readsItem_97 := rfl
set_option maxRecDepth 20000 in
theorem lX9_parseProfile_0 : e_lbl 379 = kX9_parseProfile_0 := rfl
set_option maxRecDepth 20000 in
theorem lX9_parseProfile_2 : e_lbl 380 = kX9_parseProfile_2 := rfl
set_option maxRecDepth 20000 in
theorem lX9_parseProfile_28 : e_lbl 381 = kX9_parseProfile_28 := rfl
set_option maxRecDepth 20000 in
theorem lX9_parseProfile_35 : e_lbl 382 = kX9_parseProfile_35 := rfl
set_option maxRecDepth 20000 in
theorem lX9_parseProfile_57 : e_lbl 383 = kX9_parseProfile_57 := rfl
set_option maxRecDepth 20000 in
theorem lX9_parseProfile_63 : e_lbl 384 = kX9_parseProfile_63 := rfl
set_option maxRecDepth 20000 in
theorem lX9_parseProfile_69 : e_lbl 385 = kX9_parseProfile_69 := rfl
set_option maxRecDepth 20000 in
theorem lX9_parseProfile_95 : e_lbl 386 = kX9_parseProfile_95 := rfl
set_option maxRecDepth 20000 in
theorem lX9_addRegulator_0 : e_lbl 387 = kX9_addRegulator_0 := rfl
set_option maxRecDepth 20000 in
theorem lX9_addRegulator_54 : e_lbl 388 = kX9_addRegulator_54 := rfl
set_option maxRecDepth 20000 in
theorem lX9_addRegulator_61 : e_lbl 389 = kX9_addRegulator_61 := rfl
set_option maxRecDepth 20000 in
theorem lX9_addRegulator_78 : e_lbl 390 = kX9_addRegulator_78 := rfl
set_option maxRecDepth 20000 in
theorem lX9_lacks_0 : e_lbl 391 = kX9_lacks_0 := rfl
set_option maxRecDepth 20000 in
theorem lX9_lacks_13 : e_lbl 392 = kX9_lacks_13 := rfl
set_option maxRecDepth 20000 in
theorem lX9_lacks_27 : e_lbl 393 = kX9_lacks_27 := rfl
set_option maxRecDepth 20000 in
theorem lX9_lacks_28 : e_lbl 394 = kX9_lacks_28 := rfl
set_option maxRecDepth 20000 in
theorem lX9_setTap_0 : e_lbl 395 = kX9_setTap_0 := rfl
set_option maxRecDepth 20000 in
theorem lX9_setTap_20 : e_lbl 396 = kX9_setTap_20 := rfl
set_option maxRecDepth 20000 in
theorem lX9_setTap_22 : e_lbl 397 = kX9_setTap_22 := rfl
set_option maxRecDepth 20000 in
theorem lX9_setTap_33 : e_lbl 398 = kX9_setTap_33 := rfl
set_option maxRecDepth 20000 in
theorem lX9_addBank_0 : e_lbl 399 = kX9_addBank_0 := rfl
set_option maxRecDepth 20000 in
theorem lX9_addBank_27 : e_lbl 400 = kX9_addBank_27 := rfl
set_option maxRecDepth 20000 in
theorem lX9_addBank_31 : e_lbl 401 = kX9_addBank_31 := rfl
set_option maxRecDepth 20000 in
theorem lX9_addBank_32 : e_lbl 402 = kX9_addBank_32 := rfl
set_option maxRecDepth 20000 in
theorem lX9_addBank_74 : e_lbl 403 = kX9_addBank_74 := rfl
set_option maxRecDepth 20000 in
theorem lX9_addBank_78 : e_lbl 404 = kX9_addBank_78 := rfl
set_option maxRecDepth 20000 in
theorem lX9_addBank_79 : e_lbl 405 = kX9_addBank_79 := rfl
set_option maxRecDepth 20000 in
theorem lX9_addBank_130 : e_lbl 406 = kX9_addBank_130 := rfl
set_option maxRecDepth 20000 in
theorem lX9_addBank_137 : e_lbl 407 = kX9_addBank_137 := rfl
set_option maxRecDepth 20000 in
theorem lX9_addBank_155 : e_lbl 408 = kX9_addBank_155 := rfl
set_option maxRecDepth 20000 in
theorem lX9_switchBank_0 : e_lbl 409 = kX9_switchBank_0 := rfl
set_option maxRecDepth 20000 in
theorem lX9_switchBank_19 : e_lbl 410 = kX9_switchBank_19 := rfl
set_option maxRecDepth 20000 in
theorem lX9_switchBank_21 : e_lbl 411 = kX9_switchBank_21 := rfl
set_option maxRecDepth 20000 in
theorem lX9_switchBank_32 : e_lbl 412 = kX9_switchBank_32 := rfl
set_option maxRecDepth 20000 in
theorem lX9_hour_0 : e_lbl 413 = kX9_hour_0 := rfl
set_option maxRecDepth 20000 in
theorem lX9_isTime_0 : e_lbl 414 = kX9_isTime_0 := rfl
set_option maxRecDepth 20000 in
theorem lX9_isTime_38 : e_lbl 415 = kX9_isTime_38 := rfl
set_option maxRecDepth 20000 in
theorem lX9_isTime_42 : e_lbl 416 = kX9_isTime_42 := rfl
set_option maxRecDepth 20000 in
theorem lX9_isTime_53 : e_lbl 417 = kX9_isTime_53 := rfl
set_option maxRecDepth 20000 in
theorem lX9_isTime_57 : e_lbl 418 = kX9_isTime_57 := rfl
set_option maxRecDepth 20000 in
theorem lX9_isTime_58 : e_lbl 419 = kX9_isTime_58 := rfl
set_option maxRecDepth 20000 in
theorem lX9_compute_0 : e_lbl 420 = kX9_compute_0 := rfl
set_option maxRecDepth 20000 in
theorem lX9_compute_14 : e_lbl 421 = kX9_compute_14 := rfl
set_option maxRecDepth 20000 in
theorem lX9_compute_93 : e_lbl 422 = kX9_compute_93 := rfl
set_option maxRecDepth 20000 in
theorem lX9_compute_109 : e_lbl 423 = kX9_compute_109 := rfl
set_option maxRecDepth 20000 in
theorem lX9_compute_110 : e_lbl 424 = kX9_compute_110 := rfl
set_option maxRecDepth 20000 in
theorem lX9_compute_142 : e_lbl 425 = kX9_compute_142 := rfl
set_option maxRecDepth 20000 in
theorem lX9_compute_143 : e_lbl 426 = kX9_compute_143 := rfl
set_option maxRecDepth 20000 in
theorem lX9_compute_170 : e_lbl 427 = kX9_compute_170 := rfl
set_option maxRecDepth 20000 in
theorem lX9_compute_185 : e_lbl 428 = kX9_compute_185 := rfl
set_option maxRecDepth 20000 in
theorem lX9_compute_207 : e_lbl 429 = kX9_compute_207 := rfl
set_option maxRecDepth 20000 in
theorem lX9_compute_215 : e_lbl 430 = kX9_compute_215 := rfl
set_option maxRecDepth 20000 in
theorem lX9_compute_251 : e_lbl 431 = kX9_compute_251 := rfl
set_option maxRecDepth 20000 in
theorem lX9_compute_260 : e_lbl 432 = kX9_compute_260 := rfl
set_option maxRecDepth 20000 in
theorem lX9_compute_316 : e_lbl 433 = kX9_compute_316 := rfl
set_option maxRecDepth 20000 in
theorem lX9_compute_318 : e_lbl 434 = kX9_compute_318 := rfl
set_option maxRecDepth 20000 in
theorem lX9_compute_325 : e_lbl 435 = kX9_compute_325 := rfl
set_option maxRecDepth 20000 in
theorem lX9_outside_0 : e_lbl 436 = kX9_outside_0 := rfl
set_option maxRecDepth 20000 in
theorem lX9_outside_4 : e_lbl 437 = kX9_outside_4 := rfl
set_option maxRecDepth 20000 in
theorem lX9_outside_37 : e_lbl 438 = kX9_outside_37 := rfl
set_option maxRecDepth 20000 in
theorem lX9_outside_38 : e_lbl 439 = kX9_outside_38 := rfl
set_option maxRecDepth 20000 in
theorem lX9_outside_46 : e_lbl 440 = kX9_outside_46 := rfl
set_option maxRecDepth 20000 in
theorem lX9_computeNow_0 : e_lbl 441 = kX9_computeNow_0 := rfl
set_option maxRecDepth 20000 in
theorem lX9_unlocks_0 : e_lbl 442 = kX9_unlocks_0 := rfl
set_option maxRecDepth 20000 in
theorem lX9_unlocks_2 : e_lbl 443 = kX9_unlocks_2 := rfl
set_option maxRecDepth 20000 in
theorem lX9_unlocks_34 : e_lbl 444 = kX9_unlocks_34 := rfl
set_option maxRecDepth 20000 in
theorem lX9_switches_0 : e_lbl 445 = kX9_switches_0 := rfl
set_option maxRecDepth 20000 in
theorem lX9_switches_4 : e_lbl 446 = kX9_switches_4 := rfl
set_option maxRecDepth 20000 in
theorem lX9_switches_66 : e_lbl 447 = kX9_switches_66 := rfl
set_option maxRecDepth 20000 in
theorem lX9_switches_70 : e_lbl 448 = kX9_switches_70 := rfl
set_option maxRecDepth 20000 in
theorem lX9_switches_90 : e_lbl 449 = kX9_switches_90 := rfl
set_option maxRecDepth 20000 in
theorem lX9_switches_91 : e_lbl 450 = kX9_switches_91 := rfl
set_option maxRecDepth 20000 in
theorem lX9_switches_112 : e_lbl 451 = kX9_switches_112 := rfl
set_option maxRecDepth 20000 in
theorem lX9_switches_113 : e_lbl 452 = kX9_switches_113 := rfl
set_option maxRecDepth 20000 in
theorem lX9_switches_167 : e_lbl 453 = kX9_switches_167 := rfl
set_option maxRecDepth 20000 in
theorem lX9_switches_173 : e_lbl 454 = kX9_switches_173 := rfl
set_option maxRecDepth 20000 in
theorem lX9_wants_0 : e_lbl 455 = kX9_wants_0 := rfl
set_option maxRecDepth 20000 in
theorem lX9_wants_20 : e_lbl 456 = kX9_wants_20 := rfl
set_option maxRecDepth 20000 in
theorem lX9_wants_31 : e_lbl 457 = kX9_wants_31 := rfl
set_option maxRecDepth 20000 in
theorem lX9_wants_33 : e_lbl 458 = kX9_wants_33 := rfl
set_option maxRecDepth 20000 in
theorem lX9_wants_72 : e_lbl 459 = kX9_wants_72 := rfl
set_option maxRecDepth 20000 in
theorem lX9_wants_73 : e_lbl 460 = kX9_wants_73 := rfl
set_option maxRecDepth 20000 in
theorem lX9_wants_113 : e_lbl 461 = kX9_wants_113 := rfl
set_option maxRecDepth 20000 in
theorem lX9_wants_114 : e_lbl 462 = kX9_wants_114 := rfl
set_option maxRecDepth 20000 in
theorem lX9_wants_123 : e_lbl 463 = kX9_wants_123 := rfl
set_option maxRecDepth 20000 in
theorem lX9_wants_131 : e_lbl 464 = kX9_wants_131 := rfl
set_option maxRecDepth 20000 in
theorem lX9_wants_132 : e_lbl 465 = kX9_wants_132 := rfl
set_option maxRecDepth 20000 in
theorem lX9_goes_0 : e_lbl 466 = kX9_goes_0 := rfl
set_option maxRecDepth 20000 in
theorem lX9_goes_95 : e_lbl 467 = kX9_goes_95 := rfl
set_option maxRecDepth 20000 in
theorem lX9_goes_96 : e_lbl 468 = kX9_goes_96 := rfl
set_option maxRecDepth 20000 in
theorem lX9_goes_99 : e_lbl 469 = kX9_goes_99 := rfl
set_option maxRecDepth 20000 in
theorem lX9_regulates_0 : e_lbl 470 = kX9_regulates_0 := rfl
set_option maxRecDepth 20000 in
theorem lX9_regulates_4 : e_lbl 471 = kX9_regulates_4 := rfl
set_option maxRecDepth 20000 in
theorem lX9_regulates_44 : e_lbl 472 = kX9_regulates_44 := rfl
set_option maxRecDepth 20000 in
theorem lX9_regulates_61 : e_lbl 473 = kX9_regulates_61 := rfl
set_option maxRecDepth 20000 in
theorem lX9_regulates_70 : e_lbl 474 = kX9_regulates_70 := rfl
set_option maxRecDepth 20000 in
theorem lX9_regulates_121 : e_lbl 475 = kX9_regulates_121 := rfl
set_option maxRecDepth 20000 in
theorem lX9_regulates_127 : e_lbl 476 = kX9_regulates_127 := rfl
set_option maxRecDepth 20000 in
theorem lX9_passes_0 : e_lbl 477 = kX9_passes_0 := rfl
set_option maxRecDepth 20000 in
theorem lX9_passes_26 : e_lbl 478 = kX9_passes_26 := rfl
set_option maxRecDepth 20000 in
theorem lX9_passes_28 : e_lbl 479 = kX9_passes_28 := rfl
set_option maxRecDepth 20000 in
theorem lX9_passes_80 : e_lbl 480 = kX9_passes_80 := rfl
set_option maxRecDepth 20000 in
theorem lX9_passes_81 : e_lbl 481 = kX9_passes_81 := rfl
set_option maxRecDepth 20000 in
theorem lX9_passes_84 : e_lbl 482 = kX9_passes_84 := rfl
set_option maxRecDepth 20000 in
theorem lX9_passes_90 : e_lbl 483 = kX9_passes_90 := rfl
set_option maxRecDepth 20000 in
theorem lX9_passes_108 : e_lbl 484 = kX9_passes_108 := rfl
set_option maxRecDepth 20000 in
theorem lX9_passes_109 : e_lbl 485 = kX9_passes_109 := rfl
set_option maxRecDepth 20000 in
theorem lX9_passes_138 : e_lbl 486 = kX9_passes_138 := rfl
set_option maxRecDepth 20000 in
theorem lX9_passes_142 : e_lbl 487 = kX9_passes_142 := rfl
set_option maxRecDepth 20000 in
theorem lX9_passes_143 : e_lbl 488 = kX9_passes_143 := rfl
set_option maxRecDepth 20000 in
theorem lX9_run_0 : e_lbl 489 = kX9_run_0 := rfl
set_option maxRecDepth 20000 in
theorem lX9_run_18 : e_lbl 490 = kX9_run_18 := rfl
set_option maxRecDepth 20000 in
theorem lX9_run_26 : e_lbl 491 = kX9_run_26 := rfl
set_option maxRecDepth 20000 in
theorem lX9_run_44 : e_lbl 492 = kX9_run_44 := rfl
set_option maxRecDepth 20000 in
theorem lX9_minute_0 : e_lbl 493 = kX9_minute_0 := rfl
set_option maxRecDepth 20000 in
theorem lX9_voltage_0 : e_lbl 494 = kX9_voltage_0 := rfl
set_option maxRecDepth 20000 in
theorem lX9_voltage_19 : e_lbl 495 = kX9_voltage_19 := rfl
set_option maxRecDepth 20000 in
theorem lX9_activeFlow_0 : e_lbl 496 = kX9_activeFlow_0 := rfl
set_option maxRecDepth 20000 in
theorem lX9_activeFlow_15 : e_lbl 497 = kX9_activeFlow_15 := rfl
set_option maxRecDepth 20000 in
theorem lX9_reactiveFlow_0 : e_lbl 498 = kX9_reactiveFlow_0 := rfl
set_option maxRecDepth 20000 in
theorem lX9_reactiveFlow_15 : e_lbl 499 = kX9_reactiveFlow_15 := rfl
set_option maxRecDepth 20000 in
theorem lX9_told_0 : e_lbl 500 = kX9_told_0 := rfl
set_option maxRecDepth 20000 in
theorem lX9_told_22 : e_lbl 501 = kX9_told_22 := rfl
set_option maxRecDepth 20000 in
theorem lX9_told_31 : e_lbl 502 = kX9_told_31 := rfl
set_option maxRecDepth 20000 in
theorem lX9_tap_0 : e_lbl 503 = kX9_tap_0 := rfl
set_option maxRecDepth 20000 in
theorem lX9_timer_0 : e_lbl 504 = kX9_timer_0 := rfl
set_option maxRecDepth 20000 in
theorem lX9_isLocked_0 : e_lbl 505 = kX9_isLocked_0 := rfl
set_option maxRecDepth 20000 in
theorem lX9_steps_0 : e_lbl 506 = kX9_steps_0 := rfl
set_option maxRecDepth 20000 in
theorem lX9_isOn_0 : e_lbl 507 = kX9_isOn_0 := rfl
set_option maxRecDepth 20000 in
theorem lX9_violations_0 : e_lbl 508 = kX9_violations_0 := rfl
set_option maxRecDepth 20000 in
theorem lX9_apart_0 : e_lbl 509 = kX9_apart_0 := rfl
set_option maxRecDepth 20000 in
theorem lX9_apart_11 : e_lbl 510 = kX9_apart_11 := rfl
set_option maxRecDepth 20000 in
theorem lX9_apart_14 : e_lbl 511 = kX9_apart_14 := rfl
set_option maxRecDepth 20000 in
theorem lX9_best_0 : e_lbl 512 = kX9_best_0 := rfl
set_option maxRecDepth 20000 in
theorem lX9_best_9 : e_lbl 513 = kX9_best_9 := rfl
set_option maxRecDepth 20000 in
theorem lX9_best_68 : e_lbl 514 = kX9_best_68 := rfl
set_option maxRecDepth 20000 in
theorem lX9_best_74 : e_lbl 515 = kX9_best_74 := rfl
set_option maxRecDepth 20000 in
theorem lX9_plans_0 : e_lbl 516 = kX9_plans_0 := rfl
set_option maxRecDepth 20000 in
theorem lX9_plans_5 : e_lbl 517 = kX9_plans_5 := rfl
set_option maxRecDepth 20000 in
theorem lX9_plans_15 : e_lbl 518 = kX9_plans_15 := rfl
set_option maxRecDepth 20000 in
theorem lX9_plans_44 : e_lbl 519 = kX9_plans_44 := rfl
set_option maxRecDepth 20000 in
theorem lX9_plans_48 : e_lbl 520 = kX9_plans_48 := rfl
set_option maxRecDepth 20000 in
theorem lX9_plans_57 : e_lbl 521 = kX9_plans_57 := rfl
set_option maxRecDepth 20000 in
theorem lX9_plans_68 : e_lbl 522 = kX9_plans_68 := rfl
set_option maxRecDepth 20000 in
theorem lX9_plans_90 : e_lbl 523 = kX9_plans_90 := rfl
set_option maxRecDepth 20000 in
theorem lX9_plans_115 : e_lbl 524 = kX9_plans_115 := rfl
set_option maxRecDepth 20000 in
theorem lX9_plans_117 : e_lbl 525 = kX9_plans_117 := rfl
set_option maxRecDepth 20000 in
theorem lX9_plans_130 : e_lbl 526 = kX9_plans_130 := rfl
set_option maxRecDepth 20000 in
theorem lX9_plans_134 : e_lbl 527 = kX9_plans_134 := rfl
set_option maxRecDepth 20000 in
theorem lX9_plans_135 : e_lbl 528 = kX9_plans_135 := rfl
set_option maxRecDepth 20000 in
theorem lX9_plans_143 : e_lbl 529 = kX9_plans_143 := rfl
set_option maxRecDepth 20000 in
theorem lX9_plans_156 : e_lbl 530 = kX9_plans_156 := rfl
set_option maxRecDepth 20000 in
theorem lX9_plans_157 : e_lbl 531 = kX9_plans_157 := rfl
set_option maxRecDepth 20000 in
theorem lX9_plans_164 : e_lbl 532 = kX9_plans_164 := rfl
set_option maxRecDepth 20000 in
theorem lX9_lacksPlan_0 : e_lbl 533 = kX9_lacksPlan_0 := rfl
set_option maxRecDepth 20000 in
theorem lX9_lacksPlan_15 : e_lbl 534 = kX9_lacksPlan_15 := rfl
set_option maxRecDepth 20000 in
theorem lX9_lacksPlan_27 : e_lbl 535 = kX9_lacksPlan_27 := rfl
set_option maxRecDepth 20000 in
theorem lX9_lacksPlan_29 : e_lbl 536 = kX9_lacksPlan_29 := rfl
set_option maxRecDepth 20000 in
theorem lX9_planSteps_0 : e_lbl 537 = kX9_planSteps_0 := rfl
set_option maxRecDepth 20000 in
theorem lX9_planSteps_16 : e_lbl 538 = kX9_planSteps_16 := rfl
set_option maxRecDepth 20000 in
theorem lX9_planTap_0 : e_lbl 539 = kX9_planTap_0 := rfl
set_option maxRecDepth 20000 in
theorem lX9_planTap_18 : e_lbl 540 = kX9_planTap_18 := rfl
set_option maxRecDepth 20000 in
theorem lX9_planTap_20 : e_lbl 541 = kX9_planTap_20 := rfl
set_option maxRecDepth 20000 in
theorem lX9_planTap_31 : e_lbl 542 = kX9_planTap_31 := rfl
set_option maxRecDepth 20000 in
theorem lX9_planTap_46 : e_lbl 543 = kX9_planTap_46 := rfl
set_option maxRecDepth 20000 in
theorem lX9_planTap_68 : e_lbl 544 = kX9_planTap_68 := rfl
set_option maxRecDepth 20000 in
theorem lX9_undo_0 : e_lbl 545 = kX9_undo_0 := rfl
set_option maxRecDepth 20000 in
theorem lX9_undo_14 : e_lbl 546 = kX9_undo_14 := rfl
set_option maxRecDepth 20000 in
theorem lX9_undo_26 : e_lbl 547 = kX9_undo_26 := rfl
set_option maxRecDepth 20000 in
theorem lX9_undo_60 : e_lbl 548 = kX9_undo_60 := rfl
set_option maxRecDepth 20000 in
theorem lX9_errorCount_0 : e_lbl 549 = kX9_errorCount_0 := rfl
set_option maxRecDepth 20000 in
theorem lX9_errorCount_21 : e_lbl 550 = kX9_errorCount_21 := rfl
set_option maxRecDepth 20000 in
theorem lX9_errorCount_27 : e_lbl 551 = kX9_errorCount_27 := rfl
set_option maxRecDepth 20000 in
theorem lX9_mixed_0 : e_lbl 552 = kX9_mixed_0 := rfl
set_option maxRecDepth 20000 in
theorem lX9_digest_0 : e_lbl 553 = kX9_digest_0 := rfl
set_option maxRecDepth 20000 in
theorem lX9_digest_10 : e_lbl 554 = kX9_digest_10 := rfl
set_option maxRecDepth 20000 in
theorem lX9_digest_34 : e_lbl 555 = kX9_digest_34 := rfl
set_option maxRecDepth 20000 in
theorem lX9_digest_66 : e_lbl 556 = kX9_digest_66 := rfl
set_option maxRecDepth 20000 in
theorem lX9_digest_92 : e_lbl 557 = kX9_digest_92 := rfl
set_option maxRecDepth 20000 in
theorem lX9_digest_106 : e_lbl 558 = kX9_digest_106 := rfl
set_option maxRecDepth 20000 in
theorem lX9_digest_216 : e_lbl 559 = kX9_digest_216 := rfl
set_option maxRecDepth 20000 in
theorem lX9_digest_264 : e_lbl 560 = kX9_digest_264 := rfl
set_option maxRecDepth 20000 in
theorem lX9_digest_270 : e_lbl 561 = kX9_digest_270 := rfl
def e_mNs : List MethodName := [x, yX0_init, yX0_copyFrom, yX0_isByTime, yX0_isByFlow, yX0_isOnByTime, yX0_supply, yX0_countMinute, yX0_isDue, yX0_change, yX1_init, yX1_copyFrom, yX1_hour, yX1_releaseLocks, yX1_switchBanksByTime, yX1_switchBankByFlow, yX1_moveRegulators, yX2_init, yX2_solve, yX2_sumLoads, yX2_findVoltages, yX2_countBadNodes, yX3_init, yX3_save, yX3_dropOldest, yX3_restore, yX4_init, yX4_copyFrom, yX5_init, yX5_makePlan, yX5_countStepsAfter, yX5_countStepsFrom, yX5_chooseTaps, yX5_bestPlace, yX6_init, yX6_readItems, yX6_readItem, yX6_readNumber, yX6_isNext, yX6_expect, yX6_skipSpaces, yX7_init, yX7_copyFrom, yX7_release, yX7_wantedDirection, yX7_countMinute, yX7_isDue, yX7_makeStep, yX8_init, yX8_setSource, yX8_addNode, yX8_setLoad, yX8_setFactor, yX8_append, yX8_clearText, yX8_parseProfile, yX8_addRegulator, yX8_setTap, yX8_addBank, yX8_switchBank, yX8_run, yX8_minute, yX8_passMinute, yX8_voltage, yX8_activeFlow, yX8_reactiveFlow, yX8_tap, yX8_timer, yX8_isLocked, yX8_steps, yX8_isOn, yX8_violations, yX8_planSteps, yX8_planTap, yX8_undo, yX8_errorCount, yX8_digest, yX8_mixRegulator, yX8_mixBank, yX8_mix, yX8_isWithin, yX8_isHour, yX8_isLoad, yX8_areBankSettings, yX8_bit, yX8_hasNode, yX8_regulatorFault, yX8_bankFault, yX8_isErrorCode, yX8_refuse, yX9_init, yX9_in, yX9_error, yX9_isNode, yX9_spot, yX9_of, yX9_put, yX9_save, yX9_setSource, yX9_isLoad, yX9_addNode, yX9_setLoad, yX9_setFactor, yX9_append, yX9_clearText, yX9_next, yX9_takes, yX9_number, yX9_readsItem, yX9_parseProfile, yX9_addRegulator, yX9_lacks, yX9_setTap, yX9_addBank, yX9_switchBank, yX9_hour, yX9_isTime, yX9_compute, yX9_outside, yX9_computeNow, yX9_unlocks, yX9_switches, yX9_wants, yX9_goes, yX9_regulates, yX9_passes, yX9_run, yX9_minute, yX9_voltage, yX9_activeFlow, yX9_reactiveFlow, yX9_told, yX9_tap, yX9_timer, yX9_isLocked, yX9_steps, yX9_isOn, yX9_violations, yX9_apart, yX9_best, yX9_plans, yX9_lacksPlan, yX9_planSteps, yX9_planTap, yX9_undo, yX9_errorCount, yX9_mixed, yX9_digest]
def e_mN (n : Nat) : MethodName := e_mNs.getD n x
def e_mBs : List ByteArray := [code, cX0_init, cX0_copyFrom, cX0_isByTime, cX0_isByFlow, cX0_isOnByTime, cX0_supply, cX0_countMinute, cX0_isDue, cX0_change, cX1_init, cX1_copyFrom, cX1_hour, cX1_releaseLocks, cX1_switchBanksByTime, cX1_switchBankByFlow, cX1_moveRegulators, cX2_init, cX2_solve, cX2_sumLoads, cX2_findVoltages, cX2_countBadNodes, cX3_init, cX3_save, cX3_dropOldest, cX3_restore, cX4_init, cX4_copyFrom, cX5_init, cX5_makePlan, cX5_countStepsAfter, cX5_countStepsFrom, cX5_chooseTaps, cX5_bestPlace, cX6_init, cX6_readItems, cX6_readItem, cX6_readNumber, cX6_isNext, cX6_expect, cX6_skipSpaces, cX7_init, cX7_copyFrom, cX7_release, cX7_wantedDirection, cX7_countMinute, cX7_isDue, cX7_makeStep, cX8_init, cX8_setSource, cX8_addNode, cX8_setLoad, cX8_setFactor, cX8_append, cX8_clearText, cX8_parseProfile, cX8_addRegulator, cX8_setTap, cX8_addBank, cX8_switchBank, cX8_run, cX8_minute, cX8_passMinute, cX8_voltage, cX8_activeFlow, cX8_reactiveFlow, cX8_tap, cX8_timer, cX8_isLocked, cX8_steps, cX8_isOn, cX8_violations, cX8_planSteps, cX8_planTap, cX8_undo, cX8_errorCount, cX8_digest, cX8_mixRegulator, cX8_mixBank, cX8_mix, cX8_isWithin, cX8_isHour, cX8_isLoad, cX8_areBankSettings, cX8_bit, cX8_hasNode, cX8_regulatorFault, cX8_bankFault, cX8_isErrorCode, cX8_refuse, cX9_init, cX9_in, cX9_error, cX9_isNode, cX9_spot, cX9_of, cX9_put, cX9_save, cX9_setSource, cX9_isLoad, cX9_addNode, cX9_setLoad, cX9_setFactor, cX9_append, cX9_clearText, cX9_next, cX9_takes, cX9_number, cX9_readsItem, cX9_parseProfile, cX9_addRegulator, cX9_lacks, cX9_setTap, cX9_addBank, cX9_switchBank, cX9_hour, cX9_isTime, cX9_compute, cX9_outside, cX9_computeNow, cX9_unlocks, cX9_switches, cX9_wants, cX9_goes, cX9_regulates, cX9_passes, cX9_run, cX9_minute, cX9_voltage, cX9_activeFlow, cX9_reactiveFlow, cX9_told, cX9_tap, cX9_timer, cX9_isLocked, cX9_steps, cX9_isOn, cX9_violations, cX9_apart, cX9_best, cX9_plans, cX9_lacksPlan, cX9_planSteps, cX9_planTap, cX9_undo, cX9_errorCount, cX9_mixed, cX9_digest]
def e_mB (n : Nat) : ByteArray := e_mBs.getD n code
def e_mLs : List Nat := [4, 1, 2, 1, 1, 2, 4, 3, 1, 1, 2, 3, 1, 2, 4, 5, 6, 1, 2, 9, 10, 4, 2, 2, 3, 2, 1, 2, 1, 4, 6, 3, 5, 7, 1, 4, 6, 5, 2, 2, 1, 1, 2, 1, 3, 2, 1, 1, 1, 3, 6, 4, 4, 2, 2, 2, 7, 6, 8, 6, 4, 1, 3, 2, 2, 2, 3, 3, 3, 3, 3, 1, 3, 4, 1, 2, 4, 5, 5, 3, 3, 1, 2, 3, 1, 2, 2, 2, 1, 2, 2, 3, 2, 2, 2, 3, 4, 2, 3, 2, 7, 4, 4, 2, 2, 1, 3, 6, 5, 3, 6, 3, 5, 9, 5, 1, 5, 11, 3, 1, 2, 4, 4, 3, 5, 3, 4, 1, 2, 2, 2, 6, 2, 2, 2, 2, 2, 1, 2, 7, 8, 3, 5, 6, 2, 2, 4, 4]
def e_mL (n : Nat) : Nat := e_mLs.getD n 0
def e_mRs : List (Option FieldType) := [some .boolean, none, none, some .boolean, some .boolean, some .boolean, some .int, none, some .boolean, none, none, none, some .int, none, none, some .boolean, some .boolean, none, none, none, none, some .int, none, none, none, none, none, none, none, some .boolean, none, none, some .boolean, some .int, none, some .int, none, some .int, some .boolean, none, none, none, none, none, some .int, none, some .boolean, none, none, some .int, some .int, some .int, some .int, some .int, some .int, some .int, some .int, some .int, some .int, some .int, some .int, some .int, some .boolean, some .int, some .int, some .int, some .int, some .int, some .int, some .int, some .int, some .int, some .int, some .int, some .int, some .int, some .long, some .long, some .long, some .long, some .boolean, some .boolean, some .boolean, some .boolean, some .int, some .boolean, some .int, some .int, some .boolean, some .int, none, some .boolean, some .int, some .boolean, some .int, some .int, none, none, some .int, some .boolean, some .int, some .int, some .int, some .int, some .int, some .int, some .boolean, some .int, some .boolean, some .int, some .int, some .int, some .int, some .int, some .int, some .int, some .boolean, none, some .int, none, none, some .boolean, some .int, none, some .boolean, some .int, some .int, some .int, some .int, some .int, some .int, some .int, some .int, some .int, some .int, some .int, some .int, some .int, some .int, some .int, some .boolean, some .int, some .int, some .int, some .int, some .int, some .long, some .long]
def e_mR (n : Nat) : Option FieldType := e_mRs.getD n none
def e_cns : List String := [RX0, RX1, RX2, RX3, RX4, RX5, RX6, RX7, RX8, RX9, "FeederControlLaw", RJ9]
def e_cn (n : Nat) : String := e_cns.getD n ""
def e_mos : List Nat := [10, 0, 0, 0, 0, 0, 0, 0, 0, 0, 1, 1, 1, 1, 1, 1, 1, 2, 2, 2, 2, 2, 3, 3, 3, 3, 4, 4, 5, 5, 5, 5, 5, 5, 6, 6, 6, 6, 6, 6, 6, 7, 7, 7, 7, 7, 7, 7, 8, 8, 8, 8, 8, 8, 8, 8, 8, 8, 8, 8, 8, 8, 8, 8, 8, 8, 8, 8, 8, 8, 8, 8, 8, 8, 8, 8, 8, 8, 8, 8, 8, 8, 8, 8, 8, 8, 8, 8, 8, 8, 9, 9, 9, 9, 9, 9, 9, 9, 9, 9, 9, 9, 9, 9, 9, 9, 9, 9, 9, 9, 9, 9, 9, 9, 9, 9, 9, 9, 9, 9, 9, 9, 9, 9, 9, 9, 9, 9, 9, 9, 9, 9, 9, 9, 9, 9, 9, 9, 9, 9, 9, 9, 9, 9, 9, 9, 9, 9]
def e_mo (n : Nat) : Nat := e_mos.getD n 99
def e_mO (n : Nat) : String := e_cn (e_mo n)
def e_mPs : List Nat := [9, 0, 1, 0, 0, 1, 2, 1, 0, 0, 0, 1, 0, 0, 0, 1, 2, 0, 1, 3, 3, 1, 0, 1, 0, 1, 0, 1, 0, 2, 3, 1, 1, 2, 0, 1, 1, 2, 1, 1, 0, 0, 1, 0, 2, 1, 0, 0, 0, 1, 4, 3, 2, 1, 0, 0, 5, 2, 6, 2, 1, 0, 0, 1, 1, 1, 1, 1, 1, 1, 1, 0, 1, 2, 0, 1, 0, 2, 2, 2, 3, 1, 2, 3, 1, 1, 1, 1, 1, 1, 0, 3, 1, 1, 2, 2, 3, 0, 1, 2, 4, 3, 2, 1, 0, 0, 1, 2, 0, 0, 5, 2, 2, 6, 2, 0, 2, 4, 0, 0, 0, 0, 1, 2, 1, 0, 1, 0, 1, 1, 1, 4, 1, 1, 1, 1, 1, 0, 2, 2, 1, 1, 1, 2, 0, 1, 2, 0]
def e_mP (n : Nat) : Nat := e_mPs.getD n 99
def e_mKs : List Nat := [9, 1, 2, 2, 2, 2, 2, 2, 2, 2, 1, 2, 2, 2, 2, 2, 2, 1, 2, 2, 2, 2, 1, 2, 2, 2, 1, 2, 1, 2, 2, 2, 2, 2, 1, 2, 2, 2, 2, 2, 2, 1, 2, 2, 2, 2, 2, 2, 1, 2, 2, 2, 2, 2, 2, 2, 2, 2, 2, 2, 2, 2, 2, 2, 2, 2, 2, 2, 2, 2, 2, 2, 2, 2, 2, 2, 2, 0, 0, 0, 0, 0, 0, 0, 0, 2, 2, 2, 0, 2, 1, 0, 2, 2, 0, 2, 2, 2, 2, 0, 2, 2, 2, 2, 2, 2, 2, 2, 2, 2, 2, 2, 2, 2, 2, 2, 2, 2, 2, 2, 2, 2, 2, 2, 2, 2, 2, 2, 2, 2, 2, 2, 2, 2, 2, 2, 2, 2, 0, 2, 2, 2, 2, 2, 2, 2, 0, 2]
def e_mK (n : Nat) : Nat := e_mKs.getD n 99
def e_mAs : List Nat := [1, 1, 2, 1, 1, 2, 3, 2, 1, 1, 1, 2, 1, 1, 1, 2, 3, 1, 2, 4, 4, 2, 1, 2, 1, 2, 1, 2, 1, 3, 4, 2, 2, 3, 1, 2, 2, 3, 2, 2, 1, 1, 2, 1, 3, 2, 1, 1, 1, 2, 5, 4, 3, 2, 1, 1, 6, 3, 7, 3, 2, 1, 1, 2, 2, 2, 2, 2, 2, 2, 2, 1, 2, 3, 1, 2, 1, 2, 2, 2, 3, 1, 2, 3, 1, 2, 2, 2, 1, 2, 1, 3, 2, 2, 2, 3, 4, 1, 2, 2, 5, 4, 3, 2, 1, 1, 2, 3, 1, 1, 6, 3, 3, 7, 3, 1, 3, 5, 1, 1, 1, 1, 2, 3, 2, 1, 2, 1, 2, 2, 2, 5, 2, 2, 2, 2, 2, 1, 2, 3, 2, 2, 2, 3, 1, 2, 2, 1]
def e_mA (n : Nat) : Nat := e_mAs.getD n 0
def e_mFs : List Nat := [7, 1, 0, 0, 0, 0, 1, 0, 0, 0, 3, 2, 1, 1, 2, 1, 1, 1, 3, 2, 1, 1, 4, 3, 0, 3, 2, 1, 2, 4, 3, 1, 2, 1, 1, 4, 3, 1, 1, 2, 0, 1, 0, 0, 0, 0, 0, 0, 5, 4, 4, 4, 4, 3, 0, 5, 4, 4, 4, 4, 5, 0, 4, 4, 4, 4, 3, 3, 3, 3, 3, 0, 5, 5, 4, 3, 4, 1, 1, 0, 0, 1, 1, 2, 0, 1, 2, 2, 1, 2, 1, 0, 0, 1, 0, 1, 1, 0, 1, 1, 2, 2, 1, 1, 0, 0, 1, 1, 2, 3, 2, 2, 3, 2, 3, 0, 2, 3, 1, 4, 2, 2, 2, 2, 3, 5, 6, 0, 5, 5, 5, 3, 4, 4, 4, 4, 4, 0, 0, 1, 4, 5, 6, 6, 1, 1, 0, 5]
def e_mF (n : Nat) : Nat := e_mFs.getD n 0
def e_mQs : List Nat := [171, 12, 0, 0, 0, 0, 21, 0, 0, 0, 52, 42, 40, 20, 60, 22, 22, 12, 72, 44, 40, 22, 73, 64, 0, 64, 32, 21, 32, 97, 72, 40, 66, 40, 12, 87, 62, 22, 20, 41, 0, 12, 0, 0, 0, 0, 0, 0, 94, 85, 85, 85, 85, 63, 0, 110, 85, 85, 85, 85, 115, 0, 93, 93, 93, 93, 64, 64, 64, 64, 64, 0, 120, 120, 85, 63, 93, 22, 22, 0, 0, 22, 22, 42, 0, 22, 43, 43, 22, 42, 12, 0, 0, 22, 0, 21, 21, 0, 22, 22, 44, 44, 22, 22, 0, 0, 20, 22, 47, 71, 44, 43, 65, 44, 65, 0, 43, 67, 22, 97, 44, 44, 43, 44, 66, 117, 139, 0, 117, 117, 117, 65, 90, 90, 90, 90, 90, 0, 0, 21, 97, 124, 146, 146, 21, 22, 0, 117]
def e_mQ (n : Nat) : Nat := e_mQs.getD n 0
def e_mEs : List Nat := [27, 31, 32, 33, 36, 39, 45, 50, 57, 60, 63, 68, 71, 72, 75, 79, 83, 87, 88, 89, 92, 97, 101, 104, 106, 109, 110, 111, 112, 113, 118, 125, 132, 136, 140, 141, 144, 149, 156, 159, 163, 165, 166, 167, 168, 174, 178, 181, 185, 186, 188, 192, 195, 198, 201, 202, 204, 210, 213, 217, 222, 227, 228, 237, 239, 241, 243, 246, 249, 252, 255, 258, 259, 263, 268, 270, 273, 280, 282, 284, 285, 288, 289, 292, 301, 304, 305, 309, 313, 314, 316, 319, 322, 323, 324, 325, 326, 327, 333, 335, 338, 344, 347, 350, 353, 354, 358, 363, 371, 379, 387, 391, 395, 399, 409, 413, 414, 420, 436, 441, 442, 445, 455, 466, 470, 477, 489, 493, 494, 496, 498, 500, 503, 504, 505, 506, 507, 508, 509, 512, 516, 533, 537, 539, 545, 549, 552, 553]
def e_mE (n : Nat) : Nat := e_mEs.getD n 999
def e_mCs : List Nat := [99, 0, 0, 0, 0, 0, 0, 0, 0, 0, 1, 1, 1, 1, 1, 1, 1, 2, 2, 2, 2, 2, 3, 3, 3, 3, 4, 4, 5, 5, 5, 5, 5, 5, 6, 6, 6, 6, 6, 6, 6, 7, 7, 7, 7, 7, 7, 7, 8, 8, 8, 8, 8, 8, 8, 8, 8, 8, 8, 8, 8, 8, 8, 8, 8, 8, 8, 8, 8, 8, 8, 8, 8, 8, 8, 8, 8, 8, 8, 8, 8, 8, 8, 8, 8, 8, 8, 8, 8, 8, 9, 9, 9, 9, 9, 9, 9, 9, 9, 9, 9, 9, 9, 9, 9, 9, 9, 9, 9, 9, 9, 9, 9, 9, 9, 9, 9, 9, 9, 9, 9, 9, 9, 9, 9, 9, 9, 9, 9, 9, 9, 9, 9, 9, 9, 9, 9, 9, 9, 9, 9, 9, 9, 9, 9, 9, 9, 9]
def e_mC (n : Nat) : Nat := e_mCs.getD n 99
def e_kds : List (Nat × Nat) := [(99, 0), (8, 7), (1, 6), (10, 24), (13, 9), (4, 6), (7, 12), (0, 8), (4, 6), (7, 12), (0, 8), (4, 6), (7, 12), (0, 8), (4, 6), (7, 12), (0, 8), (4, 6), (7, 12), (0, 8), (4, 6), (7, 12), (0, 8), (4, 6), (7, 12), (0, 8), (4, 6), (7, 12), (0, 8), (4, 6), (7, 12), (0, 8), (2, 3), (10, 9), (10, 9), (10, 9), (5, 5), (2, 3), (10, 9), (10, 9), (10, 9), (14, 24), (10, 33), (10, 33), (10, 33), (10, 33), (10, 33), (10, 33), (10, 33), (10, 33), (10, 33), (10, 33), (10, 33), (10, 33), (10, 33), (10, 33), (10, 33), (10, 33), (10, 33), (10, 33), (10, 33), (10, 33), (10, 33), (10, 33), (10, 33), (10, 33), (10, 33), (10, 24), (6, 4), (11, 120), (3, 2), (12, 3), (1, 6), (10, 24), (13, 9), (4, 6), (7, 12), (0, 8), (4, 6), (7, 12), (0, 8), (4, 6), (7, 12), (0, 8), (4, 6), (7, 12), (0, 8), (4, 6), (7, 12), (0, 8), (4, 6), (7, 12), (0, 8), (4, 6), (7, 12), (0, 8), (4, 6), (7, 12), (0, 8), (4, 6), (7, 12), (0, 8), (1, 6), (10, 24), (13, 9), (4, 6), (7, 12), (0, 8), (4, 6), (7, 12), (0, 8), (4, 6), (7, 12), (0, 8), (4, 6), (7, 12), (0, 8), (4, 6), (7, 12), (0, 8), (4, 6), (7, 12), (0, 8), (4, 6), (7, 12), (0, 8), (4, 6), (7, 12), (0, 8), (4, 6), (7, 12), (0, 8), (1, 6), (10, 24), (13, 9), (4, 6), (7, 12), (0, 8), (4, 6), (7, 12), (0, 8), (4, 6), (7, 12), (0, 8), (4, 6), (7, 12), (0, 8), (4, 6), (7, 12), (0, 8), (4, 6), (7, 12), (0, 8), (4, 6), (7, 12), (0, 8), (4, 6), (7, 12), (0, 8), (4, 6), (7, 12), (0, 8), (10, 24), (10, 5), (9, 12), (10, 220), (10, 660), (10, 120), (10, 7), (10, 9), (10, 9), (10, 9), (10, 24), (10, 792)]
def e_kd (n : Nat) : Nat × Nat := e_kds.getD n (99, 0)
def e_irs : List (List Bool) := [[false, false, false, false, false, false, false, false], [false, false, false, false, true, true], [true, true, true], [true, false], [false, false, false, false, true, true], [true, true, true, true, false], [true, false, false, false], [false, false, false, false, false, false, false, false, false, false, false, false], [true, true, true, true, true, true, true], [true, true, false, true, false, true, true, true, true, false, true, true]]
def e_isR (a k : Nat) : Bool := (e_irs.getD a []).getD k false
def e_ns : List Nat := [8, 6, 3, 2, 6, 5, 4, 12, 7, 12]
