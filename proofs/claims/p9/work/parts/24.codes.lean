/-! THE PROGRAM: the words of its code (laid by wip/gen/gen.py) -/
set_option maxRecDepth 100000 in
theorem pg_w0 : ev_cw pg_y0 ∈ pg_TB := pg_mem (List.mem_append_right _ (List.mem_append_right _ (List.mem_append_right _ (List.mem_append_left _ (List.mem_of_getElem? (i := 14) rfl))))) rfl
set_option maxRecDepth 100000 in
theorem pg_w1 : ev_cw pg_y1 ∈ pg_TB := pg_mem (List.mem_append_right _ (List.mem_append_left _ (List.mem_of_getElem? (i := 181) rfl))) rfl
set_option maxRecDepth 100000 in
theorem pg_w2 : ev_cw pg_y2 ∈ pg_TB := pg_mem (List.mem_append_right _ (List.mem_append_left _ (List.mem_of_getElem? (i := 193) rfl))) rfl
set_option maxRecDepth 100000 in
theorem pg_w3 : ev_cw pg_y3 ∈ pg_TB := pg_mem (List.mem_append_right _ (List.mem_append_right _ (List.mem_append_left _ (List.mem_of_getElem? (i := 223) rfl)))) rfl
set_option maxRecDepth 100000 in
theorem pg_w4 : ev_cw pg_y4 ∈ pg_TB := pg_mem (List.mem_append_right _ (List.mem_append_right _ (List.mem_append_left _ (List.mem_of_getElem? (i := 203) rfl)))) rfl
set_option maxRecDepth 100000 in
theorem pg_w5 : ev_cw pg_y5 ∈ pg_TB := pg_mem (List.mem_append_right _ (List.mem_append_left _ (List.mem_of_getElem? (i := 75) rfl))) rfl
set_option maxRecDepth 100000 in
theorem pg_w6 : ev_cw pg_y6 ∈ pg_TB := pg_mem (List.mem_append_right _ (List.mem_append_right _ (List.mem_append_left _ (List.mem_of_getElem? (i := 239) rfl)))) rfl
set_option maxRecDepth 100000 in
theorem pg_w7 : ev_cw pg_y7 ∈ pg_TB := pg_mem (List.mem_append_right _ (List.mem_append_left _ (List.mem_of_getElem? (i := 139) rfl))) rfl
set_option maxRecDepth 100000 in
theorem pg_w8 : ev_cw pg_y8 ∈ pg_TB := pg_mem (List.mem_append_right _ (List.mem_append_left _ (List.mem_of_getElem? (i := 99) rfl))) rfl
set_option maxRecDepth 100000 in
theorem pg_w9 : ev_cw pg_y9 ∈ pg_TB := pg_mem (List.mem_append_right _ (List.mem_append_right _ (List.mem_append_left _ (List.mem_of_getElem? (i := 157) rfl)))) rfl
set_option maxRecDepth 100000 in
theorem pg_w10 : ev_cw pg_y10 ∈ pg_TB := pg_mem (List.mem_append_right _ (List.mem_append_right _ (List.mem_append_left _ (List.mem_of_getElem? (i := 114) rfl)))) rfl
set_option maxRecDepth 100000 in
theorem pg_w11 : ev_cw pg_y11 ∈ pg_TB := pg_mem (List.mem_append_right _ (List.mem_append_left _ (List.mem_of_getElem? (i := 87) rfl))) rfl
set_option maxRecDepth 100000 in
theorem pg_w12 : ev_cw pg_y12 ∈ pg_TB := pg_mem (List.mem_append_right _ (List.mem_append_left _ (List.mem_of_getElem? (i := 83) rfl))) rfl
set_option maxRecDepth 100000 in
theorem pg_w13 : ev_cw pg_y13 ∈ pg_TB := pg_mem (List.mem_append_right _ (List.mem_append_right _ (List.mem_append_left _ (List.mem_of_getElem? (i := 105) rfl)))) rfl
set_option maxRecDepth 100000 in
theorem pg_w14 : ev_cw pg_y14 ∈ pg_TB := pg_mem (List.mem_append_right _ (List.mem_append_right _ (List.mem_append_right _ (List.mem_append_left _ (List.mem_of_getElem? (i := 49) rfl))))) rfl
set_option maxRecDepth 100000 in
theorem pg_w15 : ev_cw pg_y15 ∈ pg_TB := pg_mem (List.mem_append_right _ (List.mem_append_left _ (List.mem_of_getElem? (i := 237) rfl))) rfl
set_option maxRecDepth 100000 in
theorem pg_w16 : ev_cw pg_y16 ∈ pg_TB := pg_mem (List.mem_append_right _ (List.mem_append_left _ (List.mem_of_getElem? (i := 131) rfl))) rfl
set_option maxRecDepth 100000 in
theorem pg_w17 : ev_cw pg_y17 ∈ pg_TB := pg_mem (List.mem_append_right _ (List.mem_append_left _ (List.mem_of_getElem? (i := 233) rfl))) rfl
set_option maxRecDepth 100000 in
theorem pg_w18 : ev_cw pg_y18 ∈ pg_TB := pg_mem (List.mem_append_right _ (List.mem_append_right _ (List.mem_append_right _ (List.mem_append_left _ (List.mem_of_getElem? (i := 181) rfl))))) rfl
set_option maxRecDepth 100000 in
theorem pg_w19 : ev_cw pg_y19 ∈ pg_TB := pg_mem (List.mem_append_right _ (List.mem_append_right _ (List.mem_append_right _ (List.mem_append_left _ (List.mem_of_getElem? (i := 158) rfl))))) rfl
set_option maxRecDepth 100000 in
theorem pg_w20 : ev_cw pg_y20 ∈ pg_TB := pg_mem (List.mem_append_right _ (List.mem_append_right _ (List.mem_append_right _ (List.mem_append_right _ (List.mem_of_getElem? (i := 47) rfl))))) rfl
set_option maxRecDepth 100000 in
theorem pg_w21 : ev_cw pg_y21 ∈ pg_TB := pg_mem (List.mem_append_right _ (List.mem_append_right _ (List.mem_append_right _ (List.mem_append_left _ (List.mem_of_getElem? (i := 166) rfl))))) rfl
set_option maxRecDepth 100000 in
theorem pg_w22 : ev_cw pg_y22 ∈ pg_TB := pg_mem (List.mem_append_right _ (List.mem_append_right _ (List.mem_append_right _ (List.mem_append_left _ (List.mem_of_getElem? (i := 150) rfl))))) rfl
set_option maxRecDepth 100000 in
theorem pg_w23 : ev_cw pg_y23 ∈ pg_TB := pg_mem (List.mem_append_right _ (List.mem_append_right _ (List.mem_append_right _ (List.mem_append_left _ (List.mem_of_getElem? (i := 146) rfl))))) rfl
set_option maxRecDepth 100000 in
theorem pg_w24 : ev_cw pg_y24 ∈ pg_TB := pg_mem (List.mem_append_right _ (List.mem_append_right _ (List.mem_append_right _ (List.mem_append_right _ (List.mem_of_getElem? (i := 5) rfl))))) rfl
set_option maxRecDepth 100000 in
theorem pg_w25 : ev_cw pg_y25 ∈ pg_TB := pg_mem (List.mem_append_right _ (List.mem_append_right _ (List.mem_append_right _ (List.mem_append_right _ (List.mem_of_getElem? (i := 28) rfl))))) rfl
set_option maxRecDepth 100000 in
theorem pg_w26 : ev_cw pg_y26 ∈ pg_TB := pg_mem (List.mem_append_right _ (List.mem_append_right _ (List.mem_append_right _ (List.mem_append_right _ (List.mem_of_getElem? (i := 31) rfl))))) rfl
set_option maxRecDepth 100000 in
theorem pg_w27 : ev_cw pg_y27 ∈ pg_TB := pg_mem (List.mem_append_right _ (List.mem_append_right _ (List.mem_append_right _ (List.mem_append_right _ (List.mem_of_getElem? (i := 2) rfl))))) rfl
set_option maxRecDepth 100000 in
theorem pg_w28 : ev_cw pg_y28 ∈ pg_TB := pg_mem (List.mem_append_right _ (List.mem_append_right _ (List.mem_append_right _ (List.mem_append_left _ (List.mem_of_getElem? (i := 218) rfl))))) rfl
set_option maxRecDepth 100000 in
theorem pg_w29 : ev_cw pg_y29 ∈ pg_TB := pg_mem (List.mem_append_right _ (List.mem_append_right _ (List.mem_append_right _ (List.mem_append_right _ (List.mem_of_getElem? (i := 39) rfl))))) rfl
set_option maxRecDepth 100000 in
theorem pg_w30 : ev_cw pg_y30 ∈ pg_TB := pg_mem (List.mem_append_right _ (List.mem_append_right _ (List.mem_append_right _ (List.mem_append_left _ (List.mem_of_getElem? (i := 238) rfl))))) rfl
set_option maxRecDepth 100000 in
theorem pg_w31 : ev_cw pg_y31 ∈ pg_TB := pg_mem (List.mem_append_right _ (List.mem_append_right _ (List.mem_append_right _ (List.mem_append_left _ (List.mem_of_getElem? (i := 134) rfl))))) rfl
set_option maxRecDepth 100000 in
theorem pg_w32 : ev_cw pg_y32 ∈ pg_TB := pg_mem (List.mem_append_right _ (List.mem_append_right _ (List.mem_append_right _ (List.mem_append_left _ (List.mem_of_getElem? (i := 162) rfl))))) rfl
set_option maxRecDepth 100000 in
theorem pg_w33 : ev_cw pg_y33 ∈ pg_TB := pg_mem (List.mem_append_right _ (List.mem_append_left _ (List.mem_of_getElem? (i := 110) rfl))) rfl
set_option maxRecDepth 100000 in
theorem pg_w34 : ev_cw pg_y34 ∈ pg_TB := pg_mem (List.mem_append_right _ (List.mem_append_left _ (List.mem_of_getElem? (i := 116) rfl))) rfl
set_option maxRecDepth 100000 in
theorem pg_w35 : ev_cw pg_y35 ∈ pg_TB := pg_mem (List.mem_append_right _ (List.mem_append_right _ (List.mem_append_right _ (List.mem_append_left _ (List.mem_of_getElem? (i := 25) rfl))))) rfl
set_option maxRecDepth 100000 in
theorem pg_w36 : ev_cw pg_y36 ∈ pg_TB := pg_mem (List.mem_append_right _ (List.mem_append_left _ (List.mem_of_getElem? (i := 79) rfl))) rfl
set_option maxRecDepth 100000 in
theorem pg_w37 : ev_cw pg_y37 ∈ pg_TB := pg_mem (List.mem_append_right _ (List.mem_append_right _ (List.mem_append_left _ (List.mem_of_getElem? (i := 181) rfl)))) rfl
set_option maxRecDepth 100000 in
theorem pg_w38 : ev_cw pg_y38 ∈ pg_TB := pg_mem (List.mem_append_right _ (List.mem_append_left _ (List.mem_of_getElem? (i := 217) rfl))) rfl
set_option maxRecDepth 100000 in
theorem pg_w39 : ev_cw pg_y39 ∈ pg_TB := pg_mem (List.mem_append_right _ (List.mem_append_left _ (List.mem_of_getElem? (i := 107) rfl))) rfl
set_option maxRecDepth 100000 in
theorem pg_w40 : ev_cw pg_y40 ∈ pg_TB := pg_mem (List.mem_append_right _ (List.mem_append_left _ (List.mem_of_getElem? (i := 144) rfl))) rfl
set_option maxRecDepth 100000 in
theorem pg_w41 : ev_cw pg_y41 ∈ pg_TB := pg_mem (List.mem_append_right _ (List.mem_append_left _ (List.mem_of_getElem? (i := 156) rfl))) rfl
set_option maxRecDepth 100000 in
theorem pg_w42 : ev_cw pg_y42 ∈ pg_TB := pg_mem (List.mem_append_right _ (List.mem_append_left _ (List.mem_of_getElem? (i := 172) rfl))) rfl
set_option maxRecDepth 100000 in
theorem pg_w43 : ev_cw pg_y43 ∈ pg_TB := pg_mem (List.mem_append_right _ (List.mem_append_left _ (List.mem_of_getElem? (i := 176) rfl))) rfl
set_option maxRecDepth 100000 in
theorem pg_w44 : ev_cw pg_y44 ∈ pg_TB := pg_mem (List.mem_append_right _ (List.mem_append_left _ (List.mem_of_getElem? (i := 205) rfl))) rfl
set_option maxRecDepth 100000 in
theorem pg_w45 : ev_cw pg_y45 ∈ pg_TB := pg_mem (List.mem_append_right _ (List.mem_append_right _ (List.mem_append_right _ (List.mem_append_left _ (List.mem_of_getElem? (i := 3) rfl))))) rfl
set_option maxRecDepth 100000 in
theorem pg_w46 : ev_cw pg_y46 ∈ pg_TB := pg_mem (List.mem_append_right _ (List.mem_append_right _ (List.mem_append_left _ (List.mem_of_getElem? (i := 110) rfl)))) rfl
set_option maxRecDepth 100000 in
theorem pg_w47 : ev_cw pg_y47 ∈ pg_TB := pg_mem (List.mem_append_right _ (List.mem_append_left _ (List.mem_of_getElem? (i := 209) rfl))) rfl
set_option maxRecDepth 100000 in
theorem pg_w48 : ev_cw pg_y48 ∈ pg_TB := pg_mem (List.mem_append_right _ (List.mem_append_right _ (List.mem_append_left _ (List.mem_of_getElem? (i := 134) rfl)))) rfl
set_option maxRecDepth 100000 in
theorem pg_w49 : ev_cw pg_y49 ∈ pg_TB := pg_mem (List.mem_append_right _ (List.mem_append_right _ (List.mem_append_left _ (List.mem_of_getElem? (i := 9) rfl)))) rfl
set_option maxRecDepth 100000 in
theorem pg_w50 : ev_cw pg_y50 ∈ pg_TB := pg_mem (List.mem_append_right _ (List.mem_append_right _ (List.mem_append_left _ (List.mem_of_getElem? (i := 137) rfl)))) rfl
set_option maxRecDepth 100000 in
theorem pg_w51 : ev_cw pg_y51 ∈ pg_TB := pg_mem (List.mem_append_right _ (List.mem_append_left _ (List.mem_of_getElem? (i := 95) rfl))) rfl
set_option maxRecDepth 100000 in
theorem pg_w52 : ev_cw pg_y52 ∈ pg_TB := pg_mem (List.mem_append_right _ (List.mem_append_left _ (List.mem_of_getElem? (i := 197) rfl))) rfl
set_option maxRecDepth 100000 in
theorem pg_w53 : ev_cw pg_y53 ∈ pg_TB := pg_mem (List.mem_append_right _ (List.mem_append_left _ (List.mem_of_getElem? (i := 185) rfl))) rfl
set_option maxRecDepth 100000 in
theorem pg_w54 : ev_cw pg_y54 ∈ pg_TB := pg_mem (List.mem_append_right _ (List.mem_append_left _ (List.mem_of_getElem? (i := 103) rfl))) rfl
set_option maxRecDepth 100000 in
theorem pg_w55 : ev_cw pg_y55 ∈ pg_TB := pg_mem (List.mem_append_right _ (List.mem_append_left _ (List.mem_of_getElem? (i := 221) rfl))) rfl
set_option maxRecDepth 100000 in
theorem pg_w56 : ev_cw pg_y56 ∈ pg_TB := pg_mem (List.mem_append_right _ (List.mem_append_left _ (List.mem_of_getElem? (i := 201) rfl))) rfl
set_option maxRecDepth 100000 in
theorem pg_w57 : ev_cw pg_y57 ∈ pg_TB := pg_mem (List.mem_append_right _ (List.mem_append_left _ (List.mem_of_getElem? (i := 135) rfl))) rfl
set_option maxRecDepth 100000 in
theorem pg_w58 : ev_cw pg_y58 ∈ pg_TB := pg_mem (List.mem_append_right _ (List.mem_append_right _ (List.mem_append_left _ (List.mem_of_getElem? (i := 101) rfl)))) rfl
set_option maxRecDepth 100000 in
theorem pg_w59 : ev_cw pg_y59 ∈ pg_TB := pg_mem (List.mem_append_right _ (List.mem_append_right _ (List.mem_append_right _ (List.mem_append_left _ (List.mem_of_getElem? (i := 194) rfl))))) rfl
set_option maxRecDepth 100000 in
theorem pg_w60 : ev_cw pg_y60 ∈ pg_TB := pg_mem (List.mem_append_right _ (List.mem_append_right _ (List.mem_append_right _ (List.mem_append_left _ (List.mem_of_getElem? (i := 226) rfl))))) rfl
set_option maxRecDepth 100000 in
theorem pg_w61 : ev_cw pg_y61 ∈ pg_TB := pg_mem (List.mem_append_right _ (List.mem_append_right _ (List.mem_append_right _ (List.mem_append_left _ (List.mem_of_getElem? (i := 142) rfl))))) rfl
set_option maxRecDepth 100000 in
theorem pg_w62 : ev_cw pg_y62 ∈ pg_TB := pg_mem (List.mem_append_right _ (List.mem_append_right _ (List.mem_append_right _ (List.mem_append_left _ (List.mem_of_getElem? (i := 178) rfl))))) rfl
set_option maxRecDepth 100000 in
theorem pg_w63 : ev_cw pg_y63 ∈ pg_TB := pg_mem (List.mem_append_right _ (List.mem_append_right _ (List.mem_append_right _ (List.mem_append_left _ (List.mem_of_getElem? (i := 154) rfl))))) rfl
set_option maxRecDepth 100000 in
theorem pg_w64 : ev_cw pg_y64 ∈ pg_TB := pg_mem (List.mem_append_right _ (List.mem_append_right _ (List.mem_append_right _ (List.mem_append_left _ (List.mem_of_getElem? (i := 206) rfl))))) rfl
set_option maxRecDepth 100000 in
theorem pg_w65 : ev_cw pg_y65 ∈ pg_TB := pg_mem (List.mem_append_right _ (List.mem_append_right _ (List.mem_append_right _ (List.mem_append_left _ (List.mem_of_getElem? (i := 190) rfl))))) rfl
set_option maxRecDepth 100000 in
theorem pg_w66 : ev_cw pg_y66 ∈ pg_TB := pg_mem (List.mem_append_right _ (List.mem_append_right _ (List.mem_append_right _ (List.mem_append_right _ (List.mem_of_getElem? (i := 43) rfl))))) rfl
set_option maxRecDepth 100000 in
theorem pg_w67 : ev_cw pg_y67 ∈ pg_TB := pg_mem (List.mem_append_right _ (List.mem_append_right _ (List.mem_append_right _ (List.mem_append_left _ (List.mem_of_getElem? (i := 230) rfl))))) rfl
set_option maxRecDepth 100000 in
theorem pg_w68 : ev_cw pg_y68 ∈ pg_TB := pg_mem (List.mem_append_right _ (List.mem_append_right _ (List.mem_append_right _ (List.mem_append_right _ (List.mem_of_getElem? (i := 75) rfl))))) rfl
set_option maxRecDepth 100000 in
theorem pg_w69 : ev_cw pg_y69 ∈ pg_TB := pg_mem (List.mem_append_right _ (List.mem_append_right _ (List.mem_append_right _ (List.mem_append_left _ (List.mem_of_getElem? (i := 186) rfl))))) rfl
set_option maxRecDepth 100000 in
theorem pg_w70 : ev_cw pg_y70 ∈ pg_TB := pg_mem (List.mem_append_right _ (List.mem_append_right _ (List.mem_append_left _ (List.mem_of_getElem? (i := 215) rfl)))) rfl
set_option maxRecDepth 100000 in
theorem pg_w71 : ev_cw pg_y71 ∈ pg_TB := pg_mem (List.mem_append_right _ (List.mem_append_left _ (List.mem_of_getElem? (i := 152) rfl))) rfl
set_option maxRecDepth 100000 in
theorem pg_w72 : ev_cw pg_y72 ∈ pg_TB := pg_mem (List.mem_append_right _ (List.mem_append_left _ (List.mem_of_getElem? (i := 229) rfl))) rfl
set_option maxRecDepth 100000 in
theorem pg_w73 : ev_cw pg_y73 ∈ pg_TB := pg_mem (List.mem_append_right _ (List.mem_append_left _ (List.mem_of_getElem? (i := 190) rfl))) rfl
set_option maxRecDepth 100000 in
theorem pg_w74 : ev_cw pg_y74 ∈ pg_TB := pg_mem (List.mem_append_right _ (List.mem_append_right _ (List.mem_append_left _ (List.mem_of_getElem? (i := 195) rfl)))) rfl
set_option maxRecDepth 100000 in
theorem pg_w75 : ev_cw pg_y75 ∈ pg_TB := pg_mem (List.mem_append_right _ (List.mem_append_right _ (List.mem_append_left _ (List.mem_of_getElem? (i := 235) rfl)))) rfl
set_option maxRecDepth 100000 in
theorem pg_w76 : ev_cw pg_y76 ∈ pg_TB := pg_mem (List.mem_append_right _ (List.mem_append_left _ (List.mem_of_getElem? (i := 91) rfl))) rfl
set_option maxRecDepth 100000 in
theorem pg_w77 : ev_cw pg_y77 ∈ pg_TB := pg_mem (List.mem_append_right _ (List.mem_append_right _ (List.mem_append_left _ (List.mem_of_getElem? (i := 177) rfl)))) rfl
set_option maxRecDepth 100000 in
theorem pg_w78 : ev_cw pg_y78 ∈ pg_TB := pg_mem (List.mem_append_right _ (List.mem_append_right _ (List.mem_append_right _ (List.mem_append_left _ (List.mem_of_getElem? (i := 11) rfl))))) rfl
set_option maxRecDepth 100000 in
theorem pg_w79 : ev_cw pg_y79 ∈ pg_TB := pg_mem (List.mem_append_right _ (List.mem_append_right _ (List.mem_append_left _ (List.mem_of_getElem? (i := 165) rfl)))) rfl
set_option maxRecDepth 100000 in
theorem pg_w80 : ev_cw pg_y80 ∈ pg_TB := pg_mem (List.mem_append_right _ (List.mem_append_left _ (List.mem_of_getElem? (i := 128) rfl))) rfl
set_option maxRecDepth 100000 in
theorem pg_w81 : ev_cw pg_y81 ∈ pg_TB := pg_mem (List.mem_append_right _ (List.mem_append_right _ (List.mem_append_left _ (List.mem_of_getElem? (i := 123) rfl)))) rfl
set_option maxRecDepth 100000 in
theorem pg_w82 : ev_cw pg_y82 ∈ pg_TB := pg_mem (List.mem_append_right _ (List.mem_append_right _ (List.mem_append_right _ (List.mem_append_right _ (List.mem_of_getElem? (i := 79) rfl))))) rfl
set_option maxRecDepth 100000 in
theorem pg_w83 : ev_cw pg_y83 ∈ pg_TB := pg_mem (List.mem_append_right _ (List.mem_append_right _ (List.mem_append_right _ (List.mem_append_left _ (List.mem_of_getElem? (i := 214) rfl))))) rfl
set_option maxRecDepth 100000 in
theorem pg_w84 : ev_cw pg_y84 ∈ pg_TB := pg_mem (List.mem_append_right _ (List.mem_append_right _ (List.mem_append_right _ (List.mem_append_left _ (List.mem_of_getElem? (i := 174) rfl))))) rfl
set_option maxRecDepth 100000 in
theorem pg_w85 : ev_cw pg_y85 ∈ pg_TB := pg_mem (List.mem_append_right _ (List.mem_append_right _ (List.mem_append_right _ (List.mem_append_right _ (List.mem_of_getElem? (i := 51) rfl))))) rfl
set_option maxRecDepth 100000 in
theorem pg_w86 : ev_cw pg_y86 ∈ pg_TB := pg_mem (List.mem_append_right _ (List.mem_append_right _ (List.mem_append_right _ (List.mem_append_left _ (List.mem_of_getElem? (i := 222) rfl))))) rfl
set_option maxRecDepth 100000 in
theorem pg_w87 : ev_cw pg_y87 ∈ pg_TB := pg_mem (List.mem_append_right _ (List.mem_append_right _ (List.mem_append_right _ (List.mem_append_left _ (List.mem_of_getElem? (i := 22) rfl))))) rfl
set_option maxRecDepth 100000 in
theorem pg_w88 : ev_cw pg_y88 ∈ pg_TB := pg_mem (List.mem_append_right _ (List.mem_append_right _ (List.mem_append_left _ (List.mem_of_getElem? (i := 211) rfl)))) rfl
set_option maxRecDepth 100000 in
theorem pg_w89 : ev_cw pg_y89 ∈ pg_TB := pg_mem (List.mem_append_right _ (List.mem_append_left _ (List.mem_of_getElem? (i := 225) rfl))) rfl
set_option maxRecDepth 100000 in
theorem pg_w90 : ev_cw pg_y90 ∈ pg_TB := pg_mem (List.mem_append_right _ (List.mem_append_right _ (List.mem_append_left _ (List.mem_of_getElem? (i := 199) rfl)))) rfl
set_option maxRecDepth 100000 in
theorem pg_w91 : ev_cw pg_y91 ∈ pg_TB := pg_mem (List.mem_append_right _ (List.mem_append_left _ (List.mem_of_getElem? (i := 168) rfl))) rfl
set_option maxRecDepth 100000 in
theorem pg_w92 : ev_cw pg_y92 ∈ pg_TB := pg_mem (List.mem_append_right _ (List.mem_append_left _ (List.mem_of_getElem? (i := 124) rfl))) rfl
set_option maxRecDepth 100000 in
theorem pg_w93 : ev_cw pg_y93 ∈ pg_TB := pg_mem (List.mem_append_right _ (List.mem_append_right _ (List.mem_append_left _ (List.mem_of_getElem? (i := 227) rfl)))) rfl
set_option maxRecDepth 100000 in
theorem pg_w94 : ev_cw pg_y94 ∈ pg_TB := pg_mem (List.mem_append_right _ (List.mem_append_right _ (List.mem_append_right _ (List.mem_append_left _ (List.mem_of_getElem? (i := 37) rfl))))) rfl
set_option maxRecDepth 100000 in
theorem pg_w95 : ev_cw pg_y95 ∈ pg_TB := pg_mem (List.mem_append_right _ (List.mem_append_right _ (List.mem_append_left _ (List.mem_of_getElem? (i := 173) rfl)))) rfl
set_option maxRecDepth 100000 in
theorem pg_w96 : ev_cw pg_y96 ∈ pg_TB := pg_mem (List.mem_append_right _ (List.mem_append_right _ (List.mem_append_left _ (List.mem_of_getElem? (i := 118) rfl)))) rfl
set_option maxRecDepth 100000 in
theorem pg_w97 : ev_cw pg_y97 ∈ pg_TB := pg_mem (List.mem_append_right _ (List.mem_append_right _ (List.mem_append_right _ (List.mem_append_right _ (List.mem_of_getElem? (i := 59) rfl))))) rfl
set_option maxRecDepth 100000 in
theorem pg_w98 : ev_cw pg_y98 ∈ pg_TB := pg_mem (List.mem_append_right _ (List.mem_append_right _ (List.mem_append_right _ (List.mem_append_right _ (List.mem_of_getElem? (i := 55) rfl))))) rfl
set_option maxRecDepth 100000 in
theorem pg_w99 : ev_cw pg_y99 ∈ pg_TB := pg_mem (List.mem_append_right _ (List.mem_append_right _ (List.mem_append_right _ (List.mem_append_right _ (List.mem_of_getElem? (i := 13) rfl))))) rfl
set_option maxRecDepth 100000 in
theorem pg_w100 : ev_cw pg_y100 ∈ pg_TB := pg_mem (List.mem_append_right _ (List.mem_append_right _ (List.mem_append_right _ (List.mem_append_left _ (List.mem_of_getElem? (i := 202) rfl))))) rfl
set_option maxRecDepth 100000 in
theorem pg_w101 : ev_cw pg_y101 ∈ pg_TB := pg_mem (List.mem_append_right _ (List.mem_append_right _ (List.mem_append_right _ (List.mem_append_left _ (List.mem_of_getElem? (i := 170) rfl))))) rfl
set_option maxRecDepth 100000 in
theorem pg_w102 : ev_cw pg_y102 ∈ pg_TB := pg_mem (List.mem_append_right _ (List.mem_append_left _ (List.mem_of_getElem? (i := 148) rfl))) rfl
set_option maxRecDepth 100000 in
theorem pg_w103 : ev_cw pg_y103 ∈ pg_TB := pg_mem (List.mem_append_right _ (List.mem_append_left _ (List.mem_of_getElem? (i := 120) rfl))) rfl
set_option maxRecDepth 100000 in
theorem pg_w104 : ev_cw pg_y104 ∈ pg_TB := pg_mem (List.mem_append_right _ (List.mem_append_left _ (List.mem_of_getElem? (i := 164) rfl))) rfl
set_option maxRecDepth 100000 in
theorem pg_w105 : ev_cw pg_y105 ∈ pg_TB := pg_mem (List.mem_append_right _ (List.mem_append_right _ (List.mem_append_left _ (List.mem_of_getElem? (i := 219) rfl)))) rfl
set_option maxRecDepth 100000 in
theorem pg_w106 : ev_cw pg_y106 ∈ pg_TB := pg_mem (List.mem_append_right _ (List.mem_append_right _ (List.mem_append_right _ (List.mem_append_left _ (List.mem_of_getElem? (i := 7) rfl))))) rfl
set_option maxRecDepth 100000 in
theorem pg_w107 : ev_cw pg_y107 ∈ pg_TB := pg_mem (List.mem_append_right _ (List.mem_append_right _ (List.mem_append_left _ (List.mem_of_getElem? (i := 231) rfl)))) rfl
set_option maxRecDepth 100000 in
theorem pg_w108 : ev_cw pg_y108 ∈ pg_TB := pg_mem (List.mem_append_right _ (List.mem_append_right _ (List.mem_append_right _ (List.mem_append_left _ (List.mem_of_getElem? (i := 18) rfl))))) rfl
set_option maxRecDepth 100000 in
theorem pg_w109 : ev_cw pg_y109 ∈ pg_TB := pg_mem (List.mem_append_right _ (List.mem_append_right _ (List.mem_append_left _ (List.mem_of_getElem? (i := 161) rfl)))) rfl
set_option maxRecDepth 100000 in
theorem pg_w110 : ev_cw pg_y110 ∈ pg_TB := pg_mem (List.mem_append_right _ (List.mem_append_right _ (List.mem_append_left _ (List.mem_of_getElem? (i := 97) rfl)))) rfl
set_option maxRecDepth 100000 in
theorem pg_w111 : ev_cw pg_y111 ∈ pg_TB := pg_mem (List.mem_append_right _ (List.mem_append_right _ (List.mem_append_right _ (List.mem_append_left _ (List.mem_of_getElem? (i := 138) rfl))))) rfl
set_option maxRecDepth 100000 in
theorem pg_w112 : ev_cw pg_y112 ∈ pg_TB := pg_mem (List.mem_append_right _ (List.mem_append_right _ (List.mem_append_right _ (List.mem_append_left _ (List.mem_of_getElem? (i := 210) rfl))))) rfl
set_option maxRecDepth 100000 in
theorem pg_w113 : ev_cw pg_y113 ∈ pg_TB := pg_mem (List.mem_append_right _ (List.mem_append_right _ (List.mem_append_right _ (List.mem_append_right _ (List.mem_of_getElem? (i := 9) rfl))))) rfl
set_option maxRecDepth 100000 in
theorem pg_w114 : ev_cw pg_y114 ∈ pg_TB := pg_mem (List.mem_append_right _ (List.mem_append_right _ (List.mem_append_right _ (List.mem_append_right _ (List.mem_of_getElem? (i := 35) rfl))))) rfl
set_option maxRecDepth 100000 in
theorem pg_w115 : ev_cw pg_y115 ∈ pg_TB := pg_mem (List.mem_append_right _ (List.mem_append_right _ (List.mem_append_left _ (List.mem_of_getElem? (i := 169) rfl)))) rfl
set_option maxRecDepth 100000 in
theorem pg_w116 : ev_cw pg_y116 ∈ pg_TB := pg_mem (List.mem_append_right _ (List.mem_append_left _ (List.mem_of_getElem? (i := 160) rfl))) rfl
set_option maxRecDepth 100000 in
theorem pg_w117 : ev_cw pg_y117 ∈ pg_TB := pg_mem (List.mem_append_right _ (List.mem_append_left _ (List.mem_of_getElem? (i := 213) rfl))) rfl
set_option maxRecDepth 100000 in
theorem pg_w118 : ev_cw pg_y118 ∈ pg_TB := pg_mem (List.mem_append_right _ (List.mem_append_right _ (List.mem_append_left _ (List.mem_of_getElem? (i := 207) rfl)))) rfl
set_option maxRecDepth 100000 in
theorem pg_w119 : ev_cw pg_y119 ∈ pg_TB := pg_mem (List.mem_append_right _ (List.mem_append_right _ (List.mem_append_right _ (List.mem_append_right _ (List.mem_of_getElem? (i := 21) rfl))))) rfl
set_option maxRecDepth 100000 in
theorem pg_w120 : ev_cw pg_y120 ∈ pg_TB := pg_mem (List.mem_append_right _ (List.mem_append_right _ (List.mem_append_right _ (List.mem_append_right _ (List.mem_of_getElem? (i := 71) rfl))))) rfl
set_option maxRecDepth 100000 in
theorem pg_w121 : ev_cw pg_y121 ∈ pg_TB := pg_mem (List.mem_append_right _ (List.mem_append_right _ (List.mem_append_right _ (List.mem_append_right _ (List.mem_of_getElem? (i := 63) rfl))))) rfl
set_option maxRecDepth 100000 in
theorem pg_w122 : ev_cw pg_y122 ∈ pg_TB := pg_mem (List.mem_append_right _ (List.mem_append_right _ (List.mem_append_right _ (List.mem_append_right _ (List.mem_of_getElem? (i := 67) rfl))))) rfl
set_option maxRecDepth 100000 in
theorem pg_w123 : ev_cw pg_y123 ∈ pg_TB := pg_mem (List.mem_append_right _ (List.mem_append_right _ (List.mem_append_right _ (List.mem_append_right _ (List.mem_of_getElem? (i := 17) rfl))))) rfl
set_option maxRecDepth 100000 in
theorem pg_w124 : ev_cw pg_y124 ∈ pg_TB := pg_mem (List.mem_append_right _ (List.mem_append_right _ (List.mem_append_right _ (List.mem_append_left _ (List.mem_of_getElem? (i := 198) rfl))))) rfl
set_option maxRecDepth 100000 in
theorem pg_w125 : ev_cw pg_y125 ∈ pg_TB := pg_mem (List.mem_append_right _ (List.mem_append_right _ (List.mem_append_right _ (List.mem_append_right _ (List.mem_of_getElem? (i := 25) rfl))))) rfl
set_option maxRecDepth 100000 in
theorem pg_w126 : ev_cw pg_y126 ∈ pg_TB := pg_mem (List.mem_append_right _ (List.mem_append_right _ (List.mem_append_left _ (List.mem_of_getElem? (i := 145) rfl)))) rfl
set_option maxRecDepth 100000 in
theorem pg_w127 : ev_cw pg_y127 ∈ pg_TB := pg_mem (List.mem_append_right _ (List.mem_append_right _ (List.mem_append_right _ (List.mem_append_left _ (List.mem_of_getElem? (i := 56) rfl))))) rfl
set_option maxRecDepth 100000 in
theorem pg_w128 : ev_cw pg_y128 ∈ pg_TB := pg_mem (List.mem_append_right _ (List.mem_append_right _ (List.mem_append_left _ (List.mem_of_getElem? (i := 6) rfl)))) rfl
set_option maxRecDepth 100000 in
theorem pg_w129 : ev_cw pg_y129 ∈ pg_TB := pg_mem (List.mem_append_right _ (List.mem_append_right _ (List.mem_append_left _ (List.mem_of_getElem? (i := 153) rfl)))) rfl
set_option maxRecDepth 100000 in
theorem pg_w130 : ev_cw pg_y130 ∈ pg_TB := pg_mem (List.mem_append_right _ (List.mem_append_right _ (List.mem_append_left _ (List.mem_of_getElem? (i := 131) rfl)))) rfl
set_option maxRecDepth 100000 in
theorem pg_w131 : ev_cw pg_y131 ∈ pg_TB := pg_mem (List.mem_append_right _ (List.mem_append_right _ (List.mem_append_right _ (List.mem_append_left _ (List.mem_of_getElem? (i := 44) rfl))))) rfl
set_option maxRecDepth 100000 in
theorem pg_w132 : ev_cw pg_y132 ∈ pg_TB := pg_mem (List.mem_append_right _ (List.mem_append_right _ (List.mem_append_right _ (List.mem_append_left _ (List.mem_of_getElem? (i := 32) rfl))))) rfl
set_option maxRecDepth 100000 in
theorem pg_w133 : ev_cw pg_y133 ∈ pg_TB := pg_mem (List.mem_append_right _ (List.mem_append_right _ (List.mem_append_left _ (List.mem_of_getElem? (i := 189) rfl)))) rfl
set_option maxRecDepth 100000 in
theorem pg_w134 : ev_cw pg_y134 ∈ pg_TB := pg_mem (List.mem_append_right _ (List.mem_append_right _ (List.mem_append_right _ (List.mem_append_left _ (List.mem_of_getElem? (i := 65) rfl))))) rfl
set_option maxRecDepth 100000 in
theorem pg_w135 : ev_cw pg_y135 ∈ pg_TB := pg_mem (List.mem_append_right _ (List.mem_append_right _ (List.mem_append_right _ (List.mem_append_left _ (List.mem_of_getElem? (i := 234) rfl))))) rfl
set_option maxRecDepth 100000 in
theorem pg_w136 : ev_cw pg_y136 ∈ pg_TB := pg_mem (List.mem_append_right _ (List.mem_append_right _ (List.mem_append_left _ (List.mem_of_getElem? (i := 141) rfl)))) rfl
set_option maxRecDepth 100000 in
theorem pg_w137 : ev_cw pg_y137 ∈ pg_TB := pg_mem (List.mem_append_right _ (List.mem_append_right _ (List.mem_append_right _ (List.mem_append_left _ (List.mem_of_getElem? (i := 52) rfl))))) rfl
set_option maxRecDepth 100000 in
theorem pg_w138 : ev_cw pg_y138 ∈ pg_TB := pg_mem (List.mem_append_right _ (List.mem_append_right _ (List.mem_append_left _ (List.mem_of_getElem? (i := 0) rfl)))) rfl
set_option maxRecDepth 100000 in
theorem pg_w139 : ev_cw pg_y139 ∈ pg_TB := pg_mem (List.mem_append_right _ (List.mem_append_right _ (List.mem_append_left _ (List.mem_of_getElem? (i := 149) rfl)))) rfl
set_option maxRecDepth 100000 in
theorem pg_w140 : ev_cw pg_y140 ∈ pg_TB := pg_mem (List.mem_append_right _ (List.mem_append_right _ (List.mem_append_left _ (List.mem_of_getElem? (i := 127) rfl)))) rfl
set_option maxRecDepth 100000 in
theorem pg_w141 : ev_cw pg_y141 ∈ pg_TB := pg_mem (List.mem_append_right _ (List.mem_append_right _ (List.mem_append_right _ (List.mem_append_left _ (List.mem_of_getElem? (i := 40) rfl))))) rfl
set_option maxRecDepth 100000 in
theorem pg_w142 : ev_cw pg_y142 ∈ pg_TB := pg_mem (List.mem_append_right _ (List.mem_append_right _ (List.mem_append_right _ (List.mem_append_left _ (List.mem_of_getElem? (i := 28) rfl))))) rfl
set_option maxRecDepth 100000 in
theorem pg_w143 : ev_cw pg_y143 ∈ pg_TB := pg_mem (List.mem_append_right _ (List.mem_append_right _ (List.mem_append_left _ (List.mem_of_getElem? (i := 185) rfl)))) rfl
set_option maxRecDepth 100000 in
theorem pg_w144 : ev_cw pg_y144 ∈ pg_TB := pg_mem (List.mem_append_right _ (List.mem_append_right _ (List.mem_append_right _ (List.mem_append_left _ (List.mem_of_getElem? (i := 60) rfl))))) rfl
set_option maxRecDepth 100000 in
theorem pg_wall : ∀ y ∈ pg_ml, ev_cw y ∈ pg_TB := List.forall_mem_cons.mpr ⟨pg_w0, List.forall_mem_cons.mpr ⟨pg_w1, List.forall_mem_cons.mpr ⟨pg_w2, List.forall_mem_cons.mpr ⟨pg_w3, List.forall_mem_cons.mpr ⟨pg_w4, List.forall_mem_cons.mpr ⟨pg_w5, List.forall_mem_cons.mpr ⟨pg_w6, List.forall_mem_cons.mpr ⟨pg_w7, List.forall_mem_cons.mpr ⟨pg_w8, List.forall_mem_cons.mpr ⟨pg_w9, List.forall_mem_cons.mpr ⟨pg_w10, List.forall_mem_cons.mpr ⟨pg_w11, List.forall_mem_cons.mpr ⟨pg_w12, List.forall_mem_cons.mpr ⟨pg_w13, List.forall_mem_cons.mpr ⟨pg_w14, List.forall_mem_cons.mpr ⟨pg_w15, List.forall_mem_cons.mpr ⟨pg_w16, List.forall_mem_cons.mpr ⟨pg_w17, List.forall_mem_cons.mpr ⟨pg_w18, List.forall_mem_cons.mpr ⟨pg_w19, List.forall_mem_cons.mpr ⟨pg_w20, List.forall_mem_cons.mpr ⟨pg_w21, List.forall_mem_cons.mpr ⟨pg_w22, List.forall_mem_cons.mpr ⟨pg_w23, List.forall_mem_cons.mpr ⟨pg_w24, List.forall_mem_cons.mpr ⟨pg_w25, List.forall_mem_cons.mpr ⟨pg_w26, List.forall_mem_cons.mpr ⟨pg_w27, List.forall_mem_cons.mpr ⟨pg_w28, List.forall_mem_cons.mpr ⟨pg_w29, List.forall_mem_cons.mpr ⟨pg_w30, List.forall_mem_cons.mpr ⟨pg_w31, List.forall_mem_cons.mpr ⟨pg_w32, List.forall_mem_cons.mpr ⟨pg_w33, List.forall_mem_cons.mpr ⟨pg_w34, List.forall_mem_cons.mpr ⟨pg_w35, List.forall_mem_cons.mpr ⟨pg_w36, List.forall_mem_cons.mpr ⟨pg_w37, List.forall_mem_cons.mpr ⟨pg_w38, List.forall_mem_cons.mpr ⟨pg_w39, List.forall_mem_cons.mpr ⟨pg_w40, List.forall_mem_cons.mpr ⟨pg_w41, List.forall_mem_cons.mpr ⟨pg_w42, List.forall_mem_cons.mpr ⟨pg_w43, List.forall_mem_cons.mpr ⟨pg_w44, List.forall_mem_cons.mpr ⟨pg_w45, List.forall_mem_cons.mpr ⟨pg_w46, List.forall_mem_cons.mpr ⟨pg_w47, List.forall_mem_cons.mpr ⟨pg_w48, List.forall_mem_cons.mpr ⟨pg_w49, List.forall_mem_cons.mpr ⟨pg_w50, List.forall_mem_cons.mpr ⟨pg_w51, List.forall_mem_cons.mpr ⟨pg_w52, List.forall_mem_cons.mpr ⟨pg_w53, List.forall_mem_cons.mpr ⟨pg_w54, List.forall_mem_cons.mpr ⟨pg_w55, List.forall_mem_cons.mpr ⟨pg_w56, List.forall_mem_cons.mpr ⟨pg_w57, List.forall_mem_cons.mpr ⟨pg_w58, List.forall_mem_cons.mpr ⟨pg_w59, List.forall_mem_cons.mpr ⟨pg_w60, List.forall_mem_cons.mpr ⟨pg_w61, List.forall_mem_cons.mpr ⟨pg_w62, List.forall_mem_cons.mpr ⟨pg_w63, List.forall_mem_cons.mpr ⟨pg_w64, List.forall_mem_cons.mpr ⟨pg_w65, List.forall_mem_cons.mpr ⟨pg_w66, List.forall_mem_cons.mpr ⟨pg_w67, List.forall_mem_cons.mpr ⟨pg_w68, List.forall_mem_cons.mpr ⟨pg_w69, List.forall_mem_cons.mpr ⟨pg_w70, List.forall_mem_cons.mpr ⟨pg_w71, List.forall_mem_cons.mpr ⟨pg_w72, List.forall_mem_cons.mpr ⟨pg_w73, List.forall_mem_cons.mpr ⟨pg_w74, List.forall_mem_cons.mpr ⟨pg_w75, List.forall_mem_cons.mpr ⟨pg_w76, List.forall_mem_cons.mpr ⟨pg_w77, List.forall_mem_cons.mpr ⟨pg_w78, List.forall_mem_cons.mpr ⟨pg_w79, List.forall_mem_cons.mpr ⟨pg_w80, List.forall_mem_cons.mpr ⟨pg_w81, List.forall_mem_cons.mpr ⟨pg_w82, List.forall_mem_cons.mpr ⟨pg_w83, List.forall_mem_cons.mpr ⟨pg_w84, List.forall_mem_cons.mpr ⟨pg_w85, List.forall_mem_cons.mpr ⟨pg_w86, List.forall_mem_cons.mpr ⟨pg_w87, List.forall_mem_cons.mpr ⟨pg_w88, List.forall_mem_cons.mpr ⟨pg_w89, List.forall_mem_cons.mpr ⟨pg_w90, List.forall_mem_cons.mpr ⟨pg_w91, List.forall_mem_cons.mpr ⟨pg_w92, List.forall_mem_cons.mpr ⟨pg_w93, List.forall_mem_cons.mpr ⟨pg_w94, List.forall_mem_cons.mpr ⟨pg_w95, List.forall_mem_cons.mpr ⟨pg_w96, List.forall_mem_cons.mpr ⟨pg_w97, List.forall_mem_cons.mpr ⟨pg_w98, List.forall_mem_cons.mpr ⟨pg_w99, List.forall_mem_cons.mpr ⟨pg_w100, List.forall_mem_cons.mpr ⟨pg_w101, List.forall_mem_cons.mpr ⟨pg_w102, List.forall_mem_cons.mpr ⟨pg_w103, List.forall_mem_cons.mpr ⟨pg_w104, List.forall_mem_cons.mpr ⟨pg_w105, List.forall_mem_cons.mpr ⟨pg_w106, List.forall_mem_cons.mpr ⟨pg_w107, List.forall_mem_cons.mpr ⟨pg_w108, List.forall_mem_cons.mpr ⟨pg_w109, List.forall_mem_cons.mpr ⟨pg_w110, List.forall_mem_cons.mpr ⟨pg_w111, List.forall_mem_cons.mpr ⟨pg_w112, List.forall_mem_cons.mpr ⟨pg_w113, List.forall_mem_cons.mpr ⟨pg_w114, List.forall_mem_cons.mpr ⟨pg_w115, List.forall_mem_cons.mpr ⟨pg_w116, List.forall_mem_cons.mpr ⟨pg_w117, List.forall_mem_cons.mpr ⟨pg_w118, List.forall_mem_cons.mpr ⟨pg_w119, List.forall_mem_cons.mpr ⟨pg_w120, List.forall_mem_cons.mpr ⟨pg_w121, List.forall_mem_cons.mpr ⟨pg_w122, List.forall_mem_cons.mpr ⟨pg_w123, List.forall_mem_cons.mpr ⟨pg_w124, List.forall_mem_cons.mpr ⟨pg_w125, List.forall_mem_cons.mpr ⟨pg_w126, List.forall_mem_cons.mpr ⟨pg_w127, List.forall_mem_cons.mpr ⟨pg_w128, List.forall_mem_cons.mpr ⟨pg_w129, List.forall_mem_cons.mpr ⟨pg_w130, List.forall_mem_cons.mpr ⟨pg_w131, List.forall_mem_cons.mpr ⟨pg_w132, List.forall_mem_cons.mpr ⟨pg_w133, List.forall_mem_cons.mpr ⟨pg_w134, List.forall_mem_cons.mpr ⟨pg_w135, List.forall_mem_cons.mpr ⟨pg_w136, List.forall_mem_cons.mpr ⟨pg_w137, List.forall_mem_cons.mpr ⟨pg_w138, List.forall_mem_cons.mpr ⟨pg_w139, List.forall_mem_cons.mpr ⟨pg_w140, List.forall_mem_cons.mpr ⟨pg_w141, List.forall_mem_cons.mpr ⟨pg_w142, List.forall_mem_cons.mpr ⟨pg_w143, List.forall_mem_cons.mpr ⟨pg_w144, fun _ h => absurd h List.not_mem_nil⟩⟩⟩⟩⟩⟩⟩⟩⟩⟩⟩⟩⟩⟩⟩⟩⟩⟩⟩⟩⟩⟩⟩⟩⟩⟩⟩⟩⟩⟩⟩⟩⟩⟩⟩⟩⟩⟩⟩⟩⟩⟩⟩⟩⟩⟩⟩⟩⟩⟩⟩⟩⟩⟩⟩⟩⟩⟩⟩⟩⟩⟩⟩⟩⟩⟩⟩⟩⟩⟩⟩⟩⟩⟩⟩⟩⟩⟩⟩⟩⟩⟩⟩⟩⟩⟩⟩⟩⟩⟩⟩⟩⟩⟩⟩⟩⟩⟩⟩⟩⟩⟩⟩⟩⟩⟩⟩⟩⟩⟩⟩⟩⟩⟩⟩⟩⟩⟩⟩⟩⟩⟩⟩⟩⟩⟩⟩⟩⟩⟩⟩⟩⟩⟩⟩⟩⟩⟩⟩⟩⟩⟩⟩⟩⟩
theorem pg_cd : ∀ j y, pg_mt j = some y → ev_cw y ∈ pg_TB := fun j y h => pg_wall y (List.mem_of_getElem? h)
