theorem jt_1 (i : Nat) {w : Cond} (h : tables_1_1[i]? = some w) (g : goodWord w = true) : w ∈ jf_tb := jf_mem (List.mem_append_right (k2_sels lw_privs) (show w ∈ tables_1 from (List.mem_append_left _ (List.mem_of_getElem? h)))) g
theorem jt_2 (i : Nat) {w : Cond} (h : tables_1_2[i]? = some w) (g : goodWord w = true) : w ∈ jf_tb := jf_mem (List.mem_append_right (k2_sels lw_privs) (show w ∈ tables_1 from (List.mem_append_right _ (List.mem_append_left _ (List.mem_of_getElem? h))))) g
theorem jt_3 (i : Nat) {w : Cond} (h : tables_1_3[i]? = some w) (g : goodWord w = true) : w ∈ jf_tb := jf_mem (List.mem_append_right (k2_sels lw_privs) (show w ∈ tables_1 from (List.mem_append_right _ (List.mem_append_right _ (List.mem_append_left _ (List.mem_of_getElem? h)))))) g
theorem jt_4 (i : Nat) {w : Cond} (h : tables_1_4[i]? = some w) (g : goodWord w = true) : w ∈ jf_tb := jf_mem (List.mem_append_right (k2_sels lw_privs) (show w ∈ tables_1 from (List.mem_append_right _ (List.mem_append_right _ (List.mem_append_right _ (List.mem_append_left _ (List.mem_of_getElem? h))))))) g
theorem jt_5 (i : Nat) {w : Cond} (h : tables_1_5[i]? = some w) (g : goodWord w = true) : w ∈ jf_tb := jf_mem (List.mem_append_right (k2_sels lw_privs) (show w ∈ tables_1 from (List.mem_append_right _ (List.mem_append_right _ (List.mem_append_right _ (List.mem_append_right _ (List.mem_append_left _ (List.mem_of_getElem? h)))))))) g
theorem jt_6 (i : Nat) {w : Cond} (h : tables_1_6[i]? = some w) (g : goodWord w = true) : w ∈ jf_tb := jf_mem (List.mem_append_right (k2_sels lw_privs) (show w ∈ tables_1 from (List.mem_append_right _ (List.mem_append_right _ (List.mem_append_right _ (List.mem_append_right _ (List.mem_append_right _ (List.mem_append_left _ (List.mem_of_getElem? h))))))))) g
theorem jt_7 (i : Nat) {w : Cond} (h : tables_1_7[i]? = some w) (g : goodWord w = true) : w ∈ jf_tb := jf_mem (List.mem_append_right (k2_sels lw_privs) (show w ∈ tables_1 from (List.mem_append_right _ (List.mem_append_right _ (List.mem_append_right _ (List.mem_append_right _ (List.mem_append_right _ (List.mem_append_right _ (List.mem_of_getElem? h))))))))) g
theorem jt_p (i : Nat) {w : Cond} (h : (k2_sels lw_privs)[i]? = some w) (g : goodWord w = true) : w ∈ jf_tb := jf_mem (List.mem_append_left _ (List.mem_of_getElem? h)) g
theorem jt_in {ws : List Cond} (ps : List Nat) (hp : ws = ps.filterMap (fun i => tables_1[i]?)) (hg : ws.all goodWord = true) : ∀ w ∈ ws, w ∈ jf_tb := by
  intro w h
  have h1 := List.all_eq_true.mp hg w h
  rw [hp] at h
  obtain ⟨i, -, hi⟩ := List.mem_filterMap.mp h
  exact jf_mem (List.mem_append_right _ (List.mem_of_getElem? hi)) h1
/-- the cells of the reference: 0 m, 1 m.hTown, 2 m.hSeats, 3 m.hClear, 4 m.hFormats, 5 m.fMinutes, 6 m.fFormat, 7 m.fFame, 8 m.gFrom, 9 m.gTo, 10 m.bBefore, 11 m.bMost, 12 m.bBeside, 13 m.ways, 14 m.sIs, 15 m.sFilm, 16 m.sHall, 17 m.sBegin, 18 m.sSort, 19 m.sDelay, 20 m.coming, 21 m.parts, 22 m.hours, 23 m.truly, 24 m.isTrue, 25 m.ages, 26 m.votes, 27 m.voteMany, 28 m.rSort, 29 m.rJuror, 30 m.rFilm, 31 m.rKnown, 32 m.marks, 33 m.points, 34 m.nMarks, 35 m.nPoints, 36 m.pile, 37 m.tape, 38 m.voted, 39 m.isIn, 40 m.firsts, 41 m.sums -/
def jh_M : List jf_K := [.inl (11, [none, none, none, some (some 1), some (some 2), some (some 3), some (some 4), none, some (some 5), some (some 6), some (some 7), some (some 8), some (some 9), some (some 10), some (some 11), some (some 12), some (some 13), none, some (some 14), some (some 15), some (some 16), some (some 17), some (some 18), some (some 19), some (some 20), some (some 21), some (some 22), none, none, some (some 23), some (some 24), none, none, none, none, none, some (some 25), some (some 26), some (some 27), none, some (some 28), some (some 29), some (some 30), some (some 31), none, some (some 32), none, some (some 33), none, none, some (some 34), none, some (some 35), none, none, some (some 36), none, some (some 37), none, none, none, none, some none, none, none, some (some 38), some (some 39), some (some 40), some (some 41), none]), .inr (0, 4), .inr (0, 4), .inr (0, 4), .inr (0, 4), .inr (0, 20), .inr (0, 20), .inr (0, 20), .inr (0, 20), .inr (0, 20), .inr (0, 20), .inr (0, 20), .inr (0, 20), .inr (0, 25), .inr (1, 60), .inr (0, 60), .inr (0, 60), .inr (0, 60), .inr (0, 60), .inr (0, 60), .inr (0, 3060), .inr (0, 24), .inr (0, 10), .inr (0, 60), .inr (1, 60), .inr (0, 10), .inr (0, 50), .inr (0, 10), .inr (0, 100), .inr (0, 100), .inr (0, 100), .inr (0, 100), .inr (0, 300), .inr (0, 5), .inr (0, 300), .inr (0, 5), .inr (0, 300), .inr (0, 300), .inr (1, 50), .inr (1, 20), .inr (0, 20), .inr (0, 420)]
theorem kk_M_0 : jf_cl jh_M 0 RX11 := ⟨11, _, TX11, 70, rfl, rfl⟩
theorem ka_M_1 : jh_M[1]? = some (.inr (0, 4)) := rfl
theorem ka_M_2 : jh_M[2]? = some (.inr (0, 4)) := rfl
theorem ka_M_3 : jh_M[3]? = some (.inr (0, 4)) := rfl
theorem ka_M_4 : jh_M[4]? = some (.inr (0, 4)) := rfl
theorem ka_M_5 : jh_M[5]? = some (.inr (0, 20)) := rfl
theorem ka_M_6 : jh_M[6]? = some (.inr (0, 20)) := rfl
theorem ka_M_7 : jh_M[7]? = some (.inr (0, 20)) := rfl
theorem ka_M_8 : jh_M[8]? = some (.inr (0, 20)) := rfl
theorem ka_M_9 : jh_M[9]? = some (.inr (0, 20)) := rfl
theorem ka_M_10 : jh_M[10]? = some (.inr (0, 20)) := rfl
theorem ka_M_11 : jh_M[11]? = some (.inr (0, 20)) := rfl
theorem ka_M_12 : jh_M[12]? = some (.inr (0, 20)) := rfl
theorem ka_M_13 : jh_M[13]? = some (.inr (0, 25)) := rfl
theorem ka_M_14 : jh_M[14]? = some (.inr (1, 60)) := rfl
theorem ka_M_15 : jh_M[15]? = some (.inr (0, 60)) := rfl
theorem ka_M_16 : jh_M[16]? = some (.inr (0, 60)) := rfl
theorem ka_M_17 : jh_M[17]? = some (.inr (0, 60)) := rfl
theorem ka_M_18 : jh_M[18]? = some (.inr (0, 60)) := rfl
theorem ka_M_19 : jh_M[19]? = some (.inr (0, 60)) := rfl
theorem ka_M_20 : jh_M[20]? = some (.inr (0, 3060)) := rfl
theorem ka_M_21 : jh_M[21]? = some (.inr (0, 24)) := rfl
theorem ka_M_22 : jh_M[22]? = some (.inr (0, 10)) := rfl
theorem ka_M_23 : jh_M[23]? = some (.inr (0, 60)) := rfl
theorem ka_M_24 : jh_M[24]? = some (.inr (1, 60)) := rfl
theorem ka_M_25 : jh_M[25]? = some (.inr (0, 10)) := rfl
theorem ka_M_26 : jh_M[26]? = some (.inr (0, 50)) := rfl
theorem ka_M_27 : jh_M[27]? = some (.inr (0, 10)) := rfl
theorem ka_M_28 : jh_M[28]? = some (.inr (0, 100)) := rfl
theorem ka_M_29 : jh_M[29]? = some (.inr (0, 100)) := rfl
theorem ka_M_30 : jh_M[30]? = some (.inr (0, 100)) := rfl
theorem ka_M_31 : jh_M[31]? = some (.inr (0, 100)) := rfl
theorem ka_M_32 : jh_M[32]? = some (.inr (0, 300)) := rfl
theorem ka_M_33 : jh_M[33]? = some (.inr (0, 5)) := rfl
theorem ka_M_34 : jh_M[34]? = some (.inr (0, 300)) := rfl
theorem ka_M_35 : jh_M[35]? = some (.inr (0, 5)) := rfl
theorem ka_M_36 : jh_M[36]? = some (.inr (0, 300)) := rfl
theorem ka_M_37 : jh_M[37]? = some (.inr (0, 300)) := rfl
theorem ka_M_38 : jh_M[38]? = some (.inr (1, 50)) := rfl
theorem ka_M_39 : jh_M[39]? = some (.inr (1, 20)) := rfl
theorem ka_M_40 : jh_M[40]? = some (.inr (0, 20)) := rfl
theorem ka_M_41 : jh_M[41]? = some (.inr (0, 420)) := rfl
/-- the cells of the class of the developers: 0 x, 1 halls, 2 films, 3 showings, 4 bars, 5 worths, 6 lateness, 7 jury, 8 standing, 9 reader, 10 award, 11 draft, 12 halls.town, 13 halls.seats, 14 halls.clearing, 15 halls.formats, 16 halls.ways, 17 films.minutes, 18 films.format, 19 films.fame, 20 films.guestFrom, 21 films.guestTo, 22 films.notBefore, 23 films.atMost, 24 films.notBeside, 25 showings.film, 26 showings.hall, 27 showings.begin, 28 showings.ending, 29 showings.sort, 30 showings.delays, 31 showings.there, 32 showings.comers, 33 worths.parts, 34 worths.hourList, 35 worths.beside, 36 worths.besideWithout, 37 lateness.order, 38 lateness.trueBegin, 39 lateness.trueEnd, 40 jury.age, 41 jury.votesOf, 42 jury.votes, 43 jury.rowSort, 44 jury.rowJuror, 45 jury.rowFilm, 46 jury.rowKnown, 47 standing.steps, 48 standing.points, 49 reader.tape, 50 award.counted, 51 award.countedOf, 52 award.firsts, 53 award.running, 54 award.sums, 55 draft.steps, 56 draft.points -/
def jh_X : List jf_K := [.inl (10, [some (some 1), some (some 2), some (some 3), some (some 4), some (some 5), some (some 6), some (some 7), some (some 8), some (some 9), some (some 10), none]), .inl (3, [some (some 12), some (some 13), some (some 14), some (some 15), some (some 16), none]), .inl (2, [some (some 17), some (some 18), some (some 19), some (some 20), some (some 21), some (some 22), some (some 23), some (some 24), none]), .inl (8, [some (some 25), some (some 26), some (some 27), some (some 28), some (some 29), some (some 30), some (some 31), some (some 32), none]), .inl (1, [some (some 1), some (some 2), some (some 3)]), .inl (9, [some (some 1), some (some 2), some (some 3), some (some 4), some (some 33), some (some 34), some (some 35), some (some 36), none, none, none, none, none]), .inl (5, [some (some 1), some (some 2), some (some 3), some (some 37), some (some 38), some (some 39), none, none, none]), .inl (4, [some (some 40), some (some 41), some (some 42), some (some 43), some (some 44), some (some 45), some (some 46), none, none]), .inl (7, [some (some 47), some (some 48), none, none, none, none]), .inl (6, [some (some 49), some (some 11), none, none, none, none, none]), .inl (0, [some (some 2), some (some 7), some (some 8), some (some 50), some (some 51), some (some 52), some (some 53), some (some 54), none]), .inl (7, [some (some 55), some (some 56), none, none, none, none]), .inr (0, 4), .inr (0, 4), .inr (0, 4), .inr (0, 4), .inr (0, 25), .inr (0, 20), .inr (0, 20), .inr (0, 20), .inr (0, 20), .inr (0, 20), .inr (0, 20), .inr (0, 20), .inr (0, 20), .inr (0, 60), .inr (0, 60), .inr (0, 60), .inr (0, 60), .inr (0, 60), .inr (0, 60), .inr (1, 60), .inr (0, 3060), .inr (0, 24), .inr (0, 10), .inr (0, 60), .inr (0, 60), .inr (0, 60), .inr (0, 60), .inr (0, 60), .inr (0, 10), .inr (0, 10), .inr (0, 50), .inr (0, 100), .inr (0, 100), .inr (0, 100), .inr (0, 100), .inr (0, 300), .inr (0, 5), .inr (0, 300), .inr (0, 50), .inr (0, 10), .inr (0, 20), .inr (1, 20), .inr (0, 400), .inr (0, 300), .inr (0, 5)]
theorem kk_X_0 : jf_cl jh_X 0 RX10 := ⟨10, _, TX10, 11, rfl, rfl⟩
theorem kk_X_1 : jf_cl jh_X 1 RX3 := ⟨3, _, TX3, 6, rfl, rfl⟩
theorem kk_X_2 : jf_cl jh_X 2 RX2 := ⟨2, _, TX2, 9, rfl, rfl⟩
theorem kk_X_3 : jf_cl jh_X 3 RX8 := ⟨8, _, TX8, 9, rfl, rfl⟩
theorem kk_X_4 : jf_cl jh_X 4 RX1 := ⟨1, _, TX1, 3, rfl, rfl⟩
theorem kk_X_5 : jf_cl jh_X 5 RX9 := ⟨9, _, TX9, 13, rfl, rfl⟩
theorem kk_X_6 : jf_cl jh_X 6 RX5 := ⟨5, _, TX5, 9, rfl, rfl⟩
theorem kk_X_7 : jf_cl jh_X 7 RX4 := ⟨4, _, TX4, 9, rfl, rfl⟩
theorem kk_X_8 : jf_cl jh_X 8 RX7 := ⟨7, _, TX7, 6, rfl, rfl⟩
theorem kk_X_9 : jf_cl jh_X 9 RX6 := ⟨6, _, TX6, 7, rfl, rfl⟩
theorem kk_X_10 : jf_cl jh_X 10 RX0 := ⟨0, _, TX0, 9, rfl, rfl⟩
theorem kk_X_11 : jf_cl jh_X 11 RX7 := ⟨7, _, TX7, 6, rfl, rfl⟩
theorem ka_X_12 : jh_X[12]? = some (.inr (0, 4)) := rfl
theorem ka_X_13 : jh_X[13]? = some (.inr (0, 4)) := rfl
theorem ka_X_14 : jh_X[14]? = some (.inr (0, 4)) := rfl
theorem ka_X_15 : jh_X[15]? = some (.inr (0, 4)) := rfl
theorem ka_X_16 : jh_X[16]? = some (.inr (0, 25)) := rfl
theorem ka_X_17 : jh_X[17]? = some (.inr (0, 20)) := rfl
theorem ka_X_18 : jh_X[18]? = some (.inr (0, 20)) := rfl
theorem ka_X_19 : jh_X[19]? = some (.inr (0, 20)) := rfl
theorem ka_X_20 : jh_X[20]? = some (.inr (0, 20)) := rfl
theorem ka_X_21 : jh_X[21]? = some (.inr (0, 20)) := rfl
theorem ka_X_22 : jh_X[22]? = some (.inr (0, 20)) := rfl
theorem ka_X_23 : jh_X[23]? = some (.inr (0, 20)) := rfl
theorem ka_X_24 : jh_X[24]? = some (.inr (0, 20)) := rfl
theorem ka_X_25 : jh_X[25]? = some (.inr (0, 60)) := rfl
theorem ka_X_26 : jh_X[26]? = some (.inr (0, 60)) := rfl
theorem ka_X_27 : jh_X[27]? = some (.inr (0, 60)) := rfl
theorem ka_X_28 : jh_X[28]? = some (.inr (0, 60)) := rfl
theorem ka_X_29 : jh_X[29]? = some (.inr (0, 60)) := rfl
theorem ka_X_30 : jh_X[30]? = some (.inr (0, 60)) := rfl
theorem ka_X_31 : jh_X[31]? = some (.inr (1, 60)) := rfl
theorem ka_X_32 : jh_X[32]? = some (.inr (0, 3060)) := rfl
theorem ka_X_33 : jh_X[33]? = some (.inr (0, 24)) := rfl
theorem ka_X_34 : jh_X[34]? = some (.inr (0, 10)) := rfl
theorem ka_X_35 : jh_X[35]? = some (.inr (0, 60)) := rfl
theorem ka_X_36 : jh_X[36]? = some (.inr (0, 60)) := rfl
theorem ka_X_37 : jh_X[37]? = some (.inr (0, 60)) := rfl
theorem ka_X_38 : jh_X[38]? = some (.inr (0, 60)) := rfl
theorem ka_X_39 : jh_X[39]? = some (.inr (0, 60)) := rfl
theorem ka_X_40 : jh_X[40]? = some (.inr (0, 10)) := rfl
theorem ka_X_41 : jh_X[41]? = some (.inr (0, 10)) := rfl
theorem ka_X_42 : jh_X[42]? = some (.inr (0, 50)) := rfl
theorem ka_X_43 : jh_X[43]? = some (.inr (0, 100)) := rfl
theorem ka_X_44 : jh_X[44]? = some (.inr (0, 100)) := rfl
theorem ka_X_45 : jh_X[45]? = some (.inr (0, 100)) := rfl
theorem ka_X_46 : jh_X[46]? = some (.inr (0, 100)) := rfl
theorem ka_X_47 : jh_X[47]? = some (.inr (0, 300)) := rfl
theorem ka_X_48 : jh_X[48]? = some (.inr (0, 5)) := rfl
theorem ka_X_49 : jh_X[49]? = some (.inr (0, 300)) := rfl
theorem ka_X_50 : jh_X[50]? = some (.inr (0, 50)) := rfl
theorem ka_X_51 : jh_X[51]? = some (.inr (0, 10)) := rfl
theorem ka_X_52 : jh_X[52]? = some (.inr (0, 20)) := rfl
theorem ka_X_53 : jh_X[53]? = some (.inr (1, 20)) := rfl
theorem ka_X_54 : jh_X[54]? = some (.inr (0, 400)) := rfl
theorem ka_X_55 : jh_X[55]? = some (.inr (0, 300)) := rfl
theorem ka_X_56 : jh_X[56]? = some (.inr (0, 5)) := rfl
set_option maxRecDepth 100000 in
theorem inX0 : ∀ w ∈ u_ws RX0 TX0 9, w ∈ jf_tb := jt_in [394, 396, 398, 400, 402, 404, 406, 408, 410] (by decide +kernel) (by decide +kernel)
set_option maxRecDepth 100000 in
theorem inX1 : ∀ w ∈ u_ws RX1 TX1 3, w ∈ jf_tb := jt_in [178, 180, 182] (by decide +kernel) (by decide +kernel)
set_option maxRecDepth 100000 in
theorem inX2 : ∀ w ∈ u_ws RX2 TX2 9, w ∈ jf_tb := jt_in [86, 88, 90, 92, 94, 96, 98, 100, 102] (by decide +kernel) (by decide +kernel)
set_option maxRecDepth 100000 in
theorem inX3 : ∀ w ∈ u_ws RX3 TX3 6, w ∈ jf_tb := jt_in [47, 49, 51, 53, 55, 57] (by decide +kernel) (by decide +kernel)
set_option maxRecDepth 100000 in
theorem inX4 : ∀ w ∈ u_ws RX4 TX4 9, w ∈ jf_tb := jt_in [296, 298, 300, 302, 304, 306, 308, 310, 312] (by decide +kernel) (by decide +kernel)
set_option maxRecDepth 100000 in
theorem inX5 : ∀ w ∈ u_ws RX5 TX5 9, w ∈ jf_tb := jt_in [256, 258, 260, 262, 264, 266, 268, 270, 272] (by decide +kernel) (by decide +kernel)
set_option maxRecDepth 100000 in
theorem inX6 : ∀ w ∈ u_ws RX6 TX6 7, w ∈ jf_tb := jt_in [363, 365, 367, 369, 371, 373, 375] (by decide +kernel) (by decide +kernel)
set_option maxRecDepth 100000 in
theorem inX7 : ∀ w ∈ u_ws RX7 TX7 6, w ∈ jf_tb := jt_in [332, 334, 336, 338, 340, 342] (by decide +kernel) (by decide +kernel)
set_option maxRecDepth 100000 in
theorem inX8 : ∀ w ∈ u_ws RX8 TX8 9, w ∈ jf_tb := jt_in [149, 151, 153, 155, 157, 159, 161, 163, 165] (by decide +kernel) (by decide +kernel)
set_option maxRecDepth 100000 in
theorem inX9 : ∀ w ∈ u_ws RX9 TX9 13, w ∈ jf_tb := jt_in [209, 211, 213, 215, 217, 219, 221, 223, 225, 227, 229, 231, 233] (by decide +kernel) (by decide +kernel)
set_option maxRecDepth 100000 in
theorem inX10 : ∀ w ∈ u_ws RX10 TX10 11, w ∈ jf_tb := jt_in [424, 426, 428, 430, 432, 434, 436, 438, 440, 442, 444] (by decide +kernel) (by decide +kernel)
set_option maxRecDepth 100000 in
theorem inX11 : ∀ w ∈ u_ws RX11 TX11 70, w ∈ jf_tb := jt_in [1062, 1064, 1066, 1068, 1070, 1072, 1074, 1076, 1078, 1080, 1082, 1084, 1086, 1088, 1090, 1092, 1094, 1096, 1098, 1100, 1102, 1104, 1106, 1108, 1110, 1112, 1114, 1116, 1118, 1120, 1122, 1124, 1126, 1128, 1130, 1132, 1134, 1136, 1138, 1140, 1142, 1144, 1146, 1148, 1150, 1152, 1154, 1156, 1158, 1160, 1162, 1164, 1166, 1168, 1170, 1172, 1174, 1176, 1178, 1180, 1182, 1184, 1186, 1188, 1190, 1192, 1194, 1196, 1198, 1200] (by decide +kernel) (by decide +kernel)
theorem kf_X0_9_10 : jf_f jh_X RX0 9 10 3 (some (some 50)) := ⟨0, _, RX0, TX0, 9, rfl, rfl, rfl, by decide, inX0, (jt_2 147 rfl rfl)⟩
theorem kf_X0_15_10 : jf_f jh_X RX0 15 10 4 (some (some 51)) := ⟨0, _, RX0, TX0, 9, rfl, rfl, rfl, by decide, inX0, (jt_2 148 rfl rfl)⟩
theorem kf_X0_18_10 : jf_f jh_X RX0 18 10 5 (some (some 52)) := ⟨0, _, RX0, TX0, 9, rfl, rfl, rfl, by decide, inX0, (jt_2 149 rfl rfl)⟩
theorem kf_X0_21_10 : jf_f jh_X RX0 21 10 6 (some (some 53)) := ⟨0, _, RX0, TX0, 9, rfl, rfl, rfl, by decide, inX0, (jt_2 150 rfl rfl)⟩
theorem kf_X0_25_10 : jf_f jh_X RX0 25 10 7 (some (some 54)) := ⟨0, _, RX0, TX0, 9, rfl, rfl, rfl, by decide, inX0, (jt_2 151 rfl rfl)⟩
theorem kf_X0_28_10 : jf_f jh_X RX0 28 10 8 (none) := ⟨0, _, RX0, TX0, 9, rfl, rfl, rfl, by decide, inX0, (jt_2 152 rfl rfl)⟩
theorem kp_X0_28_10 : jf_p jh_X RX0 28 10 8 (none) .int := ⟨0, _, RX0, TX0, 9, tyX0, rfl, rfl, rfl, by decide, inX0, (jt_2 152 rfl rfl), tyX0_ok, nmX0, rfl, by decide +kernel⟩
theorem kf_X0_32_10 : jf_f jh_X RX0 32 10 0 (some (some 2)) := ⟨0, _, RX0, TX0, 9, rfl, rfl, rfl, by decide, inX0, (jt_2 144 rfl rfl)⟩
theorem kf_X0_36_10 : jf_f jh_X RX0 36 10 1 (some (some 7)) := ⟨0, _, RX0, TX0, 9, rfl, rfl, rfl, by decide, inX0, (jt_2 145 rfl rfl)⟩
theorem kf_X0_40_10 : jf_f jh_X RX0 40 10 2 (some (some 8)) := ⟨0, _, RX0, TX0, 9, rfl, rfl, rfl, by decide, inX0, (jt_2 146 rfl rfl)⟩
theorem kf_X0_48_8 : jf_f jh_X RX0 48 8 4 (none) := ⟨7, _, RX7, TX7, 6, rfl, rfl, rfl, by decide, inX7, (jt_2 87 rfl rfl)⟩
theorem kf_X0_48_11 : jf_f jh_X RX0 48 11 4 (none) := ⟨7, _, RX7, TX7, 6, rfl, rfl, rfl, by decide, inX7, (jt_2 87 rfl rfl)⟩
theorem kf_X0_60_7 : jf_f jh_X RX0 60 7 7 (none) := ⟨4, _, RX4, TX4, 9, rfl, rfl, rfl, by decide, inX4, (jt_2 52 rfl rfl)⟩
theorem kf_X0_65_7 : jf_f jh_X RX0 65 7 1 (some (some 41)) := ⟨4, _, RX4, TX4, 9, rfl, rfl, rfl, by decide, inX4, (jt_2 43 rfl rfl)⟩
theorem kf_X0_68_7 : jf_f jh_X RX0 68 7 2 (some (some 42)) := ⟨4, _, RX4, TX4, 9, rfl, rfl, rfl, by decide, inX4, (jt_2 46 rfl rfl)⟩
theorem kf_X0_95_8 : jf_f jh_X RX0 95 8 5 (none) := ⟨7, _, RX7, TX7, 6, rfl, rfl, rfl, by decide, inX7, (jt_2 91 rfl rfl)⟩
theorem kf_X0_95_11 : jf_f jh_X RX0 95 11 5 (none) := ⟨7, _, RX7, TX7, 6, rfl, rfl, rfl, by decide, inX7, (jt_2 91 rfl rfl)⟩
theorem kf_X0_98_2 : jf_f jh_X RX0 98 2 2 (some (some 19)) := ⟨2, _, RX2, TX2, 9, rfl, rfl, rfl, by decide, inX2, (jt_1 75 rfl rfl)⟩
theorem kf_X1_9_4 : jf_f jh_X RX1 9 4 0 (some (some 1)) := ⟨1, _, RX1, TX1, 3, rfl, rfl, rfl, by decide, inX1, (jt_1 175 rfl rfl)⟩
theorem kf_X1_15_4 : jf_f jh_X RX1 15 4 1 (some (some 2)) := ⟨1, _, RX1, TX1, 3, rfl, rfl, rfl, by decide, inX1, (jt_1 176 rfl rfl)⟩
theorem kf_X1_19_4 : jf_f jh_X RX1 19 4 2 (some (some 3)) := ⟨1, _, RX1, TX1, 3, rfl, rfl, rfl, by decide, inX1, (jt_1 177 rfl rfl)⟩
theorem kf_X1_23_2 : jf_f jh_X RX1 23 2 0 (some (some 17)) := ⟨2, _, RX2, TX2, 9, rfl, rfl, rfl, by decide, inX2, (jt_1 68 rfl rfl)⟩
theorem kf_X1_29_1 : jf_f jh_X RX1 29 1 3 (some (some 15)) := ⟨3, _, RX3, TX3, 6, rfl, rfl, rfl, by decide, inX3, (jt_1 42 rfl rfl)⟩
theorem kf_X1_34_2 : jf_f jh_X RX1 34 2 1 (some (some 18)) := ⟨2, _, RX2, TX2, 9, rfl, rfl, rfl, by decide, inX2, (jt_1 73 rfl rfl)⟩
theorem kf_X1_53_2 : jf_f jh_X RX1 53 2 5 (some (some 22)) := ⟨2, _, RX2, TX2, 9, rfl, rfl, rfl, by decide, inX2, (jt_1 80 rfl rfl)⟩
theorem kf_X1_63_2 : jf_f jh_X RX1 63 2 6 (some (some 23)) := ⟨2, _, RX2, TX2, 9, rfl, rfl, rfl, by decide, inX2, (jt_1 82 rfl rfl)⟩
theorem kf_X1_69_1 : jf_f jh_X RX1 69 1 2 (some (some 14)) := ⟨3, _, RX3, TX3, 6, rfl, rfl, rfl, by decide, inX3, (jt_1 39 rfl rfl)⟩
theorem kf_X1_72_3 : jf_f jh_X RX1 72 3 8 (none) := ⟨8, _, RX8, TX8, 9, rfl, rfl, rfl, by decide, inX8, (jt_1 146 rfl rfl)⟩
theorem kf_X1_78_3 : jf_f jh_X RX1 78 3 6 (some (some 31)) := ⟨8, _, RX8, TX8, 9, rfl, rfl, rfl, by decide, inX8, (jt_1 138 rfl rfl)⟩
theorem kf_X1_82_3 : jf_f jh_X RX1 82 3 1 (some (some 26)) := ⟨8, _, RX8, TX8, 9, rfl, rfl, rfl, by decide, inX8, (jt_1 117 rfl rfl)⟩
theorem kf_X1_85_3 : jf_f jh_X RX1 85 3 2 (some (some 27)) := ⟨8, _, RX8, TX8, 9, rfl, rfl, rfl, by decide, inX8, (jt_1 123 rfl rfl)⟩
theorem kf_X1_88_3 : jf_f jh_X RX1 88 3 3 (some (some 28)) := ⟨8, _, RX8, TX8, 9, rfl, rfl, rfl, by decide, inX8, (jt_1 127 rfl rfl)⟩
theorem kf_X1_91_3 : jf_f jh_X RX1 91 3 0 (some (some 25)) := ⟨8, _, RX8, TX8, 9, rfl, rfl, rfl, by decide, inX8, (jt_1 113 rfl rfl)⟩
theorem kf_X10_10_0 : jf_f jh_X RX10 10 0 0 (some (some 1)) := ⟨10, _, RX10, TX10, 11, rfl, rfl, rfl, by decide, inX10, (jt_2 173 rfl rfl)⟩
theorem kf_X10_19_0 : jf_f jh_X RX10 19 0 1 (some (some 2)) := ⟨10, _, RX10, TX10, 11, rfl, rfl, rfl, by decide, inX10, (jt_2 174 rfl rfl)⟩
theorem kf_X10_26_0 : jf_f jh_X RX10 26 0 2 (some (some 3)) := ⟨10, _, RX10, TX10, 11, rfl, rfl, rfl, by decide, inX10, (jt_2 175 rfl rfl)⟩
theorem kf_X10_35_0 : jf_f jh_X RX10 35 0 3 (some (some 4)) := ⟨10, _, RX10, TX10, 11, rfl, rfl, rfl, by decide, inX10, (jt_2 176 rfl rfl)⟩
theorem kf_X10_44_0 : jf_f jh_X RX10 44 0 4 (some (some 5)) := ⟨10, _, RX10, TX10, 11, rfl, rfl, rfl, by decide, inX10, (jt_2 177 rfl rfl)⟩
theorem kf_X10_51_0 : jf_f jh_X RX10 51 0 5 (some (some 6)) := ⟨10, _, RX10, TX10, 11, rfl, rfl, rfl, by decide, inX10, (jt_2 178 rfl rfl)⟩
theorem kf_X10_58_0 : jf_f jh_X RX10 58 0 6 (some (some 7)) := ⟨10, _, RX10, TX10, 11, rfl, rfl, rfl, by decide, inX10, (jt_2 179 rfl rfl)⟩
theorem kf_X10_65_0 : jf_f jh_X RX10 65 0 7 (some (some 8)) := ⟨10, _, RX10, TX10, 11, rfl, rfl, rfl, by decide, inX10, (jt_2 180 rfl rfl)⟩
theorem kf_X10_72_0 : jf_f jh_X RX10 72 0 8 (some (some 9)) := ⟨10, _, RX10, TX10, 11, rfl, rfl, rfl, by decide, inX10, (jt_2 181 rfl rfl)⟩
theorem kf_X10_81_0 : jf_f jh_X RX10 81 0 9 (some (some 10)) := ⟨10, _, RX10, TX10, 11, rfl, rfl, rfl, by decide, inX10, (jt_2 182 rfl rfl)⟩
theorem kf_X10_85_0 : jf_f jh_X RX10 85 0 10 (none) := ⟨10, _, RX10, TX10, 11, rfl, rfl, rfl, by decide, inX10, (jt_2 183 rfl rfl)⟩
theorem kp_X10_85_0 : jf_p jh_X RX10 85 0 10 (none) .int := ⟨10, _, RX10, TX10, 11, tyX10, rfl, rfl, rfl, by decide, inX10, (jt_2 183 rfl rfl), tyX10_ok, nmX10, rfl, by decide +kernel⟩
theorem kf_X10_128_2 : jf_f jh_X RX10 128 2 0 (some (some 17)) := ⟨2, _, RX2, TX2, 9, rfl, rfl, rfl, by decide, inX2, (jt_1 70 rfl rfl)⟩
theorem kf_X10_136_3 : jf_f jh_X RX10 136 3 6 (some (some 31)) := ⟨8, _, RX8, TX8, 9, rfl, rfl, rfl, by decide, inX8, (jt_1 140 rfl rfl)⟩
theorem kf_X10_140_3 : jf_f jh_X RX10 140 3 0 (some (some 25)) := ⟨8, _, RX8, TX8, 9, rfl, rfl, rfl, by decide, inX8, (jt_1 115 rfl rfl)⟩
theorem kf_X10_143_3 : jf_f jh_X RX10 143 3 1 (some (some 26)) := ⟨8, _, RX8, TX8, 9, rfl, rfl, rfl, by decide, inX8, (jt_1 119 rfl rfl)⟩
theorem kf_X10_146_3 : jf_f jh_X RX10 146 3 2 (some (some 27)) := ⟨8, _, RX8, TX8, 9, rfl, rfl, rfl, by decide, inX8, (jt_1 125 rfl rfl)⟩
theorem kf_X10_149_3 : jf_f jh_X RX10 149 3 4 (some (some 29)) := ⟨8, _, RX8, TX8, 9, rfl, rfl, rfl, by decide, inX8, (jt_1 131 rfl rfl)⟩
theorem kf_X10_152_3 : jf_f jh_X RX10 152 3 3 (some (some 28)) := ⟨8, _, RX8, TX8, 9, rfl, rfl, rfl, by decide, inX8, (jt_1 128 rfl rfl)⟩
theorem kf_X10_164_6 : jf_f jh_X RX10 164 6 4 (some (some 38)) := ⟨5, _, RX5, TX5, 9, rfl, rfl, rfl, by decide, inX5, (jt_2 7 rfl rfl)⟩
theorem kf_X10_167_6 : jf_f jh_X RX10 167 6 5 (some (some 39)) := ⟨5, _, RX5, TX5, 9, rfl, rfl, rfl, by decide, inX5, (jt_2 9 rfl rfl)⟩
theorem kf_X10_170_5 : jf_f jh_X RX10 170 5 4 (some (some 33)) := ⟨9, _, RX9, TX9, 13, rfl, rfl, rfl, by decide, inX9, (jt_1 199 rfl rfl)⟩
theorem kf_X10_183_3 : jf_f jh_X RX10 183 3 7 (some (some 32)) := ⟨8, _, RX8, TX8, 9, rfl, rfl, rfl, by decide, inX8, (jt_1 143 rfl rfl)⟩
theorem kf_X10_186_6 : jf_f jh_X RX10 186 6 6 (none) := ⟨5, _, RX5, TX5, 9, rfl, rfl, rfl, by decide, inX5, (jt_2 11 rfl rfl)⟩
theorem kp_X10_186_6 : jf_p jh_X RX10 186 6 6 (none) .int := ⟨5, _, RX5, TX5, 9, tyX5, rfl, rfl, rfl, by decide, inX5, (jt_2 11 rfl rfl), tyX5_ok, nmX5, rfl, by decide +kernel⟩
theorem kf_X10_189_3 : jf_f jh_X RX10 189 3 5 (some (some 30)) := ⟨8, _, RX8, TX8, 9, rfl, rfl, rfl, by decide, inX8, (jt_1 135 rfl rfl)⟩
theorem kf_X10_196_6 : jf_f jh_X RX10 196 6 7 (none) := ⟨5, _, RX5, TX5, 9, rfl, rfl, rfl, by decide, inX5, (jt_2 13 rfl rfl)⟩
theorem kf_X10_199_6 : jf_f jh_X RX10 199 6 8 (none) := ⟨5, _, RX5, TX5, 9, rfl, rfl, rfl, by decide, inX5, (jt_2 15 rfl rfl)⟩
theorem kf_X10_209_7 : jf_f jh_X RX10 209 7 1 (some (some 41)) := ⟨4, _, RX4, TX4, 9, rfl, rfl, rfl, by decide, inX4, (jt_2 44 rfl rfl)⟩
theorem kf_X10_225_9 : jf_f jh_X RX10 225 9 2 (none) := ⟨6, _, RX6, TX6, 7, rfl, rfl, rfl, by decide, inX6, (jt_2 117 rfl rfl)⟩
theorem kp_X10_225_9 : jf_p jh_X RX10 225 9 2 (none) .int := ⟨6, _, RX6, TX6, 7, tyX6, rfl, rfl, rfl, by decide, inX6, (jt_2 117 rfl rfl), tyX6_ok, nmX6, rfl, by decide +kernel⟩
theorem kf_X10_232_9 : jf_f jh_X RX10 232 9 1 (some (some 11)) := ⟨6, _, RX6, TX6, 7, rfl, rfl, rfl, by decide, inX6, (jt_2 115 rfl rfl)⟩
theorem kf_X10_239_9 : jf_f jh_X RX10 239 9 3 (none) := ⟨6, _, RX6, TX6, 7, rfl, rfl, rfl, by decide, inX6, (jt_2 119 rfl rfl)⟩
theorem kf_X10_242_8 : jf_f jh_X RX10 242 8 2 (none) := ⟨7, _, RX7, TX7, 6, rfl, rfl, rfl, by decide, inX7, (jt_2 84 rfl rfl)⟩
theorem kf_X10_242_11 : jf_f jh_X RX10 242 11 2 (none) := ⟨7, _, RX7, TX7, 6, rfl, rfl, rfl, by decide, inX7, (jt_2 84 rfl rfl)⟩
theorem kf_X10_257_10 : jf_f jh_X RX10 257 10 8 (none) := ⟨0, _, RX0, TX0, 9, rfl, rfl, rfl, by decide, inX0, (jt_2 153 rfl rfl)⟩
theorem kf_X10_263_1 : jf_f jh_X RX10 263 1 5 (none) := ⟨3, _, RX3, TX3, 6, rfl, rfl, rfl, by decide, inX3, (jt_1 46 rfl rfl)⟩
theorem kf_X10_266_2 : jf_f jh_X RX10 266 2 8 (none) := ⟨2, _, RX2, TX2, 9, rfl, rfl, rfl, by decide, inX2, (jt_1 85 rfl rfl)⟩
theorem kf_X10_270_3 : jf_f jh_X RX10 270 3 8 (none) := ⟨8, _, RX8, TX8, 9, rfl, rfl, rfl, by decide, inX8, (jt_1 148 rfl rfl)⟩
theorem kf_X10_273_7 : jf_f jh_X RX10 273 7 7 (none) := ⟨4, _, RX4, TX4, 9, rfl, rfl, rfl, by decide, inX4, (jt_2 53 rfl rfl)⟩
theorem kf_X10_274_7 : jf_f jh_X RX10 274 7 8 (none) := ⟨4, _, RX4, TX4, 9, rfl, rfl, rfl, by decide, inX4, (jt_2 55 rfl rfl)⟩
theorem kf_X10_277_5 : jf_f jh_X RX10 277 5 8 (none) := ⟨9, _, RX9, TX9, 13, rfl, rfl, rfl, by decide, inX9, (jt_1 204 rfl rfl)⟩
theorem kf_X10_280_8 : jf_f jh_X RX10 280 8 4 (none) := ⟨7, _, RX7, TX7, 6, rfl, rfl, rfl, by decide, inX7, (jt_2 88 rfl rfl)⟩
theorem kf_X10_280_11 : jf_f jh_X RX10 280 11 4 (none) := ⟨7, _, RX7, TX7, 6, rfl, rfl, rfl, by decide, inX7, (jt_2 88 rfl rfl)⟩
theorem kf_X11_7_0 : jf_f jh_M RX11 7 0 3 (some (some 1)) := ⟨11, _, RX11, TX11, 70, rfl, rfl, rfl, by decide, inX11, (jt_5 35 rfl rfl)⟩
theorem kf_X11_13_0 : jf_f jh_M RX11 13 0 4 (some (some 2)) := ⟨11, _, RX11, TX11, 70, rfl, rfl, rfl, by decide, inX11, (jt_5 36 rfl rfl)⟩
theorem kf_X11_16_0 : jf_f jh_M RX11 16 0 5 (some (some 3)) := ⟨11, _, RX11, TX11, 70, rfl, rfl, rfl, by decide, inX11, (jt_5 37 rfl rfl)⟩
theorem kf_X11_19_0 : jf_f jh_M RX11 19 0 6 (some (some 4)) := ⟨11, _, RX11, TX11, 70, rfl, rfl, rfl, by decide, inX11, (jt_5 38 rfl rfl)⟩
theorem kf_X11_22_0 : jf_f jh_M RX11 22 0 8 (some (some 5)) := ⟨11, _, RX11, TX11, 70, rfl, rfl, rfl, by decide, inX11, (jt_5 40 rfl rfl)⟩
theorem kf_X11_25_0 : jf_f jh_M RX11 25 0 9 (some (some 6)) := ⟨11, _, RX11, TX11, 70, rfl, rfl, rfl, by decide, inX11, (jt_5 41 rfl rfl)⟩
theorem kf_X11_28_0 : jf_f jh_M RX11 28 0 10 (some (some 7)) := ⟨11, _, RX11, TX11, 70, rfl, rfl, rfl, by decide, inX11, (jt_5 42 rfl rfl)⟩
theorem kf_X11_31_0 : jf_f jh_M RX11 31 0 11 (some (some 8)) := ⟨11, _, RX11, TX11, 70, rfl, rfl, rfl, by decide, inX11, (jt_5 43 rfl rfl)⟩
theorem kf_X11_34_0 : jf_f jh_M RX11 34 0 12 (some (some 9)) := ⟨11, _, RX11, TX11, 70, rfl, rfl, rfl, by decide, inX11, (jt_5 44 rfl rfl)⟩
theorem kf_X11_37_0 : jf_f jh_M RX11 37 0 13 (some (some 10)) := ⟨11, _, RX11, TX11, 70, rfl, rfl, rfl, by decide, inX11, (jt_5 45 rfl rfl)⟩
theorem kf_X11_40_0 : jf_f jh_M RX11 40 0 14 (some (some 11)) := ⟨11, _, RX11, TX11, 70, rfl, rfl, rfl, by decide, inX11, (jt_5 46 rfl rfl)⟩
theorem kf_X11_43_0 : jf_f jh_M RX11 43 0 15 (some (some 12)) := ⟨11, _, RX11, TX11, 70, rfl, rfl, rfl, by decide, inX11, (jt_5 47 rfl rfl)⟩
theorem kf_X11_46_0 : jf_f jh_M RX11 46 0 16 (some (some 13)) := ⟨11, _, RX11, TX11, 70, rfl, rfl, rfl, by decide, inX11, (jt_5 48 rfl rfl)⟩
theorem kf_X11_49_0 : jf_f jh_M RX11 49 0 18 (some (some 14)) := ⟨11, _, RX11, TX11, 70, rfl, rfl, rfl, by decide, inX11, (jt_5 50 rfl rfl)⟩
theorem kf_X11_53_0 : jf_f jh_M RX11 53 0 19 (some (some 15)) := ⟨11, _, RX11, TX11, 70, rfl, rfl, rfl, by decide, inX11, (jt_5 51 rfl rfl)⟩
theorem kf_X11_56_0 : jf_f jh_M RX11 56 0 20 (some (some 16)) := ⟨11, _, RX11, TX11, 70, rfl, rfl, rfl, by decide, inX11, (jt_5 52 rfl rfl)⟩
theorem kf_X11_59_0 : jf_f jh_M RX11 59 0 21 (some (some 17)) := ⟨11, _, RX11, TX11, 70, rfl, rfl, rfl, by decide, inX11, (jt_5 53 rfl rfl)⟩
theorem kf_X11_62_0 : jf_f jh_M RX11 62 0 22 (some (some 18)) := ⟨11, _, RX11, TX11, 70, rfl, rfl, rfl, by decide, inX11, (jt_5 54 rfl rfl)⟩
theorem kf_X11_65_0 : jf_f jh_M RX11 65 0 23 (some (some 19)) := ⟨11, _, RX11, TX11, 70, rfl, rfl, rfl, by decide, inX11, (jt_5 55 rfl rfl)⟩
theorem kf_X11_68_0 : jf_f jh_M RX11 68 0 24 (some (some 20)) := ⟨11, _, RX11, TX11, 70, rfl, rfl, rfl, by decide, inX11, (jt_5 56 rfl rfl)⟩
theorem kf_X11_71_0 : jf_f jh_M RX11 71 0 25 (some (some 21)) := ⟨11, _, RX11, TX11, 70, rfl, rfl, rfl, by decide, inX11, (jt_5 57 rfl rfl)⟩
theorem kf_X11_74_0 : jf_f jh_M RX11 74 0 26 (some (some 22)) := ⟨11, _, RX11, TX11, 70, rfl, rfl, rfl, by decide, inX11, (jt_5 58 rfl rfl)⟩
theorem kf_X11_77_0 : jf_f jh_M RX11 77 0 28 (none) := ⟨11, _, RX11, TX11, 70, rfl, rfl, rfl, by decide, inX11, (jt_5 60 rfl rfl)⟩
theorem kp_X11_77_0 : jf_p jh_M RX11 77 0 28 (none) .int := ⟨11, _, RX11, TX11, 70, tyX11, rfl, rfl, rfl, by decide, inX11, (jt_5 60 rfl rfl), tyX11_ok, nmX11, rfl, by decide +kernel⟩
theorem kf_X11_81_0 : jf_f jh_M RX11 81 0 29 (some (some 23)) := ⟨11, _, RX11, TX11, 70, rfl, rfl, rfl, by decide, inX11, (jt_5 61 rfl rfl)⟩
theorem kf_X11_84_0 : jf_f jh_M RX11 84 0 30 (some (some 24)) := ⟨11, _, RX11, TX11, 70, rfl, rfl, rfl, by decide, inX11, (jt_5 62 rfl rfl)⟩
theorem kf_X11_87_0 : jf_f jh_M RX11 87 0 36 (some (some 25)) := ⟨11, _, RX11, TX11, 70, rfl, rfl, rfl, by decide, inX11, (jt_5 68 rfl rfl)⟩
theorem kf_X11_90_0 : jf_f jh_M RX11 90 0 37 (some (some 26)) := ⟨11, _, RX11, TX11, 70, rfl, rfl, rfl, by decide, inX11, (jt_5 69 rfl rfl)⟩
theorem kf_X11_93_0 : jf_f jh_M RX11 93 0 38 (some (some 27)) := ⟨11, _, RX11, TX11, 70, rfl, rfl, rfl, by decide, inX11, (jt_5 70 rfl rfl)⟩
theorem kf_X11_96_0 : jf_f jh_M RX11 96 0 40 (some (some 28)) := ⟨11, _, RX11, TX11, 70, rfl, rfl, rfl, by decide, inX11, (jt_5 72 rfl rfl)⟩
theorem kf_X11_99_0 : jf_f jh_M RX11 99 0 41 (some (some 29)) := ⟨11, _, RX11, TX11, 70, rfl, rfl, rfl, by decide, inX11, (jt_5 73 rfl rfl)⟩
theorem kf_X11_102_0 : jf_f jh_M RX11 102 0 42 (some (some 30)) := ⟨11, _, RX11, TX11, 70, rfl, rfl, rfl, by decide, inX11, (jt_5 74 rfl rfl)⟩
theorem kf_X11_105_0 : jf_f jh_M RX11 105 0 43 (some (some 31)) := ⟨11, _, RX11, TX11, 70, rfl, rfl, rfl, by decide, inX11, (jt_5 75 rfl rfl)⟩
theorem kf_X11_108_0 : jf_f jh_M RX11 108 0 45 (some (some 32)) := ⟨11, _, RX11, TX11, 70, rfl, rfl, rfl, by decide, inX11, (jt_5 77 rfl rfl)⟩
theorem kf_X11_111_0 : jf_f jh_M RX11 111 0 47 (some (some 33)) := ⟨11, _, RX11, TX11, 70, rfl, rfl, rfl, by decide, inX11, (jt_5 79 rfl rfl)⟩
theorem kf_X11_114_0 : jf_f jh_M RX11 114 0 50 (some (some 34)) := ⟨11, _, RX11, TX11, 70, rfl, rfl, rfl, by decide, inX11, (jt_5 82 rfl rfl)⟩
theorem kf_X11_117_0 : jf_f jh_M RX11 117 0 52 (some (some 35)) := ⟨11, _, RX11, TX11, 70, rfl, rfl, rfl, by decide, inX11, (jt_5 84 rfl rfl)⟩
theorem kf_X11_120_0 : jf_f jh_M RX11 120 0 55 (some (some 36)) := ⟨11, _, RX11, TX11, 70, rfl, rfl, rfl, by decide, inX11, (jt_5 87 rfl rfl)⟩
theorem kf_X11_123_0 : jf_f jh_M RX11 123 0 57 (some (some 37)) := ⟨11, _, RX11, TX11, 70, rfl, rfl, rfl, by decide, inX11, (jt_5 89 rfl rfl)⟩
theorem kf_X11_126_0 : jf_f jh_M RX11 126 0 63 (none) := ⟨11, _, RX11, TX11, 70, rfl, rfl, rfl, by decide, inX11, (jt_5 95 rfl rfl)⟩
theorem kp_X11_126_0 : jf_p jh_M RX11 126 0 63 (none) .int := ⟨11, _, RX11, TX11, 70, tyX11, rfl, rfl, rfl, by decide, inX11, (jt_5 95 rfl rfl), tyX11_ok, nmX11, rfl, by decide +kernel⟩
theorem kf_X11_129_0 : jf_f jh_M RX11 129 0 65 (some (some 38)) := ⟨11, _, RX11, TX11, 70, rfl, rfl, rfl, by decide, inX11, (jt_5 97 rfl rfl)⟩
theorem kf_X11_132_0 : jf_f jh_M RX11 132 0 66 (some (some 39)) := ⟨11, _, RX11, TX11, 70, rfl, rfl, rfl, by decide, inX11, (jt_5 98 rfl rfl)⟩
theorem kf_X11_135_0 : jf_f jh_M RX11 135 0 67 (some (some 40)) := ⟨11, _, RX11, TX11, 70, rfl, rfl, rfl, by decide, inX11, (jt_5 99 rfl rfl)⟩
theorem kf_X11_138_0 : jf_f jh_M RX11 138 0 68 (some (some 41)) := ⟨11, _, RX11, TX11, 70, rfl, rfl, rfl, by decide, inX11, (jt_5 100 rfl rfl)⟩
theorem kf_X11_141_0 : jf_f jh_M RX11 141 0 69 (none) := ⟨11, _, RX11, TX11, 70, rfl, rfl, rfl, by decide, inX11, (jt_5 101 rfl rfl)⟩
theorem kp_X11_141_0 : jf_p jh_M RX11 141 0 69 (none) .int := ⟨11, _, RX11, TX11, 70, tyX11, rfl, rfl, rfl, by decide, inX11, (jt_5 101 rfl rfl), tyX11_ok, nmX11, rfl, by decide +kernel⟩
theorem kp_X11_144_0 : jf_p jh_M RX11 144 0 0 (none) .int := ⟨11, _, RX11, TX11, 70, tyX11, rfl, rfl, rfl, by decide, inX11, (jt_5 32 rfl rfl), tyX11_ok, nmX11, rfl, by decide +kernel⟩
theorem kf_X11_147_0 : jf_f jh_M RX11 147 0 1 (none) := ⟨11, _, RX11, TX11, 70, rfl, rfl, rfl, by decide, inX11, (jt_5 33 rfl rfl)⟩
theorem kp_X11_147_0 : jf_p jh_M RX11 147 0 1 (none) .int := ⟨11, _, RX11, TX11, 70, tyX11, rfl, rfl, rfl, by decide, inX11, (jt_5 33 rfl rfl), tyX11_ok, nmX11, rfl, by decide +kernel⟩
theorem kf_X11_150_0 : jf_f jh_M RX11 150 0 2 (none) := ⟨11, _, RX11, TX11, 70, rfl, rfl, rfl, by decide, inX11, (jt_5 34 rfl rfl)⟩
theorem kp_X11_150_0 : jf_p jh_M RX11 150 0 2 (none) .int := ⟨11, _, RX11, TX11, 70, tyX11, rfl, rfl, rfl, by decide, inX11, (jt_5 34 rfl rfl), tyX11_ok, nmX11, rfl, by decide +kernel⟩
theorem kf_X11_157_0 : jf_f jh_M RX11 157 0 7 (none) := ⟨11, _, RX11, TX11, 70, rfl, rfl, rfl, by decide, inX11, (jt_5 39 rfl rfl)⟩
theorem kp_X11_157_0 : jf_p jh_M RX11 157 0 7 (none) .int := ⟨11, _, RX11, TX11, 70, tyX11, rfl, rfl, rfl, by decide, inX11, (jt_5 39 rfl rfl), tyX11_ok, nmX11, rfl, by decide +kernel⟩
theorem kf_X11_160_0 : jf_f jh_M RX11 160 0 17 (none) := ⟨11, _, RX11, TX11, 70, rfl, rfl, rfl, by decide, inX11, (jt_5 49 rfl rfl)⟩
theorem kp_X11_160_0 : jf_p jh_M RX11 160 0 17 (none) .int := ⟨11, _, RX11, TX11, 70, tyX11, rfl, rfl, rfl, by decide, inX11, (jt_5 49 rfl rfl), tyX11_ok, nmX11, rfl, by decide +kernel⟩
theorem kf_X11_228_0 : jf_f jh_M RX11 228 0 27 (none) := ⟨11, _, RX11, TX11, 70, rfl, rfl, rfl, by decide, inX11, (jt_5 59 rfl rfl)⟩
theorem kp_X11_228_0 : jf_p jh_M RX11 228 0 27 (none) .int := ⟨11, _, RX11, TX11, 70, tyX11, rfl, rfl, rfl, by decide, inX11, (jt_5 59 rfl rfl), tyX11_ok, nmX11, rfl, by decide +kernel⟩
theorem kf_X11_231_0 : jf_f jh_M RX11 231 0 34 (none) := ⟨11, _, RX11, TX11, 70, rfl, rfl, rfl, by decide, inX11, (jt_5 66 rfl rfl)⟩
theorem kp_X11_231_0 : jf_p jh_M RX11 231 0 34 (none) .int := ⟨11, _, RX11, TX11, 70, tyX11, rfl, rfl, rfl, by decide, inX11, (jt_5 66 rfl rfl), tyX11_ok, nmX11, rfl, by decide +kernel⟩
theorem kf_X11_234_0 : jf_f jh_M RX11 234 0 31 (none) := ⟨11, _, RX11, TX11, 70, rfl, rfl, rfl, by decide, inX11, (jt_5 63 rfl rfl)⟩
theorem kp_X11_234_0 : jf_p jh_M RX11 234 0 31 (none) .int := ⟨11, _, RX11, TX11, 70, tyX11, rfl, rfl, rfl, by decide, inX11, (jt_5 63 rfl rfl), tyX11_ok, nmX11, rfl, by decide +kernel⟩
theorem kf_X11_237_0 : jf_f jh_M RX11 237 0 32 (none) := ⟨11, _, RX11, TX11, 70, rfl, rfl, rfl, by decide, inX11, (jt_5 64 rfl rfl)⟩
theorem kp_X11_237_0 : jf_p jh_M RX11 237 0 32 (none) .int := ⟨11, _, RX11, TX11, 70, tyX11, rfl, rfl, rfl, by decide, inX11, (jt_5 64 rfl rfl), tyX11_ok, nmX11, rfl, by decide +kernel⟩
theorem kf_X11_240_0 : jf_f jh_M RX11 240 0 33 (none) := ⟨11, _, RX11, TX11, 70, rfl, rfl, rfl, by decide, inX11, (jt_5 65 rfl rfl)⟩
theorem kp_X11_240_0 : jf_p jh_M RX11 240 0 33 (none) .int := ⟨11, _, RX11, TX11, 70, tyX11, rfl, rfl, rfl, by decide, inX11, (jt_5 65 rfl rfl), tyX11_ok, nmX11, rfl, by decide +kernel⟩
theorem kf_X11_257_0 : jf_f jh_M RX11 257 0 35 (none) := ⟨11, _, RX11, TX11, 70, rfl, rfl, rfl, by decide, inX11, (jt_5 67 rfl rfl)⟩
theorem kp_X11_257_0 : jf_p jh_M RX11 257 0 35 (none) .int := ⟨11, _, RX11, TX11, 70, tyX11, rfl, rfl, rfl, by decide, inX11, (jt_5 67 rfl rfl), tyX11_ok, nmX11, rfl, by decide +kernel⟩
theorem kf_X11_269_0 : jf_f jh_M RX11 269 0 39 (none) := ⟨11, _, RX11, TX11, 70, rfl, rfl, rfl, by decide, inX11, (jt_5 71 rfl rfl)⟩
theorem kp_X11_269_0 : jf_p jh_M RX11 269 0 39 (none) .int := ⟨11, _, RX11, TX11, 70, tyX11, rfl, rfl, rfl, by decide, inX11, (jt_5 71 rfl rfl), tyX11_ok, nmX11, rfl, by decide +kernel⟩
theorem kf_X11_272_0 : jf_f jh_M RX11 272 0 58 (none) := ⟨11, _, RX11, TX11, 70, rfl, rfl, rfl, by decide, inX11, (jt_5 90 rfl rfl)⟩
theorem kp_X11_272_0 : jf_p jh_M RX11 272 0 58 (none) .int := ⟨11, _, RX11, TX11, 70, tyX11, rfl, rfl, rfl, by decide, inX11, (jt_5 90 rfl rfl), tyX11_ok, nmX11, rfl, by decide +kernel⟩
theorem kf_X11_279_0 : jf_f jh_M RX11 279 0 60 (none) := ⟨11, _, RX11, TX11, 70, rfl, rfl, rfl, by decide, inX11, (jt_5 92 rfl rfl)⟩
theorem kp_X11_279_0 : jf_p jh_M RX11 279 0 60 (none) .int := ⟨11, _, RX11, TX11, 70, tyX11, rfl, rfl, rfl, by decide, inX11, (jt_5 92 rfl rfl), tyX11_ok, nmX11, rfl, by decide +kernel⟩
theorem kf_X11_282_0 : jf_f jh_M RX11 282 0 59 (none) := ⟨11, _, RX11, TX11, 70, rfl, rfl, rfl, by decide, inX11, (jt_5 91 rfl rfl)⟩
theorem kp_X11_282_0 : jf_p jh_M RX11 282 0 59 (none) .int := ⟨11, _, RX11, TX11, 70, tyX11, rfl, rfl, rfl, by decide, inX11, (jt_5 91 rfl rfl), tyX11_ok, nmX11, rfl, by decide +kernel⟩
theorem kf_X11_285_0 : jf_f jh_M RX11 285 0 62 (some none) := ⟨11, _, RX11, TX11, 70, rfl, rfl, rfl, by decide, inX11, (jt_5 94 rfl rfl)⟩
theorem kp_X11_285_0 : jf_p jh_M RX11 285 0 62 (some none) .long := ⟨11, _, RX11, TX11, 70, tyX11, rfl, rfl, rfl, by decide, inX11, (jt_5 94 rfl rfl), tyX11_ok, nmX11, rfl, by decide +kernel⟩
theorem kf_X11_295_0 : jf_f jh_M RX11 295 0 61 (none) := ⟨11, _, RX11, TX11, 70, rfl, rfl, rfl, by decide, inX11, (jt_5 93 rfl rfl)⟩
theorem kp_X11_295_0 : jf_p jh_M RX11 295 0 61 (none) .int := ⟨11, _, RX11, TX11, 70, tyX11, rfl, rfl, rfl, by decide, inX11, (jt_5 93 rfl rfl), tyX11_ok, nmX11, rfl, by decide +kernel⟩
theorem kf_X11_310_0 : jf_f jh_M RX11 310 0 64 (none) := ⟨11, _, RX11, TX11, 70, rfl, rfl, rfl, by decide, inX11, (jt_5 96 rfl rfl)⟩
theorem kp_X11_310_0 : jf_p jh_M RX11 310 0 64 (none) .boolean := ⟨11, _, RX11, TX11, 70, tyX11, rfl, rfl, rfl, by decide, inX11, (jt_5 96 rfl rfl), tyX11_ok, nmX11, rfl, by decide +kernel⟩
theorem kf_X11_317_0 : jf_f jh_M RX11 317 0 51 (none) := ⟨11, _, RX11, TX11, 70, rfl, rfl, rfl, by decide, inX11, (jt_5 83 rfl rfl)⟩
theorem kp_X11_317_0 : jf_p jh_M RX11 317 0 51 (none) .int := ⟨11, _, RX11, TX11, 70, tyX11, rfl, rfl, rfl, by decide, inX11, (jt_5 83 rfl rfl), tyX11_ok, nmX11, rfl, by decide +kernel⟩
theorem kf_X11_320_0 : jf_f jh_M RX11 320 0 56 (none) := ⟨11, _, RX11, TX11, 70, rfl, rfl, rfl, by decide, inX11, (jt_5 88 rfl rfl)⟩
theorem kp_X11_320_0 : jf_p jh_M RX11 320 0 56 (none) .int := ⟨11, _, RX11, TX11, 70, tyX11, rfl, rfl, rfl, by decide, inX11, (jt_5 88 rfl rfl), tyX11_ok, nmX11, rfl, by decide +kernel⟩
theorem kf_X11_350_0 : jf_f jh_M RX11 350 0 53 (none) := ⟨11, _, RX11, TX11, 70, rfl, rfl, rfl, by decide, inX11, (jt_5 85 rfl rfl)⟩
theorem kp_X11_350_0 : jf_p jh_M RX11 350 0 53 (none) .int := ⟨11, _, RX11, TX11, 70, tyX11, rfl, rfl, rfl, by decide, inX11, (jt_5 85 rfl rfl), tyX11_ok, nmX11, rfl, by decide +kernel⟩
theorem kf_X11_353_0 : jf_f jh_M RX11 353 0 54 (none) := ⟨11, _, RX11, TX11, 70, rfl, rfl, rfl, by decide, inX11, (jt_5 86 rfl rfl)⟩
theorem kp_X11_353_0 : jf_p jh_M RX11 353 0 54 (none) .int := ⟨11, _, RX11, TX11, 70, tyX11, rfl, rfl, rfl, by decide, inX11, (jt_5 86 rfl rfl), tyX11_ok, nmX11, rfl, by decide +kernel⟩
theorem kf_X11_359_0 : jf_f jh_M RX11 359 0 44 (none) := ⟨11, _, RX11, TX11, 70, rfl, rfl, rfl, by decide, inX11, (jt_5 76 rfl rfl)⟩
theorem kp_X11_359_0 : jf_p jh_M RX11 359 0 44 (none) .boolean := ⟨11, _, RX11, TX11, 70, tyX11, rfl, rfl, rfl, by decide, inX11, (jt_5 76 rfl rfl), tyX11_ok, nmX11, rfl, by decide +kernel⟩
theorem kf_X11_362_0 : jf_f jh_M RX11 362 0 46 (none) := ⟨11, _, RX11, TX11, 70, rfl, rfl, rfl, by decide, inX11, (jt_5 78 rfl rfl)⟩
theorem kp_X11_362_0 : jf_p jh_M RX11 362 0 46 (none) .int := ⟨11, _, RX11, TX11, 70, tyX11, rfl, rfl, rfl, by decide, inX11, (jt_5 78 rfl rfl), tyX11_ok, nmX11, rfl, by decide +kernel⟩
theorem kf_X11_365_0 : jf_f jh_M RX11 365 0 48 (none) := ⟨11, _, RX11, TX11, 70, rfl, rfl, rfl, by decide, inX11, (jt_5 80 rfl rfl)⟩
theorem kp_X11_365_0 : jf_p jh_M RX11 365 0 48 (none) .int := ⟨11, _, RX11, TX11, 70, tyX11, rfl, rfl, rfl, by decide, inX11, (jt_5 80 rfl rfl), tyX11_ok, nmX11, rfl, by decide +kernel⟩
theorem kf_X11_368_0 : jf_f jh_M RX11 368 0 49 (none) := ⟨11, _, RX11, TX11, 70, rfl, rfl, rfl, by decide, inX11, (jt_5 81 rfl rfl)⟩
theorem kp_X11_368_0 : jf_p jh_M RX11 368 0 49 (none) .int := ⟨11, _, RX11, TX11, 70, tyX11, rfl, rfl, rfl, by decide, inX11, (jt_5 81 rfl rfl), tyX11_ok, nmX11, rfl, by decide +kernel⟩
theorem kf_X2_9_2 : jf_f jh_X RX2 9 2 0 (some (some 17)) := ⟨2, _, RX2, TX2, 9, rfl, rfl, rfl, by decide, inX2, (jt_1 67 rfl rfl)⟩
theorem kf_X2_15_2 : jf_f jh_X RX2 15 2 1 (some (some 18)) := ⟨2, _, RX2, TX2, 9, rfl, rfl, rfl, by decide, inX2, (jt_1 72 rfl rfl)⟩
theorem kf_X2_18_2 : jf_f jh_X RX2 18 2 2 (some (some 19)) := ⟨2, _, RX2, TX2, 9, rfl, rfl, rfl, by decide, inX2, (jt_1 74 rfl rfl)⟩
theorem kf_X2_21_2 : jf_f jh_X RX2 21 2 3 (some (some 20)) := ⟨2, _, RX2, TX2, 9, rfl, rfl, rfl, by decide, inX2, (jt_1 77 rfl rfl)⟩
theorem kf_X2_24_2 : jf_f jh_X RX2 24 2 4 (some (some 21)) := ⟨2, _, RX2, TX2, 9, rfl, rfl, rfl, by decide, inX2, (jt_1 78 rfl rfl)⟩
theorem kf_X2_27_2 : jf_f jh_X RX2 27 2 5 (some (some 22)) := ⟨2, _, RX2, TX2, 9, rfl, rfl, rfl, by decide, inX2, (jt_1 79 rfl rfl)⟩
theorem kf_X2_30_2 : jf_f jh_X RX2 30 2 6 (some (some 23)) := ⟨2, _, RX2, TX2, 9, rfl, rfl, rfl, by decide, inX2, (jt_1 81 rfl rfl)⟩
theorem kf_X2_33_2 : jf_f jh_X RX2 33 2 7 (some (some 24)) := ⟨2, _, RX2, TX2, 9, rfl, rfl, rfl, by decide, inX2, (jt_1 83 rfl rfl)⟩
theorem kf_X2_36_2 : jf_f jh_X RX2 36 2 8 (none) := ⟨2, _, RX2, TX2, 9, rfl, rfl, rfl, by decide, inX2, (jt_1 84 rfl rfl)⟩
theorem kp_X2_36_2 : jf_p jh_X RX2 36 2 8 (none) .int := ⟨2, _, RX2, TX2, 9, tyX2, rfl, rfl, rfl, by decide, inX2, (jt_1 84 rfl rfl), tyX2_ok, nmX2, rfl, by decide +kernel⟩
theorem kf_X3_9_1 : jf_f jh_X RX3 9 1 0 (some (some 12)) := ⟨3, _, RX3, TX3, 6, rfl, rfl, rfl, by decide, inX3, (jt_1 34 rfl rfl)⟩
theorem kf_X3_15_1 : jf_f jh_X RX3 15 1 1 (some (some 13)) := ⟨3, _, RX3, TX3, 6, rfl, rfl, rfl, by decide, inX3, (jt_1 35 rfl rfl)⟩
theorem kf_X3_18_1 : jf_f jh_X RX3 18 1 2 (some (some 14)) := ⟨3, _, RX3, TX3, 6, rfl, rfl, rfl, by decide, inX3, (jt_1 38 rfl rfl)⟩
theorem kf_X3_21_1 : jf_f jh_X RX3 21 1 3 (some (some 15)) := ⟨3, _, RX3, TX3, 6, rfl, rfl, rfl, by decide, inX3, (jt_1 41 rfl rfl)⟩
theorem kf_X3_24_1 : jf_f jh_X RX3 24 1 4 (some (some 16)) := ⟨3, _, RX3, TX3, 6, rfl, rfl, rfl, by decide, inX3, (jt_1 43 rfl rfl)⟩
theorem kf_X3_27_1 : jf_f jh_X RX3 27 1 5 (none) := ⟨3, _, RX3, TX3, 6, rfl, rfl, rfl, by decide, inX3, (jt_1 44 rfl rfl)⟩
theorem kp_X3_27_1 : jf_p jh_X RX3 27 1 5 (none) .int := ⟨3, _, RX3, TX3, 6, tyX3, rfl, rfl, rfl, by decide, inX3, (jt_1 44 rfl rfl), tyX3_ok, nmX3, rfl, by decide +kernel⟩
theorem kf_X4_9_7 : jf_f jh_X RX4 9 7 0 (some (some 40)) := ⟨4, _, RX4, TX4, 9, rfl, rfl, rfl, by decide, inX4, (jt_2 41 rfl rfl)⟩
theorem kf_X4_15_7 : jf_f jh_X RX4 15 7 1 (some (some 41)) := ⟨4, _, RX4, TX4, 9, rfl, rfl, rfl, by decide, inX4, (jt_2 42 rfl rfl)⟩
theorem kf_X4_18_7 : jf_f jh_X RX4 18 7 2 (some (some 42)) := ⟨4, _, RX4, TX4, 9, rfl, rfl, rfl, by decide, inX4, (jt_2 45 rfl rfl)⟩
theorem kf_X4_21_7 : jf_f jh_X RX4 21 7 3 (some (some 43)) := ⟨4, _, RX4, TX4, 9, rfl, rfl, rfl, by decide, inX4, (jt_2 47 rfl rfl)⟩
theorem kf_X4_24_7 : jf_f jh_X RX4 24 7 4 (some (some 44)) := ⟨4, _, RX4, TX4, 9, rfl, rfl, rfl, by decide, inX4, (jt_2 48 rfl rfl)⟩
theorem kf_X4_27_7 : jf_f jh_X RX4 27 7 5 (some (some 45)) := ⟨4, _, RX4, TX4, 9, rfl, rfl, rfl, by decide, inX4, (jt_2 49 rfl rfl)⟩
theorem kf_X4_30_7 : jf_f jh_X RX4 30 7 6 (some (some 46)) := ⟨4, _, RX4, TX4, 9, rfl, rfl, rfl, by decide, inX4, (jt_2 50 rfl rfl)⟩
theorem kf_X4_33_7 : jf_f jh_X RX4 33 7 7 (none) := ⟨4, _, RX4, TX4, 9, rfl, rfl, rfl, by decide, inX4, (jt_2 51 rfl rfl)⟩
theorem kp_X4_33_7 : jf_p jh_X RX4 33 7 7 (none) .int := ⟨4, _, RX4, TX4, 9, tyX4, rfl, rfl, rfl, by decide, inX4, (jt_2 51 rfl rfl), tyX4_ok, nmX4, rfl, by decide +kernel⟩
theorem kf_X4_37_7 : jf_f jh_X RX4 37 7 8 (none) := ⟨4, _, RX4, TX4, 9, rfl, rfl, rfl, by decide, inX4, (jt_2 54 rfl rfl)⟩
theorem kp_X4_37_7 : jf_p jh_X RX4 37 7 8 (none) .int := ⟨4, _, RX4, TX4, 9, tyX4, rfl, rfl, rfl, by decide, inX4, (jt_2 54 rfl rfl), tyX4_ok, nmX4, rfl, by decide +kernel⟩
theorem kf_X5_9_6 : jf_f jh_X RX5 9 6 3 (some (some 37)) := ⟨5, _, RX5, TX5, 9, rfl, rfl, rfl, by decide, inX5, (jt_2 5 rfl rfl)⟩
theorem kf_X5_15_6 : jf_f jh_X RX5 15 6 4 (some (some 38)) := ⟨5, _, RX5, TX5, 9, rfl, rfl, rfl, by decide, inX5, (jt_2 6 rfl rfl)⟩
theorem kf_X5_18_6 : jf_f jh_X RX5 18 6 5 (some (some 39)) := ⟨5, _, RX5, TX5, 9, rfl, rfl, rfl, by decide, inX5, (jt_2 8 rfl rfl)⟩
theorem kf_X5_21_6 : jf_f jh_X RX5 21 6 6 (none) := ⟨5, _, RX5, TX5, 9, rfl, rfl, rfl, by decide, inX5, (jt_2 10 rfl rfl)⟩
theorem kf_X5_25_6 : jf_f jh_X RX5 25 6 0 (some (some 1)) := ⟨5, _, RX5, TX5, 9, rfl, rfl, rfl, by decide, inX5, (jt_2 2 rfl rfl)⟩
theorem kf_X5_29_6 : jf_f jh_X RX5 29 6 1 (some (some 2)) := ⟨5, _, RX5, TX5, 9, rfl, rfl, rfl, by decide, inX5, (jt_2 3 rfl rfl)⟩
theorem kf_X5_33_6 : jf_f jh_X RX5 33 6 2 (some (some 3)) := ⟨5, _, RX5, TX5, 9, rfl, rfl, rfl, by decide, inX5, (jt_2 4 rfl rfl)⟩
theorem kf_X5_54_3 : jf_f jh_X RX5 54 3 2 (some (some 27)) := ⟨8, _, RX8, TX8, 9, rfl, rfl, rfl, by decide, inX8, (jt_1 122 rfl rfl)⟩
theorem kf_X5_59_2 : jf_f jh_X RX5 59 2 0 (some (some 17)) := ⟨2, _, RX2, TX2, 9, rfl, rfl, rfl, by decide, inX2, (jt_1 69 rfl rfl)⟩
theorem kf_X5_64_3 : jf_f jh_X RX5 64 3 0 (some (some 25)) := ⟨8, _, RX8, TX8, 9, rfl, rfl, rfl, by decide, inX8, (jt_1 112 rfl rfl)⟩
theorem kf_X5_67_3 : jf_f jh_X RX5 67 3 5 (some (some 30)) := ⟨8, _, RX8, TX8, 9, rfl, rfl, rfl, by decide, inX8, (jt_1 134 rfl rfl)⟩
theorem kf_X5_70_3 : jf_f jh_X RX5 70 3 8 (none) := ⟨8, _, RX8, TX8, 9, rfl, rfl, rfl, by decide, inX8, (jt_1 145 rfl rfl)⟩
theorem kf_X5_73_3 : jf_f jh_X RX5 73 3 6 (some (some 31)) := ⟨8, _, RX8, TX8, 9, rfl, rfl, rfl, by decide, inX8, (jt_1 137 rfl rfl)⟩
theorem kf_X5_77_3 : jf_f jh_X RX5 77 3 1 (some (some 26)) := ⟨8, _, RX8, TX8, 9, rfl, rfl, rfl, by decide, inX8, (jt_1 118 rfl rfl)⟩
theorem kf_X5_80_1 : jf_f jh_X RX5 80 1 2 (some (some 14)) := ⟨3, _, RX3, TX3, 6, rfl, rfl, rfl, by decide, inX3, (jt_1 40 rfl rfl)⟩
theorem kf_X5_88_1 : jf_f jh_X RX5 88 1 1 (some (some 13)) := ⟨3, _, RX3, TX3, 6, rfl, rfl, rfl, by decide, inX3, (jt_1 36 rfl rfl)⟩
theorem kf_X5_91_6 : jf_f jh_X RX5 91 6 7 (none) := ⟨5, _, RX5, TX5, 9, rfl, rfl, rfl, by decide, inX5, (jt_2 12 rfl rfl)⟩
theorem kp_X5_91_6 : jf_p jh_X RX5 91 6 7 (none) .int := ⟨5, _, RX5, TX5, 9, tyX5, rfl, rfl, rfl, by decide, inX5, (jt_2 12 rfl rfl), tyX5_ok, nmX5, rfl, by decide +kernel⟩
theorem kf_X5_94_6 : jf_f jh_X RX5 94 6 8 (none) := ⟨5, _, RX5, TX5, 9, rfl, rfl, rfl, by decide, inX5, (jt_2 14 rfl rfl)⟩
theorem kp_X5_94_6 : jf_p jh_X RX5 94 6 8 (none) .int := ⟨5, _, RX5, TX5, 9, tyX5, rfl, rfl, rfl, by decide, inX5, (jt_2 14 rfl rfl), tyX5_ok, nmX5, rfl, by decide +kernel⟩
theorem kf_X5_97_3 : jf_f jh_X RX5 97 3 7 (some (some 32)) := ⟨8, _, RX8, TX8, 9, rfl, rfl, rfl, by decide, inX8, (jt_1 142 rfl rfl)⟩
theorem kf_X6_11_9 : jf_f jh_X RX6 11 9 0 (some (some 49)) := ⟨6, _, RX6, TX6, 7, rfl, rfl, rfl, by decide, inX6, (jt_2 113 rfl rfl)⟩
theorem kf_X6_18_9 : jf_f jh_X RX6 18 9 1 (some (some 11)) := ⟨6, _, RX6, TX6, 7, rfl, rfl, rfl, by decide, inX6, (jt_2 114 rfl rfl)⟩
theorem kf_X6_22_9 : jf_f jh_X RX6 22 9 2 (none) := ⟨6, _, RX6, TX6, 7, rfl, rfl, rfl, by decide, inX6, (jt_2 116 rfl rfl)⟩
theorem kp_X6_22_9 : jf_p jh_X RX6 22 9 2 (none) .int := ⟨6, _, RX6, TX6, 7, tyX6, rfl, rfl, rfl, by decide, inX6, (jt_2 116 rfl rfl), tyX6_ok, nmX6, rfl, by decide +kernel⟩
theorem kp_X6_26_9 : jf_p jh_X RX6 26 9 3 (none) .int := ⟨6, _, RX6, TX6, 7, tyX6, rfl, rfl, rfl, by decide, inX6, (jt_2 118 rfl rfl), tyX6_ok, nmX6, rfl, by decide +kernel⟩
theorem kf_X6_32_9 : jf_f jh_X RX6 32 9 5 (none) := ⟨6, _, RX6, TX6, 7, rfl, rfl, rfl, by decide, inX6, (jt_2 121 rfl rfl)⟩
theorem kp_X6_32_9 : jf_p jh_X RX6 32 9 5 (none) .int := ⟨6, _, RX6, TX6, 7, tyX6, rfl, rfl, rfl, by decide, inX6, (jt_2 121 rfl rfl), tyX6_ok, nmX6, rfl, by decide +kernel⟩
theorem kf_X6_61_9 : jf_f jh_X RX6 61 9 4 (none) := ⟨6, _, RX6, TX6, 7, rfl, rfl, rfl, by decide, inX6, (jt_2 120 rfl rfl)⟩
theorem kp_X6_61_9 : jf_p jh_X RX6 61 9 4 (none) .int := ⟨6, _, RX6, TX6, 7, tyX6, rfl, rfl, rfl, by decide, inX6, (jt_2 120 rfl rfl), tyX6_ok, nmX6, rfl, by decide +kernel⟩
theorem kf_X6_71_9 : jf_f jh_X RX6 71 9 6 (none) := ⟨6, _, RX6, TX6, 7, rfl, rfl, rfl, by decide, inX6, (jt_2 122 rfl rfl)⟩
theorem kp_X6_71_9 : jf_p jh_X RX6 71 9 6 (none) .int := ⟨6, _, RX6, TX6, 7, tyX6, rfl, rfl, rfl, by decide, inX6, (jt_2 122 rfl rfl), tyX6_ok, nmX6, rfl, by decide +kernel⟩
theorem kp_X6_82_8 : jf_p jh_X RX6 82 8 5 (none) .int := ⟨7, _, RX7, TX7, 6, tyX7, rfl, rfl, rfl, by decide, inX7, (jt_2 90 rfl rfl), tyX7_ok, nmX7, rfl, by decide +kernel⟩
theorem kp_X6_82_11 : jf_p jh_X RX6 82 11 5 (none) .int := ⟨7, _, RX7, TX7, 6, tyX7, rfl, rfl, rfl, by decide, inX7, (jt_2 90 rfl rfl), tyX7_ok, nmX7, rfl, by decide +kernel⟩
theorem kf_X7_9_8 : jf_f jh_X RX7 9 8 0 (some (some 47)) := ⟨7, _, RX7, TX7, 6, rfl, rfl, rfl, by decide, inX7, (jt_2 81 rfl rfl)⟩
theorem kf_X7_9_11 : jf_f jh_X RX7 9 11 0 (some (some 55)) := ⟨7, _, RX7, TX7, 6, rfl, rfl, rfl, by decide, inX7, (jt_2 81 rfl rfl)⟩
theorem kf_X7_13_8 : jf_f jh_X RX7 13 8 1 (some (some 48)) := ⟨7, _, RX7, TX7, 6, rfl, rfl, rfl, by decide, inX7, (jt_2 82 rfl rfl)⟩
theorem kf_X7_13_11 : jf_f jh_X RX7 13 11 1 (some (some 56)) := ⟨7, _, RX7, TX7, 6, rfl, rfl, rfl, by decide, inX7, (jt_2 82 rfl rfl)⟩
theorem kp_X7_16_8 : jf_p jh_X RX7 16 8 2 (none) .boolean := ⟨7, _, RX7, TX7, 6, tyX7, rfl, rfl, rfl, by decide, inX7, (jt_2 83 rfl rfl), tyX7_ok, nmX7, rfl, by decide +kernel⟩
theorem kp_X7_16_11 : jf_p jh_X RX7 16 11 2 (none) .boolean := ⟨7, _, RX7, TX7, 6, tyX7, rfl, rfl, rfl, by decide, inX7, (jt_2 83 rfl rfl), tyX7_ok, nmX7, rfl, by decide +kernel⟩
theorem kf_X7_20_8 : jf_f jh_X RX7 20 8 3 (none) := ⟨7, _, RX7, TX7, 6, rfl, rfl, rfl, by decide, inX7, (jt_2 85 rfl rfl)⟩
theorem kp_X7_20_8 : jf_p jh_X RX7 20 8 3 (none) .int := ⟨7, _, RX7, TX7, 6, tyX7, rfl, rfl, rfl, by decide, inX7, (jt_2 85 rfl rfl), tyX7_ok, nmX7, rfl, by decide +kernel⟩
theorem kf_X7_20_11 : jf_f jh_X RX7 20 11 3 (none) := ⟨7, _, RX7, TX7, 6, rfl, rfl, rfl, by decide, inX7, (jt_2 85 rfl rfl)⟩
theorem kp_X7_20_11 : jf_p jh_X RX7 20 11 3 (none) .int := ⟨7, _, RX7, TX7, 6, tyX7, rfl, rfl, rfl, by decide, inX7, (jt_2 85 rfl rfl), tyX7_ok, nmX7, rfl, by decide +kernel⟩
theorem kf_X7_24_8 : jf_f jh_X RX7 24 8 4 (none) := ⟨7, _, RX7, TX7, 6, rfl, rfl, rfl, by decide, inX7, (jt_2 86 rfl rfl)⟩
theorem kp_X7_24_8 : jf_p jh_X RX7 24 8 4 (none) .int := ⟨7, _, RX7, TX7, 6, tyX7, rfl, rfl, rfl, by decide, inX7, (jt_2 86 rfl rfl), tyX7_ok, nmX7, rfl, by decide +kernel⟩
theorem kf_X7_24_11 : jf_f jh_X RX7 24 11 4 (none) := ⟨7, _, RX7, TX7, 6, rfl, rfl, rfl, by decide, inX7, (jt_2 86 rfl rfl)⟩
theorem kp_X7_24_11 : jf_p jh_X RX7 24 11 4 (none) .int := ⟨7, _, RX7, TX7, 6, tyX7, rfl, rfl, rfl, by decide, inX7, (jt_2 86 rfl rfl), tyX7_ok, nmX7, rfl, by decide +kernel⟩
theorem kf_X7_27_8 : jf_f jh_X RX7 27 8 5 (none) := ⟨7, _, RX7, TX7, 6, rfl, rfl, rfl, by decide, inX7, (jt_2 89 rfl rfl)⟩
theorem kp_X7_27_8 : jf_p jh_X RX7 27 8 5 (none) .int := ⟨7, _, RX7, TX7, 6, tyX7, rfl, rfl, rfl, by decide, inX7, (jt_2 89 rfl rfl), tyX7_ok, nmX7, rfl, by decide +kernel⟩
theorem kf_X7_27_11 : jf_f jh_X RX7 27 11 5 (none) := ⟨7, _, RX7, TX7, 6, rfl, rfl, rfl, by decide, inX7, (jt_2 89 rfl rfl)⟩
theorem kp_X7_27_11 : jf_p jh_X RX7 27 11 5 (none) .int := ⟨7, _, RX7, TX7, 6, tyX7, rfl, rfl, rfl, by decide, inX7, (jt_2 89 rfl rfl), tyX7_ok, nmX7, rfl, by decide +kernel⟩
theorem kf_X8_9_3 : jf_f jh_X RX8 9 3 0 (some (some 25)) := ⟨8, _, RX8, TX8, 9, rfl, rfl, rfl, by decide, inX8, (jt_1 111 rfl rfl)⟩
theorem kf_X8_15_3 : jf_f jh_X RX8 15 3 1 (some (some 26)) := ⟨8, _, RX8, TX8, 9, rfl, rfl, rfl, by decide, inX8, (jt_1 116 rfl rfl)⟩
theorem kf_X8_18_3 : jf_f jh_X RX8 18 3 2 (some (some 27)) := ⟨8, _, RX8, TX8, 9, rfl, rfl, rfl, by decide, inX8, (jt_1 121 rfl rfl)⟩
theorem kf_X8_21_3 : jf_f jh_X RX8 21 3 3 (some (some 28)) := ⟨8, _, RX8, TX8, 9, rfl, rfl, rfl, by decide, inX8, (jt_1 126 rfl rfl)⟩
theorem kf_X8_24_3 : jf_f jh_X RX8 24 3 4 (some (some 29)) := ⟨8, _, RX8, TX8, 9, rfl, rfl, rfl, by decide, inX8, (jt_1 130 rfl rfl)⟩
theorem kf_X8_30_3 : jf_f jh_X RX8 30 3 6 (some (some 31)) := ⟨8, _, RX8, TX8, 9, rfl, rfl, rfl, by decide, inX8, (jt_1 136 rfl rfl)⟩
theorem kf_X8_37_3 : jf_f jh_X RX8 37 3 8 (none) := ⟨8, _, RX8, TX8, 9, rfl, rfl, rfl, by decide, inX8, (jt_1 144 rfl rfl)⟩
theorem kp_X8_37_3 : jf_p jh_X RX8 37 3 8 (none) .int := ⟨8, _, RX8, TX8, 9, tyX8, rfl, rfl, rfl, by decide, inX8, (jt_1 144 rfl rfl), tyX8_ok, nmX8, rfl, by decide +kernel⟩
theorem kf_X9_9_5 : jf_f jh_X RX9 9 5 4 (some (some 33)) := ⟨9, _, RX9, TX9, 13, rfl, rfl, rfl, by decide, inX9, (jt_1 198 rfl rfl)⟩
theorem kf_X9_15_5 : jf_f jh_X RX9 15 5 5 (some (some 34)) := ⟨9, _, RX9, TX9, 13, rfl, rfl, rfl, by decide, inX9, (jt_1 200 rfl rfl)⟩
theorem kf_X9_18_5 : jf_f jh_X RX9 18 5 6 (some (some 35)) := ⟨9, _, RX9, TX9, 13, rfl, rfl, rfl, by decide, inX9, (jt_1 201 rfl rfl)⟩
theorem kf_X9_21_5 : jf_f jh_X RX9 21 5 7 (some (some 36)) := ⟨9, _, RX9, TX9, 13, rfl, rfl, rfl, by decide, inX9, (jt_1 202 rfl rfl)⟩
theorem kf_X9_24_5 : jf_f jh_X RX9 24 5 8 (none) := ⟨9, _, RX9, TX9, 13, rfl, rfl, rfl, by decide, inX9, (jt_1 203 rfl rfl)⟩
theorem kp_X9_24_5 : jf_p jh_X RX9 24 5 8 (none) .int := ⟨9, _, RX9, TX9, 13, tyX9, rfl, rfl, rfl, by decide, inX9, (jt_1 203 rfl rfl), tyX9_ok, nmX9, rfl, by decide +kernel⟩
theorem kf_X9_28_5 : jf_f jh_X RX9 28 5 0 (some (some 1)) := ⟨9, _, RX9, TX9, 13, rfl, rfl, rfl, by decide, inX9, (jt_1 194 rfl rfl)⟩
theorem kf_X9_32_5 : jf_f jh_X RX9 32 5 1 (some (some 2)) := ⟨9, _, RX9, TX9, 13, rfl, rfl, rfl, by decide, inX9, (jt_1 195 rfl rfl)⟩
theorem kf_X9_36_5 : jf_f jh_X RX9 36 5 2 (some (some 3)) := ⟨9, _, RX9, TX9, 13, rfl, rfl, rfl, by decide, inX9, (jt_1 196 rfl rfl)⟩
theorem kf_X9_40_5 : jf_f jh_X RX9 40 5 3 (some (some 4)) := ⟨9, _, RX9, TX9, 13, rfl, rfl, rfl, by decide, inX9, (jt_1 197 rfl rfl)⟩
theorem kf_X9_61_3 : jf_f jh_X RX9 61 3 8 (none) := ⟨8, _, RX8, TX8, 9, rfl, rfl, rfl, by decide, inX8, (jt_1 147 rfl rfl)⟩
theorem kf_X9_66_3 : jf_f jh_X RX9 66 3 6 (some (some 31)) := ⟨8, _, RX8, TX8, 9, rfl, rfl, rfl, by decide, inX8, (jt_1 139 rfl rfl)⟩
theorem kf_X9_77_5 : jf_f jh_X RX9 77 5 10 (none) := ⟨9, _, RX9, TX9, 13, rfl, rfl, rfl, by decide, inX9, (jt_1 206 rfl rfl)⟩
theorem kp_X9_77_5 : jf_p jh_X RX9 77 5 10 (none) .int := ⟨9, _, RX9, TX9, 13, tyX9, rfl, rfl, rfl, by decide, inX9, (jt_1 206 rfl rfl), tyX9_ok, nmX9, rfl, by decide +kernel⟩
theorem kf_X9_80_5 : jf_f jh_X RX9 80 5 11 (none) := ⟨9, _, RX9, TX9, 13, rfl, rfl, rfl, by decide, inX9, (jt_1 207 rfl rfl)⟩
theorem kp_X9_80_5 : jf_p jh_X RX9 80 5 11 (none) .int := ⟨9, _, RX9, TX9, 13, tyX9, rfl, rfl, rfl, by decide, inX9, (jt_1 207 rfl rfl), tyX9_ok, nmX9, rfl, by decide +kernel⟩
theorem kf_X9_83_5 : jf_f jh_X RX9 83 5 12 (none) := ⟨9, _, RX9, TX9, 13, rfl, rfl, rfl, by decide, inX9, (jt_1 208 rfl rfl)⟩
theorem kp_X9_83_5 : jf_p jh_X RX9 83 5 12 (none) .int := ⟨9, _, RX9, TX9, 13, tyX9, rfl, rfl, rfl, by decide, inX9, (jt_1 208 rfl rfl), tyX9_ok, nmX9, rfl, by decide +kernel⟩
theorem kf_X9_96_1 : jf_f jh_X RX9 96 1 5 (none) := ⟨3, _, RX3, TX3, 6, rfl, rfl, rfl, by decide, inX3, (jt_1 45 rfl rfl)⟩
theorem kf_X9_101_3 : jf_f jh_X RX9 101 3 2 (some (some 27)) := ⟨8, _, RX8, TX8, 9, rfl, rfl, rfl, by decide, inX8, (jt_1 124 rfl rfl)⟩
theorem kf_X9_108_5 : jf_f jh_X RX9 108 5 9 (none) := ⟨9, _, RX9, TX9, 13, rfl, rfl, rfl, by decide, inX9, (jt_1 205 rfl rfl)⟩
theorem kp_X9_108_5 : jf_p jh_X RX9 108 5 9 (none) .int := ⟨9, _, RX9, TX9, 13, tyX9, rfl, rfl, rfl, by decide, inX9, (jt_1 205 rfl rfl), tyX9_ok, nmX9, rfl, by decide +kernel⟩
theorem kf_X9_115_3 : jf_f jh_X RX9 115 3 0 (some (some 25)) := ⟨8, _, RX8, TX8, 9, rfl, rfl, rfl, by decide, inX8, (jt_1 114 rfl rfl)⟩
theorem kf_X9_122_1 : jf_f jh_X RX9 122 1 1 (some (some 13)) := ⟨3, _, RX3, TX3, 6, rfl, rfl, rfl, by decide, inX3, (jt_1 37 rfl rfl)⟩
theorem kf_X9_130_2 : jf_f jh_X RX9 130 2 0 (some (some 17)) := ⟨2, _, RX2, TX2, 9, rfl, rfl, rfl, by decide, inX2, (jt_1 71 rfl rfl)⟩
theorem kf_X9_135_3 : jf_f jh_X RX9 135 3 1 (some (some 26)) := ⟨8, _, RX8, TX8, 9, rfl, rfl, rfl, by decide, inX8, (jt_1 120 rfl rfl)⟩
theorem kf_X9_145_3 : jf_f jh_X RX9 145 3 4 (some (some 29)) := ⟨8, _, RX8, TX8, 9, rfl, rfl, rfl, by decide, inX8, (jt_1 132 rfl rfl)⟩
theorem kf_X9_154_3 : jf_f jh_X RX9 154 3 3 (some (some 28)) := ⟨8, _, RX8, TX8, 9, rfl, rfl, rfl, by decide, inX8, (jt_1 129 rfl rfl)⟩
theorem kf_X9_157_2 : jf_f jh_X RX9 157 2 2 (some (some 19)) := ⟨2, _, RX2, TX2, 9, rfl, rfl, rfl, by decide, inX2, (jt_1 76 rfl rfl)⟩
theorem km_X0_44 : Cond.methodLink RX0 44 yX0_gather ∈ jf_tb := (jt_4 209 rfl rfl)
theorem km_X0_53 : Cond.methodLink RX0 53 yX0_decideByPoints ∈ jf_tb := (jt_4 214 rfl rfl)
theorem km_X0_57 : Cond.methodLink RX0 57 yX0_decideByRounds ∈ jf_tb := (jt_4 234 rfl rfl)
theorem km_X0_71 : Cond.methodLink RX0 71 yX4_passes ∈ jf_tb := (jt_4 213 rfl rfl)
theorem km_X0_75 : Cond.methodLink RX0 75 yX0_openRound ∈ jf_tb := (jt_4 218 rfl rfl)
theorem km_X0_78 : Cond.methodLink RX0 78 yX7_pointsAt ∈ jf_tb := (jt_4 222 rfl rfl)
theorem km_X0_82 : Cond.methodLink RX0 82 yX0_foremost ∈ jf_tb := (jt_4 226 rfl rfl)
theorem km_X0_85 : Cond.methodLink RX0 85 yX0_giveFirsts ∈ jf_tb := (jt_4 238 rfl rfl)
theorem km_X0_88 : Cond.methodLink RX0 88 yX0_putOutHindmost ∈ jf_tb := (jt_5 2 rfl rfl)
theorem km_X0_91 : Cond.methodLink RX0 91 yX0_isAhead ∈ jf_tb := (jt_4 230 rfl rfl)
theorem km_X1_37 : Cond.methodLink RX1 37 yX1_isHallTaken ∈ jf_tb := (jt_3 45 rfl rfl)
theorem km_X1_41 : Cond.methodLink RX1 41 yX1_isPrintAway ∈ jf_tb := (jt_3 49 rfl rfl)
theorem km_X1_45 : Cond.methodLink RX1 45 yX2_guestStays ∈ jf_tb := (jt_3 57 rfl rfl)
theorem km_X1_49 : Cond.methodLink RX1 49 yX1_isLateHour ∈ jf_tb := (jt_3 61 rfl rfl)
theorem km_X1_56 : Cond.methodLink RX1 56 yX2_isBarredAtMost ∈ jf_tb := (jt_3 64 rfl rfl)
theorem km_X1_59 : Cond.methodLink RX1 59 yX1_manyOf ∈ jf_tb := (jt_3 68 rfl rfl)
theorem km_X1_66 : Cond.methodLink RX1 66 yX1_isBesideBarred ∈ jf_tb := (jt_3 72 rfl rfl)
theorem km_X1_94 : Cond.methodLink RX1 94 yX3_wayBetween ∈ jf_tb := (jt_3 53 rfl rfl)
theorem km_X1_97 : Cond.methodLink RX1 97 yX2_barOneAnother ∈ jf_tb := (jt_3 76 rfl rfl)
theorem km_X1_101 : Cond.methodLink RX1 101 yX3_inOneTown ∈ jf_tb := (jt_3 80 rfl rfl)
theorem km_X1_104 : Cond.methodLink RX1 104 yX8_runsWithin ∈ jf_tb := (jt_3 84 rfl rfl)
theorem km_X10_89 : Cond.methodLink RX10 89 yX10_isTown ∈ jf_tb := (jt_2 211 rfl rfl)
theorem km_X10_93 : Cond.methodLink RX10 93 yX10_within ∈ jf_tb := (jt_2 214 rfl rfl)
theorem km_X10_97 : Cond.methodLink RX10 97 yX10_told ∈ jf_tb := (jt_2 217 rfl rfl)
theorem km_X10_101 : Cond.methodLink RX10 101 yX3_add ∈ jf_tb := (jt_2 224 rfl rfl)
theorem km_X10_105 : Cond.methodLink RX10 105 yX2_add ∈ jf_tb := (jt_2 232 rfl rfl)
theorem km_X10_108 : Cond.methodLink RX10 108 yX3_setWay ∈ jf_tb := (jt_3 8 rfl rfl)
theorem km_X10_112 : Cond.methodLink RX10 112 yX10_isMinute ∈ jf_tb := (jt_3 16 rfl rfl)
theorem km_X10_115 : Cond.methodLink RX10 115 yX2_has ∈ jf_tb := (jt_3 19 rfl rfl)
theorem km_X10_118 : Cond.methodLink RX10 118 yX2_setGuest ∈ jf_tb := (jt_3 23 rfl rfl)
theorem km_X10_121 : Cond.methodLink RX10 121 yX2_setBars ∈ jf_tb := (jt_3 28 rfl rfl)
theorem km_X10_125 : Cond.methodLink RX10 125 yX10_reasonAgainst ∈ jf_tb := (jt_3 33 rfl rfl)
theorem km_X10_132 : Cond.methodLink RX10 132 yX8_add ∈ jf_tb := (jt_3 92 rfl rfl)
theorem km_X10_135 : Cond.methodLink RX10 135 yX8_has ∈ jf_tb := (jt_3 100 rfl rfl)
theorem km_X10_155 : Cond.methodLink RX10 155 yX9_crowdOf ∈ jf_tb := (jt_3 108 rfl rfl)
theorem km_X10_158 : Cond.methodLink RX10 158 yX9_worthOf ∈ jf_tb := (jt_3 130 rfl rfl)
theorem km_X10_161 : Cond.methodLink RX10 161 yX5_reckon ∈ jf_tb := (jt_3 139 rfl rfl)
theorem km_X10_173 : Cond.methodLink RX10 173 yX9_sum ∈ jf_tb := (jt_3 167 rfl rfl)
theorem km_X10_177 : Cond.methodLink RX10 177 yX9_addHour ∈ jf_tb := (jt_3 176 rfl rfl)
theorem km_X10_180 : Cond.methodLink RX10 180 yX9_improve ∈ jf_tb := (jt_3 184 rfl rfl)
theorem km_X10_192 : Cond.methodLink RX10 192 yX5_step ∈ jf_tb := (jt_3 225 rfl rfl)
theorem km_X10_202 : Cond.methodLink RX10 202 yX4_add ∈ jf_tb := (jt_3 234 rfl rfl)
theorem km_X10_204 : Cond.methodLink RX10 204 yX4_has ∈ jf_tb := (jt_4 2 rfl rfl)
theorem km_X10_205 : Cond.methodLink RX10 205 yX4_addVote ∈ jf_tb := (jt_4 6 rfl rfl)
theorem km_X10_212 : Cond.methodLink RX10 212 yX10_isKnown ∈ jf_tb := (jt_4 22 rfl rfl)
theorem km_X10_215 : Cond.methodLink RX10 215 yX4_addRow ∈ jf_tb := (jt_4 26 rfl rfl)
theorem km_X10_218 : Cond.methodLink RX10 218 yX6_hasRoom ∈ jf_tb := (jt_4 34 rfl rfl)
theorem km_X10_221 : Cond.methodLink RX10 221 yX6_append ∈ jf_tb := (jt_4 38 rfl rfl)
theorem km_X10_228 : Cond.methodLink RX10 228 yX6_read ∈ jf_tb := (jt_4 50 rfl rfl)
theorem km_X10_235 : Cond.methodLink RX10 235 yX7_become ∈ jf_tb := (jt_4 171 rfl rfl)
theorem km_X10_246 : Cond.methodLink RX10 246 yX4_votesFor ∈ jf_tb := (jt_4 187 rfl rfl)
theorem km_X10_250 : Cond.methodLink RX10 250 yX4_passes ∈ jf_tb := (jt_4 188 rfl rfl)
theorem km_X10_254 : Cond.methodLink RX10 254 yX0_decide ∈ jf_tb := (jt_4 205 rfl rfl)
theorem km_X10_260 : Cond.methodLink RX10 260 yX0_sumIn ∈ jf_tb := (jt_5 10 rfl rfl)
theorem km_X10_267 : Cond.methodLink RX10 267 yX8_manyThere ∈ jf_tb := (jt_5 18 rfl rfl)
theorem km_X10_283 : Cond.methodLink RX10 283 Lib.Math.min.name ∈ jf_tb ∧ Cond.static Lib.Math.min.name ∈ jf_tb ∧ Cond.initialized "java/lang/Math" ∈ jf_tb ∧ Cond.code Lib.Math.min.name Lib.Math.min.code 2 (some .int) ∈ jf_tb := ⟨(jt_2 221 rfl rfl), (jt_2 222 rfl rfl), (jt_1 14 rfl rfl), (jt_2 223 rfl rfl)⟩
theorem km_X10_288 : Cond.methodLink RX10 288 yX3_has ∈ jf_tb := (jt_3 37 rfl rfl)
theorem km_X10_289 : Cond.methodLink RX10 289 yX1_reason ∈ jf_tb := (jt_3 41 rfl rfl)
theorem km_X11_153 : Cond.methodLink RX11 153 yX11_in ∈ jf_tb := (jt_6 8 rfl rfl)
theorem km_X11_173 : Cond.methodLink RX11 173 yX11_told ∈ jf_tb := (jt_6 14 rfl rfl)
theorem km_X11_183 : Cond.methodLink RX11 183 yX11_isMinute ∈ jf_tb := (jt_6 33 rfl rfl)
theorem km_X11_187 : Cond.methodLink RX11 187 yX11_isFilm ∈ jf_tb := (jt_6 37 rfl rfl)
theorem km_X11_192 : Cond.methodLink RX11 192 yX11_endOf ∈ jf_tb := (jt_6 59 rfl rfl)
theorem km_X11_197 : Cond.methodLink RX11 197 yX11_isHall ∈ jf_tb := (jt_6 51 rfl rfl)
theorem km_X11_200 : Cond.methodLink RX11 200 yX11_whyOf ∈ jf_tb := (jt_6 55 rfl rfl)
theorem km_X11_204 : Cond.methodLink RX11 204 yX11_isShowing ∈ jf_tb := (jt_6 71 rfl rfl)
theorem km_X11_207 : Cond.methodLink RX11 207 yX11_crowdOf ∈ jf_tb := (jt_6 79 rfl rfl)
theorem km_X11_210 : Cond.methodLink RX11 210 yX11_worthOf ∈ jf_tb := (jt_6 83 rfl rfl)
theorem km_X11_213 : Cond.methodLink RX11 213 yX11_nextTrue ∈ jf_tb := (jt_6 91 rfl rfl)
theorem km_X11_217 : Cond.methodLink RX11 217 yX11_trueEnd ∈ jf_tb := (jt_6 95 rfl rfl)
theorem km_X11_220 : Cond.methodLink RX11 220 yX11_findTrue ∈ jf_tb := (jt_6 87 rfl rfl)
theorem km_X11_225 : Cond.methodLink RX11 225 yX11_gridOf ∈ jf_tb := (jt_6 108 rfl rfl)
theorem km_X11_243 : Cond.methodLink RX11 243 yX11_tryChange ∈ jf_tb := (jt_6 120 rfl rfl)
theorem km_X11_260 : Cond.methodLink RX11 260 yX11_isJuror ∈ jf_tb := (jt_6 153 rfl rfl)
theorem km_X11_263 : Cond.methodLink RX11 263 yX11_placeOf ∈ jf_tb := (jt_6 157 rfl rfl)
theorem km_X11_275 : Cond.methodLink RX11 275 yX11_four ∈ jf_tb := (jt_6 174 rfl rfl)
theorem km_X11_289 : Cond.methodLink RX11 289 yX11_isSmall ∈ jf_tb := (jt_6 190 rfl rfl)
theorem km_X11_292 : Cond.methodLink RX11 292 yX11_isDigit ∈ jf_tb := (jt_6 193 rfl rfl)
theorem km_X11_306 : Cond.methodLink RX11 306 yX11_word ∈ jf_tb := (jt_6 208 rfl rfl)
theorem km_X11_314 : Cond.methodLink RX11 314 yX11_next ∈ jf_tb := (jt_6 186 rfl rfl)
theorem km_X11_323 : Cond.methodLink RX11 323 yX11_mark ∈ jf_tb := (jt_6 227 rfl rfl)
theorem km_X11_326 : Cond.methodLink RX11 326 yX11_isWord ∈ jf_tb := (jt_6 204 rfl rfl)
theorem km_X11_330 : Cond.methodLink RX11 330 yX11_isSign ∈ jf_tb := (jt_6 219 rfl rfl)
theorem km_X11_333 : Cond.methodLink RX11 333 yX11_must ∈ jf_tb := (jt_6 211 rfl rfl)
theorem km_X11_337 : Cond.methodLink RX11 337 yX11_readLeaf ∈ jf_tb := (jt_6 223 rfl rfl)
theorem km_X11_340 : Cond.methodLink RX11 340 yX11_settle ∈ jf_tb := (jt_6 231 rfl rfl)
theorem km_X11_343 : Cond.methodLink RX11 343 yX11_depthNow ∈ jf_tb := (jt_6 235 rfl rfl)
theorem km_X11_347 : Cond.methodLink RX11 347 yX11_readCond ∈ jf_tb := (jt_6 215 rfl rfl)
theorem km_X11_356 : Cond.methodLink RX11 356 yX11_readRules ∈ jf_tb := (jt_6 200 rfl rfl)
theorem km_X11_371 : Cond.methodLink RX11 371 yX11_isRow ∈ jf_tb := (jt_7 15 rfl rfl)
theorem km_X11_375 : Cond.methodLink RX11 375 yX11_holds ∈ jf_tb := (jt_7 11 rfl rfl)
theorem km_X11_379 : Cond.methodLink RX11 379 yX11_countsFor ∈ jf_tb := (jt_7 7 rfl rfl)
theorem km_X11_382 : Cond.methodLink RX11 382 yX11_isAhead ∈ jf_tb := (jt_7 39 rfl rfl)
theorem km_X11_386 : Cond.methodLink RX11 386 yX11_openRound ∈ jf_tb := (jt_7 31 rfl rfl)
theorem km_X11_389 : Cond.methodLink RX11 389 yX11_extreme ∈ jf_tb := (jt_7 35 rfl rfl)
theorem km_X11_393 : Cond.methodLink RX11 393 yX11_findVotes ∈ jf_tb := (jt_7 23 rfl rfl)
theorem km_X11_396 : Cond.methodLink RX11 396 yX11_byPoints ∈ jf_tb := (jt_7 27 rfl rfl)
theorem km_X11_399 : Cond.methodLink RX11 399 yX11_byRounds ∈ jf_tb := (jt_7 43 rfl rfl)
theorem km_X2_40 : Cond.methodLink RX2 40 yX2_setGuest ∈ jf_tb := (jt_2 236 rfl rfl)
theorem km_X2_44 : Cond.methodLink RX2 44 yX2_setBars ∈ jf_tb := (jt_3 0 rfl rfl)
theorem km_X4_40 : Cond.methodLink RX4 40 yX4_votesFor ∈ jf_tb := (jt_4 10 rfl rfl)
theorem km_X4_44 : Cond.methodLink RX4 44 yX4_hasRow ∈ jf_tb := (jt_4 192 rfl rfl)
theorem km_X4_48 : Cond.methodLink RX4 48 yX7_holds ∈ jf_tb := (jt_4 196 rfl rfl)
theorem km_X5_37 : Cond.methodLink RX5 37 yX5_sortByBegin ∈ jf_tb := (jt_3 143 rfl rfl)
theorem km_X5_41 : Cond.methodLink RX5 41 yX5_hallFree ∈ jf_tb := (jt_3 147 rfl rfl)
theorem km_X5_45 : Cond.methodLink RX5 45 yX5_printFree ∈ jf_tb := (jt_3 151 rfl rfl)
theorem km_X5_48 : Cond.methodLink RX5 48 Lib.Math.max.name ∈ jf_tb ∧ Cond.static Lib.Math.max.name ∈ jf_tb ∧ Cond.initialized "java/lang/Math" ∈ jf_tb ∧ Cond.code Lib.Math.max.name Lib.Math.max.code 2 (some .int) ∈ jf_tb := ⟨(jt_3 156 rfl rfl), (jt_3 157 rfl rfl), (jt_1 14 rfl rfl), (jt_3 158 rfl rfl)⟩
theorem km_X5_85 : Cond.methodLink RX5 85 yX3_wayBetween ∈ jf_tb := (jt_3 155 rfl rfl)
theorem km_X5_100 : Cond.methodLink RX5 100 Lib.Math.min.name ∈ jf_tb ∧ Cond.static Lib.Math.min.name ∈ jf_tb ∧ Cond.initialized "java/lang/Math" ∈ jf_tb ∧ Cond.code Lib.Math.min.name Lib.Math.min.code 2 (some .int) ∈ jf_tb := ⟨(jt_3 229 rfl rfl), (jt_2 222 rfl rfl), (jt_1 14 rfl rfl), (jt_2 223 rfl rfl)⟩
theorem km_X6_29 : Cond.methodLink RX6 29 yX7_empty ∈ jf_tb := (jt_4 54 rfl rfl)
theorem km_X6_35 : Cond.methodLink RX6 35 yX6_advance ∈ jf_tb := (jt_4 58 rfl rfl)
theorem km_X6_40 : Cond.methodLink RX6 40 yX6_takeWord ∈ jf_tb := (jt_4 63 rfl rfl)
theorem km_X6_44 : Cond.methodLink RX6 44 yX6_takeCond ∈ jf_tb := (jt_4 115 rfl rfl)
theorem km_X6_48 : Cond.methodLink RX6 48 yX6_takeByte ∈ jf_tb := (jt_4 132 rfl rfl)
theorem km_X6_52 : Cond.methodLink RX6 52 yX6_takeManner ∈ jf_tb := (jt_4 149 rfl rfl)
theorem km_X6_58 : Cond.methodLink RX6 58 yX6_takeTie ∈ jf_tb := (jt_4 164 rfl rfl)
theorem km_X6_68 : Cond.methodLink RX6 68 yX6_takePoints ∈ jf_tb := (jt_4 155 rfl rfl)
theorem km_X6_74 : Cond.methodLink RX6 74 yX6_takeNumber ∈ jf_tb := (jt_4 143 rfl rfl)
theorem km_X6_77 : Cond.methodLink RX6 77 yX7_addNumber ∈ jf_tb := (jt_4 159 rfl rfl)
theorem km_X6_88 : Cond.methodLink RX6 88 yX6_takeAnd ∈ jf_tb := (jt_4 119 rfl rfl)
theorem km_X6_93 : Cond.methodLink RX6 93 yX7_addStep ∈ jf_tb := (jt_4 128 rfl rfl)
theorem km_X6_97 : Cond.methodLink RX6 97 yX6_takeNot ∈ jf_tb := (jt_4 123 rfl rfl)
theorem km_X6_104 : Cond.methodLink RX6 104 yX6_takeAsked ∈ jf_tb := (jt_4 136 rfl rfl)
theorem km_X9_50 : Cond.methodLink RX9 50 yX9_manyBeside ∈ jf_tb := (jt_3 112 rfl rfl)
theorem km_X9_54 : Cond.methodLink RX9 54 yX9_crowd ∈ jf_tb := (jt_3 122 rfl rfl)
theorem km_X9_58 : Cond.methodLink RX9 58 yX9_worth ∈ jf_tb := (jt_3 134 rfl rfl)
theorem km_X9_70 : Cond.methodLink RX9 70 yX9_worthOf ∈ jf_tb := (jt_3 171 rfl rfl)
theorem km_X9_73 : Cond.methodLink RX9 73 yX9_findBestChange ∈ jf_tb := (jt_3 188 rfl rfl)
theorem km_X9_86 : Cond.methodLink RX9 86 yX8_move ∈ jf_tb := (jt_3 205 rfl rfl)
theorem km_X9_90 : Cond.methodLink RX9 90 yX9_countBeside ∈ jf_tb := (jt_3 192 rfl rfl)
theorem km_X9_93 : Cond.methodLink RX9 93 yX9_gridWithout ∈ jf_tb := (jt_3 196 rfl rfl)
theorem km_X9_104 : Cond.methodLink RX9 104 yX9_tryAt ∈ jf_tb := (jt_3 200 rfl rfl)
theorem km_X9_111 : Cond.methodLink RX9 111 yX9_runBeside ∈ jf_tb := (jt_3 116 rfl rfl)
theorem km_X9_118 : Cond.methodLink RX9 118 yX9_share ∈ jf_tb := (jt_3 126 rfl rfl)
theorem km_X9_125 : Cond.methodLink RX9 125 Lib.Math.min.name ∈ jf_tb ∧ Cond.static Lib.Math.min.name ∈ jf_tb ∧ Cond.initialized "java/lang/Math" ∈ jf_tb ∧ Cond.code Lib.Math.min.name Lib.Math.min.code 2 (some .int) ∈ jf_tb := ⟨(jt_3 138 rfl rfl), (jt_2 222 rfl rfl), (jt_1 14 rfl rfl), (jt_2 223 rfl rfl)⟩
theorem km_X9_138 : Cond.methodLink RX9 138 yX3_inOneTown ∈ jf_tb := (jt_3 120 rfl rfl)
theorem km_X9_141 : Cond.methodLink RX9 141 yX8_runsWithin ∈ jf_tb := (jt_3 121 rfl rfl)
theorem km_X9_148 : Cond.methodLink RX9 148 yX1_reason ∈ jf_tb := (jt_3 204 rfl rfl)
theorem ky_X0_decide : jf_y yX0_decide cX0_decide 2 (some .int) 1 := ⟨(jt_4 208 rfl rfl), (jt_1 12 rfl rfl), by decide +kernel, by decide⟩
theorem kv_X0_decide : jf_yv yX0_decide := ⟨(jt_4 206 rfl rfl), (jt_4 207 rfl rfl)⟩
theorem ky_X0_decideByPoints : jf_y yX0_decideByPoints cX0_decideByPoints 3 (some .int) 0 := ⟨(jt_4 217 rfl rfl), (jt_1 12 rfl rfl), by decide +kernel, by decide⟩
theorem kv_X0_decideByPoints : jf_yv yX0_decideByPoints := ⟨(jt_4 216 rfl rfl), (jt_p 31 rfl rfl)⟩
theorem ky_X0_decideByRounds : jf_y yX0_decideByRounds cX0_decideByRounds 4 (some .int) 0 := ⟨(jt_4 237 rfl rfl), (jt_1 12 rfl rfl), by decide +kernel, by decide⟩
theorem kv_X0_decideByRounds : jf_yv yX0_decideByRounds := ⟨(jt_4 236 rfl rfl), (jt_p 35 rfl rfl)⟩
theorem ky_X0_foremost : jf_y yX0_foremost cX0_foremost 4 (some .int) 1 := ⟨(jt_4 229 rfl rfl), (jt_1 12 rfl rfl), by decide +kernel, by decide⟩
theorem kv_X0_foremost : jf_yv yX0_foremost := ⟨(jt_4 228 rfl rfl), (jt_p 33 rfl rfl)⟩
theorem ky_X0_gather : jf_y yX0_gather cX0_gather 6 (none) 1 := ⟨(jt_4 212 rfl rfl), (jt_1 12 rfl rfl), by decide +kernel, by decide⟩
theorem kv_X0_gather : jf_yv yX0_gather := ⟨(jt_4 211 rfl rfl), (jt_p 30 rfl rfl)⟩
theorem ky_X0_giveFirsts : jf_y yX0_giveFirsts cX0_giveFirsts 6 (some .int) 1 := ⟨(jt_5 1 rfl rfl), (jt_1 12 rfl rfl), by decide +kernel, by decide⟩
theorem kv_X0_giveFirsts : jf_yv yX0_giveFirsts := ⟨(jt_5 0 rfl rfl), (jt_p 36 rfl rfl)⟩
theorem ky_X0_isAhead : jf_y yX0_isAhead cX0_isAhead 6 (some .boolean) 3 := ⟨(jt_4 233 rfl rfl), (jt_1 12 rfl rfl), by decide +kernel, by decide⟩
theorem kv_X0_isAhead : jf_yv yX0_isAhead := ⟨(jt_4 232 rfl rfl), (jt_p 34 rfl rfl)⟩
theorem ky_X0_openRound : jf_y yX0_openRound cX0_openRound 3 (none) 1 := ⟨(jt_4 221 rfl rfl), (jt_1 12 rfl rfl), by decide +kernel, by decide⟩
theorem kv_X0_openRound : jf_yv yX0_openRound := ⟨(jt_4 220 rfl rfl), (jt_p 32 rfl rfl)⟩
theorem ky_X0_putOutHindmost : jf_y yX0_putOutHindmost cX0_putOutHindmost 4 (none) 1 := ⟨(jt_5 5 rfl rfl), (jt_1 12 rfl rfl), by decide +kernel, by decide⟩
theorem kv_X0_putOutHindmost : jf_yv yX0_putOutHindmost := ⟨(jt_5 4 rfl rfl), (jt_p 37 rfl rfl)⟩
theorem ky_X0_sumIn : jf_y yX0_sumIn cX0_sumIn 3 (some .int) 2 := ⟨(jt_5 13 rfl rfl), (jt_1 12 rfl rfl), by decide +kernel, by decide⟩
theorem kv_X0_sumIn : jf_yv yX0_sumIn := ⟨(jt_5 11 rfl rfl), (jt_5 12 rfl rfl)⟩
theorem ky_X10_bar : jf_y yX10_bar cX10_bar 6 (some .int) 4 := ⟨(jt_3 27 rfl rfl), (jt_1 1 rfl rfl), by decide +kernel, by decide⟩
theorem kv_X10_bar : jf_yv yX10_bar := ⟨(jt_3 25 rfl rfl), (jt_3 26 rfl rfl)⟩
theorem ky_X10_better : jf_y yX10_better cX10_better 1 (some .int) 0 := ⟨(jt_3 183 rfl rfl), (jt_1 1 rfl rfl), by decide +kernel, by decide⟩
theorem kv_X10_better : jf_yv yX10_better := ⟨(jt_3 181 rfl rfl), (jt_3 182 rfl rfl)⟩
theorem ky_X10_clear : jf_y yX10_clear cX10_clear 3 (some .int) 1 := ⟨(jt_4 17 rfl rfl), (jt_1 1 rfl rfl), by decide +kernel, by decide⟩
theorem kv_X10_clear : jf_yv yX10_clear := ⟨(jt_4 15 rfl rfl), (jt_4 16 rfl rfl)⟩
theorem ky_X10_come : jf_y yX10_come cX10_come 4 (some .int) 3 := ⟨(jt_3 212 rfl rfl), (jt_1 1 rfl rfl), by decide +kernel, by decide⟩
theorem kv_X10_come : jf_yv yX10_come := ⟨(jt_3 210 rfl rfl), (jt_3 211 rfl rfl)⟩
theorem ky_X10_count : jf_y yX10_count cX10_count 2 (some .int) 1 := ⟨(jt_5 17 rfl rfl), (jt_1 1 rfl rfl), by decide +kernel, by decide⟩
theorem kv_X10_count : jf_yv yX10_count := ⟨(jt_5 15 rfl rfl), (jt_5 16 rfl rfl)⟩
theorem ky_X10_counts : jf_y yX10_counts cX10_counts 4 (some .int) 3 := ⟨(jt_4 186 rfl rfl), (jt_1 1 rfl rfl), by decide +kernel, by decide⟩
theorem kv_X10_counts : jf_yv yX10_counts := ⟨(jt_4 184 rfl rfl), (jt_4 185 rfl rfl)⟩
theorem ky_X10_delay : jf_y yX10_delay cX10_delay 3 (some .int) 2 := ⟨(jt_3 220 rfl rfl), (jt_1 1 rfl rfl), by decide +kernel, by decide⟩
theorem kv_X10_delay : jf_yv yX10_delay := ⟨(jt_3 218 rfl rfl), (jt_3 219 rfl rfl)⟩
theorem ky_X10_doors : jf_y yX10_doors cX10_doors 3 (some .int) 1 := ⟨(jt_3 216 rfl rfl), (jt_1 1 rfl rfl), by decide +kernel, by decide⟩
theorem kv_X10_doors : jf_yv yX10_doors := ⟨(jt_3 214 rfl rfl), (jt_3 215 rfl rfl)⟩
theorem ky_X10_end : jf_y yX10_end cX10_end 2 (some .int) 1 := ⟨(jt_4 45 rfl rfl), (jt_1 1 rfl rfl), by decide +kernel, by decide⟩
theorem kv_X10_end : jf_yv yX10_end := ⟨(jt_4 43 rfl rfl), (jt_4 44 rfl rfl)⟩
theorem ky_X10_fault : jf_y yX10_fault cX10_fault 1 (some .int) 0 := ⟨(jt_4 182 rfl rfl), (jt_1 1 rfl rfl), by decide +kernel, by decide⟩
theorem kv_X10_fault : jf_yv yX10_fault := ⟨(jt_4 180 rfl rfl), (jt_4 181 rfl rfl)⟩
theorem ky_X10_feed : jf_y yX10_feed cX10_feed 6 (some .int) 5 := ⟨(jt_4 33 rfl rfl), (jt_1 1 rfl rfl), by decide +kernel, by decide⟩
theorem kv_X10_feed : jf_yv yX10_feed := ⟨(jt_4 31 rfl rfl), (jt_4 32 rfl rfl)⟩
theorem ky_X10_film : jf_y yX10_film cX10_film 4 (some .int) 3 := ⟨(jt_2 231 rfl rfl), (jt_1 1 rfl rfl), by decide +kernel, by decide⟩
theorem kv_X10_film : jf_yv yX10_film := ⟨(jt_2 229 rfl rfl), (jt_2 230 rfl rfl)⟩
theorem ky_X10_grid : jf_y yX10_grid cX10_grid 1 (some .int) 0 := ⟨(jt_3 166 rfl rfl), (jt_1 1 rfl rfl), by decide +kernel, by decide⟩
theorem kv_X10_grid : jf_yv yX10_grid := ⟨(jt_3 164 rfl rfl), (jt_3 165 rfl rfl)⟩
theorem ky_X10_guest : jf_y yX10_guest cX10_guest 5 (some .int) 3 := ⟨(jt_3 15 rfl rfl), (jt_1 1 rfl rfl), by decide +kernel, by decide⟩
theorem kv_X10_guest : jf_yv yX10_guest := ⟨(jt_3 13 rfl rfl), (jt_3 14 rfl rfl)⟩
theorem ky_X10_hall : jf_y yX10_hall cX10_hall 5 (some .int) 4 := ⟨(jt_2 210 rfl rfl), (jt_1 1 rfl rfl), by decide +kernel, by decide⟩
theorem kv_X10_hall : jf_yv yX10_hall := ⟨(jt_2 208 rfl rfl), (jt_2 209 rfl rfl)⟩
theorem ky_X10_hour : jf_y yX10_hour cX10_hour 2 (some .int) 1 := ⟨(jt_3 175 rfl rfl), (jt_1 1 rfl rfl), by decide +kernel, by decide⟩
theorem kv_X10_hour : jf_yv yX10_hour := ⟨(jt_3 173 rfl rfl), (jt_3 174 rfl rfl)⟩
theorem ky_X10_isKnown : jf_y yX10_isKnown cX10_isKnown 1 (some .boolean) 1 := ⟨(jt_4 24 rfl rfl), (jt_1 1 rfl rfl), by decide +kernel, by decide⟩
theorem ks_X10_isKnown : Cond.static yX10_isKnown ∈ jf_tb := (jt_4 23 rfl rfl)
theorem ky_X10_isMinute : jf_y yX10_isMinute cX10_isMinute 1 (some .boolean) 1 := ⟨(jt_3 18 rfl rfl), (jt_1 1 rfl rfl), by decide +kernel, by decide⟩
theorem ks_X10_isMinute : Cond.static yX10_isMinute ∈ jf_tb := (jt_3 17 rfl rfl)
theorem ky_X10_isTown : jf_y yX10_isTown cX10_isTown 1 (some .boolean) 1 := ⟨(jt_2 213 rfl rfl), (jt_1 1 rfl rfl), by decide +kernel, by decide⟩
theorem ks_X10_isTown : Cond.static yX10_isTown ∈ jf_tb := (jt_2 212 rfl rfl)
theorem ky_X10_juror : jf_y yX10_juror cX10_juror 2 (some .int) 1 := ⟨(jt_3 233 rfl rfl), (jt_1 1 rfl rfl), by decide +kernel, by decide⟩
theorem kv_X10_juror : jf_yv yX10_juror := ⟨(jt_3 231 rfl rfl), (jt_3 232 rfl rfl)⟩
theorem ky_X10_of : jf_y yX10_of cX10_of 3 (some .int) 2 := ⟨(jt_3 107 rfl rfl), (jt_1 1 rfl rfl), by decide +kernel, by decide⟩
theorem kv_X10_of : jf_yv yX10_of := ⟨(jt_3 105 rfl rfl), (jt_3 106 rfl rfl)⟩
theorem ky_X10_part : jf_y yX10_part cX10_part 3 (some .int) 2 := ⟨(jt_3 162 rfl rfl), (jt_1 1 rfl rfl), by decide +kernel, by decide⟩
theorem kv_X10_part : jf_yv yX10_part := ⟨(jt_3 160 rfl rfl), (jt_3 161 rfl rfl)⟩
theorem ky_X10_prize : jf_y yX10_prize cX10_prize 3 (some .int) 1 := ⟨(jt_4 204 rfl rfl), (jt_1 1 rfl rfl), by decide +kernel, by decide⟩
theorem kv_X10_prize : jf_yv yX10_prize := ⟨(jt_4 202 rfl rfl), (jt_4 203 rfl rfl)⟩
theorem ky_X10_put : jf_y yX10_put cX10_put 6 (some .int) 4 := ⟨(jt_3 91 rfl rfl), (jt_1 1 rfl rfl), by decide +kernel, by decide⟩
theorem kv_X10_put : jf_yv yX10_put := ⟨(jt_3 89 rfl rfl), (jt_3 90 rfl rfl)⟩
theorem ky_X10_queue : jf_y yX10_queue cX10_queue 4 (some .int) 3 := ⟨(jt_3 224 rfl rfl), (jt_1 1 rfl rfl), by decide +kernel, by decide⟩
theorem kv_X10_queue : jf_yv yX10_queue := ⟨(jt_3 222 rfl rfl), (jt_3 223 rfl rfl)⟩
theorem ky_X10_reasonAgainst : jf_y yX10_reasonAgainst cX10_reasonAgainst 5 (some .int) 4 := ⟨(jt_3 36 rfl rfl), (jt_1 1 rfl rfl), by decide +kernel, by decide⟩
theorem kv_X10_reasonAgainst : jf_yv yX10_reasonAgainst := ⟨(jt_3 35 rfl rfl), (jt_p 1 rfl rfl)⟩
theorem ky_X10_round : jf_y yX10_round cX10_round 3 (some .int) 2 := ⟨(jt_5 9 rfl rfl), (jt_1 1 rfl rfl), by decide +kernel, by decide⟩
theorem kv_X10_round : jf_yv yX10_round := ⟨(jt_5 7 rfl rfl), (jt_5 8 rfl rfl)⟩
theorem ky_X10_row : jf_y yX10_row cX10_row 5 (some .int) 4 := ⟨(jt_4 21 rfl rfl), (jt_1 1 rfl rfl), by decide +kernel, by decide⟩
theorem kv_X10_row : jf_yv yX10_row := ⟨(jt_4 19 rfl rfl), (jt_4 20 rfl rfl)⟩
theorem ky_X10_rules : jf_y yX10_rules cX10_rules 2 (some .int) 0 := ⟨(jt_4 49 rfl rfl), (jt_1 1 rfl rfl), by decide +kernel, by decide⟩
theorem kv_X10_rules : jf_yv yX10_rules := ⟨(jt_4 47 rfl rfl), (jt_4 48 rfl rfl)⟩
theorem ky_X10_status : jf_y yX10_status cX10_status 1 (some .int) 0 := ⟨(jt_5 25 rfl rfl), (jt_1 1 rfl rfl), by decide +kernel, by decide⟩
theorem kv_X10_status : jf_yv yX10_status := ⟨(jt_5 23 rfl rfl), (jt_5 24 rfl rfl)⟩
theorem ky_X10_take : jf_y yX10_take cX10_take 2 (some .int) 1 := ⟨(jt_3 99 rfl rfl), (jt_1 1 rfl rfl), by decide +kernel, by decide⟩
theorem kv_X10_take : jf_yv yX10_take := ⟨(jt_3 97 rfl rfl), (jt_3 98 rfl rfl)⟩
theorem ky_X10_told : jf_y yX10_told cX10_told 2 (some .int) 1 := ⟨(jt_2 220 rfl rfl), (jt_1 1 rfl rfl), by decide +kernel, by decide⟩
theorem kv_X10_told : jf_yv yX10_told := ⟨(jt_2 219 rfl rfl), (jt_p 0 rfl rfl)⟩
theorem ky_X10_vote : jf_y yX10_vote cX10_vote 3 (some .int) 2 := ⟨(jt_4 1 rfl rfl), (jt_1 1 rfl rfl), by decide +kernel, by decide⟩
theorem kv_X10_vote : jf_yv yX10_vote := ⟨(jt_3 239 rfl rfl), (jt_4 0 rfl rfl)⟩
theorem ky_X10_way : jf_y yX10_way cX10_way 4 (some .int) 3 := ⟨(jt_3 7 rfl rfl), (jt_1 1 rfl rfl), by decide +kernel, by decide⟩
theorem kv_X10_way : jf_yv yX10_way := ⟨(jt_3 5 rfl rfl), (jt_3 6 rfl rfl)⟩
theorem ky_X10_why : jf_y yX10_why cX10_why 5 (some .int) 4 := ⟨(jt_3 32 rfl rfl), (jt_1 1 rfl rfl), by decide +kernel, by decide⟩
theorem kv_X10_why : jf_yv yX10_why := ⟨(jt_3 30 rfl rfl), (jt_3 31 rfl rfl)⟩
theorem ky_X10_within : jf_y yX10_within cX10_within 3 (some .boolean) 3 := ⟨(jt_2 216 rfl rfl), (jt_1 1 rfl rfl), by decide +kernel, by decide⟩
theorem ks_X10_within : Cond.static yX10_within ∈ jf_tb := (jt_2 215 rfl rfl)
theorem ky_X11_bar : jf_y yX11_bar cX11_bar 5 (some .int) 4 := ⟨(jt_6 44 rfl rfl), (jt_1 13 rfl rfl), by decide +kernel, by decide⟩
theorem kv_X11_bar : jf_yv yX11_bar := ⟨(jt_6 42 rfl rfl), (jt_6 43 rfl rfl)⟩
theorem ky_X11_better : jf_y yX11_better cX11_better 6 (some .int) 0 := ⟨(jt_6 119 rfl rfl), (jt_1 13 rfl rfl), by decide +kernel, by decide⟩
theorem kv_X11_better : jf_yv yX11_better := ⟨(jt_6 117 rfl rfl), (jt_6 118 rfl rfl)⟩
theorem ky_X11_byPoints : jf_y yX11_byPoints cX11_byPoints 4 (some .int) 0 := ⟨(jt_7 30 rfl rfl), (jt_1 13 rfl rfl), by decide +kernel, by decide⟩
theorem kv_X11_byPoints : jf_yv yX11_byPoints := ⟨(jt_7 29 rfl rfl), (jt_p 68 rfl rfl)⟩
theorem ky_X11_byRounds : jf_y yX11_byRounds cX11_byRounds 6 (some .int) 0 := ⟨(jt_7 46 rfl rfl), (jt_1 13 rfl rfl), by decide +kernel, by decide⟩
theorem kv_X11_byRounds : jf_yv yX11_byRounds := ⟨(jt_7 45 rfl rfl), (jt_p 72 rfl rfl)⟩
theorem ky_X11_clear : jf_y yX11_clear cX11_clear 3 (some .int) 1 := ⟨(jt_6 164 rfl rfl), (jt_1 13 rfl rfl), by decide +kernel, by decide⟩
theorem kv_X11_clear : jf_yv yX11_clear := ⟨(jt_6 162 rfl rfl), (jt_6 163 rfl rfl)⟩
theorem ky_X11_come : jf_y yX11_come cX11_come 4 (some .int) 3 := ⟨(jt_6 127 rfl rfl), (jt_1 13 rfl rfl), by decide +kernel, by decide⟩
theorem kv_X11_come : jf_yv yX11_come := ⟨(jt_6 125 rfl rfl), (jt_6 126 rfl rfl)⟩
theorem ky_X11_count : jf_y yX11_count cX11_count 4 (some .int) 1 := ⟨(jt_7 54 rfl rfl), (jt_1 13 rfl rfl), by decide +kernel, by decide⟩
theorem kv_X11_count : jf_yv yX11_count := ⟨(jt_7 52 rfl rfl), (jt_7 53 rfl rfl)⟩
theorem ky_X11_counts : jf_y yX11_counts cX11_counts 4 (some .int) 3 := ⟨(jt_7 6 rfl rfl), (jt_1 13 rfl rfl), by decide +kernel, by decide⟩
theorem kv_X11_counts : jf_yv yX11_counts := ⟨(jt_7 4 rfl rfl), (jt_7 5 rfl rfl)⟩
theorem ky_X11_countsFor : jf_y yX11_countsFor cX11_countsFor 4 (some .boolean) 3 := ⟨(jt_7 10 rfl rfl), (jt_1 13 rfl rfl), by decide +kernel, by decide⟩
theorem kv_X11_countsFor : jf_yv yX11_countsFor := ⟨(jt_7 9 rfl rfl), (jt_p 64 rfl rfl)⟩
theorem ky_X11_crowdOf : jf_y yX11_crowdOf cX11_crowdOf 4 (some .int) 1 := ⟨(jt_6 82 rfl rfl), (jt_1 13 rfl rfl), by decide +kernel, by decide⟩
theorem kv_X11_crowdOf : jf_yv yX11_crowdOf := ⟨(jt_6 81 rfl rfl), (jt_p 44 rfl rfl)⟩
theorem ky_X11_delay : jf_y yX11_delay cX11_delay 3 (some .int) 2 := ⟨(jt_6 138 rfl rfl), (jt_1 13 rfl rfl), by decide +kernel, by decide⟩
theorem kv_X11_delay : jf_yv yX11_delay := ⟨(jt_6 136 rfl rfl), (jt_6 137 rfl rfl)⟩
theorem ky_X11_depthNow : jf_y yX11_depthNow cX11_depthNow 4 (some .int) 1 := ⟨(jt_6 238 rfl rfl), (jt_1 13 rfl rfl), by decide +kernel, by decide⟩
theorem kv_X11_depthNow : jf_yv yX11_depthNow := ⟨(jt_6 237 rfl rfl), (jt_p 63 rfl rfl)⟩
theorem ky_X11_doors : jf_y yX11_doors cX11_doors 3 (some .int) 1 := ⟨(jt_6 133 rfl rfl), (jt_1 13 rfl rfl), by decide +kernel, by decide⟩
theorem kv_X11_doors : jf_yv yX11_doors := ⟨(jt_6 131 rfl rfl), (jt_6 132 rfl rfl)⟩
theorem ky_X11_end : jf_y yX11_end cX11_end 2 (some .int) 1 := ⟨(jt_6 181 rfl rfl), (jt_1 13 rfl rfl), by decide +kernel, by decide⟩
theorem kv_X11_end : jf_yv yX11_end := ⟨(jt_6 179 rfl rfl), (jt_6 180 rfl rfl)⟩
theorem ky_X11_endOf : jf_y yX11_endOf cX11_endOf 2 (some .int) 1 := ⟨(jt_6 62 rfl rfl), (jt_1 13 rfl rfl), by decide +kernel, by decide⟩
theorem kv_X11_endOf : jf_yv yX11_endOf := ⟨(jt_6 61 rfl rfl), (jt_p 42 rfl rfl)⟩
theorem ky_X11_extreme : jf_y yX11_extreme cX11_extreme 6 (some .int) 2 := ⟨(jt_7 38 rfl rfl), (jt_1 13 rfl rfl), by decide +kernel, by decide⟩
theorem kv_X11_extreme : jf_yv yX11_extreme := ⟨(jt_7 37 rfl rfl), (jt_p 70 rfl rfl)⟩
theorem ky_X11_fault : jf_y yX11_fault cX11_fault 1 (some .int) 0 := ⟨(jt_7 2 rfl rfl), (jt_1 13 rfl rfl), by decide +kernel, by decide⟩
theorem kv_X11_fault : jf_yv yX11_fault := ⟨(jt_7 0 rfl rfl), (jt_7 1 rfl rfl)⟩
theorem ky_X11_feed : jf_y yX11_feed cX11_feed 6 (some .int) 5 := ⟨(jt_6 173 rfl rfl), (jt_1 13 rfl rfl), by decide +kernel, by decide⟩
theorem kv_X11_feed : jf_yv yX11_feed := ⟨(jt_6 171 rfl rfl), (jt_6 172 rfl rfl)⟩
theorem ky_X11_film : jf_y yX11_film cX11_film 4 (some .int) 3 := ⟨(jt_6 21 rfl rfl), (jt_1 13 rfl rfl), by decide +kernel, by decide⟩
theorem kv_X11_film : jf_yv yX11_film := ⟨(jt_6 19 rfl rfl), (jt_6 20 rfl rfl)⟩
theorem ky_X11_findTrue : jf_y yX11_findTrue cX11_findTrue 7 (none) 0 := ⟨(jt_6 90 rfl rfl), (jt_1 13 rfl rfl), by decide +kernel, by decide⟩
theorem kv_X11_findTrue : jf_yv yX11_findTrue := ⟨(jt_6 89 rfl rfl), (jt_p 46 rfl rfl)⟩
theorem ky_X11_findVotes : jf_y yX11_findVotes cX11_findVotes 6 (none) 1 := ⟨(jt_7 26 rfl rfl), (jt_1 13 rfl rfl), by decide +kernel, by decide⟩
theorem kv_X11_findVotes : jf_yv yX11_findVotes := ⟨(jt_7 25 rfl rfl), (jt_p 67 rfl rfl)⟩
theorem ky_X11_four : jf_y yX11_four cX11_four 3 (none) 1 := ⟨(jt_6 177 rfl rfl), (jt_1 13 rfl rfl), by decide +kernel, by decide⟩
theorem kv_X11_four : jf_yv yX11_four := ⟨(jt_6 176 rfl rfl), (jt_p 53 rfl rfl)⟩
theorem ky_X11_grid : jf_y yX11_grid cX11_grid 1 (some .int) 0 := ⟨(jt_6 107 rfl rfl), (jt_1 13 rfl rfl), by decide +kernel, by decide⟩
theorem kv_X11_grid : jf_yv yX11_grid := ⟨(jt_6 105 rfl rfl), (jt_6 106 rfl rfl)⟩
theorem ky_X11_gridOf : jf_y yX11_gridOf cX11_gridOf 3 (some .int) 0 := ⟨(jt_6 111 rfl rfl), (jt_1 13 rfl rfl), by decide +kernel, by decide⟩
theorem kv_X11_gridOf : jf_yv yX11_gridOf := ⟨(jt_6 110 rfl rfl), (jt_p 49 rfl rfl)⟩
theorem ky_X11_guest : jf_y yX11_guest cX11_guest 5 (some .int) 3 := ⟨(jt_6 32 rfl rfl), (jt_1 13 rfl rfl), by decide +kernel, by decide⟩
theorem kv_X11_guest : jf_yv yX11_guest := ⟨(jt_6 30 rfl rfl), (jt_6 31 rfl rfl)⟩
theorem ky_X11_hall : jf_y yX11_hall cX11_hall 5 (some .int) 4 := ⟨(jt_6 6 rfl rfl), (jt_1 13 rfl rfl), by decide +kernel, by decide⟩
theorem kv_X11_hall : jf_yv yX11_hall := ⟨(jt_6 4 rfl rfl), (jt_6 5 rfl rfl)⟩
theorem ky_X11_holds : jf_y yX11_holds cX11_holds 8 (some .boolean) 3 := ⟨(jt_7 14 rfl rfl), (jt_1 13 rfl rfl), by decide +kernel, by decide⟩
theorem kv_X11_holds : jf_yv yX11_holds := ⟨(jt_7 13 rfl rfl), (jt_p 65 rfl rfl)⟩
theorem ky_X11_hour : jf_y yX11_hour cX11_hour 2 (some .int) 1 := ⟨(jt_6 115 rfl rfl), (jt_1 13 rfl rfl), by decide +kernel, by decide⟩
theorem kv_X11_hour : jf_yv yX11_hour := ⟨(jt_6 113 rfl rfl), (jt_6 114 rfl rfl)⟩
theorem ky_X11_in : jf_y yX11_in cX11_in 6 (some .boolean) 3 := ⟨(jt_6 10 rfl rfl), (jt_1 13 rfl rfl), by decide +kernel, by decide⟩
theorem ks_X11_in : Cond.static yX11_in ∈ jf_tb := (jt_6 9 rfl rfl)
theorem ky_X11_isAhead : jf_y yX11_isAhead cX11_isAhead 3 (some .boolean) 2 := ⟨(jt_7 42 rfl rfl), (jt_1 13 rfl rfl), by decide +kernel, by decide⟩
theorem kv_X11_isAhead : jf_yv yX11_isAhead := ⟨(jt_7 41 rfl rfl), (jt_p 71 rfl rfl)⟩
theorem ky_X11_isDigit : jf_y yX11_isDigit cX11_isDigit 1 (some .boolean) 1 := ⟨(jt_6 195 rfl rfl), (jt_1 13 rfl rfl), by decide +kernel, by decide⟩
theorem ks_X11_isDigit : Cond.static yX11_isDigit ∈ jf_tb := (jt_6 194 rfl rfl)
theorem ky_X11_isFilm : jf_y yX11_isFilm cX11_isFilm 2 (some .boolean) 1 := ⟨(jt_6 40 rfl rfl), (jt_1 13 rfl rfl), by decide +kernel, by decide⟩
theorem kv_X11_isFilm : jf_yv yX11_isFilm := ⟨(jt_6 39 rfl rfl), (jt_p 39 rfl rfl)⟩
theorem ky_X11_isHall : jf_y yX11_isHall cX11_isHall 2 (some .boolean) 1 := ⟨(jt_6 54 rfl rfl), (jt_1 13 rfl rfl), by decide +kernel, by decide⟩
theorem kv_X11_isHall : jf_yv yX11_isHall := ⟨(jt_6 53 rfl rfl), (jt_p 40 rfl rfl)⟩
theorem ky_X11_isJuror : jf_y yX11_isJuror cX11_isJuror 2 (some .boolean) 1 := ⟨(jt_6 156 rfl rfl), (jt_1 13 rfl rfl), by decide +kernel, by decide⟩
theorem kv_X11_isJuror : jf_yv yX11_isJuror := ⟨(jt_6 155 rfl rfl), (jt_p 51 rfl rfl)⟩
theorem ky_X11_isMinute : jf_y yX11_isMinute cX11_isMinute 1 (some .boolean) 1 := ⟨(jt_6 35 rfl rfl), (jt_1 13 rfl rfl), by decide +kernel, by decide⟩
theorem ks_X11_isMinute : Cond.static yX11_isMinute ∈ jf_tb := (jt_6 34 rfl rfl)
theorem ky_X11_isRow : jf_y yX11_isRow cX11_isRow 7 (some .boolean) 4 := ⟨(jt_7 18 rfl rfl), (jt_1 13 rfl rfl), by decide +kernel, by decide⟩
theorem kv_X11_isRow : jf_yv yX11_isRow := ⟨(jt_7 17 rfl rfl), (jt_p 66 rfl rfl)⟩
theorem ky_X11_isShowing : jf_y yX11_isShowing cX11_isShowing 2 (some .boolean) 1 := ⟨(jt_6 74 rfl rfl), (jt_1 13 rfl rfl), by decide +kernel, by decide⟩
theorem kv_X11_isShowing : jf_yv yX11_isShowing := ⟨(jt_6 73 rfl rfl), (jt_p 43 rfl rfl)⟩
theorem ky_X11_isSign : jf_y yX11_isSign cX11_isSign 2 (some .boolean) 1 := ⟨(jt_6 222 rfl rfl), (jt_1 13 rfl rfl), by decide +kernel, by decide⟩
theorem kv_X11_isSign : jf_yv yX11_isSign := ⟨(jt_6 221 rfl rfl), (jt_p 59 rfl rfl)⟩
theorem ky_X11_isSmall : jf_y yX11_isSmall cX11_isSmall 1 (some .boolean) 1 := ⟨(jt_6 192 rfl rfl), (jt_1 13 rfl rfl), by decide +kernel, by decide⟩
theorem ks_X11_isSmall : Cond.static yX11_isSmall ∈ jf_tb := (jt_6 191 rfl rfl)
theorem ky_X11_isWord : jf_y yX11_isWord cX11_isWord 7 (some .boolean) 6 := ⟨(jt_6 207 rfl rfl), (jt_1 13 rfl rfl), by decide +kernel, by decide⟩
theorem kv_X11_isWord : jf_yv yX11_isWord := ⟨(jt_6 206 rfl rfl), (jt_p 56 rfl rfl)⟩
theorem ky_X11_juror : jf_y yX11_juror cX11_juror 2 (some .int) 1 := ⟨(jt_6 148 rfl rfl), (jt_1 13 rfl rfl), by decide +kernel, by decide⟩
theorem kv_X11_juror : jf_yv yX11_juror := ⟨(jt_6 146 rfl rfl), (jt_6 147 rfl rfl)⟩
theorem ky_X11_mark : jf_y yX11_mark cX11_mark 2 (none) 1 := ⟨(jt_6 230 rfl rfl), (jt_1 13 rfl rfl), by decide +kernel, by decide⟩
theorem kv_X11_mark : jf_yv yX11_mark := ⟨(jt_6 229 rfl rfl), (jt_p 61 rfl rfl)⟩
theorem ky_X11_must : jf_y yX11_must cX11_must 2 (none) 1 := ⟨(jt_6 214 rfl rfl), (jt_1 13 rfl rfl), by decide +kernel, by decide⟩
theorem kv_X11_must : jf_yv yX11_must := ⟨(jt_6 213 rfl rfl), (jt_p 57 rfl rfl)⟩
theorem ky_X11_next : jf_y yX11_next cX11_next 1 (none) 0 := ⟨(jt_6 189 rfl rfl), (jt_1 13 rfl rfl), by decide +kernel, by decide⟩
theorem kv_X11_next : jf_yv yX11_next := ⟨(jt_6 188 rfl rfl), (jt_p 54 rfl rfl)⟩
theorem ky_X11_nextTrue : jf_y yX11_nextTrue cX11_nextTrue 3 (some .int) 0 := ⟨(jt_6 94 rfl rfl), (jt_1 13 rfl rfl), by decide +kernel, by decide⟩
theorem kv_X11_nextTrue : jf_yv yX11_nextTrue := ⟨(jt_6 93 rfl rfl), (jt_p 47 rfl rfl)⟩
theorem ky_X11_of : jf_y yX11_of cX11_of 3 (some .int) 2 := ⟨(jt_6 78 rfl rfl), (jt_1 13 rfl rfl), by decide +kernel, by decide⟩
theorem kv_X11_of : jf_yv yX11_of := ⟨(jt_6 76 rfl rfl), (jt_6 77 rfl rfl)⟩
theorem ky_X11_openRound : jf_y yX11_openRound cX11_openRound 2 (none) 0 := ⟨(jt_7 34 rfl rfl), (jt_1 13 rfl rfl), by decide +kernel, by decide⟩
theorem kv_X11_openRound : jf_yv yX11_openRound := ⟨(jt_7 33 rfl rfl), (jt_p 69 rfl rfl)⟩
theorem ky_X11_part : jf_y yX11_part cX11_part 3 (some .int) 2 := ⟨(jt_6 102 rfl rfl), (jt_1 13 rfl rfl), by decide +kernel, by decide⟩
theorem kv_X11_part : jf_yv yX11_part := ⟨(jt_6 100 rfl rfl), (jt_6 101 rfl rfl)⟩
theorem ky_X11_placeOf : jf_y yX11_placeOf cX11_placeOf 4 (some .int) 2 := ⟨(jt_6 160 rfl rfl), (jt_1 13 rfl rfl), by decide +kernel, by decide⟩
theorem kv_X11_placeOf : jf_yv yX11_placeOf := ⟨(jt_6 159 rfl rfl), (jt_p 52 rfl rfl)⟩
theorem ky_X11_prize : jf_y yX11_prize cX11_prize 4 (some .int) 1 := ⟨(jt_7 22 rfl rfl), (jt_1 13 rfl rfl), by decide +kernel, by decide⟩
theorem kv_X11_prize : jf_yv yX11_prize := ⟨(jt_7 20 rfl rfl), (jt_7 21 rfl rfl)⟩
theorem ky_X11_put : jf_y yX11_put cX11_put 5 (some .int) 4 := ⟨(jt_6 66 rfl rfl), (jt_1 13 rfl rfl), by decide +kernel, by decide⟩
theorem kv_X11_put : jf_yv yX11_put := ⟨(jt_6 64 rfl rfl), (jt_6 65 rfl rfl)⟩
theorem ky_X11_queue : jf_y yX11_queue cX11_queue 12 (some .int) 3 := ⟨(jt_6 142 rfl rfl), (jt_1 13 rfl rfl), by decide +kernel, by decide⟩
theorem kv_X11_queue : jf_yv yX11_queue := ⟨(jt_6 140 rfl rfl), (jt_6 141 rfl rfl)⟩
theorem ky_X11_readCond : jf_y yX11_readCond cX11_readCond 6 (none) 0 := ⟨(jt_6 218 rfl rfl), (jt_1 13 rfl rfl), by decide +kernel, by decide⟩
theorem kv_X11_readCond : jf_yv yX11_readCond := ⟨(jt_6 217 rfl rfl), (jt_p 58 rfl rfl)⟩
theorem ky_X11_readLeaf : jf_y yX11_readLeaf cX11_readLeaf 2 (none) 0 := ⟨(jt_6 226 rfl rfl), (jt_1 13 rfl rfl), by decide +kernel, by decide⟩
theorem kv_X11_readLeaf : jf_yv yX11_readLeaf := ⟨(jt_6 225 rfl rfl), (jt_p 60 rfl rfl)⟩
theorem ky_X11_readRules : jf_y yX11_readRules cX11_readRules 3 (none) 0 := ⟨(jt_6 203 rfl rfl), (jt_1 13 rfl rfl), by decide +kernel, by decide⟩
theorem kv_X11_readRules : jf_yv yX11_readRules := ⟨(jt_6 202 rfl rfl), (jt_p 55 rfl rfl)⟩
theorem ky_X11_round : jf_y yX11_round cX11_round 3 (some .int) 2 := ⟨(jt_7 50 rfl rfl), (jt_1 13 rfl rfl), by decide +kernel, by decide⟩
theorem kv_X11_round : jf_yv yX11_round := ⟨(jt_7 48 rfl rfl), (jt_7 49 rfl rfl)⟩
theorem ky_X11_row : jf_y yX11_row cX11_row 5 (some .int) 4 := ⟨(jt_6 168 rfl rfl), (jt_1 13 rfl rfl), by decide +kernel, by decide⟩
theorem kv_X11_row : jf_yv yX11_row := ⟨(jt_6 166 rfl rfl), (jt_6 167 rfl rfl)⟩
theorem ky_X11_rules : jf_y yX11_rules cX11_rules 2 (some .int) 0 := ⟨(jt_6 185 rfl rfl), (jt_1 13 rfl rfl), by decide +kernel, by decide⟩
theorem kv_X11_rules : jf_yv yX11_rules := ⟨(jt_6 183 rfl rfl), (jt_6 184 rfl rfl)⟩
theorem ky_X11_settle : jf_y yX11_settle cX11_settle 2 (none) 1 := ⟨(jt_6 234 rfl rfl), (jt_1 13 rfl rfl), by decide +kernel, by decide⟩
theorem kv_X11_settle : jf_yv yX11_settle := ⟨(jt_6 233 rfl rfl), (jt_p 62 rfl rfl)⟩
theorem ky_X11_status : jf_y yX11_status cX11_status 1 (some .int) 0 := ⟨(jt_7 58 rfl rfl), (jt_1 13 rfl rfl), by decide +kernel, by decide⟩
theorem kv_X11_status : jf_yv yX11_status := ⟨(jt_7 56 rfl rfl), (jt_7 57 rfl rfl)⟩
theorem ky_X11_take : jf_y yX11_take cX11_take 2 (some .int) 1 := ⟨(jt_6 70 rfl rfl), (jt_1 13 rfl rfl), by decide +kernel, by decide⟩
theorem kv_X11_take : jf_yv yX11_take := ⟨(jt_6 68 rfl rfl), (jt_6 69 rfl rfl)⟩
theorem ky_X11_told : jf_y yX11_told cX11_told 2 (some .int) 1 := ⟨(jt_6 17 rfl rfl), (jt_1 13 rfl rfl), by decide +kernel, by decide⟩
theorem kv_X11_told : jf_yv yX11_told := ⟨(jt_6 16 rfl rfl), (jt_p 38 rfl rfl)⟩
theorem ky_X11_trueEnd : jf_y yX11_trueEnd cX11_trueEnd 2 (some .int) 1 := ⟨(jt_6 98 rfl rfl), (jt_1 13 rfl rfl), by decide +kernel, by decide⟩
theorem kv_X11_trueEnd : jf_yv yX11_trueEnd := ⟨(jt_6 97 rfl rfl), (jt_p 48 rfl rfl)⟩
theorem ky_X11_tryChange : jf_y yX11_tryChange cX11_tryChange 7 (none) 3 := ⟨(jt_6 123 rfl rfl), (jt_1 13 rfl rfl), by decide +kernel, by decide⟩
theorem kv_X11_tryChange : jf_yv yX11_tryChange := ⟨(jt_6 122 rfl rfl), (jt_p 50 rfl rfl)⟩
theorem ky_X11_vote : jf_y yX11_vote cX11_vote 3 (some .int) 2 := ⟨(jt_6 152 rfl rfl), (jt_1 13 rfl rfl), by decide +kernel, by decide⟩
theorem kv_X11_vote : jf_yv yX11_vote := ⟨(jt_6 150 rfl rfl), (jt_6 151 rfl rfl)⟩
theorem ky_X11_way : jf_y yX11_way cX11_way 4 (some .int) 3 := ⟨(jt_6 28 rfl rfl), (jt_1 13 rfl rfl), by decide +kernel, by decide⟩
theorem kv_X11_way : jf_yv yX11_way := ⟨(jt_6 26 rfl rfl), (jt_6 27 rfl rfl)⟩
theorem ky_X11_why : jf_y yX11_why cX11_why 5 (some .int) 4 := ⟨(jt_6 49 rfl rfl), (jt_1 13 rfl rfl), by decide +kernel, by decide⟩
theorem kv_X11_why : jf_yv yX11_why := ⟨(jt_6 47 rfl rfl), (jt_6 48 rfl rfl)⟩
theorem ky_X11_whyOf : jf_y yX11_whyOf cX11_whyOf 13 (some .int) 5 := ⟨(jt_6 58 rfl rfl), (jt_1 13 rfl rfl), by decide +kernel, by decide⟩
theorem kv_X11_whyOf : jf_yv yX11_whyOf := ⟨(jt_6 57 rfl rfl), (jt_p 41 rfl rfl)⟩
theorem ky_X11_word : jf_y yX11_word cX11_word 8 (some .long) 6 := ⟨(jt_6 210 rfl rfl), (jt_1 13 rfl rfl), by decide +kernel, by decide⟩
theorem ks_X11_word : Cond.static yX11_word ∈ jf_tb := (jt_6 209 rfl rfl)
theorem ky_X11_worthOf : jf_y yX11_worthOf cX11_worthOf 3 (some .int) 1 := ⟨(jt_6 86 rfl rfl), (jt_1 13 rfl rfl), by decide +kernel, by decide⟩
theorem kv_X11_worthOf : jf_yv yX11_worthOf := ⟨(jt_6 85 rfl rfl), (jt_p 45 rfl rfl)⟩
theorem ky_X1_isBesideBarred : jf_y yX1_isBesideBarred cX1_isBesideBarred 7 (some .boolean) 5 := ⟨(jt_3 75 rfl rfl), (jt_1 5 rfl rfl), by decide +kernel, by decide⟩
theorem kv_X1_isBesideBarred : jf_yv yX1_isBesideBarred := ⟨(jt_3 74 rfl rfl), (jt_p 5 rfl rfl)⟩
theorem ky_X1_isHallTaken : jf_y yX1_isHallTaken cX1_isHallTaken 7 (some .boolean) 4 := ⟨(jt_3 48 rfl rfl), (jt_1 5 rfl rfl), by decide +kernel, by decide⟩
theorem kv_X1_isHallTaken : jf_yv yX1_isHallTaken := ⟨(jt_3 47 rfl rfl), (jt_p 2 rfl rfl)⟩
theorem ky_X1_isLateHour : jf_y yX1_isLateHour cX1_isLateHour 2 (some .boolean) 1 := ⟨(jt_3 63 rfl rfl), (jt_1 5 rfl rfl), by decide +kernel, by decide⟩
theorem ks_X1_isLateHour : Cond.static yX1_isLateHour ∈ jf_tb := (jt_3 62 rfl rfl)
theorem ky_X1_isPrintAway : jf_y yX1_isPrintAway cX1_isPrintAway 10 (some .boolean) 5 := ⟨(jt_3 52 rfl rfl), (jt_1 5 rfl rfl), by decide +kernel, by decide⟩
theorem kv_X1_isPrintAway : jf_yv yX1_isPrintAway := ⟨(jt_3 51 rfl rfl), (jt_p 3 rfl rfl)⟩
theorem ky_X1_manyOf : jf_y yX1_manyOf cX1_manyOf 5 (some .int) 2 := ⟨(jt_3 71 rfl rfl), (jt_1 5 rfl rfl), by decide +kernel, by decide⟩
theorem kv_X1_manyOf : jf_yv yX1_manyOf := ⟨(jt_3 70 rfl rfl), (jt_p 4 rfl rfl)⟩
theorem ky_X1_reason : jf_y yX1_reason cX1_reason 7 (some .int) 5 := ⟨(jt_3 44 rfl rfl), (jt_1 5 rfl rfl), by decide +kernel, by decide⟩
theorem kv_X1_reason : jf_yv yX1_reason := ⟨(jt_3 42 rfl rfl), (jt_3 43 rfl rfl)⟩
theorem ky_X2_add : jf_y yX2_add cX2_add 4 (some .int) 3 := ⟨(jt_2 235 rfl rfl), (jt_1 3 rfl rfl), by decide +kernel, by decide⟩
theorem kv_X2_add : jf_yv yX2_add := ⟨(jt_2 233 rfl rfl), (jt_2 234 rfl rfl)⟩
theorem ky_X2_barOneAnother : jf_y yX2_barOneAnother cX2_barOneAnother 3 (some .boolean) 2 := ⟨(jt_3 79 rfl rfl), (jt_1 3 rfl rfl), by decide +kernel, by decide⟩
theorem kv_X2_barOneAnother : jf_yv yX2_barOneAnother := ⟨(jt_3 77 rfl rfl), (jt_3 78 rfl rfl)⟩
theorem ky_X2_guestStays : jf_y yX2_guestStays cX2_guestStays 4 (some .boolean) 3 := ⟨(jt_3 60 rfl rfl), (jt_1 3 rfl rfl), by decide +kernel, by decide⟩
theorem kv_X2_guestStays : jf_yv yX2_guestStays := ⟨(jt_3 58 rfl rfl), (jt_3 59 rfl rfl)⟩
theorem ky_X2_has : jf_y yX2_has cX2_has 2 (some .boolean) 1 := ⟨(jt_3 22 rfl rfl), (jt_1 3 rfl rfl), by decide +kernel, by decide⟩
theorem kv_X2_has : jf_yv yX2_has := ⟨(jt_3 20 rfl rfl), (jt_3 21 rfl rfl)⟩
theorem ky_X2_isBarredAtMost : jf_y yX2_isBarredAtMost cX2_isBarredAtMost 2 (some .boolean) 1 := ⟨(jt_3 67 rfl rfl), (jt_1 3 rfl rfl), by decide +kernel, by decide⟩
theorem kv_X2_isBarredAtMost : jf_yv yX2_isBarredAtMost := ⟨(jt_3 65 rfl rfl), (jt_3 66 rfl rfl)⟩
theorem ky_X2_setBars : jf_y yX2_setBars cX2_setBars 5 (none) 4 := ⟨(jt_3 3 rfl rfl), (jt_1 3 rfl rfl), by decide +kernel, by decide⟩
theorem kv_X2_setBars : jf_yv yX2_setBars := ⟨(jt_3 1 rfl rfl), (jt_3 2 rfl rfl)⟩
theorem ky_X2_setGuest : jf_y yX2_setGuest cX2_setGuest 4 (none) 3 := ⟨(jt_2 239 rfl rfl), (jt_1 3 rfl rfl), by decide +kernel, by decide⟩
theorem kv_X2_setGuest : jf_yv yX2_setGuest := ⟨(jt_2 237 rfl rfl), (jt_2 238 rfl rfl)⟩
theorem ky_X3_add : jf_y yX3_add cX3_add 5 (some .int) 4 := ⟨(jt_2 227 rfl rfl), (jt_1 2 rfl rfl), by decide +kernel, by decide⟩
theorem kv_X3_add : jf_yv yX3_add := ⟨(jt_2 225 rfl rfl), (jt_2 226 rfl rfl)⟩
theorem ky_X3_has : jf_y yX3_has cX3_has 2 (some .boolean) 1 := ⟨(jt_3 40 rfl rfl), (jt_1 2 rfl rfl), by decide +kernel, by decide⟩
theorem kv_X3_has : jf_yv yX3_has := ⟨(jt_3 38 rfl rfl), (jt_3 39 rfl rfl)⟩
theorem ky_X3_inOneTown : jf_y yX3_inOneTown cX3_inOneTown 3 (some .boolean) 2 := ⟨(jt_3 83 rfl rfl), (jt_1 2 rfl rfl), by decide +kernel, by decide⟩
theorem kv_X3_inOneTown : jf_yv yX3_inOneTown := ⟨(jt_3 81 rfl rfl), (jt_3 82 rfl rfl)⟩
theorem ky_X3_setWay : jf_y yX3_setWay cX3_setWay 4 (none) 3 := ⟨(jt_3 11 rfl rfl), (jt_1 2 rfl rfl), by decide +kernel, by decide⟩
theorem kv_X3_setWay : jf_yv yX3_setWay := ⟨(jt_3 9 rfl rfl), (jt_3 10 rfl rfl)⟩
theorem ky_X3_wayBetween : jf_y yX3_wayBetween cX3_wayBetween 3 (some .int) 2 := ⟨(jt_3 56 rfl rfl), (jt_1 2 rfl rfl), by decide +kernel, by decide⟩
theorem kv_X3_wayBetween : jf_yv yX3_wayBetween := ⟨(jt_3 54 rfl rfl), (jt_3 55 rfl rfl)⟩
theorem ky_X4_add : jf_y yX4_add cX4_add 2 (some .int) 1 := ⟨(jt_3 237 rfl rfl), (jt_1 9 rfl rfl), by decide +kernel, by decide⟩
theorem kv_X4_add : jf_yv yX4_add := ⟨(jt_3 235 rfl rfl), (jt_3 236 rfl rfl)⟩
theorem ky_X4_addRow : jf_y yX4_addRow cX4_addRow 5 (some .int) 4 := ⟨(jt_4 29 rfl rfl), (jt_1 9 rfl rfl), by decide +kernel, by decide⟩
theorem kv_X4_addRow : jf_yv yX4_addRow := ⟨(jt_4 27 rfl rfl), (jt_4 28 rfl rfl)⟩
theorem ky_X4_addVote : jf_y yX4_addVote cX4_addVote 3 (some .int) 2 := ⟨(jt_4 9 rfl rfl), (jt_1 9 rfl rfl), by decide +kernel, by decide⟩
theorem kv_X4_addVote : jf_yv yX4_addVote := ⟨(jt_4 7 rfl rfl), (jt_4 8 rfl rfl)⟩
theorem ky_X4_has : jf_y yX4_has cX4_has 2 (some .boolean) 1 := ⟨(jt_4 5 rfl rfl), (jt_1 9 rfl rfl), by decide +kernel, by decide⟩
theorem kv_X4_has : jf_yv yX4_has := ⟨(jt_4 3 rfl rfl), (jt_4 4 rfl rfl)⟩
theorem ky_X4_hasRow : jf_y yX4_hasRow cX4_hasRow 6 (some .boolean) 4 := ⟨(jt_4 195 rfl rfl), (jt_1 9 rfl rfl), by decide +kernel, by decide⟩
theorem kv_X4_hasRow : jf_yv yX4_hasRow := ⟨(jt_4 194 rfl rfl), (jt_p 29 rfl rfl)⟩
theorem ky_X4_passes : jf_y yX4_passes cX4_passes 5 (some .boolean) 4 := ⟨(jt_4 191 rfl rfl), (jt_1 9 rfl rfl), by decide +kernel, by decide⟩
theorem kv_X4_passes : jf_yv yX4_passes := ⟨(jt_4 189 rfl rfl), (jt_4 190 rfl rfl)⟩
theorem ky_X4_votesFor : jf_y yX4_votesFor cX4_votesFor 4 (some .boolean) 2 := ⟨(jt_4 13 rfl rfl), (jt_1 9 rfl rfl), by decide +kernel, by decide⟩
theorem kv_X4_votesFor : jf_yv yX4_votesFor := ⟨(jt_4 11 rfl rfl), (jt_4 12 rfl rfl)⟩
theorem ky_X5_hallFree : jf_y yX5_hallFree cX5_hallFree 5 (some .int) 1 := ⟨(jt_3 150 rfl rfl), (jt_1 8 rfl rfl), by decide +kernel, by decide⟩
theorem kv_X5_hallFree : jf_yv yX5_hallFree := ⟨(jt_3 149 rfl rfl), (jt_p 12 rfl rfl)⟩
theorem ky_X5_printFree : jf_y yX5_printFree cX5_printFree 5 (some .int) 1 := ⟨(jt_3 154 rfl rfl), (jt_1 8 rfl rfl), by decide +kernel, by decide⟩
theorem kv_X5_printFree : jf_yv yX5_printFree := ⟨(jt_3 153 rfl rfl), (jt_p 13 rfl rfl)⟩
theorem ky_X5_reckon : jf_y yX5_reckon cX5_reckon 6 (none) 0 := ⟨(jt_3 142 rfl rfl), (jt_1 8 rfl rfl), by decide +kernel, by decide⟩
theorem kv_X5_reckon : jf_yv yX5_reckon := ⟨(jt_3 140 rfl rfl), (jt_3 141 rfl rfl)⟩
theorem ky_X5_sortByBegin : jf_y yX5_sortByBegin cX5_sortByBegin 4 (some .int) 0 := ⟨(jt_3 146 rfl rfl), (jt_1 8 rfl rfl), by decide +kernel, by decide⟩
theorem kv_X5_sortByBegin : jf_yv yX5_sortByBegin := ⟨(jt_3 145 rfl rfl), (jt_p 11 rfl rfl)⟩
theorem ky_X5_step : jf_y yX5_step cX5_step 7 (none) 2 := ⟨(jt_3 228 rfl rfl), (jt_1 8 rfl rfl), by decide +kernel, by decide⟩
theorem kv_X5_step : jf_yv yX5_step := ⟨(jt_3 226 rfl rfl), (jt_3 227 rfl rfl)⟩
theorem ky_X6_advance : jf_y yX6_advance cX6_advance 2 (none) 0 := ⟨(jt_4 61 rfl rfl), (jt_1 11 rfl rfl), by decide +kernel, by decide⟩
theorem kv_X6_advance : jf_yv yX6_advance := ⟨(jt_4 60 rfl rfl), (jt_p 18 rfl rfl)⟩
theorem ky_X6_append : jf_y yX6_append cX6_append 3 (none) 1 := ⟨(jt_4 41 rfl rfl), (jt_1 11 rfl rfl), by decide +kernel, by decide⟩
theorem kv_X6_append : jf_yv yX6_append := ⟨(jt_4 39 rfl rfl), (jt_4 40 rfl rfl)⟩
theorem ky_X6_hasRoom : jf_y yX6_hasRoom cX6_hasRoom 2 (some .boolean) 1 := ⟨(jt_4 37 rfl rfl), (jt_1 11 rfl rfl), by decide +kernel, by decide⟩
theorem kv_X6_hasRoom : jf_yv yX6_hasRoom := ⟨(jt_4 35 rfl rfl), (jt_4 36 rfl rfl)⟩
theorem ky_X6_read : jf_y yX6_read cX6_read 2 (some .boolean) 0 := ⟨(jt_4 53 rfl rfl), (jt_1 11 rfl rfl), by decide +kernel, by decide⟩
theorem kv_X6_read : jf_yv yX6_read := ⟨(jt_4 51 rfl rfl), (jt_4 52 rfl rfl)⟩
theorem ky_X6_takeAnd : jf_y yX6_takeAnd cX6_takeAnd 4 (some .boolean) 1 := ⟨(jt_4 122 rfl rfl), (jt_1 11 rfl rfl), by decide +kernel, by decide⟩
theorem kv_X6_takeAnd : jf_yv yX6_takeAnd := ⟨(jt_4 121 rfl rfl), (jt_p 21 rfl rfl)⟩
theorem ky_X6_takeAsked : jf_y yX6_takeAsked cX6_takeAsked 2 (some .boolean) 0 := ⟨(jt_4 139 rfl rfl), (jt_1 11 rfl rfl), by decide +kernel, by decide⟩
theorem kv_X6_takeAsked : jf_yv yX6_takeAsked := ⟨(jt_4 138 rfl rfl), (jt_p 24 rfl rfl)⟩
theorem ky_X6_takeByte : jf_y yX6_takeByte cX6_takeByte 2 (some .boolean) 1 := ⟨(jt_4 135 rfl rfl), (jt_1 11 rfl rfl), by decide +kernel, by decide⟩
theorem kv_X6_takeByte : jf_yv yX6_takeByte := ⟨(jt_4 134 rfl rfl), (jt_p 23 rfl rfl)⟩
theorem ky_X6_takeCond : jf_y yX6_takeCond cX6_takeCond 4 (some .boolean) 1 := ⟨(jt_4 118 rfl rfl), (jt_1 11 rfl rfl), by decide +kernel, by decide⟩
theorem kv_X6_takeCond : jf_yv yX6_takeCond := ⟨(jt_4 117 rfl rfl), (jt_p 20 rfl rfl)⟩
theorem ky_X6_takeManner : jf_y yX6_takeManner cX6_takeManner 2 (some .boolean) 0 := ⟨(jt_4 152 rfl rfl), (jt_1 11 rfl rfl), by decide +kernel, by decide⟩
theorem kv_X6_takeManner : jf_yv yX6_takeManner := ⟨(jt_4 151 rfl rfl), (jt_p 26 rfl rfl)⟩
theorem ky_X6_takeNot : jf_y yX6_takeNot cX6_takeNot 3 (some .boolean) 1 := ⟨(jt_4 126 rfl rfl), (jt_1 11 rfl rfl), by decide +kernel, by decide⟩
theorem kv_X6_takeNot : jf_yv yX6_takeNot := ⟨(jt_4 125 rfl rfl), (jt_p 22 rfl rfl)⟩
theorem ky_X6_takeNumber : jf_y yX6_takeNumber cX6_takeNumber 1 (some .boolean) 0 := ⟨(jt_4 146 rfl rfl), (jt_1 11 rfl rfl), by decide +kernel, by decide⟩
theorem kv_X6_takeNumber : jf_yv yX6_takeNumber := ⟨(jt_4 145 rfl rfl), (jt_p 25 rfl rfl)⟩
theorem ky_X6_takePoints : jf_y yX6_takePoints cX6_takePoints 2 (some .boolean) 0 := ⟨(jt_4 158 rfl rfl), (jt_1 11 rfl rfl), by decide +kernel, by decide⟩
theorem kv_X6_takePoints : jf_yv yX6_takePoints := ⟨(jt_4 157 rfl rfl), (jt_p 27 rfl rfl)⟩
theorem ky_X6_takeTie : jf_y yX6_takeTie cX6_takeTie 1 (some .boolean) 0 := ⟨(jt_4 167 rfl rfl), (jt_1 11 rfl rfl), by decide +kernel, by decide⟩
theorem kv_X6_takeTie : jf_yv yX6_takeTie := ⟨(jt_4 166 rfl rfl), (jt_p 28 rfl rfl)⟩
theorem ky_X6_takeWord : jf_y yX6_takeWord cX6_takeWord 3 (some .boolean) 1 := ⟨(jt_4 66 rfl rfl), (jt_1 11 rfl rfl), by decide +kernel, by decide⟩
theorem kv_X6_takeWord : jf_yv yX6_takeWord := ⟨(jt_4 65 rfl rfl), (jt_p 19 rfl rfl)⟩
theorem ky_X7_addNumber : jf_y yX7_addNumber cX7_addNumber 2 (some .boolean) 1 := ⟨(jt_4 162 rfl rfl), (jt_1 10 rfl rfl), by decide +kernel, by decide⟩
theorem kv_X7_addNumber : jf_yv yX7_addNumber := ⟨(jt_4 160 rfl rfl), (jt_4 161 rfl rfl)⟩
theorem ky_X7_addStep : jf_y yX7_addStep cX7_addStep 2 (none) 1 := ⟨(jt_4 131 rfl rfl), (jt_1 10 rfl rfl), by decide +kernel, by decide⟩
theorem kv_X7_addStep : jf_yv yX7_addStep := ⟨(jt_4 129 rfl rfl), (jt_4 130 rfl rfl)⟩
theorem ky_X7_become : jf_y yX7_become cX7_become 2 (none) 1 := ⟨(jt_4 174 rfl rfl), (jt_1 10 rfl rfl), by decide +kernel, by decide⟩
theorem kv_X7_become : jf_yv yX7_become := ⟨(jt_4 172 rfl rfl), (jt_4 173 rfl rfl)⟩
theorem ky_X7_empty : jf_y yX7_empty cX7_empty 1 (none) 0 := ⟨(jt_4 57 rfl rfl), (jt_1 10 rfl rfl), by decide +kernel, by decide⟩
theorem kv_X7_empty : jf_yv yX7_empty := ⟨(jt_4 55 rfl rfl), (jt_4 56 rfl rfl)⟩
theorem ky_X7_holds : jf_y yX7_holds cX7_holds 12 (some .boolean) 3 := ⟨(jt_4 199 rfl rfl), (jt_1 10 rfl rfl), by decide +kernel, by decide⟩
theorem kv_X7_holds : jf_yv yX7_holds := ⟨(jt_4 197 rfl rfl), (jt_4 198 rfl rfl)⟩
theorem ky_X7_pointsAt : jf_y yX7_pointsAt cX7_pointsAt 2 (some .int) 1 := ⟨(jt_4 225 rfl rfl), (jt_1 10 rfl rfl), by decide +kernel, by decide⟩
theorem kv_X7_pointsAt : jf_yv yX7_pointsAt := ⟨(jt_4 223 rfl rfl), (jt_4 224 rfl rfl)⟩
theorem ky_X8_add : jf_y yX8_add cX8_add 6 (some .int) 5 := ⟨(jt_3 95 rfl rfl), (jt_1 4 rfl rfl), by decide +kernel, by decide⟩
theorem kv_X8_add : jf_yv yX8_add := ⟨(jt_3 93 rfl rfl), (jt_3 94 rfl rfl)⟩
theorem ky_X8_has : jf_y yX8_has cX8_has 2 (some .boolean) 1 := ⟨(jt_3 103 rfl rfl), (jt_1 4 rfl rfl), by decide +kernel, by decide⟩
theorem kv_X8_has : jf_yv yX8_has := ⟨(jt_3 101 rfl rfl), (jt_3 102 rfl rfl)⟩
theorem ky_X8_manyThere : jf_y yX8_manyThere cX8_manyThere 3 (some .int) 0 := ⟨(jt_5 21 rfl rfl), (jt_1 4 rfl rfl), by decide +kernel, by decide⟩
theorem kv_X8_manyThere : jf_yv yX8_manyThere := ⟨(jt_5 19 rfl rfl), (jt_5 20 rfl rfl)⟩
theorem ky_X8_move : jf_y yX8_move cX8_move 5 (none) 3 := ⟨(jt_3 208 rfl rfl), (jt_1 4 rfl rfl), by decide +kernel, by decide⟩
theorem kv_X8_move : jf_yv yX8_move := ⟨(jt_3 206 rfl rfl), (jt_3 207 rfl rfl)⟩
theorem ky_X8_runsWithin : jf_y yX8_runsWithin cX8_runsWithin 4 (some .boolean) 3 := ⟨(jt_3 87 rfl rfl), (jt_1 4 rfl rfl), by decide +kernel, by decide⟩
theorem kv_X8_runsWithin : jf_yv yX8_runsWithin := ⟨(jt_3 85 rfl rfl), (jt_3 86 rfl rfl)⟩
theorem ky_X9_addHour : jf_y yX9_addHour cX9_addHour 2 (some .int) 1 := ⟨(jt_3 179 rfl rfl), (jt_1 6 rfl rfl), by decide +kernel, by decide⟩
theorem kv_X9_addHour : jf_yv yX9_addHour := ⟨(jt_3 177 rfl rfl), (jt_3 178 rfl rfl)⟩
theorem ky_X9_countBeside : jf_y yX9_countBeside cX9_countBeside 2 (none) 0 := ⟨(jt_3 195 rfl rfl), (jt_1 6 rfl rfl), by decide +kernel, by decide⟩
theorem kv_X9_countBeside : jf_yv yX9_countBeside := ⟨(jt_3 194 rfl rfl), (jt_p 15 rfl rfl)⟩
theorem ky_X9_crowd : jf_y yX9_crowd cX9_crowd 3 (some .int) 2 := ⟨(jt_3 125 rfl rfl), (jt_1 6 rfl rfl), by decide +kernel, by decide⟩
theorem kv_X9_crowd : jf_yv yX9_crowd := ⟨(jt_3 124 rfl rfl), (jt_p 8 rfl rfl)⟩
theorem ky_X9_crowdOf : jf_y yX9_crowdOf cX9_crowdOf 2 (some .int) 1 := ⟨(jt_3 111 rfl rfl), (jt_1 6 rfl rfl), by decide +kernel, by decide⟩
theorem kv_X9_crowdOf : jf_yv yX9_crowdOf := ⟨(jt_3 109 rfl rfl), (jt_3 110 rfl rfl)⟩
theorem ky_X9_findBestChange : jf_y yX9_findBestChange cX9_findBestChange 5 (some .boolean) 0 := ⟨(jt_3 191 rfl rfl), (jt_1 6 rfl rfl), by decide +kernel, by decide⟩
theorem kv_X9_findBestChange : jf_yv yX9_findBestChange := ⟨(jt_3 190 rfl rfl), (jt_p 14 rfl rfl)⟩
theorem ky_X9_gridWithout : jf_y yX9_gridWithout cX9_gridWithout 4 (some .int) 1 := ⟨(jt_3 199 rfl rfl), (jt_1 6 rfl rfl), by decide +kernel, by decide⟩
theorem kv_X9_gridWithout : jf_yv yX9_gridWithout := ⟨(jt_3 198 rfl rfl), (jt_p 16 rfl rfl)⟩
theorem ky_X9_improve : jf_y yX9_improve cX9_improve 2 (some .int) 0 := ⟨(jt_3 187 rfl rfl), (jt_1 6 rfl rfl), by decide +kernel, by decide⟩
theorem kv_X9_improve : jf_yv yX9_improve := ⟨(jt_3 185 rfl rfl), (jt_3 186 rfl rfl)⟩
theorem ky_X9_manyBeside : jf_y yX9_manyBeside cX9_manyBeside 4 (some .int) 1 := ⟨(jt_3 115 rfl rfl), (jt_1 6 rfl rfl), by decide +kernel, by decide⟩
theorem kv_X9_manyBeside : jf_yv yX9_manyBeside := ⟨(jt_3 114 rfl rfl), (jt_p 6 rfl rfl)⟩
theorem ky_X9_runBeside : jf_y yX9_runBeside cX9_runBeside 3 (some .boolean) 2 := ⟨(jt_3 119 rfl rfl), (jt_1 6 rfl rfl), by decide +kernel, by decide⟩
theorem kv_X9_runBeside : jf_yv yX9_runBeside := ⟨(jt_3 118 rfl rfl), (jt_p 7 rfl rfl)⟩
theorem ky_X9_share : jf_y yX9_share cX9_share 5 (some .int) 3 := ⟨(jt_3 129 rfl rfl), (jt_1 6 rfl rfl), by decide +kernel, by decide⟩
theorem kv_X9_share : jf_yv yX9_share := ⟨(jt_3 128 rfl rfl), (jt_p 9 rfl rfl)⟩
theorem ky_X9_sum : jf_y yX9_sum cX9_sum 3 (some .int) 0 := ⟨(jt_3 170 rfl rfl), (jt_1 6 rfl rfl), by decide +kernel, by decide⟩
theorem kv_X9_sum : jf_yv yX9_sum := ⟨(jt_3 168 rfl rfl), (jt_3 169 rfl rfl)⟩
theorem ky_X9_tryAt : jf_y yX9_tryAt cX9_tryAt 11 (none) 4 := ⟨(jt_3 203 rfl rfl), (jt_1 6 rfl rfl), by decide +kernel, by decide⟩
theorem kv_X9_tryAt : jf_yv yX9_tryAt := ⟨(jt_3 202 rfl rfl), (jt_p 17 rfl rfl)⟩
theorem ky_X9_worth : jf_y yX9_worth cX9_worth 3 (some .int) 2 := ⟨(jt_3 137 rfl rfl), (jt_1 6 rfl rfl), by decide +kernel, by decide⟩
theorem kv_X9_worth : jf_yv yX9_worth := ⟨(jt_3 136 rfl rfl), (jt_p 10 rfl rfl)⟩
theorem ky_X9_worthOf : jf_y yX9_worthOf cX9_worthOf 2 (some .int) 1 := ⟨(jt_3 133 rfl rfl), (jt_1 6 rfl rfl), by decide +kernel, by decide⟩
theorem kv_X9_worthOf : jf_yv yX9_worthOf := ⟨(jt_3 131 rfl rfl), (jt_3 132 rfl rfl)⟩
theorem kc_X11_163 : Cond.constantLong RX11 163 14399 ∈ jf_tb := (jt_6 36 rfl rfl)
theorem kc_X11_165 : Cond.constantLong RX11 165 4 ∈ jf_tb := (jt_6 7 rfl rfl)
theorem kc_X11_167 : Cond.constantLong RX11 167 2000 ∈ jf_tb := (jt_6 11 rfl rfl)
theorem kc_X11_169 : Cond.constantLong RX11 169 120 ∈ jf_tb := (jt_6 12 rfl rfl)
theorem kc_X11_171 : Cond.constantLong RX11 171 15 ∈ jf_tb := (jt_6 13 rfl rfl)
theorem kc_X11_177 : Cond.constantLong RX11 177 300 ∈ jf_tb := (jt_6 22 rfl rfl)
theorem kc_X11_179 : Cond.constantLong RX11 179 3 ∈ jf_tb := (jt_6 23 rfl rfl)
theorem kc_X11_181 : Cond.constantLong RX11 181 1000 ∈ jf_tb := (jt_6 24 rfl rfl)
theorem kc_X11_190 : Cond.constantLong RX11 190 60 ∈ jf_tb := (jt_6 45 rfl rfl)
theorem kc_X11_195 : Cond.constantLong RX11 195 2 ∈ jf_tb := (jt_6 50 rfl rfl)
theorem kc_X11_223 : Cond.constantLong RX11 223 23 ∈ jf_tb := (jt_6 103 rfl rfl)
theorem kc_X11_247 : Cond.constantLong RX11 247 (-40) ∈ jf_tb := (jt_6 128 rfl rfl)
theorem kc_X11_249 : Cond.constantLong RX11 249 10 ∈ jf_tb := (jt_6 129 rfl rfl)
theorem kc_X11_251 : Cond.constantLong RX11 251 500 ∈ jf_tb := (jt_6 134 rfl rfl)
theorem kc_X11_253 : Cond.constantLong RX11 253 400 ∈ jf_tb := (jt_6 143 rfl rfl)
theorem kc_X11_255 : Cond.constantLong RX11 255 30 ∈ jf_tb := (jt_6 144 rfl rfl)
theorem kc_X11_267 : Cond.constantLong RX11 267 100000 ∈ jf_tb := (jt_6 169 rfl rfl)
theorem kc_X11_298 : Cond.constantLong RX11 298 32 ∈ jf_tb := (jt_6 196 rfl rfl)
theorem kc_X11_300 : Cond.constantLong RX11 300 96 ∈ jf_tb := (jt_6 197 rfl rfl)
theorem kc_X11_302 : Cond.constantLong RX11 302 (-1) ∈ jf_tb := (jt_6 198 rfl rfl)
theorem kc_X11_304 : Cond.constantLong RX11 304 48 ∈ jf_tb := (jt_6 199 rfl rfl)
theorem kc_X7_36 : Cond.constantLong RX7 36 (-2) ∈ jf_tb := (jt_4 200 rfl rfl)
