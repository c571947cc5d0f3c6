theorem ji_VC : ∀ w ∈ u_ws jR_VC jF_VC 7, w ∈ j_W := jj_all 7 (fun k hk => by
  match k, hk with
  | 0, _ => exact (jw_1 (List.mem_of_getElem? (i := 215) rfl) rfl)
  | 1, _ => exact (jw_1 (List.mem_of_getElem? (i := 217) rfl) rfl)
  | 2, _ => exact (jw_1 (List.mem_of_getElem? (i := 219) rfl) rfl)
  | 3, _ => exact (jw_1 (List.mem_of_getElem? (i := 221) rfl) rfl)
  | 4, _ => exact (jw_1 (List.mem_of_getElem? (i := 223) rfl) rfl)
  | 5, _ => exact (jw_1 (List.mem_of_getElem? (i := 225) rfl) rfl)
  | 6, _ => exact (jw_1 (List.mem_of_getElem? (i := 227) rfl) rfl)
  | _ + 7, hk => exact absurd hk (by omega))
theorem ji_Pr : ∀ w ∈ u_ws jR_Pr jF_Pr 6, w ∈ j_W := jj_all 6 (fun k hk => by
  match k, hk with
  | 0, _ => exact (jw_1 (List.mem_of_getElem? (i := 99) rfl) rfl)
  | 1, _ => exact (jw_1 (List.mem_of_getElem? (i := 101) rfl) rfl)
  | 2, _ => exact (jw_1 (List.mem_of_getElem? (i := 103) rfl) rfl)
  | 3, _ => exact (jw_1 (List.mem_of_getElem? (i := 105) rfl) rfl)
  | 4, _ => exact (jw_1 (List.mem_of_getElem? (i := 107) rfl) rfl)
  | 5, _ => exact (jw_1 (List.mem_of_getElem? (i := 109) rfl) rfl)
  | _ + 6, hk => exact absurd hk (by omega))
theorem ji_Me : ∀ w ∈ u_ws jR_Me jF_Me 9, w ∈ j_W := jj_all 9 (fun k hk => by
  match k, hk with
  | 0, _ => exact (jw_1 (List.mem_of_getElem? (i := 64) rfl) rfl)
  | 1, _ => exact (jw_1 (List.mem_of_getElem? (i := 66) rfl) rfl)
  | 2, _ => exact (jw_1 (List.mem_of_getElem? (i := 68) rfl) rfl)
  | 3, _ => exact (jw_1 (List.mem_of_getElem? (i := 70) rfl) rfl)
  | 4, _ => exact (jw_1 (List.mem_of_getElem? (i := 72) rfl) rfl)
  | 5, _ => exact (jw_1 (List.mem_of_getElem? (i := 74) rfl) rfl)
  | 6, _ => exact (jw_1 (List.mem_of_getElem? (i := 76) rfl) rfl)
  | 7, _ => exact (jw_1 (List.mem_of_getElem? (i := 78) rfl) rfl)
  | 8, _ => exact (jw_1 (List.mem_of_getElem? (i := 80) rfl) rfl)
  | _ + 9, hk => exact absurd hk (by omega))
theorem ji_Rd : ∀ w ∈ u_ws jR_Rd jF_Rd 3, w ∈ j_W := jj_all 3 (fun k hk => by
  match k, hk with
  | 0, _ => exact (jw_1 (List.mem_of_getElem? (i := 122) rfl) rfl)
  | 1, _ => exact (jw_1 (List.mem_of_getElem? (i := 124) rfl) rfl)
  | 2, _ => exact (jw_1 (List.mem_of_getElem? (i := 126) rfl) rfl)
  | _ + 3, hk => exact absurd hk (by omega))
theorem ji_St : ∀ w ∈ u_ws jR_St jF_St 5, w ∈ j_W := jj_all 5 (fun k hk => by
  match k, hk with
  | 0, _ => exact (jw_1 (List.mem_of_getElem? (i := 151) rfl) rfl)
  | 1, _ => exact (jw_1 (List.mem_of_getElem? (i := 153) rfl) rfl)
  | 2, _ => exact (jw_1 (List.mem_of_getElem? (i := 155) rfl) rfl)
  | 3, _ => exact (jw_1 (List.mem_of_getElem? (i := 157) rfl) rfl)
  | 4, _ => exact (jw_1 (List.mem_of_getElem? (i := 159) rfl) rfl)
  | _ + 5, hk => exact absurd hk (by omega))
theorem ji_Ck : ∀ w ∈ u_ws jR_Ck jF_Ck 2, w ∈ j_W := jj_all 2 (fun k hk => by
  match k, hk with
  | 0, _ => exact (jw_1 (List.mem_of_getElem? (i := 164) rfl) rfl)
  | 1, _ => exact (jw_1 (List.mem_of_getElem? (i := 166) rfl) rfl)
  | _ + 2, hk => exact absurd hk (by omega))
theorem ji_Ma : ∀ w ∈ u_ws jR_Ma jF_Ma 9, w ∈ j_W := jj_all 9 (fun k hk => by
  match k, hk with
  | 0, _ => exact (jw_1 (List.mem_of_getElem? (i := 189) rfl) rfl)
  | 1, _ => exact (jw_1 (List.mem_of_getElem? (i := 191) rfl) rfl)
  | 2, _ => exact (jw_1 (List.mem_of_getElem? (i := 193) rfl) rfl)
  | 3, _ => exact (jw_1 (List.mem_of_getElem? (i := 195) rfl) rfl)
  | 4, _ => exact (jw_1 (List.mem_of_getElem? (i := 197) rfl) rfl)
  | 5, _ => exact (jw_1 (List.mem_of_getElem? (i := 199) rfl) rfl)
  | 6, _ => exact (jw_1 (List.mem_of_getElem? (i := 201) rfl) rfl)
  | 7, _ => exact (jw_1 (List.mem_of_getElem? (i := 203) rfl) rfl)
  | 8, _ => exact (jw_1 (List.mem_of_getElem? (i := 205) rfl) rfl)
  | _ + 9, hk => exact absurd hk (by omega))
theorem ji_Mo : ∀ w ∈ u_ws jR_Mo jF_Mo 28, w ∈ j_W := jj_all 28 (fun k hk => by
  match k, hk with
  | 0, _ => exact (jw_4 (List.mem_of_getElem? (i := 56) rfl) rfl)
  | 1, _ => exact (jw_4 (List.mem_of_getElem? (i := 58) rfl) rfl)
  | 2, _ => exact (jw_4 (List.mem_of_getElem? (i := 60) rfl) rfl)
  | 3, _ => exact (jw_4 (List.mem_of_getElem? (i := 62) rfl) rfl)
  | 4, _ => exact (jw_4 (List.mem_of_getElem? (i := 64) rfl) rfl)
  | 5, _ => exact (jw_4 (List.mem_of_getElem? (i := 66) rfl) rfl)
  | 6, _ => exact (jw_4 (List.mem_of_getElem? (i := 68) rfl) rfl)
  | 7, _ => exact (jw_4 (List.mem_of_getElem? (i := 70) rfl) rfl)
  | 8, _ => exact (jw_4 (List.mem_of_getElem? (i := 72) rfl) rfl)
  | 9, _ => exact (jw_4 (List.mem_of_getElem? (i := 74) rfl) rfl)
  | 10, _ => exact (jw_4 (List.mem_of_getElem? (i := 76) rfl) rfl)
  | 11, _ => exact (jw_4 (List.mem_of_getElem? (i := 78) rfl) rfl)
  | 12, _ => exact (jw_4 (List.mem_of_getElem? (i := 80) rfl) rfl)
  | 13, _ => exact (jw_4 (List.mem_of_getElem? (i := 82) rfl) rfl)
  | 14, _ => exact (jw_4 (List.mem_of_getElem? (i := 84) rfl) rfl)
  | 15, _ => exact (jw_4 (List.mem_of_getElem? (i := 86) rfl) rfl)
  | 16, _ => exact (jw_4 (List.mem_of_getElem? (i := 88) rfl) rfl)
  | 17, _ => exact (jw_4 (List.mem_of_getElem? (i := 90) rfl) rfl)
  | 18, _ => exact (jw_4 (List.mem_of_getElem? (i := 92) rfl) rfl)
  | 19, _ => exact (jw_4 (List.mem_of_getElem? (i := 94) rfl) rfl)
  | 20, _ => exact (jw_4 (List.mem_of_getElem? (i := 96) rfl) rfl)
  | 21, _ => exact (jw_4 (List.mem_of_getElem? (i := 98) rfl) rfl)
  | 22, _ => exact (jw_4 (List.mem_of_getElem? (i := 100) rfl) rfl)
  | 23, _ => exact (jw_4 (List.mem_of_getElem? (i := 102) rfl) rfl)
  | 24, _ => exact (jw_4 (List.mem_of_getElem? (i := 104) rfl) rfl)
  | 25, _ => exact (jw_4 (List.mem_of_getElem? (i := 106) rfl) rfl)
  | 26, _ => exact (jw_4 (List.mem_of_getElem? (i := 108) rfl) rfl)
  | 27, _ => exact (jw_4 (List.mem_of_getElem? (i := 110) rfl) rfl)
  | _ + 28, hk => exact absurd hk (by omega))
theorem fk_Ck_103 : jj_fk Y0 "VerifiedCode$Checker" 103 4 0 := ⟨jR_St, jF_St, 5, rfl, by decide, ji_St, (jw_1 (List.mem_of_getElem? (i := 143) rfl) rfl)⟩
theorem fk_Ck_111 : jj_fk Y0 "VerifiedCode$Checker" 111 4 2 := ⟨jR_St, jF_St, 5, rfl, by decide, ji_St, (jw_1 (List.mem_of_getElem? (i := 147) rfl) rfl)⟩
theorem fk_Ck_12 : jj_fk Y0 "VerifiedCode$Checker" 12 5 0 := ⟨jR_Ck, jF_Ck, 2, rfl, by decide, ji_Ck, (jw_1 (List.mem_of_getElem? (i := 162) rfl) rfl)⟩
theorem fk_Ck_150 : jj_fk Y0 "VerifiedCode$Checker" 150 2 2 := ⟨jR_Me, jF_Me, 9, rfl, by decide, ji_Me, (jw_1 (List.mem_of_getElem? (i := 45) rfl) rfl)⟩
theorem fk_Ck_21 : jj_fk Y0 "VerifiedCode$Checker" 21 2 0 := ⟨jR_Me, jF_Me, 9, rfl, by decide, ji_Me, (jw_1 (List.mem_of_getElem? (i := 39) rfl) rfl)⟩
theorem fk_Ck_37 : jj_fk Y0 "VerifiedCode$Checker" 37 5 1 := ⟨jR_Ck, jF_Ck, 2, rfl, by decide, ji_Ck, (jw_1 (List.mem_of_getElem? (i := 163) rfl) rfl)⟩
theorem fk_Ck_41 : jj_fk Y0 "VerifiedCode$Checker" 41 2 6 := ⟨jR_Me, jF_Me, 9, rfl, by decide, ji_Me, (jw_1 (List.mem_of_getElem? (i := 56) rfl) rfl)⟩
theorem fk_Ck_83 : jj_fk Y0 "VerifiedCode$Checker" 83 2 4 := ⟨jR_Me, jF_Me, 9, rfl, by decide, ji_Me, (jw_1 (List.mem_of_getElem? (i := 51) rfl) rfl)⟩
theorem fk_Ck_90 : jj_fk Y0 "VerifiedCode$Checker" 90 4 4 := ⟨jR_St, jF_St, 5, rfl, by decide, ji_St, (jw_1 (List.mem_of_getElem? (i := 150) rfl) rfl)⟩
theorem fk_Ma_11 : jj_fk Y0 "VerifiedCode$Machine" 11 6 2 := ⟨jR_Ma, jF_Ma, 9, rfl, by decide, ji_Ma, (jw_1 (List.mem_of_getElem? (i := 182) rfl) rfl)⟩
theorem fk_Ma_173 : jj_fk Y0 "VerifiedCode$Machine" 173 4 1 := ⟨jR_St, jF_St, 5, rfl, by decide, ji_St, (jw_1 (List.mem_of_getElem? (i := 145) rfl) rfl)⟩
theorem fk_Ma_18 : jj_fk Y0 "VerifiedCode$Machine" 18 6 3 := ⟨jR_Ma, jF_Ma, 9, rfl, by decide, ji_Ma, (jw_1 (List.mem_of_getElem? (i := 183) rfl) rfl)⟩
theorem fk_Ma_22 : jj_fk Y0 "VerifiedCode$Machine" 22 6 4 := ⟨jR_Ma, jF_Ma, 9, rfl, by decide, ji_Ma, (jw_1 (List.mem_of_getElem? (i := 184) rfl) rfl)⟩
theorem fk_Ma_25 : jj_fk Y0 "VerifiedCode$Machine" 25 6 6 := ⟨jR_Ma, jF_Ma, 9, rfl, by decide, ji_Ma, (jw_1 (List.mem_of_getElem? (i := 186) rfl) rfl)⟩
theorem fk_Ma_28 : jj_fk Y0 "VerifiedCode$Machine" 28 6 7 := ⟨jR_Ma, jF_Ma, 9, rfl, by decide, ji_Ma, (jw_1 (List.mem_of_getElem? (i := 187) rfl) rfl)⟩
theorem fk_Ma_31 : jj_fk Y0 "VerifiedCode$Machine" 31 6 1 := ⟨jR_Ma, jF_Ma, 9, rfl, by decide, ji_Ma, (jw_1 (List.mem_of_getElem? (i := 180) rfl) rfl)⟩
theorem fk_Ma_35 : jj_fk Y0 "VerifiedCode$Machine" 35 6 8 := ⟨jR_Ma, jF_Ma, 9, rfl, by decide, ji_Ma, (jw_1 (List.mem_of_getElem? (i := 188) rfl) rfl)⟩
theorem fk_Ma_38 : jj_fk Y0 "VerifiedCode$Machine" 38 6 5 := ⟨jR_Ma, jF_Ma, 9, rfl, by decide, ji_Ma, (jw_1 (List.mem_of_getElem? (i := 185) rfl) rfl)⟩
theorem fk_Ma_45 : jj_fk Y0 "VerifiedCode$Machine" 45 1 5 := ⟨jR_Pr, jF_Pr, 6, rfl, by decide, ji_Pr, (jw_1 (List.mem_of_getElem? (i := 96) rfl) rfl)⟩
theorem fk_Ma_51 : jj_fk Y0 "VerifiedCode$Machine" 51 2 0 := ⟨jR_Me, jF_Me, 9, rfl, by decide, ji_Me, (jw_1 (List.mem_of_getElem? (i := 40) rfl) rfl)⟩
theorem fk_Ma_79 : jj_fk Y0 "VerifiedCode$Machine" 79 2 6 := ⟨jR_Me, jF_Me, 9, rfl, by decide, ji_Me, (jw_1 (List.mem_of_getElem? (i := 57) rfl) rfl)⟩
theorem fk_Pr_17 : jj_fk Y0 "VerifiedCode$Program" 17 1 5 := ⟨jR_Pr, jF_Pr, 6, rfl, by decide, ji_Pr, (jw_1 (List.mem_of_getElem? (i := 95) rfl) rfl)⟩
theorem fk_Pr_32 : jj_fk Y0 "VerifiedCode$Program" 32 1 3 := ⟨jR_Pr, jF_Pr, 6, rfl, by decide, ji_Pr, (jw_1 (List.mem_of_getElem? (i := 91) rfl) rfl)⟩
theorem fk_Pr_35 : jj_fk Y0 "VerifiedCode$Program" 35 2 1 := ⟨jR_Me, jF_Me, 9, rfl, by decide, ji_Me, (jw_1 (List.mem_of_getElem? (i := 43) rfl) rfl)⟩
theorem fk_Pr_38 : jj_fk Y0 "VerifiedCode$Program" 38 2 5 := ⟨jR_Me, jF_Me, 9, rfl, by decide, ji_Me, (jw_1 (List.mem_of_getElem? (i := 54) rfl) rfl)⟩
theorem fk_Pr_47 : jj_fk Y0 "VerifiedCode$Program" 47 2 8 := ⟨jR_Me, jF_Me, 9, rfl, by decide, ji_Me, (jw_1 (List.mem_of_getElem? (i := 62) rfl) rfl)⟩
theorem fk_Pr_50 : jj_fk Y0 "VerifiedCode$Program" 50 2 4 := ⟨jR_Me, jF_Me, 9, rfl, by decide, ji_Me, (jw_1 (List.mem_of_getElem? (i := 53) rfl) rfl)⟩
theorem fk_Pr_53 : jj_fk Y0 "VerifiedCode$Program" 53 2 7 := ⟨jR_Me, jF_Me, 9, rfl, by decide, ji_Me, (jw_1 (List.mem_of_getElem? (i := 60) rfl) rfl)⟩
theorem fk_Pr_65 : jj_fk Y0 "VerifiedCode$Program" 65 2 0 := ⟨jR_Me, jF_Me, 9, rfl, by decide, ji_Me, (jw_1 (List.mem_of_getElem? (i := 42) rfl) rfl)⟩
theorem fk_Pr_79 : jj_fk Y0 "VerifiedCode$Program" 79 2 2 := ⟨jR_Me, jF_Me, 9, rfl, by decide, ji_Me, (jw_1 (List.mem_of_getElem? (i := 48) rfl) rfl)⟩
theorem fk_Pr_9 : jj_fk Y0 "VerifiedCode$Program" 9 1 0 := ⟨jR_Pr, jF_Pr, 6, rfl, by decide, ji_Pr, (jw_1 (List.mem_of_getElem? (i := 84) rfl) rfl)⟩
theorem fk_Rd_116 : jj_fk Y0 "VerifiedCode$Reader" 116 2 7 := ⟨jR_Me, jF_Me, 9, rfl, by decide, ji_Me, (jw_1 (List.mem_of_getElem? (i := 59) rfl) rfl)⟩
theorem fk_Rd_119 : jj_fk Y0 "VerifiedCode$Reader" 119 2 8 := ⟨jR_Me, jF_Me, 9, rfl, by decide, ji_Me, (jw_1 (List.mem_of_getElem? (i := 63) rfl) rfl)⟩
theorem fk_Rd_15 : jj_fk Y0 "VerifiedCode$Reader" 15 3 0 := ⟨jR_Rd, jF_Rd, 3, rfl, by decide, ji_Rd, (jw_1 (List.mem_of_getElem? (i := 118) rfl) rfl)⟩
theorem fk_Rd_27 : jj_fk Y0 "VerifiedCode$Reader" 27 3 1 := ⟨jR_Rd, jF_Rd, 3, rfl, by decide, ji_Rd, (jw_1 (List.mem_of_getElem? (i := 120) rfl) rfl)⟩
theorem fk_Rd_30 : jj_fk Y0 "VerifiedCode$Reader" 30 1 4 := ⟨jR_Pr, jF_Pr, 6, rfl, by decide, ji_Pr, (jw_1 (List.mem_of_getElem? (i := 93) rfl) rfl)⟩
theorem fk_Rd_35 : jj_fk Y0 "VerifiedCode$Reader" 35 1 5 := ⟨jR_Pr, jF_Pr, 6, rfl, by decide, ji_Pr, (jw_1 (List.mem_of_getElem? (i := 97) rfl) rfl)⟩
theorem fk_Rd_43 : jj_fk Y0 "VerifiedCode$Reader" 43 1 1 := ⟨jR_Pr, jF_Pr, 6, rfl, by decide, ji_Pr, (jw_1 (List.mem_of_getElem? (i := 88) rfl) rfl)⟩
theorem fk_Rd_46 : jj_fk Y0 "VerifiedCode$Reader" 46 1 0 := ⟨jR_Pr, jF_Pr, 6, rfl, by decide, ji_Pr, (jw_1 (List.mem_of_getElem? (i := 85) rfl) rfl)⟩
theorem fk_Rd_50 : jj_fk Y0 "VerifiedCode$Reader" 50 1 2 := ⟨jR_Pr, jF_Pr, 6, rfl, by decide, ji_Pr, (jw_1 (List.mem_of_getElem? (i := 90) rfl) rfl)⟩
theorem fk_Rd_75 : jj_fk Y0 "VerifiedCode$Reader" 75 2 0 := ⟨jR_Me, jF_Me, 9, rfl, by decide, ji_Me, (jw_1 (List.mem_of_getElem? (i := 41) rfl) rfl)⟩
theorem fk_Rd_86 : jj_fk Y0 "VerifiedCode$Reader" 86 2 3 := ⟨jR_Me, jF_Me, 9, rfl, by decide, ji_Me, (jw_1 (List.mem_of_getElem? (i := 49) rfl) rfl)⟩
theorem fk_Rd_89 : jj_fk Y0 "VerifiedCode$Reader" 89 2 4 := ⟨jR_Me, jF_Me, 9, rfl, by decide, ji_Me, (jw_1 (List.mem_of_getElem? (i := 52) rfl) rfl)⟩
theorem fk_Rd_9 : jj_fk Y0 "VerifiedCode$Reader" 9 3 2 := ⟨jR_Rd, jF_Rd, 3, rfl, by decide, ji_Rd, (jw_1 (List.mem_of_getElem? (i := 121) rfl) rfl)⟩
theorem fk_Rd_92 : jj_fk Y0 "VerifiedCode$Reader" 92 2 6 := ⟨jR_Me, jF_Me, 9, rfl, by decide, ji_Me, (jw_1 (List.mem_of_getElem? (i := 58) rfl) rfl)⟩
theorem fk_Rd_95 : jj_fk Y0 "VerifiedCode$Reader" 95 2 5 := ⟨jR_Me, jF_Me, 9, rfl, by decide, ji_Me, (jw_1 (List.mem_of_getElem? (i := 55) rfl) rfl)⟩
theorem fk_St_15 : jj_fk Y0 "VerifiedCode$State" 15 4 1 := ⟨jR_St, jF_St, 5, rfl, by decide, ji_St, (jw_1 (List.mem_of_getElem? (i := 144) rfl) rfl)⟩
theorem fk_St_18 : jj_fk Y0 "VerifiedCode$State" 18 4 2 := ⟨jR_St, jF_St, 5, rfl, by decide, ji_St, (jw_1 (List.mem_of_getElem? (i := 146) rfl) rfl)⟩
theorem fk_St_21 : jj_fk Y0 "VerifiedCode$State" 21 4 3 := ⟨jR_St, jF_St, 5, rfl, by decide, ji_St, (jw_1 (List.mem_of_getElem? (i := 148) rfl) rfl)⟩
theorem fk_St_28 : jj_fk Y0 "VerifiedCode$State" 28 4 4 := ⟨jR_St, jF_St, 5, rfl, by decide, ji_St, (jw_1 (List.mem_of_getElem? (i := 149) rfl) rfl)⟩
theorem fk_St_73 : jj_fk Y0 "VerifiedCode$State" 73 2 2 := ⟨jR_Me, jF_Me, 9, rfl, by decide, ji_Me, (jw_1 (List.mem_of_getElem? (i := 47) rfl) rfl)⟩
theorem fk_St_84 : jj_fk Y0 "VerifiedCode$State" 84 2 3 := ⟨jR_Me, jF_Me, 9, rfl, by decide, ji_Me, (jw_1 (List.mem_of_getElem? (i := 50) rfl) rfl)⟩
theorem fk_St_9 : jj_fk Y0 "VerifiedCode$State" 9 4 0 := ⟨jR_St, jF_St, 5, rfl, by decide, ji_St, (jw_1 (List.mem_of_getElem? (i := 142) rfl) rfl)⟩
theorem fk_VC_113 : jj_fk Y0 "VerifiedCode" 113 6 0 := ⟨jR_Ma, jF_Ma, 9, rfl, by decide, ji_Ma, (jw_1 (List.mem_of_getElem? (i := 179) rfl) rfl)⟩
theorem fk_VC_116 : jj_fk Y0 "VerifiedCode" 116 6 1 := ⟨jR_Ma, jF_Ma, 9, rfl, by decide, ji_Ma, (jw_1 (List.mem_of_getElem? (i := 181) rfl) rfl)⟩
theorem fk_VC_16 : jj_fk Y0 "VerifiedCode" 16 0 2 := ⟨jR_VC, jF_VC, 7, rfl, by decide, ji_VC, (jw_1 (List.mem_of_getElem? (i := 210) rfl) rfl)⟩
theorem fk_VC_20 : jj_fk Y0 "VerifiedCode" 20 0 3 := ⟨jR_VC, jF_VC, 7, rfl, by decide, ji_VC, (jw_1 (List.mem_of_getElem? (i := 211) rfl) rfl)⟩
theorem fk_VC_26 : jj_fk Y0 "VerifiedCode" 26 0 4 := ⟨jR_VC, jF_VC, 7, rfl, by decide, ji_VC, (jw_1 (List.mem_of_getElem? (i := 212) rfl) rfl)⟩
theorem fk_VC_33 : jj_fk Y0 "VerifiedCode" 33 0 5 := ⟨jR_VC, jF_VC, 7, rfl, by decide, ji_VC, (jw_1 (List.mem_of_getElem? (i := 213) rfl) rfl)⟩
theorem fk_VC_40 : jj_fk Y0 "VerifiedCode" 40 0 6 := ⟨jR_VC, jF_VC, 7, rfl, by decide, ji_VC, (jw_1 (List.mem_of_getElem? (i := 214) rfl) rfl)⟩
theorem fk_VC_51 : jj_fk Y0 "VerifiedCode" 51 0 1 := ⟨jR_VC, jF_VC, 7, rfl, by decide, ji_VC, (jw_1 (List.mem_of_getElem? (i := 209) rfl) rfl)⟩
theorem fk_VC_75 : jj_fk Y0 "VerifiedCode" 75 3 0 := ⟨jR_Rd, jF_Rd, 3, rfl, by decide, ji_Rd, (jw_1 (List.mem_of_getElem? (i := 119) rfl) rfl)⟩
theorem fk_VC_78 : jj_fk Y0 "VerifiedCode" 78 1 4 := ⟨jR_Pr, jF_Pr, 6, rfl, by decide, ji_Pr, (jw_1 (List.mem_of_getElem? (i := 94) rfl) rfl)⟩
theorem fk_VC_83 : jj_fk Y0 "VerifiedCode" 83 1 0 := ⟨jR_Pr, jF_Pr, 6, rfl, by decide, ji_Pr, (jw_1 (List.mem_of_getElem? (i := 86) rfl) rfl)⟩
theorem fk_VC_86 : jj_fk Y0 "VerifiedCode" 86 1 1 := ⟨jR_Pr, jF_Pr, 6, rfl, by decide, ji_Pr, (jw_1 (List.mem_of_getElem? (i := 89) rfl) rfl)⟩
theorem fk_VC_9 : jj_fk Y0 "VerifiedCode" 9 0 0 := ⟨jR_VC, jF_VC, 7, rfl, by decide, ji_VC, (jw_1 (List.mem_of_getElem? (i := 208) rfl) rfl)⟩
theorem fk_VC_97 : jj_fk Y0 "VerifiedCode" 97 1 5 := ⟨jR_Pr, jF_Pr, 6, rfl, by decide, ji_Pr, (jw_1 (List.mem_of_getElem? (i := 98) rfl) rfl)⟩
theorem fk_Mo_102 : jj_fk Y0 "VerifiedCodeModel" 102 7 5 := ⟨jR_Mo, jF_Mo, 28, rfl, by decide, ji_Mo, (jw_4 (List.mem_of_getElem? (i := 33) rfl) rfl)⟩
theorem fk_Mo_105 : jj_fk Y0 "VerifiedCodeModel" 105 7 6 := ⟨jR_Mo, jF_Mo, 28, rfl, by decide, ji_Mo, (jw_4 (List.mem_of_getElem? (i := 34) rfl) rfl)⟩
theorem fk_Mo_124 : jj_fk Y0 "VerifiedCodeModel" 124 7 8 := ⟨jR_Mo, jF_Mo, 28, rfl, by decide, ji_Mo, (jw_4 (List.mem_of_getElem? (i := 36) rfl) rfl)⟩
theorem fk_Mo_127 : jj_fk Y0 "VerifiedCodeModel" 127 7 9 := ⟨jR_Mo, jF_Mo, 28, rfl, by decide, ji_Mo, (jw_4 (List.mem_of_getElem? (i := 37) rfl) rfl)⟩
theorem fk_Mo_13 : jj_fk Y0 "VerifiedCodeModel" 13 7 7 := ⟨jR_Mo, jF_Mo, 28, rfl, by decide, ji_Mo, (jw_4 (List.mem_of_getElem? (i := 35) rfl) rfl)⟩
theorem fk_Mo_130 : jj_fk Y0 "VerifiedCodeModel" 130 7 10 := ⟨jR_Mo, jF_Mo, 28, rfl, by decide, ji_Mo, (jw_4 (List.mem_of_getElem? (i := 38) rfl) rfl)⟩
theorem fk_Mo_133 : jj_fk Y0 "VerifiedCodeModel" 133 7 11 := ⟨jR_Mo, jF_Mo, 28, rfl, by decide, ji_Mo, (jw_4 (List.mem_of_getElem? (i := 39) rfl) rfl)⟩
theorem fk_Mo_136 : jj_fk Y0 "VerifiedCodeModel" 136 7 12 := ⟨jR_Mo, jF_Mo, 28, rfl, by decide, ji_Mo, (jw_4 (List.mem_of_getElem? (i := 40) rfl) rfl)⟩
theorem fk_Mo_139 : jj_fk Y0 "VerifiedCodeModel" 139 7 13 := ⟨jR_Mo, jF_Mo, 28, rfl, by decide, ji_Mo, (jw_4 (List.mem_of_getElem? (i := 41) rfl) rfl)⟩
theorem fk_Mo_16 : jj_fk Y0 "VerifiedCodeModel" 16 7 14 := ⟨jR_Mo, jF_Mo, 28, rfl, by decide, ji_Mo, (jw_4 (List.mem_of_getElem? (i := 42) rfl) rfl)⟩
theorem fk_Mo_163 : jj_fk Y0 "VerifiedCodeModel" 163 7 22 := ⟨jR_Mo, jF_Mo, 28, rfl, by decide, ji_Mo, (jw_4 (List.mem_of_getElem? (i := 50) rfl) rfl)⟩
theorem fk_Mo_19 : jj_fk Y0 "VerifiedCodeModel" 19 7 15 := ⟨jR_Mo, jF_Mo, 28, rfl, by decide, ji_Mo, (jw_4 (List.mem_of_getElem? (i := 43) rfl) rfl)⟩
theorem fk_Mo_204 : jj_fk Y0 "VerifiedCodeModel" 204 7 23 := ⟨jR_Mo, jF_Mo, 28, rfl, by decide, ji_Mo, (jw_4 (List.mem_of_getElem? (i := 51) rfl) rfl)⟩
theorem fk_Mo_210 : jj_fk Y0 "VerifiedCodeModel" 210 7 21 := ⟨jR_Mo, jF_Mo, 28, rfl, by decide, ji_Mo, (jw_4 (List.mem_of_getElem? (i := 49) rfl) rfl)⟩
theorem fk_Mo_212 : jj_fk Y0 "VerifiedCodeModel" 212 7 26 := ⟨jR_Mo, jF_Mo, 28, rfl, by decide, ji_Mo, (jw_4 (List.mem_of_getElem? (i := 54) rfl) rfl)⟩
theorem fk_Mo_22 : jj_fk Y0 "VerifiedCodeModel" 22 7 16 := ⟨jR_Mo, jF_Mo, 28, rfl, by decide, ji_Mo, (jw_4 (List.mem_of_getElem? (i := 44) rfl) rfl)⟩
theorem fk_Mo_237 : jj_fk Y0 "VerifiedCodeModel" 237 7 27 := ⟨jR_Mo, jF_Mo, 28, rfl, by decide, ji_Mo, (jw_4 (List.mem_of_getElem? (i := 55) rfl) rfl)⟩
theorem fk_Mo_25 : jj_fk Y0 "VerifiedCodeModel" 25 7 17 := ⟨jR_Mo, jF_Mo, 28, rfl, by decide, ji_Mo, (jw_4 (List.mem_of_getElem? (i := 45) rfl) rfl)⟩
theorem fk_Mo_28 : jj_fk Y0 "VerifiedCodeModel" 28 7 18 := ⟨jR_Mo, jF_Mo, 28, rfl, by decide, ji_Mo, (jw_4 (List.mem_of_getElem? (i := 46) rfl) rfl)⟩
theorem fk_Mo_31 : jj_fk Y0 "VerifiedCodeModel" 31 7 19 := ⟨jR_Mo, jF_Mo, 28, rfl, by decide, ji_Mo, (jw_4 (List.mem_of_getElem? (i := 47) rfl) rfl)⟩
theorem fk_Mo_34 : jj_fk Y0 "VerifiedCodeModel" 34 7 20 := ⟨jR_Mo, jF_Mo, 28, rfl, by decide, ji_Mo, (jw_4 (List.mem_of_getElem? (i := 48) rfl) rfl)⟩
theorem fk_Mo_37 : jj_fk Y0 "VerifiedCodeModel" 37 7 24 := ⟨jR_Mo, jF_Mo, 28, rfl, by decide, ji_Mo, (jw_4 (List.mem_of_getElem? (i := 52) rfl) rfl)⟩
theorem fk_Mo_40 : jj_fk Y0 "VerifiedCodeModel" 40 7 25 := ⟨jR_Mo, jF_Mo, 28, rfl, by decide, ji_Mo, (jw_4 (List.mem_of_getElem? (i := 53) rfl) rfl)⟩
theorem fk_Mo_43 : jj_fk Y0 "VerifiedCodeModel" 43 7 0 := ⟨jR_Mo, jF_Mo, 28, rfl, by decide, ji_Mo, (jw_4 (List.mem_of_getElem? (i := 28) rfl) rfl)⟩
theorem fk_Mo_61 : jj_fk Y0 "VerifiedCodeModel" 61 7 1 := ⟨jR_Mo, jF_Mo, 28, rfl, by decide, ji_Mo, (jw_4 (List.mem_of_getElem? (i := 29) rfl) rfl)⟩
theorem fk_Mo_64 : jj_fk Y0 "VerifiedCodeModel" 64 7 4 := ⟨jR_Mo, jF_Mo, 28, rfl, by decide, ji_Mo, (jw_4 (List.mem_of_getElem? (i := 32) rfl) rfl)⟩
theorem fk_Mo_68 : jj_fk Y0 "VerifiedCodeModel" 68 7 3 := ⟨jR_Mo, jF_Mo, 28, rfl, by decide, ji_Mo, (jw_4 (List.mem_of_getElem? (i := 31) rfl) rfl)⟩
theorem fk_Mo_7 : jj_fk Y0 "VerifiedCodeModel" 7 7 2 := ⟨jR_Mo, jF_Mo, 28, rfl, by decide, ji_Mo, (jw_4 (List.mem_of_getElem? (i := 30) rfl) rfl)⟩
theorem lc_Pr_45 : Cond.constant "VerifiedCode$Program" 45 32768 ∈ j_W := (jw_2 (List.mem_of_getElem? (i := 72) rfl) rfl)
theorem lc_Pr_46 : Cond.constant "VerifiedCode$Program" 46 65536 ∈ j_W := (jw_2 (List.mem_of_getElem? (i := 73) rfl) rfl)
theorem lc_Mo_83 : Cond.constant "VerifiedCodeModel" 83 65536 ∈ j_W := (jw_4 (List.mem_of_getElem? (i := 183) rfl) rfl)
theorem pk_VC_16 : jj_pk Y0 "VerifiedCode" 16 0 2 (.object "VerifiedCode$Program") := ⟨jR_VC, jF_VC, 7, jt_VC, rfl, by decide, ji_VC, (jw_1 (List.mem_of_getElem? (i := 210) rfl) rfl), jt_VC_ok, jn_VC, rfl, by decide +kernel⟩
theorem pk_VC_20 : jj_pk Y0 "VerifiedCode" 20 0 3 (.object "VerifiedCode$Program") := ⟨jR_VC, jF_VC, 7, jt_VC, rfl, by decide, ji_VC, (jw_1 (List.mem_of_getElem? (i := 211) rfl) rfl), jt_VC_ok, jn_VC, rfl, by decide +kernel⟩
theorem pk_VC_51 : jj_pk Y0 "VerifiedCode" 51 0 1 .int := ⟨jR_VC, jF_VC, 7, jt_VC, rfl, by decide, ji_VC, (jw_1 (List.mem_of_getElem? (i := 209) rfl) rfl), jt_VC_ok, jn_VC, rfl, by decide +kernel⟩
theorem pk_Ck_37 : jj_pk Y0 "VerifiedCode$Checker" 37 5 1 .boolean := ⟨jR_Ck, jF_Ck, 2, jt_Ck, rfl, by decide, ji_Ck, (jw_1 (List.mem_of_getElem? (i := 163) rfl) rfl), jt_Ck_ok, jn_Ck, rfl, by decide +kernel⟩
theorem pk_Ck_90 : jj_pk Y0 "VerifiedCode$Checker" 90 4 4 .int := ⟨jR_St, jF_St, 5, jt_St, rfl, by decide, ji_St, (jw_1 (List.mem_of_getElem? (i := 150) rfl) rfl), jt_St_ok, jn_St, rfl, by decide +kernel⟩
theorem pk_Ma_31 : jj_pk Y0 "VerifiedCode$Machine" 31 6 1 .int := ⟨jR_Ma, jF_Ma, 9, jt_Ma, rfl, by decide, ji_Ma, (jw_1 (List.mem_of_getElem? (i := 180) rfl) rfl), jt_Ma_ok, jn_Ma, rfl, by decide +kernel⟩
theorem pk_Ma_35 : jj_pk Y0 "VerifiedCode$Machine" 35 6 8 .int := ⟨jR_Ma, jF_Ma, 9, jt_Ma, rfl, by decide, ji_Ma, (jw_1 (List.mem_of_getElem? (i := 188) rfl) rfl), jt_Ma_ok, jn_Ma, rfl, by decide +kernel⟩
theorem pk_Ma_38 : jj_pk Y0 "VerifiedCode$Machine" 38 6 5 .int := ⟨jR_Ma, jF_Ma, 9, jt_Ma, rfl, by decide, ji_Ma, (jw_1 (List.mem_of_getElem? (i := 185) rfl) rfl), jt_Ma_ok, jn_Ma, rfl, by decide +kernel⟩
theorem pk_Ma_150 : jj_pk Y0 "VerifiedCode$Machine" 150 6 0 .int := ⟨jR_Ma, jF_Ma, 9, jt_Ma, rfl, by decide, ji_Ma, (jw_1 (List.mem_of_getElem? (i := 178) rfl) rfl), jt_Ma_ok, jn_Ma, rfl, by decide +kernel⟩
theorem pk_Pr_28 : jj_pk Y0 "VerifiedCode$Program" 28 1 1 .int := ⟨jR_Pr, jF_Pr, 6, jt_Pr, rfl, by decide, ji_Pr, (jw_1 (List.mem_of_getElem? (i := 87) rfl) rfl), jt_Pr_ok, jn_Pr, rfl, by decide +kernel⟩
theorem pk_Rd_15 : jj_pk Y0 "VerifiedCode$Reader" 15 3 0 .int := ⟨jR_Rd, jF_Rd, 3, jt_Rd, rfl, by decide, ji_Rd, (jw_1 (List.mem_of_getElem? (i := 118) rfl) rfl), jt_Rd_ok, jn_Rd, rfl, by decide +kernel⟩
theorem pk_Rd_27 : jj_pk Y0 "VerifiedCode$Reader" 27 3 1 .int := ⟨jR_Rd, jF_Rd, 3, jt_Rd, rfl, by decide, ji_Rd, (jw_1 (List.mem_of_getElem? (i := 120) rfl) rfl), jt_Rd_ok, jn_Rd, rfl, by decide +kernel⟩
theorem pk_Rd_30 : jj_pk Y0 "VerifiedCode$Reader" 30 1 4 .int := ⟨jR_Pr, jF_Pr, 6, jt_Pr, rfl, by decide, ji_Pr, (jw_1 (List.mem_of_getElem? (i := 93) rfl) rfl), jt_Pr_ok, jn_Pr, rfl, by decide +kernel⟩
theorem pk_Rd_50 : jj_pk Y0 "VerifiedCode$Reader" 50 1 2 .int := ⟨jR_Pr, jF_Pr, 6, jt_Pr, rfl, by decide, ji_Pr, (jw_1 (List.mem_of_getElem? (i := 90) rfl) rfl), jt_Pr_ok, jn_Pr, rfl, by decide +kernel⟩
theorem pk_Rd_53 : jj_pk Y0 "VerifiedCode$Reader" 53 1 3 .int := ⟨jR_Pr, jF_Pr, 6, jt_Pr, rfl, by decide, ji_Pr, (jw_1 (List.mem_of_getElem? (i := 92) rfl) rfl), jt_Pr_ok, jn_Pr, rfl, by decide +kernel⟩
theorem pk_Rd_75 : jj_pk Y0 "VerifiedCode$Reader" 75 2 0 .int := ⟨jR_Me, jF_Me, 9, jt_Me, rfl, by decide, ji_Me, (jw_1 (List.mem_of_getElem? (i := 41) rfl) rfl), jt_Me_ok, jn_Me, rfl, by decide +kernel⟩
theorem pk_Rd_80 : jj_pk Y0 "VerifiedCode$Reader" 80 2 1 .int := ⟨jR_Me, jF_Me, 9, jt_Me, rfl, by decide, ji_Me, (jw_1 (List.mem_of_getElem? (i := 44) rfl) rfl), jt_Me_ok, jn_Me, rfl, by decide +kernel⟩
theorem pk_Rd_83 : jj_pk Y0 "VerifiedCode$Reader" 83 2 2 .int := ⟨jR_Me, jF_Me, 9, jt_Me, rfl, by decide, ji_Me, (jw_1 (List.mem_of_getElem? (i := 46) rfl) rfl), jt_Me_ok, jn_Me, rfl, by decide +kernel⟩
theorem pk_Rd_86 : jj_pk Y0 "VerifiedCode$Reader" 86 2 3 .int := ⟨jR_Me, jF_Me, 9, jt_Me, rfl, by decide, ji_Me, (jw_1 (List.mem_of_getElem? (i := 49) rfl) rfl), jt_Me_ok, jn_Me, rfl, by decide +kernel⟩
theorem pk_Rd_89 : jj_pk Y0 "VerifiedCode$Reader" 89 2 4 .int := ⟨jR_Me, jF_Me, 9, jt_Me, rfl, by decide, ji_Me, (jw_1 (List.mem_of_getElem? (i := 52) rfl) rfl), jt_Me_ok, jn_Me, rfl, by decide +kernel⟩
theorem pk_Rd_92 : jj_pk Y0 "VerifiedCode$Reader" 92 2 6 .int := ⟨jR_Me, jF_Me, 9, jt_Me, rfl, by decide, ji_Me, (jw_1 (List.mem_of_getElem? (i := 58) rfl) rfl), jt_Me_ok, jn_Me, rfl, by decide +kernel⟩
theorem pk_Rd_95 : jj_pk Y0 "VerifiedCode$Reader" 95 2 5 .int := ⟨jR_Me, jF_Me, 9, jt_Me, rfl, by decide, ji_Me, (jw_1 (List.mem_of_getElem? (i := 55) rfl) rfl), jt_Me_ok, jn_Me, rfl, by decide +kernel⟩
theorem pk_Rd_116 : jj_pk Y0 "VerifiedCode$Reader" 116 2 7 .int := ⟨jR_Me, jF_Me, 9, jt_Me, rfl, by decide, ji_Me, (jw_1 (List.mem_of_getElem? (i := 59) rfl) rfl), jt_Me_ok, jn_Me, rfl, by decide +kernel⟩
theorem pk_St_28 : jj_pk Y0 "VerifiedCode$State" 28 4 4 .int := ⟨jR_St, jF_St, 5, jt_St, rfl, by decide, ji_St, (jw_1 (List.mem_of_getElem? (i := 149) rfl) rfl), jt_St_ok, jn_St, rfl, by decide +kernel⟩
theorem pk_Mo_43 : jj_pk Y0 "VerifiedCodeModel" 43 7 0 .int := ⟨jR_Mo, jF_Mo, 28, jt_Mo, rfl, by decide, ji_Mo, (jw_4 (List.mem_of_getElem? (i := 28) rfl) rfl), jt_Mo_ok, jn_Mo, rfl, by decide +kernel⟩
theorem pk_Mo_61 : jj_pk Y0 "VerifiedCodeModel" 61 7 1 .int := ⟨jR_Mo, jF_Mo, 28, jt_Mo, rfl, by decide, ji_Mo, (jw_4 (List.mem_of_getElem? (i := 29) rfl) rfl), jt_Mo_ok, jn_Mo, rfl, by decide +kernel⟩
theorem pk_Mo_64 : jj_pk Y0 "VerifiedCodeModel" 64 7 4 .boolean := ⟨jR_Mo, jF_Mo, 28, jt_Mo, rfl, by decide, ji_Mo, (jw_4 (List.mem_of_getElem? (i := 32) rfl) rfl), jt_Mo_ok, jn_Mo, rfl, by decide +kernel⟩
theorem pk_Mo_68 : jj_pk Y0 "VerifiedCodeModel" 68 7 3 .int := ⟨jR_Mo, jF_Mo, 28, jt_Mo, rfl, by decide, ji_Mo, (jw_4 (List.mem_of_getElem? (i := 31) rfl) rfl), jt_Mo_ok, jn_Mo, rfl, by decide +kernel⟩
theorem pk_Mo_102 : jj_pk Y0 "VerifiedCodeModel" 102 7 5 .boolean := ⟨jR_Mo, jF_Mo, 28, jt_Mo, rfl, by decide, ji_Mo, (jw_4 (List.mem_of_getElem? (i := 33) rfl) rfl), jt_Mo_ok, jn_Mo, rfl, by decide +kernel⟩
theorem pk_Mo_105 : jj_pk Y0 "VerifiedCodeModel" 105 7 6 .int := ⟨jR_Mo, jF_Mo, 28, jt_Mo, rfl, by decide, ji_Mo, (jw_4 (List.mem_of_getElem? (i := 34) rfl) rfl), jt_Mo_ok, jn_Mo, rfl, by decide +kernel⟩
theorem pk_Mo_124 : jj_pk Y0 "VerifiedCodeModel" 124 7 8 .int := ⟨jR_Mo, jF_Mo, 28, jt_Mo, rfl, by decide, ji_Mo, (jw_4 (List.mem_of_getElem? (i := 36) rfl) rfl), jt_Mo_ok, jn_Mo, rfl, by decide +kernel⟩
theorem pk_Mo_127 : jj_pk Y0 "VerifiedCodeModel" 127 7 9 .int := ⟨jR_Mo, jF_Mo, 28, jt_Mo, rfl, by decide, ji_Mo, (jw_4 (List.mem_of_getElem? (i := 37) rfl) rfl), jt_Mo_ok, jn_Mo, rfl, by decide +kernel⟩
theorem pk_Mo_130 : jj_pk Y0 "VerifiedCodeModel" 130 7 10 .int := ⟨jR_Mo, jF_Mo, 28, jt_Mo, rfl, by decide, ji_Mo, (jw_4 (List.mem_of_getElem? (i := 38) rfl) rfl), jt_Mo_ok, jn_Mo, rfl, by decide +kernel⟩
theorem pk_Mo_133 : jj_pk Y0 "VerifiedCodeModel" 133 7 11 .int := ⟨jR_Mo, jF_Mo, 28, jt_Mo, rfl, by decide, ji_Mo, (jw_4 (List.mem_of_getElem? (i := 39) rfl) rfl), jt_Mo_ok, jn_Mo, rfl, by decide +kernel⟩
theorem pk_Mo_136 : jj_pk Y0 "VerifiedCodeModel" 136 7 12 .int := ⟨jR_Mo, jF_Mo, 28, jt_Mo, rfl, by decide, ji_Mo, (jw_4 (List.mem_of_getElem? (i := 40) rfl) rfl), jt_Mo_ok, jn_Mo, rfl, by decide +kernel⟩
theorem pk_Mo_139 : jj_pk Y0 "VerifiedCodeModel" 139 7 13 .int := ⟨jR_Mo, jF_Mo, 28, jt_Mo, rfl, by decide, ji_Mo, (jw_4 (List.mem_of_getElem? (i := 41) rfl) rfl), jt_Mo_ok, jn_Mo, rfl, by decide +kernel⟩
theorem pk_Mo_163 : jj_pk Y0 "VerifiedCodeModel" 163 7 22 .boolean := ⟨jR_Mo, jF_Mo, 28, jt_Mo, rfl, by decide, ji_Mo, (jw_4 (List.mem_of_getElem? (i := 50) rfl) rfl), jt_Mo_ok, jn_Mo, rfl, by decide +kernel⟩
theorem pk_Mo_204 : jj_pk Y0 "VerifiedCodeModel" 204 7 23 .int := ⟨jR_Mo, jF_Mo, 28, jt_Mo, rfl, by decide, ji_Mo, (jw_4 (List.mem_of_getElem? (i := 51) rfl) rfl), jt_Mo_ok, jn_Mo, rfl, by decide +kernel⟩
theorem pk_Mo_210 : jj_pk Y0 "VerifiedCodeModel" 210 7 21 .int := ⟨jR_Mo, jF_Mo, 28, jt_Mo, rfl, by decide, ji_Mo, (jw_4 (List.mem_of_getElem? (i := 49) rfl) rfl), jt_Mo_ok, jn_Mo, rfl, by decide +kernel⟩
theorem pk_Mo_212 : jj_pk Y0 "VerifiedCodeModel" 212 7 26 .int := ⟨jR_Mo, jF_Mo, 28, jt_Mo, rfl, by decide, ji_Mo, (jw_4 (List.mem_of_getElem? (i := 54) rfl) rfl), jt_Mo_ok, jn_Mo, rfl, by decide +kernel⟩
theorem pk_Mo_237 : jj_pk Y0 "VerifiedCodeModel" 237 7 27 .int := ⟨jR_Mo, jF_Mo, 28, jt_Mo, rfl, by decide, ji_Mo, (jw_4 (List.mem_of_getElem? (i := 55) rfl) rfl), jt_Mo_ok, jn_Mo, rfl, by decide +kernel⟩
theorem cm_VC_isGoodFor : jj_cm Y0 m_VC_isGoodFor 2 := ⟨(jw_1 (List.mem_of_getElem? (i := 1) rfl) rfl), (jw_3 (List.mem_of_getElem? (i := 41) rfl) rfl), ⟨by decide, by decide, by decide +kernel⟩, by decide⟩
theorem cm_Ck_change : jj_cm Y0 m_Ck_change 3 := ⟨(jw_1 (List.mem_of_getElem? (i := 5) rfl) rfl), (jw_3 (List.mem_of_getElem? (i := 107) rfl) rfl), ⟨by decide, by decide, by decide +kernel⟩, by decide⟩
theorem cm_Ck_entersFrame : jj_cm Y0 m_Ck_entersFrame 3 := ⟨(jw_1 (List.mem_of_getElem? (i := 5) rfl) rfl), (jw_3 (List.mem_of_getElem? (i := 21) rfl) rfl), ⟨by decide, by decide, by decide +kernel⟩, by decide⟩
theorem cm_Ck_firstRefused : jj_cm Y0 m_Ck_firstRefused 2 := ⟨(jw_1 (List.mem_of_getElem? (i := 5) rfl) rfl), (jw_3 (List.mem_of_getElem? (i := 3) rfl) rfl), ⟨by decide, by decide, by decide +kernel⟩, by decide⟩
theorem cm_Ck_isGoodForFrame : jj_cm Y0 m_Ck_isGoodForFrame 3 := ⟨(jw_1 (List.mem_of_getElem? (i := 5) rfl) rfl), (jw_3 (List.mem_of_getElem? (i := 30) rfl) rfl), ⟨by decide, by decide, by decide +kernel⟩, by decide⟩
theorem cm_Ck_mayGoToTarget : jj_cm Y0 m_Ck_mayGoToTarget 3 := ⟨(jw_1 (List.mem_of_getElem? (i := 5) rfl) rfl), (jw_3 (List.mem_of_getElem? (i := 152) rfl) rfl), ⟨by decide, by decide, by decide +kernel⟩, by decide⟩
theorem cm_Ck_typePut : jj_cm Y0 m_Ck_typePut 3 := ⟨(jw_1 (List.mem_of_getElem? (i := 5) rfl) rfl), (jw_3 (List.mem_of_getElem? (i := 147) rfl) rfl), ⟨by decide, by decide, by decide +kernel⟩, by decide⟩
theorem cm_In_hasPlace : jj_cm Y0 m_In_hasPlace 1 := ⟨(jw_1 (List.mem_of_getElem? (i := 16) rfl) rfl), (jw_2 (List.mem_of_getElem? (i := 53) rfl) rfl), ⟨by decide, by decide, by decide +kernel⟩, by decide⟩
theorem cm_In_hasTarget : jj_cm Y0 m_In_hasTarget 1 := ⟨(jw_1 (List.mem_of_getElem? (i := 16) rfl) rfl), (jw_2 (List.mem_of_getElem? (i := 46) rfl) rfl), ⟨by decide, by decide, by decide +kernel⟩, by decide⟩
theorem cm_In_isReturn : jj_cm Y0 m_In_isReturn 1 := ⟨(jw_1 (List.mem_of_getElem? (i := 16) rfl) rfl), (jw_3 (List.mem_of_getElem? (i := 93) rfl) rfl), ⟨by decide, by decide, by decide +kernel⟩, by decide⟩
theorem cm_In_length : jj_cm Y0 m_In_length 1 := ⟨(jw_1 (List.mem_of_getElem? (i := 16) rfl) rfl), (jw_2 (List.mem_of_getElem? (i := 43) rfl) rfl), ⟨by decide, by decide, by decide +kernel⟩, by decide⟩
theorem cm_In_puts : jj_cm Y0 m_In_puts 1 := ⟨(jw_1 (List.mem_of_getElem? (i := 16) rfl) rfl), (jw_3 (List.mem_of_getElem? (i := 103) rfl) rfl), ⟨by decide, by decide, by decide +kernel⟩, by decide⟩
theorem cm_In_takes : jj_cm Y0 m_In_takes 1 := ⟨(jw_1 (List.mem_of_getElem? (i := 16) rfl) rfl), (jw_3 (List.mem_of_getElem? (i := 65) rfl) rfl), ⟨by decide, by decide, by decide +kernel⟩, by decide⟩
theorem cm_In_typeOfPlace : jj_cm Y0 m_In_typeOfPlace 1 := ⟨(jw_1 (List.mem_of_getElem? (i := 16) rfl) rfl), (jw_3 (List.mem_of_getElem? (i := 90) rfl) rfl), ⟨by decide, by decide, by decide +kernel⟩, by decide⟩
theorem cm_In_typeOfReturn : jj_cm Y0 m_In_typeOfReturn 1 := ⟨(jw_1 (List.mem_of_getElem? (i := 16) rfl) rfl), (jw_3 (List.mem_of_getElem? (i := 96) rfl) rfl), ⟨by decide, by decide, by decide +kernel⟩, by decide⟩
theorem cm_In_typeTaken : jj_cm Y0 m_In_typeTaken 2 := ⟨(jw_1 (List.mem_of_getElem? (i := 16) rfl) rfl), (jw_3 (List.mem_of_getElem? (i := 77) rfl) rfl), ⟨by decide, by decide, by decide +kernel⟩, by decide⟩
theorem cm_Ma_begin : jj_cm Y0 m_Ma_begin 5 := ⟨(jw_1 (List.mem_of_getElem? (i := 7) rfl) rfl), (jw_3 (List.mem_of_getElem? (i := 170) rfl) rfl), ⟨by decide, by decide, by decide +kernel⟩, by decide⟩
theorem cm_Ma_call : jj_cm Y0 m_Ma_call 2 := ⟨(jw_1 (List.mem_of_getElem? (i := 7) rfl) rfl), (jw_3 (List.mem_of_getElem? (i := 223) rfl) rfl), ⟨by decide, by decide, by decide +kernel⟩, by decide⟩
theorem cm_Ma_doAlone : jj_cm Y0 m_Ma_doAlone 2 := ⟨(jw_1 (List.mem_of_getElem? (i := 7) rfl) rfl), (jw_4 (List.mem_of_getElem? (i := 11) rfl) rfl), ⟨by decide, by decide, by decide +kernel⟩, by decide⟩
theorem cm_Ma_doOne : jj_cm Y0 m_Ma_doOne 1 := ⟨(jw_1 (List.mem_of_getElem? (i := 7) rfl) rfl), (jw_3 (List.mem_of_getElem? (i := 193) rfl) rfl), ⟨by decide, by decide, by decide +kernel⟩, by decide⟩
theorem cm_Ma_doWithOperand : jj_cm Y0 m_Ma_doWithOperand 4 := ⟨(jw_1 (List.mem_of_getElem? (i := 7) rfl) rfl), (jw_3 (List.mem_of_getElem? (i := 237) rfl) rfl), ⟨by decide, by decide, by decide +kernel⟩, by decide⟩
theorem cm_Ma_enter : jj_cm Y0 m_Ma_enter 1 := ⟨(jw_1 (List.mem_of_getElem? (i := 7) rfl) rfl), (jw_3 (List.mem_of_getElem? (i := 174) rfl) rfl), ⟨by decide, by decide, by decide +kernel⟩, by decide⟩
theorem cm_Ma_goToEnd : jj_cm Y0 m_Ma_goToEnd 1 := ⟨(jw_1 (List.mem_of_getElem? (i := 7) rfl) rfl), (jw_3 (List.mem_of_getElem? (i := 189) rfl) rfl), ⟨by decide, by decide, by decide +kernel⟩, by decide⟩
theorem cm_Ma_goesToTarget : jj_cm Y0 m_Ma_goesToTarget 2 := ⟨(jw_1 (List.mem_of_getElem? (i := 7) rfl) rfl), (jw_3 (List.mem_of_getElem? (i := 228) rfl) rfl), ⟨by decide, by decide, by decide +kernel⟩, by decide⟩
theorem cm_Ma_holds : jj_cm Y0 m_Ma_holds 3 := ⟨(jw_1 (List.mem_of_getElem? (i := 7) rfl) rfl), (jw_3 (List.mem_of_getElem? (i := 232) rfl) rfl), ⟨by decide, by decide, by decide +kernel⟩, by decide⟩
theorem cm_Ma_leave : jj_cm Y0 m_Ma_leave 2 := ⟨(jw_1 (List.mem_of_getElem? (i := 7) rfl) rfl), (jw_3 (List.mem_of_getElem? (i := 210) rfl) rfl), ⟨by decide, by decide, by decide +kernel⟩, by decide⟩
theorem cm_Ma_newRow : jj_cm Y0 m_Ma_newRow 1 := ⟨(jw_1 (List.mem_of_getElem? (i := 7) rfl) rfl), (jw_3 (List.mem_of_getElem? (i := 185) rfl) rfl), ⟨by decide, by decide, by decide +kernel⟩, by decide⟩
theorem cm_Ma_reckoned : jj_cm Y0 m_Ma_reckoned 3 := ⟨(jw_1 (List.mem_of_getElem? (i := 7) rfl) rfl), (jw_4 (List.mem_of_getElem? (i := 21) rfl) rfl), ⟨by decide, by decide, by decide +kernel⟩, by decide⟩
theorem cm_Ma_resultOf : jj_cm Y0 m_Ma_resultOf 2 := ⟨(jw_1 (List.mem_of_getElem? (i := 7) rfl) rfl), (jw_3 (List.mem_of_getElem? (i := 216) rfl) rfl), ⟨by decide, by decide, by decide +kernel⟩, by decide⟩
theorem cm_Ma_setArgument : jj_cm Y0 m_Ma_setArgument 3 := ⟨(jw_1 (List.mem_of_getElem? (i := 7) rfl) rfl), (jw_3 (List.mem_of_getElem? (i := 179) rfl) rfl), ⟨by decide, by decide, by decide +kernel⟩, by decide⟩
theorem cm_Ma_storeElement : jj_cm Y0 m_Ma_storeElement 1 := ⟨(jw_1 (List.mem_of_getElem? (i := 7) rfl) rfl), (jw_4 (List.mem_of_getElem? (i := 17) rfl) rfl), ⟨by decide, by decide, by decide +kernel⟩, by decide⟩
theorem cm_Ma_trouble : jj_cm Y0 m_Ma_trouble 2 := ⟨(jw_1 (List.mem_of_getElem? (i := 7) rfl) rfl), (jw_3 (List.mem_of_getElem? (i := 199) rfl) rfl), ⟨by decide, by decide, by decide +kernel⟩, by decide⟩
theorem cm_Ma_troubleOfElement : jj_cm Y0 m_Ma_troubleOfElement 2 := ⟨(jw_1 (List.mem_of_getElem? (i := 7) rfl) rfl), (jw_3 (List.mem_of_getElem? (i := 205) rfl) rfl), ⟨by decide, by decide, by decide +kernel⟩, by decide⟩
theorem cm_Pr_called : jj_cm Y0 m_Pr_called 2 := ⟨(jw_1 (List.mem_of_getElem? (i := 2) rfl) rfl), (jw_3 (List.mem_of_getElem? (i := 62) rfl) rfl), ⟨by decide, by decide, by decide +kernel⟩, by decide⟩
theorem cm_Pr_code : jj_cm Y0 m_Pr_code 2 := ⟨(jw_1 (List.mem_of_getElem? (i := 2) rfl) rfl), (jw_2 (List.mem_of_getElem? (i := 65) rfl) rfl), ⟨by decide, by decide, by decide +kernel⟩, by decide⟩
theorem cm_Pr_constant : jj_cm Y0 m_Pr_constant 1 := ⟨(jw_1 (List.mem_of_getElem? (i := 2) rfl) rfl), (jw_4 (List.mem_of_getElem? (i := 5) rfl) rfl), ⟨by decide, by decide, by decide +kernel⟩, by decide⟩
theorem cm_Pr_frameAt : jj_cm Y0 m_Pr_frameAt 2 := ⟨(jw_1 (List.mem_of_getElem? (i := 2) rfl) rfl), (jw_3 (List.mem_of_getElem? (i := 25) rfl) rfl), ⟨by decide, by decide, by decide +kernel⟩, by decide⟩
theorem cm_Pr_frameHeight : jj_cm Y0 m_Pr_frameHeight 2 := ⟨(jw_1 (List.mem_of_getElem? (i := 2) rfl) rfl), (jw_3 (List.mem_of_getElem? (i := 34) rfl) rfl), ⟨by decide, by decide, by decide +kernel⟩, by decide⟩
theorem cm_Pr_frameOffset : jj_cm Y0 m_Pr_frameOffset 2 := ⟨(jw_1 (List.mem_of_getElem? (i := 2) rfl) rfl), (jw_2 (List.mem_of_getElem? (i := 85) rfl) rfl), ⟨by decide, by decide, by decide +kernel⟩, by decide⟩
theorem cm_Pr_framePlace : jj_cm Y0 m_Pr_framePlace 3 := ⟨(jw_1 (List.mem_of_getElem? (i := 2) rfl) rfl), (jw_3 (List.mem_of_getElem? (i := 38) rfl) rfl), ⟨by decide, by decide, by decide +kernel⟩, by decide⟩
theorem cm_Pr_frameValue : jj_cm Y0 m_Pr_frameValue 3 := ⟨(jw_1 (List.mem_of_getElem? (i := 2) rfl) rfl), (jw_3 (List.mem_of_getElem? (i := 45) rfl) rfl), ⟨by decide, by decide, by decide +kernel⟩, by decide⟩
theorem cm_Pr_operand : jj_cm Y0 m_Pr_operand 2 := ⟨(jw_1 (List.mem_of_getElem? (i := 2) rfl) rfl), (jw_3 (List.mem_of_getElem? (i := 87) rfl) rfl), ⟨by decide, by decide, by decide +kernel⟩, by decide⟩
theorem cm_Pr_parameterType : jj_cm Y0 m_Pr_parameterType 2 := ⟨(jw_1 (List.mem_of_getElem? (i := 2) rfl) rfl), (jw_3 (List.mem_of_getElem? (i := 15) rfl) rfl), ⟨by decide, by decide, by decide +kernel⟩, by decide⟩
theorem cm_Pr_putCount : jj_cm Y0 m_Pr_putCount 2 := ⟨(jw_1 (List.mem_of_getElem? (i := 2) rfl) rfl), (jw_3 (List.mem_of_getElem? (i := 100) rfl) rfl), ⟨by decide, by decide, by decide +kernel⟩, by decide⟩
theorem cm_Pr_signedByte : jj_cm Y0 m_Pr_signedByte 2 := ⟨(jw_1 (List.mem_of_getElem? (i := 2) rfl) rfl), (jw_4 (List.mem_of_getElem? (i := 1) rfl) rfl), ⟨by decide, by decide, by decide +kernel⟩, by decide⟩
theorem cm_Pr_takeFile : jj_cm Y0 m_Pr_takeFile 2 := ⟨(jw_1 (List.mem_of_getElem? (i := 2) rfl) rfl), (jw_2 (List.mem_of_getElem? (i := 5) rfl) rfl), ⟨by decide, by decide, by decide +kernel⟩, by decide⟩
theorem cm_Pr_takenCount : jj_cm Y0 m_Pr_takenCount 2 := ⟨(jw_1 (List.mem_of_getElem? (i := 2) rfl) rfl), (jw_3 (List.mem_of_getElem? (i := 58) rfl) rfl), ⟨by decide, by decide, by decide +kernel⟩, by decide⟩
theorem cm_Pr_takenType : jj_cm Y0 m_Pr_takenType 3 := ⟨(jw_1 (List.mem_of_getElem? (i := 2) rfl) rfl), (jw_3 (List.mem_of_getElem? (i := 73) rfl) rfl), ⟨by decide, by decide, by decide +kernel⟩, by decide⟩
theorem cm_Pr_target : jj_cm Y0 m_Pr_target 2 := ⟨(jw_1 (List.mem_of_getElem? (i := 2) rfl) rfl), (jw_2 (List.mem_of_getElem? (i := 70) rfl) rfl), ⟨by decide, by decide, by decide +kernel⟩, by decide⟩
theorem cm_Rd_beginsAt : jj_cm Y0 m_Rd_beginsAt 2 := ⟨(jw_1 (List.mem_of_getElem? (i := 4) rfl) rfl), (jw_2 (List.mem_of_getElem? (i := 77) rfl) rfl), ⟨by decide, by decide, by decide +kernel⟩, by decide⟩
theorem cm_Rd_framesBegin : jj_cm Y0 m_Rd_framesBegin 2 := ⟨(jw_1 (List.mem_of_getElem? (i := 4) rfl) rfl), (jw_2 (List.mem_of_getElem? (i := 81) rfl) rfl), ⟨by decide, by decide, by decide +kernel⟩, by decide⟩
theorem cm_Rd_highestOperand : jj_cm Y0 m_Rd_highestOperand 4 := ⟨(jw_1 (List.mem_of_getElem? (i := 4) rfl) rfl), (jw_2 (List.mem_of_getElem? (i := 50) rfl) rfl), ⟨by decide, by decide, by decide +kernel⟩, by decide⟩
theorem cm_Rd_next : jj_cm Y0 m_Rd_next 3 := ⟨(jw_1 (List.mem_of_getElem? (i := 4) rfl) rfl), (jw_2 (List.mem_of_getElem? (i := 16) rfl) rfl), ⟨by decide, by decide, by decide +kernel⟩, by decide⟩
theorem cm_Rd_nextOnes : jj_cm Y0 m_Rd_nextOnes 4 := ⟨(jw_1 (List.mem_of_getElem? (i := 4) rfl) rfl), (jw_2 (List.mem_of_getElem? (i := 24) rfl) rfl), ⟨by decide, by decide, by decide +kernel⟩, by decide⟩
theorem cm_Rd_readsCode : jj_cm Y0 m_Rd_readsCode 2 := ⟨(jw_1 (List.mem_of_getElem? (i := 4) rfl) rfl), (jw_2 (List.mem_of_getElem? (i := 36) rfl) rfl), ⟨by decide, by decide, by decide +kernel⟩, by decide⟩
theorem cm_Rd_readsConstants : jj_cm Y0 m_Rd_readsConstants 1 := ⟨(jw_1 (List.mem_of_getElem? (i := 4) rfl) rfl), (jw_2 (List.mem_of_getElem? (i := 20) rfl) rfl), ⟨by decide, by decide, by decide +kernel⟩, by decide⟩
theorem cm_Rd_readsFile : jj_cm Y0 m_Rd_readsFile 1 := ⟨(jw_1 (List.mem_of_getElem? (i := 4) rfl) rfl), (jw_2 (List.mem_of_getElem? (i := 12) rfl) rfl), ⟨by decide, by decide, by decide +kernel⟩, by decide⟩
theorem cm_Rd_readsFrames : jj_cm Y0 m_Rd_readsFrames 2 := ⟨(jw_1 (List.mem_of_getElem? (i := 4) rfl) rfl), (jw_2 (List.mem_of_getElem? (i := 57) rfl) rfl), ⟨by decide, by decide, by decide +kernel⟩, by decide⟩
theorem cm_Rd_readsHead : jj_cm Y0 m_Rd_readsHead 2 := ⟨(jw_1 (List.mem_of_getElem? (i := 4) rfl) rfl), (jw_2 (List.mem_of_getElem? (i := 32) rfl) rfl), ⟨by decide, by decide, by decide +kernel⟩, by decide⟩
theorem cm_Rd_readsInstruction : jj_cm Y0 m_Rd_readsInstruction 3 := ⟨(jw_1 (List.mem_of_getElem? (i := 4) rfl) rfl), (jw_2 (List.mem_of_getElem? (i := 40) rfl) rfl), ⟨by decide, by decide, by decide +kernel⟩, by decide⟩
theorem cm_Rd_readsMethod : jj_cm Y0 m_Rd_readsMethod 2 := ⟨(jw_1 (List.mem_of_getElem? (i := 4) rfl) rfl), (jw_2 (List.mem_of_getElem? (i := 28) rfl) rfl), ⟨by decide, by decide, by decide +kernel⟩, by decide⟩
theorem cm_Rd_targetsBegin : jj_cm Y0 m_Rd_targetsBegin 2 := ⟨(jw_1 (List.mem_of_getElem? (i := 4) rfl) rfl), (jw_2 (List.mem_of_getElem? (i := 61) rfl) rfl), ⟨by decide, by decide, by decide +kernel⟩, by decide⟩
theorem cm_St_allows : jj_cm Y0 m_St_allows 3 := ⟨(jw_1 (List.mem_of_getElem? (i := 6) rfl) rfl), (jw_3 (List.mem_of_getElem? (i := 53) rfl) rfl), ⟨by decide, by decide, by decide +kernel⟩, by decide⟩
theorem cm_St_exchange : jj_cm Y0 m_St_exchange 0 := ⟨(jw_1 (List.mem_of_getElem? (i := 6) rfl) rfl), (jw_3 (List.mem_of_getElem? (i := 141) rfl) rfl), ⟨by decide, by decide, by decide +kernel⟩, by decide⟩
theorem cm_St_hasPlace : jj_cm Y0 m_St_hasPlace 3 := ⟨(jw_1 (List.mem_of_getElem? (i := 6) rfl) rfl), (jw_3 (List.mem_of_getElem? (i := 82) rfl) rfl), ⟨by decide, by decide, by decide +kernel⟩, by decide⟩
theorem cm_St_hasTaken : jj_cm Y0 m_St_hasTaken 4 := ⟨(jw_1 (List.mem_of_getElem? (i := 6) rfl) rfl), (jw_3 (List.mem_of_getElem? (i := 69) rfl) rfl), ⟨by decide, by decide, by decide +kernel⟩, by decide⟩
theorem cm_St_kindBelow : jj_cm Y0 m_St_kindBelow 1 := ⟨(jw_1 (List.mem_of_getElem? (i := 6) rfl) rfl), (jw_3 (List.mem_of_getElem? (i := 133) rfl) rfl), ⟨by decide, by decide, by decide +kernel⟩, by decide⟩
theorem cm_St_kindTaken : jj_cm Y0 m_St_kindTaken 0 := ⟨(jw_1 (List.mem_of_getElem? (i := 6) rfl) rfl), (jw_3 (List.mem_of_getElem? (i := 125) rfl) rfl), ⟨by decide, by decide, by decide +kernel⟩, by decide⟩
theorem cm_St_makeEmpty : jj_cm Y0 m_St_makeEmpty 0 := ⟨(jw_1 (List.mem_of_getElem? (i := 6) rfl) rfl), (jw_3 (List.mem_of_getElem? (i := 7) rfl) rfl), ⟨by decide, by decide, by decide +kernel⟩, by decide⟩
theorem cm_St_moveToPlace : jj_cm Y0 m_St_moveToPlace 1 := ⟨(jw_1 (List.mem_of_getElem? (i := 6) rfl) rfl), (jw_3 (List.mem_of_getElem? (i := 117) rfl) rfl), ⟨by decide, by decide, by decide +kernel⟩, by decide⟩
theorem cm_St_put : jj_cm Y0 m_St_put 2 := ⟨(jw_1 (List.mem_of_getElem? (i := 6) rfl) rfl), (jw_3 (List.mem_of_getElem? (i := 49) rfl) rfl), ⟨by decide, by decide, by decide +kernel⟩, by decide⟩
theorem cm_St_putAgain : jj_cm Y0 m_St_putAgain 0 := ⟨(jw_1 (List.mem_of_getElem? (i := 6) rfl) rfl), (jw_3 (List.mem_of_getElem? (i := 129) rfl) rfl), ⟨by decide, by decide, by decide +kernel⟩, by decide⟩
theorem cm_St_putPlace : jj_cm Y0 m_St_putPlace 1 := ⟨(jw_1 (List.mem_of_getElem? (i := 6) rfl) rfl), (jw_3 (List.mem_of_getElem? (i := 112) rfl) rfl), ⟨by decide, by decide, by decide +kernel⟩, by decide⟩
theorem cm_St_setPlace : jj_cm Y0 m_St_setPlace 3 := ⟨(jw_1 (List.mem_of_getElem? (i := 6) rfl) rfl), (jw_3 (List.mem_of_getElem? (i := 11) rfl) rfl), ⟨by decide, by decide, by decide +kernel⟩, by decide⟩
theorem cm_St_take : jj_cm Y0 m_St_take 0 := ⟨(jw_1 (List.mem_of_getElem? (i := 6) rfl) rfl), (jw_3 (List.mem_of_getElem? (i := 121) rfl) rfl), ⟨by decide, by decide, by decide +kernel⟩, by decide⟩
theorem cm_St_valueBelow : jj_cm Y0 m_St_valueBelow 1 := ⟨(jw_1 (List.mem_of_getElem? (i := 6) rfl) rfl), (jw_3 (List.mem_of_getElem? (i := 137) rfl) rfl), ⟨by decide, by decide, by decide +kernel⟩, by decide⟩
theorem cm_Mo_argue : jj_cm Y0 m_Mo_argue 2 := ⟨(jw_1 (List.mem_of_getElem? (i := 8) rfl) rfl), (jw_5 (List.mem_of_getElem? (i := 56) rfl) rfl), ⟨by decide, by decide, by decide +kernel⟩, by decide⟩
theorem cm_Mo_arrive : jj_cm Y0 m_Mo_arrive 1 := ⟨(jw_1 (List.mem_of_getElem? (i := 8) rfl) rfl), (jw_4 (List.mem_of_getElem? (i := 231) rfl) rfl), ⟨by decide, by decide, by decide +kernel⟩, by decide⟩
theorem cm_Mo_become : jj_cm Y0 m_Mo_become 1 := ⟨(jw_1 (List.mem_of_getElem? (i := 8) rfl) rfl), (jw_5 (List.mem_of_getElem? (i := 3) rfl) rfl), ⟨by decide, by decide, by decide +kernel⟩, by decide⟩
theorem cm_Mo_begin : jj_cm Y0 m_Mo_begin 1 := ⟨(jw_1 (List.mem_of_getElem? (i := 8) rfl) rfl), (jw_4 (List.mem_of_getElem? (i := 235) rfl) rfl), ⟨by decide, by decide, by decide +kernel⟩, by decide⟩
theorem cm_Mo_begins : jj_cm Y0 m_Mo_begins 3 := ⟨(jw_1 (List.mem_of_getElem? (i := 8) rfl) rfl), (jw_4 (List.mem_of_getElem? (i := 175) rfl) rfl), ⟨by decide, by decide, by decide +kernel⟩, by decide⟩
theorem cm_Mo_bytes : jj_cm Y0 m_Mo_bytes 1 := ⟨(jw_1 (List.mem_of_getElem? (i := 8) rfl) rfl), (jw_4 (List.mem_of_getElem? (i := 162) rfl) rfl), ⟨by decide, by decide, by decide +kernel⟩, by decide⟩
theorem cm_Mo_can : jj_cm Y0 m_Mo_can 2 := ⟨(jw_1 (List.mem_of_getElem? (i := 8) rfl) rfl), (jw_5 (List.mem_of_getElem? (i := 44) rfl) rfl), ⟨by decide, by decide, by decide +kernel⟩, by decide⟩
theorem cm_Mo_codeOf : jj_cm Y0 m_Mo_codeOf 1 := ⟨(jw_1 (List.mem_of_getElem? (i := 8) rfl) rfl), (jw_4 (List.mem_of_getElem? (i := 215) rfl) rfl), ⟨by decide, by decide, by decide +kernel⟩, by decide⟩
theorem cm_Mo_constant : jj_cm Y0 m_Mo_constant 1 := ⟨(jw_1 (List.mem_of_getElem? (i := 8) rfl) rfl), (jw_5 (List.mem_of_getElem? (i := 95) rfl) rfl), ⟨by decide, by decide, by decide +kernel⟩, by decide⟩
theorem cm_Mo_enter : jj_cm Y0 m_Mo_enter 2 := ⟨(jw_1 (List.mem_of_getElem? (i := 8) rfl) rfl), (jw_5 (List.mem_of_getElem? (i := 72) rfl) rfl), ⟨by decide, by decide, by decide +kernel⟩, by decide⟩
theorem cm_Mo_fits : jj_cm Y0 m_Mo_fits 1 := ⟨(jw_1 (List.mem_of_getElem? (i := 8) rfl) rfl), (jw_5 (List.mem_of_getElem? (i := 37) rfl) rfl), ⟨by decide, by decide, by decide +kernel⟩, by decide⟩
theorem cm_Mo_frame : jj_cm Y0 m_Mo_frame 2 := ⟨(jw_1 (List.mem_of_getElem? (i := 8) rfl) rfl), (jw_4 (List.mem_of_getElem? (i := 239) rfl) rfl), ⟨by decide, by decide, by decide +kernel⟩, by decide⟩
theorem cm_Mo_gives : jj_cm Y0 m_Mo_gives 1 := ⟨(jw_1 (List.mem_of_getElem? (i := 8) rfl) rfl), (jw_5 (List.mem_of_getElem? (i := 22) rfl) rfl), ⟨by decide, by decide, by decide +kernel⟩, by decide⟩
theorem cm_Mo_goes : jj_cm Y0 m_Mo_goes 2 := ⟨(jw_1 (List.mem_of_getElem? (i := 8) rfl) rfl), (jw_5 (List.mem_of_getElem? (i := 80) rfl) rfl), ⟨by decide, by decide, by decide +kernel⟩, by decide⟩
theorem cm_Mo_good : jj_cm Y0 m_Mo_good 2 := ⟨(jw_1 (List.mem_of_getElem? (i := 8) rfl) rfl), (jw_5 (List.mem_of_getElem? (i := 40) rfl) rfl), ⟨by decide, by decide, by decide +kernel⟩, by decide⟩
theorem cm_Mo_jump : jj_cm Y0 m_Mo_jump 2 := ⟨(jw_1 (List.mem_of_getElem? (i := 8) rfl) rfl), (jw_4 (List.mem_of_getElem? (i := 182) rfl) rfl), ⟨by decide, by decide, by decide +kernel⟩, by decide⟩
theorem cm_Mo_jumps : jj_cm Y0 m_Mo_jumps 1 := ⟨(jw_1 (List.mem_of_getElem? (i := 8) rfl) rfl), (jw_4 (List.mem_of_getElem? (i := 165) rfl) rfl), ⟨by decide, by decide, by decide +kernel⟩, by decide⟩
theorem cm_Mo_lackOfMethod : jj_cm Y0 m_Mo_lackOfMethod 1 := ⟨(jw_1 (List.mem_of_getElem? (i := 8) rfl) rfl), (jw_4 (List.mem_of_getElem? (i := 203) rfl) rfl), ⟨by decide, by decide, by decide +kernel⟩, by decide⟩
theorem cm_Mo_leave : jj_cm Y0 m_Mo_leave 3 := ⟨(jw_1 (List.mem_of_getElem? (i := 8) rfl) rfl), (jw_5 (List.mem_of_getElem? (i := 76) rfl) rfl), ⟨by decide, by decide, by decide +kernel⟩, by decide⟩
theorem cm_Mo_lengthOf : jj_cm Y0 m_Mo_lengthOf 1 := ⟨(jw_1 (List.mem_of_getElem? (i := 8) rfl) rfl), (jw_4 (List.mem_of_getElem? (i := 219) rfl) rfl), ⟨by decide, by decide, by decide +kernel⟩, by decide⟩
theorem cm_Mo_makeRow : jj_cm Y0 m_Mo_makeRow 1 := ⟨(jw_1 (List.mem_of_getElem? (i := 8) rfl) rfl), (jw_5 (List.mem_of_getElem? (i := 60) rfl) rfl), ⟨by decide, by decide, by decide +kernel⟩, by decide⟩
theorem cm_Mo_methodAt : jj_cm Y0 m_Mo_methodAt 1 := ⟨(jw_1 (List.mem_of_getElem? (i := 8) rfl) rfl), (jw_4 (List.mem_of_getElem? (i := 211) rfl) rfl), ⟨by decide, by decide, by decide +kernel⟩, by decide⟩
theorem cm_Mo_methodCount : jj_cm Y0 m_Mo_methodCount 0 := ⟨(jw_1 (List.mem_of_getElem? (i := 8) rfl) rfl), (jw_4 (List.mem_of_getElem? (i := 195) rfl) rfl), ⟨by decide, by decide, by decide +kernel⟩, by decide⟩
theorem cm_Mo_names : jj_cm Y0 m_Mo_names 1 := ⟨(jw_1 (List.mem_of_getElem? (i := 8) rfl) rfl), (jw_4 (List.mem_of_getElem? (i := 168) rfl) rfl), ⟨by decide, by decide, by decide +kernel⟩, by decide⟩
theorem cm_Mo_need : jj_cm Y0 m_Mo_need 2 := ⟨(jw_1 (List.mem_of_getElem? (i := 8) rfl) rfl), (jw_5 (List.mem_of_getElem? (i := 18) rfl) rfl), ⟨by decide, by decide, by decide +kernel⟩, by decide⟩
theorem cm_Mo_needs : jj_cm Y0 m_Mo_needs 2 := ⟨(jw_1 (List.mem_of_getElem? (i := 8) rfl) rfl), (jw_5 (List.mem_of_getElem? (i := 15) rfl) rfl), ⟨by decide, by decide, by decide +kernel⟩, by decide⟩
theorem cm_Mo_next : jj_cm Y0 m_Mo_next 2 := ⟨(jw_1 (List.mem_of_getElem? (i := 8) rfl) rfl), (jw_4 (List.mem_of_getElem? (i := 151) rfl) rfl), ⟨by decide, by decide, by decide +kernel⟩, by decide⟩
theorem cm_Mo_open : jj_cm Y0 m_Mo_open 1 := ⟨(jw_1 (List.mem_of_getElem? (i := 8) rfl) rfl), (jw_4 (List.mem_of_getElem? (i := 207) rfl) rfl), ⟨by decide, by decide, by decide +kernel⟩, by decide⟩
theorem cm_Mo_pass : jj_cm Y0 m_Mo_pass 1 := ⟨(jw_1 (List.mem_of_getElem? (i := 8) rfl) rfl), (jw_5 (List.mem_of_getElem? (i := 7) rfl) rfl), ⟨by decide, by decide, by decide +kernel⟩, by decide⟩
theorem cm_Mo_passes : jj_cm Y0 m_Mo_passes 1 := ⟨(jw_1 (List.mem_of_getElem? (i := 8) rfl) rfl), (jw_4 (List.mem_of_getElem? (i := 227) rfl) rfl), ⟨by decide, by decide, by decide +kernel⟩, by decide⟩
theorem cm_Mo_placesOf : jj_cm Y0 m_Mo_placesOf 1 := ⟨(jw_1 (List.mem_of_getElem? (i := 8) rfl) rfl), (jw_4 (List.mem_of_getElem? (i := 223) rfl) rfl), ⟨by decide, by decide, by decide +kernel⟩, by decide⟩
theorem cm_Mo_push : jj_cm Y0 m_Mo_push 3 := ⟨(jw_1 (List.mem_of_getElem? (i := 8) rfl) rfl), (jw_5 (List.mem_of_getElem? (i := 33) rfl) rfl), ⟨by decide, by decide, by decide +kernel⟩, by decide⟩
theorem cm_Mo_puts : jj_cm Y0 m_Mo_puts 1 := ⟨(jw_1 (List.mem_of_getElem? (i := 8) rfl) rfl), (jw_5 (List.mem_of_getElem? (i := 29) rfl) rfl), ⟨by decide, by decide, by decide +kernel⟩, by decide⟩
theorem cm_Mo_readInstruction : jj_cm Y0 m_Mo_readInstruction 4 := ⟨(jw_1 (List.mem_of_getElem? (i := 8) rfl) rfl), (jw_4 (List.mem_of_getElem? (i := 159) rfl) rfl), ⟨by decide, by decide, by decide +kernel⟩, by decide⟩
theorem cm_Mo_readMethod : jj_cm Y0 m_Mo_readMethod 2 := ⟨(jw_1 (List.mem_of_getElem? (i := 8) rfl) rfl), (jw_4 (List.mem_of_getElem? (i := 155) rfl) rfl), ⟨by decide, by decide, by decide +kernel⟩, by decide⟩
theorem cm_Mo_returns : jj_cm Y0 m_Mo_returns 1 := ⟨(jw_1 (List.mem_of_getElem? (i := 8) rfl) rfl), (jw_4 (List.mem_of_getElem? (i := 171) rfl) rfl), ⟨by decide, by decide, by decide +kernel⟩, by decide⟩
theorem cm_Mo_returnsOf : jj_cm Y0 m_Mo_returnsOf 1 := ⟨(jw_1 (List.mem_of_getElem? (i := 8) rfl) rfl), (jw_5 (List.mem_of_getElem? (i := 26) rfl) rfl), ⟨by decide, by decide, by decide +kernel⟩, by decide⟩
theorem cm_Mo_skip : jj_cm Y0 m_Mo_skip 3 := ⟨(jw_1 (List.mem_of_getElem? (i := 8) rfl) rfl), (jw_4 (List.mem_of_getElem? (i := 147) rfl) rfl), ⟨by decide, by decide, by decide +kernel⟩, by decide⟩
theorem cm_Mo_small : jj_cm Y0 m_Mo_small 1 := ⟨(jw_1 (List.mem_of_getElem? (i := 8) rfl) rfl), (jw_5 (List.mem_of_getElem? (i := 87) rfl) rfl), ⟨by decide, by decide, by decide +kernel⟩, by decide⟩
theorem cm_Mo_step : jj_cm Y0 m_Mo_step 0 := ⟨(jw_1 (List.mem_of_getElem? (i := 8) rfl) rfl), (jw_5 (List.mem_of_getElem? (i := 64) rfl) rfl), ⟨by decide, by decide, by decide +kernel⟩, by decide⟩
theorem cm_Mo_takes : jj_cm Y0 m_Mo_takes 1 := ⟨(jw_1 (List.mem_of_getElem? (i := 8) rfl) rfl), (jw_5 (List.mem_of_getElem? (i := 11) rfl) rfl), ⟨by decide, by decide, by decide +kernel⟩, by decide⟩
theorem cm_Mo_target : jj_cm Y0 m_Mo_target 1 := ⟨(jw_1 (List.mem_of_getElem? (i := 8) rfl) rfl), (jw_5 (List.mem_of_getElem? (i := 48) rfl) rfl), ⟨by decide, by decide, by decide +kernel⟩, by decide⟩
theorem cm_Mo_targetsFit : jj_cm Y0 m_Mo_targetsFit 2 := ⟨(jw_1 (List.mem_of_getElem? (i := 8) rfl) rfl), (jw_4 (List.mem_of_getElem? (i := 179) rfl) rfl), ⟨by decide, by decide, by decide +kernel⟩, by decide⟩
theorem cm_Mo_value : jj_cm Y0 m_Mo_value 4 := ⟨(jw_1 (List.mem_of_getElem? (i := 8) rfl) rfl), (jw_5 (List.mem_of_getElem? (i := 91) rfl) rfl), ⟨by decide, by decide, by decide +kernel⟩, by decide⟩
theorem cm_Mo_within : jj_cm Y0 m_Mo_within 3 := ⟨(jw_1 (List.mem_of_getElem? (i := 8) rfl) rfl), (jw_4 (List.mem_of_getElem? (i := 123) rfl) rfl), ⟨by decide, by decide, by decide +kernel⟩, by decide⟩
theorem cm_Mo_work : jj_cm Y0 m_Mo_work 4 := ⟨(jw_1 (List.mem_of_getElem? (i := 8) rfl) rfl), (jw_5 (List.mem_of_getElem? (i := 84) rfl) rfl), ⟨by decide, by decide, by decide +kernel⟩, by decide⟩
theorem cm_Mo_wrong : jj_cm Y0 m_Mo_wrong 2 := ⟨(jw_1 (List.mem_of_getElem? (i := 8) rfl) rfl), (jw_5 (List.mem_of_getElem? (i := 68) rfl) rfl), ⟨by decide, by decide, by decide +kernel⟩, by decide⟩
theorem ck_Ck_114 : jj_cs Y0 "VerifiedCode$Checker" 114 m_In_hasTarget 1 := ⟨cm_In_hasTarget, (jw_3 (List.mem_of_getElem? (i := 153) rfl) rfl), (jw_2 (List.mem_of_getElem? (i := 45) rfl) rfl)⟩
theorem ck_Ck_63 : jj_cs Y0 "VerifiedCode$Checker" 63 m_In_isReturn 1 := ⟨cm_In_isReturn, (jw_3 (List.mem_of_getElem? (i := 155) rfl) rfl), (jw_3 (List.mem_of_getElem? (i := 92) rfl) rfl)⟩
theorem ck_Ck_67 : jj_cs Y0 "VerifiedCode$Checker" 67 m_In_length 1 := ⟨cm_In_length, (jw_3 (List.mem_of_getElem? (i := 156) rfl) rfl), (jw_2 (List.mem_of_getElem? (i := 42) rfl) rfl)⟩
theorem ck_In_11 : jj_cs Y0 "VerifiedCode$Instruction" 11 m_In_hasTarget 1 := ⟨cm_In_hasTarget, (jw_2 (List.mem_of_getElem? (i := 44) rfl) rfl), (jw_2 (List.mem_of_getElem? (i := 45) rfl) rfl)⟩
theorem ck_Ma_102 : jj_cs Y0 "VerifiedCode$Machine" 102 m_In_length 1 := ⟨cm_In_length, (jw_3 (List.mem_of_getElem? (i := 218) rfl) rfl), (jw_2 (List.mem_of_getElem? (i := 42) rfl) rfl)⟩
theorem ck_Ma_112 : jj_cs Y0 "VerifiedCode$Machine" 112 m_In_hasTarget 1 := ⟨cm_In_hasTarget, (jw_3 (List.mem_of_getElem? (i := 224) rfl) rfl), (jw_2 (List.mem_of_getElem? (i := 45) rfl) rfl)⟩
theorem ck_Ma_93 : jj_cs Y0 "VerifiedCode$Machine" 93 m_In_isReturn 1 := ⟨cm_In_isReturn, (jw_3 (List.mem_of_getElem? (i := 206) rfl) rfl), (jw_3 (List.mem_of_getElem? (i := 92) rfl) rfl)⟩
theorem ck_Pr_68 : jj_cs Y0 "VerifiedCode$Program" 68 m_In_takes 1 := ⟨cm_In_takes, (jw_3 (List.mem_of_getElem? (i := 63) rfl) rfl), (jw_3 (List.mem_of_getElem? (i := 64) rfl) rfl)⟩
theorem ck_Pr_75 : jj_cs Y0 "VerifiedCode$Program" 75 m_In_typeTaken 2 := ⟨cm_In_typeTaken, (jw_3 (List.mem_of_getElem? (i := 75) rfl) rfl), (jw_3 (List.mem_of_getElem? (i := 76) rfl) rfl)⟩
theorem ck_Pr_82 : jj_cs Y0 "VerifiedCode$Program" 82 m_In_puts 1 := ⟨cm_In_puts, (jw_3 (List.mem_of_getElem? (i := 101) rfl) rfl), (jw_3 (List.mem_of_getElem? (i := 102) rfl) rfl)⟩
theorem ck_Rd_102 : jj_cs Y0 "VerifiedCode$Reader" 102 m_In_length 1 := ⟨cm_In_length, (jw_2 (List.mem_of_getElem? (i := 41) rfl) rfl), (jw_2 (List.mem_of_getElem? (i := 42) rfl) rfl)⟩
theorem ck_Rd_112 : jj_cs Y0 "VerifiedCode$Reader" 112 m_In_hasPlace 1 := ⟨cm_In_hasPlace, (jw_2 (List.mem_of_getElem? (i := 51) rfl) rfl), (jw_2 (List.mem_of_getElem? (i := 52) rfl) rfl)⟩
theorem ck_Rd_126 : jj_cs Y0 "VerifiedCode$Reader" 126 m_In_hasTarget 1 := ⟨cm_In_hasTarget, (jw_2 (List.mem_of_getElem? (i := 66) rfl) rfl), (jw_2 (List.mem_of_getElem? (i := 45) rfl) rfl)⟩
theorem ck_St_100 : jj_cs Y0 "VerifiedCode$State" 100 m_In_typeOfPlace 1 := ⟨cm_In_typeOfPlace, (jw_3 (List.mem_of_getElem? (i := 88) rfl) rfl), (jw_3 (List.mem_of_getElem? (i := 89) rfl) rfl)⟩
theorem ck_St_67 : jj_cs Y0 "VerifiedCode$State" 67 m_In_isReturn 1 := ⟨cm_In_isReturn, (jw_3 (List.mem_of_getElem? (i := 91) rfl) rfl), (jw_3 (List.mem_of_getElem? (i := 92) rfl) rfl)⟩
theorem ck_St_78 : jj_cs Y0 "VerifiedCode$State" 78 m_In_typeOfReturn 1 := ⟨cm_In_typeOfReturn, (jw_3 (List.mem_of_getElem? (i := 94) rfl) rfl), (jw_3 (List.mem_of_getElem? (i := 95) rfl) rfl)⟩
theorem ck_St_95 : jj_cs Y0 "VerifiedCode$State" 95 m_In_hasPlace 1 := ⟨cm_In_hasPlace, (jw_3 (List.mem_of_getElem? (i := 83) rfl) rfl), (jw_2 (List.mem_of_getElem? (i := 52) rfl) rfl)⟩
theorem ck_Mo_142 : jj_cs Y0 "VerifiedCodeModel" 142 m_Mo_need 2 := ⟨cm_Mo_need, (jw_5 (List.mem_of_getElem? (i := 16) rfl) rfl), (jw_5 (List.mem_of_getElem? (i := 17) rfl) rfl)⟩
theorem ck_Mo_151 : jj_cs Y0 "VerifiedCodeModel" 151 m_Mo_puts 1 := ⟨cm_Mo_puts, (jw_5 (List.mem_of_getElem? (i := 27) rfl) rfl), (jw_5 (List.mem_of_getElem? (i := 28) rfl) rfl)⟩
theorem ck_Mo_160 : jj_cs Y0 "VerifiedCodeModel" 160 m_Mo_good 2 := ⟨cm_Mo_good, (jw_5 (List.mem_of_getElem? (i := 38) rfl) rfl), (jw_5 (List.mem_of_getElem? (i := 39) rfl) rfl)⟩
theorem ck_Mo_240 : jj_cs Y0 "VerifiedCodeModel" 240 m_Mo_small 1 := ⟨cm_Mo_small, (jw_5 (List.mem_of_getElem? (i := 85) rfl) rfl), (jw_5 (List.mem_of_getElem? (i := 86) rfl) rfl)⟩
theorem ck_Mo_47 : jj_cs Y0 "VerifiedCodeModel" 47 m_Mo_within 3 := ⟨cm_Mo_within, (jw_4 (List.mem_of_getElem? (i := 121) rfl) rfl), (jw_4 (List.mem_of_getElem? (i := 122) rfl) rfl)⟩
theorem ck_Mo_51 : jj_cs Y0 "VerifiedCodeModel" 51 m_Mo_jumps 1 := ⟨cm_Mo_jumps, (jw_4 (List.mem_of_getElem? (i := 163) rfl) rfl), (jw_4 (List.mem_of_getElem? (i := 164) rfl) rfl)⟩
theorem ck_Mo_55 : jj_cs Y0 "VerifiedCodeModel" 55 m_Mo_names 1 := ⟨cm_Mo_names, (jw_4 (List.mem_of_getElem? (i := 166) rfl) rfl), (jw_4 (List.mem_of_getElem? (i := 167) rfl) rfl)⟩
theorem ck_Mo_58 : jj_cs Y0 "VerifiedCodeModel" 58 m_Mo_returns 1 := ⟨cm_Mo_returns, (jw_4 (List.mem_of_getElem? (i := 169) rfl) rfl), (jw_4 (List.mem_of_getElem? (i := 170) rfl) rfl)⟩
theorem ck_Mo_75 : jj_cs Y0 "VerifiedCodeModel" 75 m_Mo_bytes 1 := ⟨cm_Mo_bytes, (jw_4 (List.mem_of_getElem? (i := 160) rfl) rfl), (jw_4 (List.mem_of_getElem? (i := 161) rfl) rfl)⟩
theorem ck_Mo_84 : jj_cs Y0 "VerifiedCodeModel" 84 m_Mo_jump 2 := ⟨cm_Mo_jump, (jw_4 (List.mem_of_getElem? (i := 180) rfl) rfl), (jw_4 (List.mem_of_getElem? (i := 181) rfl) rfl)⟩
theorem ck_Ck_107 : jj_cn Y0 "VerifiedCode$Checker" 107 m_VC_isGoodFor 2 := ⟨cm_VC_isGoodFor, ⟨_, jw_n0⟩, (jw_3 (List.mem_of_getElem? (i := 40) rfl) rfl)⟩
theorem ck_St_91 : jj_cn Y0 "VerifiedCode$State" 91 m_VC_isGoodFor 2 := ⟨cm_VC_isGoodFor, ⟨_, jw_n1⟩, (jw_3 (List.mem_of_getElem? (i := 40) rfl) rfl)⟩
theorem ck_Ck_117 : jj_cv Y0 "VerifiedCode$Checker" 117 m_Pr_target 2 := ⟨cm_Pr_target, (jw_3 (List.mem_of_getElem? (i := 154) rfl) rfl), (jw_2 (List.mem_of_getElem? (i := 68) rfl) rfl), (jw_2 (List.mem_of_getElem? (i := 69) rfl) rfl)⟩
theorem ck_Ck_120 : jj_cv Y0 "VerifiedCode$Checker" 120 m_Pr_operand 2 := ⟨cm_Pr_operand, (jw_3 (List.mem_of_getElem? (i := 108) rfl) rfl), (jw_3 (List.mem_of_getElem? (i := 85) rfl) rfl), (jw_3 (List.mem_of_getElem? (i := 86) rfl) rfl)⟩
theorem ck_Ck_123 : jj_cv Y0 "VerifiedCode$Checker" 123 m_St_putPlace 1 := ⟨cm_St_putPlace, (jw_3 (List.mem_of_getElem? (i := 109) rfl) rfl), (jw_3 (List.mem_of_getElem? (i := 110) rfl) rfl), (jw_3 (List.mem_of_getElem? (i := 111) rfl) rfl)⟩
theorem ck_Ck_127 : jj_cv Y0 "VerifiedCode$Checker" 127 m_St_moveToPlace 1 := ⟨cm_St_moveToPlace, (jw_3 (List.mem_of_getElem? (i := 114) rfl) rfl), (jw_3 (List.mem_of_getElem? (i := 115) rfl) rfl), (jw_3 (List.mem_of_getElem? (i := 116) rfl) rfl)⟩
theorem ck_Ck_130 : jj_cv Y0 "VerifiedCode$Checker" 130 m_St_putAgain 0 := ⟨cm_St_putAgain, (jw_3 (List.mem_of_getElem? (i := 126) rfl) rfl), (jw_3 (List.mem_of_getElem? (i := 127) rfl) rfl), (jw_3 (List.mem_of_getElem? (i := 128) rfl) rfl)⟩
theorem ck_Ck_133 : jj_cv Y0 "VerifiedCode$Checker" 133 m_St_exchange 0 := ⟨cm_St_exchange, (jw_3 (List.mem_of_getElem? (i := 138) rfl) rfl), (jw_3 (List.mem_of_getElem? (i := 139) rfl) rfl), (jw_3 (List.mem_of_getElem? (i := 140) rfl) rfl)⟩
theorem ck_Ck_136 : jj_cv Y0 "VerifiedCode$Checker" 136 m_Pr_takenCount 2 := ⟨cm_Pr_takenCount, (jw_3 (List.mem_of_getElem? (i := 142) rfl) rfl), (jw_3 (List.mem_of_getElem? (i := 56) rfl) rfl), (jw_3 (List.mem_of_getElem? (i := 57) rfl) rfl)⟩
theorem ck_Ck_139 : jj_cv Y0 "VerifiedCode$Checker" 139 m_Pr_putCount 2 := ⟨cm_Pr_putCount, (jw_3 (List.mem_of_getElem? (i := 143) rfl) rfl), (jw_3 (List.mem_of_getElem? (i := 98) rfl) rfl), (jw_3 (List.mem_of_getElem? (i := 99) rfl) rfl)⟩
theorem ck_Ck_142 : jj_cv Y0 "VerifiedCode$Checker" 142 m_Ck_typePut 3 := ⟨cm_Ck_typePut, (jw_3 (List.mem_of_getElem? (i := 144) rfl) rfl), (jw_3 (List.mem_of_getElem? (i := 146) rfl) rfl), (jw_s (List.mem_of_getElem? (i := 18) rfl))⟩
theorem ck_Ck_146 : jj_cv Y0 "VerifiedCode$Checker" 146 m_Pr_called 2 := ⟨cm_Pr_called, (jw_3 (List.mem_of_getElem? (i := 148) rfl) rfl), (jw_3 (List.mem_of_getElem? (i := 60) rfl) rfl), (jw_3 (List.mem_of_getElem? (i := 61) rfl) rfl)⟩
theorem ck_Ck_18 : jj_cv Y0 "VerifiedCode$Checker" 18 m_St_makeEmpty 0 := ⟨cm_St_makeEmpty, (jw_3 (List.mem_of_getElem? (i := 4) rfl) rfl), (jw_3 (List.mem_of_getElem? (i := 5) rfl) rfl), (jw_3 (List.mem_of_getElem? (i := 6) rfl) rfl)⟩
theorem ck_Ck_27 : jj_cv Y0 "VerifiedCode$Checker" 27 m_Pr_parameterType 2 := ⟨cm_Pr_parameterType, (jw_3 (List.mem_of_getElem? (i := 12) rfl) rfl), (jw_3 (List.mem_of_getElem? (i := 13) rfl) rfl), (jw_3 (List.mem_of_getElem? (i := 14) rfl) rfl)⟩
theorem ck_Ck_33 : jj_cv Y0 "VerifiedCode$Checker" 33 m_St_setPlace 3 := ⟨cm_St_setPlace, (jw_3 (List.mem_of_getElem? (i := 16) rfl) rfl), (jw_3 (List.mem_of_getElem? (i := 9) rfl) rfl), (jw_3 (List.mem_of_getElem? (i := 10) rfl) rfl)⟩
theorem ck_Ck_44 : jj_cv Y0 "VerifiedCode$Checker" 44 m_Pr_code 2 := ⟨cm_Pr_code, (jw_3 (List.mem_of_getElem? (i := 17) rfl) rfl), (jw_2 (List.mem_of_getElem? (i := 63) rfl) rfl), (jw_2 (List.mem_of_getElem? (i := 64) rfl) rfl)⟩
theorem ck_Ck_47 : jj_cv Y0 "VerifiedCode$Checker" 47 m_Ck_entersFrame 3 := ⟨cm_Ck_entersFrame, (jw_3 (List.mem_of_getElem? (i := 18) rfl) rfl), (jw_3 (List.mem_of_getElem? (i := 20) rfl) rfl), (jw_s (List.mem_of_getElem? (i := 13) rfl))⟩
theorem ck_Ck_51 : jj_cv Y0 "VerifiedCode$Checker" 51 m_St_allows 3 := ⟨cm_St_allows, (jw_3 (List.mem_of_getElem? (i := 50) rfl) rfl), (jw_3 (List.mem_of_getElem? (i := 51) rfl) rfl), (jw_3 (List.mem_of_getElem? (i := 52) rfl) rfl)⟩
theorem ck_Ck_54 : jj_cv Y0 "VerifiedCode$Checker" 54 m_Ck_change 3 := ⟨cm_Ck_change, (jw_3 (List.mem_of_getElem? (i := 104) rfl) rfl), (jw_3 (List.mem_of_getElem? (i := 106) rfl) rfl), (jw_s (List.mem_of_getElem? (i := 17) rfl))⟩
theorem ck_Ck_58 : jj_cv Y0 "VerifiedCode$Checker" 58 m_Ck_mayGoToTarget 3 := ⟨cm_Ck_mayGoToTarget, (jw_3 (List.mem_of_getElem? (i := 149) rfl) rfl), (jw_3 (List.mem_of_getElem? (i := 151) rfl) rfl), (jw_s (List.mem_of_getElem? (i := 19) rfl))⟩
theorem ck_Ck_77 : jj_cv Y0 "VerifiedCode$Checker" 77 m_Pr_frameAt 2 := ⟨cm_Pr_frameAt, (jw_3 (List.mem_of_getElem? (i := 22) rfl) rfl), (jw_3 (List.mem_of_getElem? (i := 23) rfl) rfl), (jw_3 (List.mem_of_getElem? (i := 24) rfl) rfl)⟩
theorem ck_Ck_80 : jj_cv Y0 "VerifiedCode$Checker" 80 m_Ck_isGoodForFrame 3 := ⟨cm_Ck_isGoodForFrame, (jw_3 (List.mem_of_getElem? (i := 27) rfl) rfl), (jw_3 (List.mem_of_getElem? (i := 29) rfl) rfl), (jw_s (List.mem_of_getElem? (i := 14) rfl))⟩
theorem ck_Ck_86 : jj_cv Y0 "VerifiedCode$Checker" 86 m_Pr_framePlace 3 := ⟨cm_Pr_framePlace, (jw_3 (List.mem_of_getElem? (i := 35) rfl) rfl), (jw_3 (List.mem_of_getElem? (i := 36) rfl) rfl), (jw_3 (List.mem_of_getElem? (i := 37) rfl) rfl)⟩
theorem ck_Ck_93 : jj_cv Y0 "VerifiedCode$Checker" 93 m_Pr_frameHeight 2 := ⟨cm_Pr_frameHeight, (jw_3 (List.mem_of_getElem? (i := 31) rfl) rfl), (jw_3 (List.mem_of_getElem? (i := 32) rfl) rfl), (jw_3 (List.mem_of_getElem? (i := 33) rfl) rfl)⟩
theorem ck_Ck_96 : jj_cv Y0 "VerifiedCode$Checker" 96 m_Pr_frameValue 3 := ⟨cm_Pr_frameValue, (jw_3 (List.mem_of_getElem? (i := 42) rfl) rfl), (jw_3 (List.mem_of_getElem? (i := 43) rfl) rfl), (jw_3 (List.mem_of_getElem? (i := 44) rfl) rfl)⟩
theorem ck_Ck_99 : jj_cv Y0 "VerifiedCode$Checker" 99 m_St_put 2 := ⟨cm_St_put, (jw_3 (List.mem_of_getElem? (i := 46) rfl) rfl), (jw_3 (List.mem_of_getElem? (i := 47) rfl) rfl), (jw_3 (List.mem_of_getElem? (i := 48) rfl) rfl)⟩
theorem ck_Ma_105 : jj_cv Y0 "VerifiedCode$Machine" 105 m_Pr_operand 2 := ⟨cm_Pr_operand, (jw_3 (List.mem_of_getElem? (i := 219) rfl) rfl), (jw_3 (List.mem_of_getElem? (i := 85) rfl) rfl), (jw_3 (List.mem_of_getElem? (i := 86) rfl) rfl)⟩
theorem ck_Ma_108 : jj_cv Y0 "VerifiedCode$Machine" 108 m_Ma_call 2 := ⟨cm_Ma_call, (jw_3 (List.mem_of_getElem? (i := 220) rfl) rfl), (jw_3 (List.mem_of_getElem? (i := 222) rfl) rfl), (jw_s (List.mem_of_getElem? (i := 28) rfl))⟩
theorem ck_Ma_115 : jj_cv Y0 "VerifiedCode$Machine" 115 m_Ma_goesToTarget 2 := ⟨cm_Ma_goesToTarget, (jw_3 (List.mem_of_getElem? (i := 225) rfl) rfl), (jw_3 (List.mem_of_getElem? (i := 227) rfl) rfl), (jw_s (List.mem_of_getElem? (i := 29) rfl))⟩
theorem ck_Ma_119 : jj_cv Y0 "VerifiedCode$Machine" 119 m_Pr_target 2 := ⟨cm_Pr_target, (jw_3 (List.mem_of_getElem? (i := 233) rfl) rfl), (jw_2 (List.mem_of_getElem? (i := 68) rfl) rfl), (jw_2 (List.mem_of_getElem? (i := 69) rfl) rfl)⟩
theorem ck_Ma_122 : jj_cv Y0 "VerifiedCode$Machine" 122 m_Ma_doWithOperand 4 := ⟨cm_Ma_doWithOperand, (jw_3 (List.mem_of_getElem? (i := 234) rfl) rfl), (jw_3 (List.mem_of_getElem? (i := 236) rfl) rfl), (jw_s (List.mem_of_getElem? (i := 31) rfl))⟩
theorem ck_Ma_126 : jj_cv Y0 "VerifiedCode$Machine" 126 m_Ma_doAlone 2 := ⟨cm_Ma_doAlone, (jw_4 (List.mem_of_getElem? (i := 8) rfl) rfl), (jw_4 (List.mem_of_getElem? (i := 10) rfl) rfl), (jw_s (List.mem_of_getElem? (i := 32) rfl))⟩
theorem ck_Ma_130 : jj_cv Y0 "VerifiedCode$Machine" 130 m_St_valueBelow 1 := ⟨cm_St_valueBelow, (jw_3 (List.mem_of_getElem? (i := 200) rfl) rfl), (jw_3 (List.mem_of_getElem? (i := 135) rfl) rfl), (jw_3 (List.mem_of_getElem? (i := 136) rfl) rfl)⟩
theorem ck_Ma_133 : jj_cv Y0 "VerifiedCode$Machine" 133 m_St_kindBelow 1 := ⟨cm_St_kindBelow, (jw_3 (List.mem_of_getElem? (i := 201) rfl) rfl), (jw_3 (List.mem_of_getElem? (i := 131) rfl) rfl), (jw_3 (List.mem_of_getElem? (i := 132) rfl) rfl)⟩
theorem ck_Ma_136 : jj_cv Y0 "VerifiedCode$Machine" 136 m_Ma_troubleOfElement 2 := ⟨cm_Ma_troubleOfElement, (jw_3 (List.mem_of_getElem? (i := 202) rfl) rfl), (jw_3 (List.mem_of_getElem? (i := 204) rfl) rfl), (jw_s (List.mem_of_getElem? (i := 25) rfl))⟩
theorem ck_Ma_139 : jj_cv Y0 "VerifiedCode$Machine" 139 m_St_take 0 := ⟨cm_St_take, (jw_3 (List.mem_of_getElem? (i := 211) rfl) rfl), (jw_3 (List.mem_of_getElem? (i := 119) rfl) rfl), (jw_3 (List.mem_of_getElem? (i := 120) rfl) rfl)⟩
theorem ck_Ma_143 : jj_cv Y0 "VerifiedCode$Machine" 143 m_St_kindTaken 0 := ⟨cm_St_kindTaken, (jw_3 (List.mem_of_getElem? (i := 212) rfl) rfl), (jw_3 (List.mem_of_getElem? (i := 123) rfl) rfl), (jw_3 (List.mem_of_getElem? (i := 124) rfl) rfl)⟩
theorem ck_Ma_146 : jj_cv Y0 "VerifiedCode$Machine" 146 m_Ma_resultOf 2 := ⟨cm_Ma_resultOf, (jw_3 (List.mem_of_getElem? (i := 213) rfl) rfl), (jw_3 (List.mem_of_getElem? (i := 215) rfl) rfl), (jw_s (List.mem_of_getElem? (i := 27) rfl))⟩
theorem ck_Ma_153 : jj_cv Y0 "VerifiedCode$Machine" 153 m_St_put 2 := ⟨cm_St_put, (jw_3 (List.mem_of_getElem? (i := 217) rfl) rfl), (jw_3 (List.mem_of_getElem? (i := 47) rfl) rfl), (jw_3 (List.mem_of_getElem? (i := 48) rfl) rfl)⟩
theorem ck_Ma_157 : jj_cv Y0 "VerifiedCode$Machine" 157 m_Ma_holds 3 := ⟨cm_Ma_holds, (jw_3 (List.mem_of_getElem? (i := 229) rfl) rfl), (jw_3 (List.mem_of_getElem? (i := 231) rfl) rfl), (jw_s (List.mem_of_getElem? (i := 30) rfl))⟩
theorem ck_Ma_161 : jj_cv Y0 "VerifiedCode$Machine" 161 m_Pr_signedByte 2 := ⟨cm_Pr_signedByte, (jw_3 (List.mem_of_getElem? (i := 238) rfl) rfl), (jw_3 (List.mem_of_getElem? (i := 239) rfl) rfl), (jw_4 (List.mem_of_getElem? (i := 0) rfl) rfl)⟩
theorem ck_Ma_164 : jj_cv Y0 "VerifiedCode$Machine" 164 m_Pr_constant 1 := ⟨cm_Pr_constant, (jw_4 (List.mem_of_getElem? (i := 2) rfl) rfl), (jw_4 (List.mem_of_getElem? (i := 3) rfl) rfl), (jw_4 (List.mem_of_getElem? (i := 4) rfl) rfl)⟩
theorem ck_Ma_167 : jj_cv Y0 "VerifiedCode$Machine" 167 m_St_putPlace 1 := ⟨cm_St_putPlace, (jw_4 (List.mem_of_getElem? (i := 6) rfl) rfl), (jw_3 (List.mem_of_getElem? (i := 110) rfl) rfl), (jw_3 (List.mem_of_getElem? (i := 111) rfl) rfl)⟩
theorem ck_Ma_170 : jj_cv Y0 "VerifiedCode$Machine" 170 m_St_moveToPlace 1 := ⟨cm_St_moveToPlace, (jw_4 (List.mem_of_getElem? (i := 7) rfl) rfl), (jw_3 (List.mem_of_getElem? (i := 115) rfl) rfl), (jw_3 (List.mem_of_getElem? (i := 116) rfl) rfl)⟩
theorem ck_Ma_176 : jj_cv Y0 "VerifiedCode$Machine" 176 m_St_putAgain 0 := ⟨cm_St_putAgain, (jw_4 (List.mem_of_getElem? (i := 12) rfl) rfl), (jw_3 (List.mem_of_getElem? (i := 127) rfl) rfl), (jw_3 (List.mem_of_getElem? (i := 128) rfl) rfl)⟩
theorem ck_Ma_179 : jj_cv Y0 "VerifiedCode$Machine" 179 m_St_exchange 0 := ⟨cm_St_exchange, (jw_4 (List.mem_of_getElem? (i := 13) rfl) rfl), (jw_3 (List.mem_of_getElem? (i := 139) rfl) rfl), (jw_3 (List.mem_of_getElem? (i := 140) rfl) rfl)⟩
theorem ck_Ma_182 : jj_cv Y0 "VerifiedCode$Machine" 182 m_Ma_storeElement 1 := ⟨cm_Ma_storeElement, (jw_4 (List.mem_of_getElem? (i := 14) rfl) rfl), (jw_4 (List.mem_of_getElem? (i := 16) rfl) rfl), (jw_s (List.mem_of_getElem? (i := 33) rfl))⟩
theorem ck_Ma_186 : jj_cv Y0 "VerifiedCode$Machine" 186 m_Ma_reckoned 3 := ⟨cm_Ma_reckoned, (jw_4 (List.mem_of_getElem? (i := 18) rfl) rfl), (jw_4 (List.mem_of_getElem? (i := 20) rfl) rfl), (jw_s (List.mem_of_getElem? (i := 34) rfl))⟩
theorem ck_Ma_41 : jj_cv Y0 "VerifiedCode$Machine" 41 m_Ma_enter 1 := ⟨cm_Ma_enter, (jw_3 (List.mem_of_getElem? (i := 171) rfl) rfl), (jw_3 (List.mem_of_getElem? (i := 173) rfl) rfl), (jw_s (List.mem_of_getElem? (i := 20) rfl))⟩
theorem ck_Ma_56 : jj_cv Y0 "VerifiedCode$Machine" 56 m_Ma_setArgument 3 := ⟨cm_Ma_setArgument, (jw_3 (List.mem_of_getElem? (i := 176) rfl) rfl), (jw_3 (List.mem_of_getElem? (i := 178) rfl) rfl), (jw_s (List.mem_of_getElem? (i := 21) rfl))⟩
theorem ck_Ma_60 : jj_cv Y0 "VerifiedCode$Machine" 60 m_St_makeEmpty 0 := ⟨cm_St_makeEmpty, (jw_3 (List.mem_of_getElem? (i := 175) rfl) rfl), (jw_3 (List.mem_of_getElem? (i := 5) rfl) rfl), (jw_3 (List.mem_of_getElem? (i := 6) rfl) rfl)⟩
theorem ck_Ma_63 : jj_cv Y0 "VerifiedCode$Machine" 63 m_Pr_parameterType 2 := ⟨cm_Pr_parameterType, (jw_3 (List.mem_of_getElem? (i := 180) rfl) rfl), (jw_3 (List.mem_of_getElem? (i := 13) rfl) rfl), (jw_3 (List.mem_of_getElem? (i := 14) rfl) rfl)⟩
theorem ck_Ma_67 : jj_cv Y0 "VerifiedCode$Machine" 67 m_St_setPlace 3 := ⟨cm_St_setPlace, (jw_3 (List.mem_of_getElem? (i := 181) rfl) rfl), (jw_3 (List.mem_of_getElem? (i := 9) rfl) rfl), (jw_3 (List.mem_of_getElem? (i := 10) rfl) rfl)⟩
theorem ck_Ma_71 : jj_cv Y0 "VerifiedCode$Machine" 71 m_Ma_newRow 1 := ⟨cm_Ma_newRow, (jw_3 (List.mem_of_getElem? (i := 182) rfl) rfl), (jw_3 (List.mem_of_getElem? (i := 184) rfl) rfl), (jw_s (List.mem_of_getElem? (i := 22) rfl))⟩
theorem ck_Ma_75 : jj_cv Y0 "VerifiedCode$Machine" 75 m_Ma_doOne 1 := ⟨cm_Ma_doOne, (jw_3 (List.mem_of_getElem? (i := 190) rfl) rfl), (jw_3 (List.mem_of_getElem? (i := 192) rfl) rfl), (jw_s (List.mem_of_getElem? (i := 23) rfl))⟩
theorem ck_Ma_82 : jj_cv Y0 "VerifiedCode$Machine" 82 m_St_allows 3 := ⟨cm_St_allows, (jw_3 (List.mem_of_getElem? (i := 194) rfl) rfl), (jw_3 (List.mem_of_getElem? (i := 51) rfl) rfl), (jw_3 (List.mem_of_getElem? (i := 52) rfl) rfl)⟩
theorem ck_Ma_86 : jj_cv Y0 "VerifiedCode$Machine" 86 m_Pr_code 2 := ⟨cm_Pr_code, (jw_3 (List.mem_of_getElem? (i := 195) rfl) rfl), (jw_2 (List.mem_of_getElem? (i := 63) rfl) rfl), (jw_2 (List.mem_of_getElem? (i := 64) rfl) rfl)⟩
theorem ck_Ma_89 : jj_cv Y0 "VerifiedCode$Machine" 89 m_Ma_trouble 2 := ⟨cm_Ma_trouble, (jw_3 (List.mem_of_getElem? (i := 196) rfl) rfl), (jw_3 (List.mem_of_getElem? (i := 198) rfl) rfl), (jw_s (List.mem_of_getElem? (i := 24) rfl))⟩
theorem ck_Ma_99 : jj_cv Y0 "VerifiedCode$Machine" 99 m_Ma_leave 2 := ⟨cm_Ma_leave, (jw_3 (List.mem_of_getElem? (i := 207) rfl) rfl), (jw_3 (List.mem_of_getElem? (i := 209) rfl) rfl), (jw_s (List.mem_of_getElem? (i := 26) rfl))⟩
theorem ck_Pr_41 : jj_cv Y0 "VerifiedCode$Program" 41 m_Pr_code 2 := ⟨cm_Pr_code, (jw_2 (List.mem_of_getElem? (i := 71) rfl) rfl), (jw_2 (List.mem_of_getElem? (i := 63) rfl) rfl), (jw_2 (List.mem_of_getElem? (i := 64) rfl) rfl)⟩
theorem ck_Pr_56 : jj_cv Y0 "VerifiedCode$Program" 56 m_Pr_frameOffset 2 := ⟨cm_Pr_frameOffset, (jw_3 (List.mem_of_getElem? (i := 26) rfl) rfl), (jw_2 (List.mem_of_getElem? (i := 83) rfl) rfl), (jw_2 (List.mem_of_getElem? (i := 84) rfl) rfl)⟩
theorem ck_Pr_61 : jj_cv Y0 "VerifiedCode$Program" 61 m_Pr_called 2 := ⟨cm_Pr_called, (jw_3 (List.mem_of_getElem? (i := 59) rfl) rfl), (jw_3 (List.mem_of_getElem? (i := 60) rfl) rfl), (jw_3 (List.mem_of_getElem? (i := 61) rfl) rfl)⟩
theorem ck_Pr_72 : jj_cv Y0 "VerifiedCode$Program" 72 m_Pr_parameterType 2 := ⟨cm_Pr_parameterType, (jw_3 (List.mem_of_getElem? (i := 74) rfl) rfl), (jw_3 (List.mem_of_getElem? (i := 13) rfl) rfl), (jw_3 (List.mem_of_getElem? (i := 14) rfl) rfl)⟩
theorem ck_Rd_108 : jj_cv Y0 "VerifiedCode$Reader" 108 m_Rd_highestOperand 4 := ⟨cm_Rd_highestOperand, (jw_2 (List.mem_of_getElem? (i := 47) rfl) rfl), (jw_2 (List.mem_of_getElem? (i := 49) rfl) rfl), (jw_s (List.mem_of_getElem? (i := 7) rfl))⟩
theorem ck_Rd_122 : jj_cv Y0 "VerifiedCode$Reader" 122 m_Pr_code 2 := ⟨cm_Pr_code, (jw_2 (List.mem_of_getElem? (i := 62) rfl) rfl), (jw_2 (List.mem_of_getElem? (i := 63) rfl) rfl), (jw_2 (List.mem_of_getElem? (i := 64) rfl) rfl)⟩
theorem ck_Rd_129 : jj_cv Y0 "VerifiedCode$Reader" 129 m_Pr_target 2 := ⟨cm_Pr_target, (jw_2 (List.mem_of_getElem? (i := 67) rfl) rfl), (jw_2 (List.mem_of_getElem? (i := 68) rfl) rfl), (jw_2 (List.mem_of_getElem? (i := 69) rfl) rfl)⟩
theorem ck_Rd_132 : jj_cv Y0 "VerifiedCode$Reader" 132 m_Rd_beginsAt 2 := ⟨cm_Rd_beginsAt, (jw_2 (List.mem_of_getElem? (i := 74) rfl) rfl), (jw_2 (List.mem_of_getElem? (i := 76) rfl) rfl), (jw_s (List.mem_of_getElem? (i := 10) rfl))⟩
theorem ck_Rd_136 : jj_cv Y0 "VerifiedCode$Reader" 136 m_Pr_frameOffset 2 := ⟨cm_Pr_frameOffset, (jw_2 (List.mem_of_getElem? (i := 82) rfl) rfl), (jw_2 (List.mem_of_getElem? (i := 83) rfl) rfl), (jw_2 (List.mem_of_getElem? (i := 84) rfl) rfl)⟩
theorem ck_Rd_19 : jj_cv Y0 "VerifiedCode$Reader" 19 m_Rd_next 3 := ⟨cm_Rd_next, (jw_2 (List.mem_of_getElem? (i := 13) rfl) rfl), (jw_2 (List.mem_of_getElem? (i := 15) rfl) rfl), (jw_s (List.mem_of_getElem? (i := 0) rfl))⟩
theorem ck_Rd_23 : jj_cv Y0 "VerifiedCode$Reader" 23 m_Rd_readsConstants 1 := ⟨cm_Rd_readsConstants, (jw_2 (List.mem_of_getElem? (i := 17) rfl) rfl), (jw_2 (List.mem_of_getElem? (i := 19) rfl) rfl), (jw_s (List.mem_of_getElem? (i := 1) rfl))⟩
theorem ck_Rd_39 : jj_cv Y0 "VerifiedCode$Reader" 39 m_Rd_readsMethod 2 := ⟨cm_Rd_readsMethod, (jw_2 (List.mem_of_getElem? (i := 25) rfl) rfl), (jw_2 (List.mem_of_getElem? (i := 27) rfl) rfl), (jw_s (List.mem_of_getElem? (i := 3) rfl))⟩
theorem ck_Rd_56 : jj_cv Y0 "VerifiedCode$Reader" 56 m_Rd_nextOnes 4 := ⟨cm_Rd_nextOnes, (jw_2 (List.mem_of_getElem? (i := 21) rfl) rfl), (jw_2 (List.mem_of_getElem? (i := 23) rfl) rfl), (jw_s (List.mem_of_getElem? (i := 2) rfl))⟩
theorem ck_Rd_60 : jj_cv Y0 "VerifiedCode$Reader" 60 m_Rd_readsHead 2 := ⟨cm_Rd_readsHead, (jw_2 (List.mem_of_getElem? (i := 29) rfl) rfl), (jw_2 (List.mem_of_getElem? (i := 31) rfl) rfl), (jw_s (List.mem_of_getElem? (i := 4) rfl))⟩
theorem ck_Rd_63 : jj_cv Y0 "VerifiedCode$Reader" 63 m_Rd_readsCode 2 := ⟨cm_Rd_readsCode, (jw_2 (List.mem_of_getElem? (i := 33) rfl) rfl), (jw_2 (List.mem_of_getElem? (i := 35) rfl) rfl), (jw_s (List.mem_of_getElem? (i := 5) rfl))⟩
theorem ck_Rd_66 : jj_cv Y0 "VerifiedCode$Reader" 66 m_Rd_readsFrames 2 := ⟨cm_Rd_readsFrames, (jw_2 (List.mem_of_getElem? (i := 54) rfl) rfl), (jw_2 (List.mem_of_getElem? (i := 56) rfl) rfl), (jw_s (List.mem_of_getElem? (i := 8) rfl))⟩
theorem ck_Rd_69 : jj_cv Y0 "VerifiedCode$Reader" 69 m_Rd_targetsBegin 2 := ⟨cm_Rd_targetsBegin, (jw_2 (List.mem_of_getElem? (i := 58) rfl) rfl), (jw_2 (List.mem_of_getElem? (i := 60) rfl) rfl), (jw_s (List.mem_of_getElem? (i := 9) rfl))⟩
theorem ck_Rd_72 : jj_cv Y0 "VerifiedCode$Reader" 72 m_Rd_framesBegin 2 := ⟨cm_Rd_framesBegin, (jw_2 (List.mem_of_getElem? (i := 78) rfl) rfl), (jw_2 (List.mem_of_getElem? (i := 80) rfl) rfl), (jw_s (List.mem_of_getElem? (i := 11) rfl))⟩
theorem ck_Rd_98 : jj_cv Y0 "VerifiedCode$Reader" 98 m_Rd_readsInstruction 3 := ⟨cm_Rd_readsInstruction, (jw_2 (List.mem_of_getElem? (i := 37) rfl) rfl), (jw_2 (List.mem_of_getElem? (i := 39) rfl) rfl), (jw_s (List.mem_of_getElem? (i := 6) rfl))⟩
theorem ck_St_24 : jj_cv Y0 "VerifiedCode$State" 24 m_St_setPlace 3 := ⟨cm_St_setPlace, (jw_3 (List.mem_of_getElem? (i := 8) rfl) rfl), (jw_3 (List.mem_of_getElem? (i := 9) rfl) rfl), (jw_3 (List.mem_of_getElem? (i := 10) rfl) rfl)⟩
theorem ck_St_32 : jj_cv Y0 "VerifiedCode$State" 32 m_St_kindBelow 1 := ⟨cm_St_kindBelow, (jw_3 (List.mem_of_getElem? (i := 130) rfl) rfl), (jw_3 (List.mem_of_getElem? (i := 131) rfl) rfl), (jw_3 (List.mem_of_getElem? (i := 132) rfl) rfl)⟩
theorem ck_St_36 : jj_cv Y0 "VerifiedCode$State" 36 m_St_valueBelow 1 := ⟨cm_St_valueBelow, (jw_3 (List.mem_of_getElem? (i := 134) rfl) rfl), (jw_3 (List.mem_of_getElem? (i := 135) rfl) rfl), (jw_3 (List.mem_of_getElem? (i := 136) rfl) rfl)⟩
theorem ck_St_39 : jj_cv Y0 "VerifiedCode$State" 39 m_St_put 2 := ⟨cm_St_put, (jw_3 (List.mem_of_getElem? (i := 113) rfl) rfl), (jw_3 (List.mem_of_getElem? (i := 47) rfl) rfl), (jw_3 (List.mem_of_getElem? (i := 48) rfl) rfl)⟩
theorem ck_St_43 : jj_cv Y0 "VerifiedCode$State" 43 m_St_take 0 := ⟨cm_St_take, (jw_3 (List.mem_of_getElem? (i := 118) rfl) rfl), (jw_3 (List.mem_of_getElem? (i := 119) rfl) rfl), (jw_3 (List.mem_of_getElem? (i := 120) rfl) rfl)⟩
theorem ck_St_47 : jj_cv Y0 "VerifiedCode$State" 47 m_St_kindTaken 0 := ⟨cm_St_kindTaken, (jw_3 (List.mem_of_getElem? (i := 122) rfl) rfl), (jw_3 (List.mem_of_getElem? (i := 123) rfl) rfl), (jw_3 (List.mem_of_getElem? (i := 124) rfl) rfl)⟩
theorem ck_St_50 : jj_cv Y0 "VerifiedCode$State" 50 m_Pr_code 2 := ⟨cm_Pr_code, (jw_3 (List.mem_of_getElem? (i := 54) rfl) rfl), (jw_2 (List.mem_of_getElem? (i := 63) rfl) rfl), (jw_2 (List.mem_of_getElem? (i := 64) rfl) rfl)⟩
theorem ck_St_56 : jj_cv Y0 "VerifiedCode$State" 56 m_Pr_takenCount 2 := ⟨cm_Pr_takenCount, (jw_3 (List.mem_of_getElem? (i := 55) rfl) rfl), (jw_3 (List.mem_of_getElem? (i := 56) rfl) rfl), (jw_3 (List.mem_of_getElem? (i := 57) rfl) rfl)⟩
theorem ck_St_59 : jj_cv Y0 "VerifiedCode$State" 59 m_St_hasTaken 4 := ⟨cm_St_hasTaken, (jw_3 (List.mem_of_getElem? (i := 66) rfl) rfl), (jw_3 (List.mem_of_getElem? (i := 68) rfl) rfl), (jw_s (List.mem_of_getElem? (i := 15) rfl))⟩
theorem ck_St_63 : jj_cv Y0 "VerifiedCode$State" 63 m_St_hasPlace 3 := ⟨cm_St_hasPlace, (jw_3 (List.mem_of_getElem? (i := 79) rfl) rfl), (jw_3 (List.mem_of_getElem? (i := 81) rfl) rfl), (jw_s (List.mem_of_getElem? (i := 16) rfl))⟩
theorem ck_St_81 : jj_cv Y0 "VerifiedCode$State" 81 m_Pr_putCount 2 := ⟨cm_Pr_putCount, (jw_3 (List.mem_of_getElem? (i := 97) rfl) rfl), (jw_3 (List.mem_of_getElem? (i := 98) rfl) rfl), (jw_3 (List.mem_of_getElem? (i := 99) rfl) rfl)⟩
theorem ck_St_87 : jj_cv Y0 "VerifiedCode$State" 87 m_Pr_takenType 3 := ⟨cm_Pr_takenType, (jw_3 (List.mem_of_getElem? (i := 70) rfl) rfl), (jw_3 (List.mem_of_getElem? (i := 71) rfl) rfl), (jw_3 (List.mem_of_getElem? (i := 72) rfl) rfl)⟩
theorem ck_St_97 : jj_cv Y0 "VerifiedCode$State" 97 m_Pr_operand 2 := ⟨cm_Pr_operand, (jw_3 (List.mem_of_getElem? (i := 84) rfl) rfl), (jw_3 (List.mem_of_getElem? (i := 85) rfl) rfl), (jw_3 (List.mem_of_getElem? (i := 86) rfl) rfl)⟩
theorem ck_VC_101 : jj_cv Y0 "VerifiedCode" 101 m_Ck_firstRefused 2 := ⟨cm_Ck_firstRefused, (jw_3 (List.mem_of_getElem? (i := 0) rfl) rfl), (jw_3 (List.mem_of_getElem? (i := 1) rfl) rfl), (jw_3 (List.mem_of_getElem? (i := 2) rfl) rfl)⟩
theorem ck_VC_105 : jj_cv Y0 "VerifiedCode" 105 m_Ma_begin 5 := ⟨cm_Ma_begin, (jw_3 (List.mem_of_getElem? (i := 167) rfl) rfl), (jw_3 (List.mem_of_getElem? (i := 168) rfl) rfl), (jw_3 (List.mem_of_getElem? (i := 169) rfl) rfl)⟩
theorem ck_VC_109 : jj_cv Y0 "VerifiedCode" 109 m_Ma_goToEnd 1 := ⟨cm_Ma_goToEnd, (jw_3 (List.mem_of_getElem? (i := 186) rfl) rfl), (jw_3 (List.mem_of_getElem? (i := 187) rfl) rfl), (jw_3 (List.mem_of_getElem? (i := 188) rfl) rfl)⟩
theorem ck_VC_67 : jj_cv Y0 "VerifiedCode" 67 m_Pr_takeFile 2 := ⟨cm_Pr_takeFile, (jw_2 (List.mem_of_getElem? (i := 2) rfl) rfl), (jw_2 (List.mem_of_getElem? (i := 3) rfl) rfl), (jw_2 (List.mem_of_getElem? (i := 4) rfl) rfl)⟩
theorem ck_VC_71 : jj_cv Y0 "VerifiedCode" 71 m_Rd_readsFile 1 := ⟨cm_Rd_readsFile, (jw_2 (List.mem_of_getElem? (i := 9) rfl) rfl), (jw_2 (List.mem_of_getElem? (i := 10) rfl) rfl), (jw_2 (List.mem_of_getElem? (i := 11) rfl) rfl)⟩
theorem ck_Mo_108 : jj_cv Y0 "VerifiedCodeModel" 108 m_Mo_methodCount 0 := ⟨cm_Mo_methodCount, (jw_4 (List.mem_of_getElem? (i := 192) rfl) rfl), (jw_4 (List.mem_of_getElem? (i := 194) rfl) rfl), (jw_s (List.mem_of_getElem? (i := 41) rfl))⟩
theorem ck_Mo_112 : jj_cv Y0 "VerifiedCodeModel" 112 m_Mo_codeOf 1 := ⟨cm_Mo_codeOf, (jw_4 (List.mem_of_getElem? (i := 212) rfl) rfl), (jw_4 (List.mem_of_getElem? (i := 214) rfl) rfl), (jw_s (List.mem_of_getElem? (i := 45) rfl))⟩
theorem ck_Mo_115 : jj_cv Y0 "VerifiedCodeModel" 115 m_Mo_lengthOf 1 := ⟨cm_Mo_lengthOf, (jw_4 (List.mem_of_getElem? (i := 216) rfl) rfl), (jw_4 (List.mem_of_getElem? (i := 218) rfl) rfl), (jw_s (List.mem_of_getElem? (i := 46) rfl))⟩
theorem ck_Mo_118 : jj_cv Y0 "VerifiedCodeModel" 118 m_Mo_placesOf 1 := ⟨cm_Mo_placesOf, (jw_4 (List.mem_of_getElem? (i := 220) rfl) rfl), (jw_4 (List.mem_of_getElem? (i := 222) rfl) rfl), (jw_s (List.mem_of_getElem? (i := 47) rfl))⟩
theorem ck_Mo_121 : jj_cv Y0 "VerifiedCodeModel" 121 m_Mo_methodAt 1 := ⟨cm_Mo_methodAt, (jw_4 (List.mem_of_getElem? (i := 208) rfl) rfl), (jw_4 (List.mem_of_getElem? (i := 210) rfl) rfl), (jw_s (List.mem_of_getElem? (i := 44) rfl))⟩
theorem ck_Mo_145 : jj_cv Y0 "VerifiedCodeModel" 145 m_Mo_needs 2 := ⟨cm_Mo_needs, (jw_5 (List.mem_of_getElem? (i := 12) rfl) rfl), (jw_5 (List.mem_of_getElem? (i := 14) rfl) rfl), (jw_s (List.mem_of_getElem? (i := 55) rfl))⟩
theorem ck_Mo_148 : jj_cv Y0 "VerifiedCodeModel" 148 m_Mo_returnsOf 1 := ⟨cm_Mo_returnsOf, (jw_5 (List.mem_of_getElem? (i := 23) rfl) rfl), (jw_5 (List.mem_of_getElem? (i := 25) rfl) rfl), (jw_s (List.mem_of_getElem? (i := 57) rfl))⟩
theorem ck_Mo_154 : jj_cv Y0 "VerifiedCodeModel" 154 m_Mo_takes 1 := ⟨cm_Mo_takes, (jw_5 (List.mem_of_getElem? (i := 8) rfl) rfl), (jw_5 (List.mem_of_getElem? (i := 10) rfl) rfl), (jw_s (List.mem_of_getElem? (i := 54) rfl))⟩
theorem ck_Mo_157 : jj_cv Y0 "VerifiedCodeModel" 157 m_Mo_gives 1 := ⟨cm_Mo_gives, (jw_5 (List.mem_of_getElem? (i := 19) rfl) rfl), (jw_5 (List.mem_of_getElem? (i := 21) rfl) rfl), (jw_s (List.mem_of_getElem? (i := 56) rfl))⟩
theorem ck_Mo_166 : jj_cv Y0 "VerifiedCodeModel" 166 m_Mo_push 3 := ⟨cm_Mo_push, (jw_5 (List.mem_of_getElem? (i := 30) rfl) rfl), (jw_5 (List.mem_of_getElem? (i := 32) rfl) rfl), (jw_s (List.mem_of_getElem? (i := 58) rfl))⟩
theorem ck_Mo_169 : jj_cv Y0 "VerifiedCodeModel" 169 m_Mo_begin 1 := ⟨cm_Mo_begin, (jw_4 (List.mem_of_getElem? (i := 232) rfl) rfl), (jw_4 (List.mem_of_getElem? (i := 234) rfl) rfl), (jw_s (List.mem_of_getElem? (i := 50) rfl))⟩
theorem ck_Mo_173 : jj_cv Y0 "VerifiedCodeModel" 173 m_Mo_frame 2 := ⟨cm_Mo_frame, (jw_4 (List.mem_of_getElem? (i := 236) rfl) rfl), (jw_4 (List.mem_of_getElem? (i := 238) rfl) rfl), (jw_s (List.mem_of_getElem? (i := 51) rfl))⟩
theorem ck_Mo_177 : jj_cv Y0 "VerifiedCodeModel" 177 m_Mo_become 1 := ⟨cm_Mo_become, (jw_5 (List.mem_of_getElem? (i := 0) rfl) rfl), (jw_5 (List.mem_of_getElem? (i := 2) rfl) rfl), (jw_s (List.mem_of_getElem? (i := 52) rfl))⟩
theorem ck_Mo_180 : jj_cv Y0 "VerifiedCodeModel" 180 m_Mo_pass 1 := ⟨cm_Mo_pass, (jw_5 (List.mem_of_getElem? (i := 4) rfl) rfl), (jw_5 (List.mem_of_getElem? (i := 6) rfl) rfl), (jw_s (List.mem_of_getElem? (i := 53) rfl))⟩
theorem ck_Mo_183 : jj_cv Y0 "VerifiedCodeModel" 183 m_Mo_arrive 1 := ⟨cm_Mo_arrive, (jw_4 (List.mem_of_getElem? (i := 228) rfl) rfl), (jw_4 (List.mem_of_getElem? (i := 230) rfl) rfl), (jw_s (List.mem_of_getElem? (i := 49) rfl))⟩
theorem ck_Mo_186 : jj_cv Y0 "VerifiedCodeModel" 186 m_Mo_fits 1 := ⟨cm_Mo_fits, (jw_5 (List.mem_of_getElem? (i := 34) rfl) rfl), (jw_5 (List.mem_of_getElem? (i := 36) rfl) rfl), (jw_s (List.mem_of_getElem? (i := 59) rfl))⟩
theorem ck_Mo_189 : jj_cv Y0 "VerifiedCodeModel" 189 m_Mo_can 2 := ⟨cm_Mo_can, (jw_5 (List.mem_of_getElem? (i := 41) rfl) rfl), (jw_5 (List.mem_of_getElem? (i := 43) rfl) rfl), (jw_s (List.mem_of_getElem? (i := 60) rfl))⟩
theorem ck_Mo_192 : jj_cv Y0 "VerifiedCodeModel" 192 m_Mo_target 1 := ⟨cm_Mo_target, (jw_5 (List.mem_of_getElem? (i := 45) rfl) rfl), (jw_5 (List.mem_of_getElem? (i := 47) rfl) rfl), (jw_s (List.mem_of_getElem? (i := 61) rfl))⟩
theorem ck_Mo_195 : jj_cv Y0 "VerifiedCodeModel" 195 m_Mo_lackOfMethod 1 := ⟨cm_Mo_lackOfMethod, (jw_4 (List.mem_of_getElem? (i := 200) rfl) rfl), (jw_4 (List.mem_of_getElem? (i := 202) rfl) rfl), (jw_s (List.mem_of_getElem? (i := 42) rfl))⟩
theorem ck_Mo_198 : jj_cv Y0 "VerifiedCodeModel" 198 m_Mo_open 1 := ⟨cm_Mo_open, (jw_4 (List.mem_of_getElem? (i := 204) rfl) rfl), (jw_4 (List.mem_of_getElem? (i := 206) rfl) rfl), (jw_s (List.mem_of_getElem? (i := 43) rfl))⟩
theorem ck_Mo_201 : jj_cv Y0 "VerifiedCodeModel" 201 m_Mo_passes 1 := ⟨cm_Mo_passes, (jw_4 (List.mem_of_getElem? (i := 224) rfl) rfl), (jw_4 (List.mem_of_getElem? (i := 226) rfl) rfl), (jw_s (List.mem_of_getElem? (i := 48) rfl))⟩
theorem ck_Mo_207 : jj_cv Y0 "VerifiedCodeModel" 207 m_Mo_makeRow 1 := ⟨cm_Mo_makeRow, (jw_5 (List.mem_of_getElem? (i := 57) rfl) rfl), (jw_5 (List.mem_of_getElem? (i := 59) rfl) rfl), (jw_s (List.mem_of_getElem? (i := 63) rfl))⟩
theorem ck_Mo_215 : jj_cv Y0 "VerifiedCodeModel" 215 m_Mo_argue 2 := ⟨cm_Mo_argue, (jw_5 (List.mem_of_getElem? (i := 53) rfl) rfl), (jw_5 (List.mem_of_getElem? (i := 55) rfl) rfl), (jw_s (List.mem_of_getElem? (i := 62) rfl))⟩
theorem ck_Mo_218 : jj_cv Y0 "VerifiedCodeModel" 218 m_Mo_step 0 := ⟨cm_Mo_step, (jw_5 (List.mem_of_getElem? (i := 61) rfl) rfl), (jw_5 (List.mem_of_getElem? (i := 63) rfl) rfl), (jw_s (List.mem_of_getElem? (i := 64) rfl))⟩
theorem ck_Mo_221 : jj_cv Y0 "VerifiedCodeModel" 221 m_Mo_wrong 2 := ⟨cm_Mo_wrong, (jw_5 (List.mem_of_getElem? (i := 65) rfl) rfl), (jw_5 (List.mem_of_getElem? (i := 67) rfl) rfl), (jw_s (List.mem_of_getElem? (i := 65) rfl))⟩
theorem ck_Mo_224 : jj_cv Y0 "VerifiedCodeModel" 224 m_Mo_enter 2 := ⟨cm_Mo_enter, (jw_5 (List.mem_of_getElem? (i := 69) rfl) rfl), (jw_5 (List.mem_of_getElem? (i := 71) rfl) rfl), (jw_s (List.mem_of_getElem? (i := 66) rfl))⟩
theorem ck_Mo_227 : jj_cv Y0 "VerifiedCodeModel" 227 m_Mo_leave 3 := ⟨cm_Mo_leave, (jw_5 (List.mem_of_getElem? (i := 73) rfl) rfl), (jw_5 (List.mem_of_getElem? (i := 75) rfl) rfl), (jw_s (List.mem_of_getElem? (i := 67) rfl))⟩
theorem ck_Mo_231 : jj_cv Y0 "VerifiedCodeModel" 231 m_Mo_goes 2 := ⟨cm_Mo_goes, (jw_5 (List.mem_of_getElem? (i := 77) rfl) rfl), (jw_5 (List.mem_of_getElem? (i := 79) rfl) rfl), (jw_s (List.mem_of_getElem? (i := 68) rfl))⟩
theorem ck_Mo_234 : jj_cv Y0 "VerifiedCodeModel" 234 m_Mo_work 4 := ⟨cm_Mo_work, (jw_5 (List.mem_of_getElem? (i := 81) rfl) rfl), (jw_5 (List.mem_of_getElem? (i := 83) rfl) rfl), (jw_s (List.mem_of_getElem? (i := 69) rfl))⟩
theorem ck_Mo_243 : jj_cv Y0 "VerifiedCodeModel" 243 m_Mo_value 4 := ⟨cm_Mo_value, (jw_5 (List.mem_of_getElem? (i := 88) rfl) rfl), (jw_5 (List.mem_of_getElem? (i := 90) rfl) rfl), (jw_s (List.mem_of_getElem? (i := 70) rfl))⟩
theorem ck_Mo_247 : jj_cv Y0 "VerifiedCodeModel" 247 m_Mo_constant 1 := ⟨cm_Mo_constant, (jw_5 (List.mem_of_getElem? (i := 92) rfl) rfl), (jw_5 (List.mem_of_getElem? (i := 94) rfl) rfl), (jw_s (List.mem_of_getElem? (i := 71) rfl))⟩
theorem ck_Mo_71 : jj_cv Y0 "VerifiedCodeModel" 71 m_Mo_next 2 := ⟨cm_Mo_next, (jw_4 (List.mem_of_getElem? (i := 148) rfl) rfl), (jw_4 (List.mem_of_getElem? (i := 150) rfl) rfl), (jw_s (List.mem_of_getElem? (i := 36) rfl))⟩
theorem ck_Mo_79 : jj_cv Y0 "VerifiedCodeModel" 79 m_Mo_skip 3 := ⟨cm_Mo_skip, (jw_4 (List.mem_of_getElem? (i := 144) rfl) rfl), (jw_4 (List.mem_of_getElem? (i := 146) rfl) rfl), (jw_s (List.mem_of_getElem? (i := 35) rfl))⟩
theorem ck_Mo_87 : jj_cv Y0 "VerifiedCodeModel" 87 m_Mo_begins 3 := ⟨cm_Mo_begins, (jw_4 (List.mem_of_getElem? (i := 172) rfl) rfl), (jw_4 (List.mem_of_getElem? (i := 174) rfl) rfl), (jw_s (List.mem_of_getElem? (i := 39) rfl))⟩
theorem ck_Mo_90 : jj_cv Y0 "VerifiedCodeModel" 90 m_Mo_readInstruction 4 := ⟨cm_Mo_readInstruction, (jw_4 (List.mem_of_getElem? (i := 156) rfl) rfl), (jw_4 (List.mem_of_getElem? (i := 158) rfl) rfl), (jw_s (List.mem_of_getElem? (i := 38) rfl))⟩
theorem ck_Mo_94 : jj_cv Y0 "VerifiedCodeModel" 94 m_Mo_targetsFit 2 := ⟨cm_Mo_targetsFit, (jw_4 (List.mem_of_getElem? (i := 176) rfl) rfl), (jw_4 (List.mem_of_getElem? (i := 178) rfl) rfl), (jw_s (List.mem_of_getElem? (i := 40) rfl))⟩
theorem ck_Mo_98 : jj_cv Y0 "VerifiedCodeModel" 98 m_Mo_readMethod 2 := ⟨cm_Mo_readMethod, (jw_4 (List.mem_of_getElem? (i := 152) rfl) rfl), (jw_4 (List.mem_of_getElem? (i := 154) rfl) rfl), (jw_s (List.mem_of_getElem? (i := 37) rfl))⟩
theorem cw_copy_Pr_22 : Cond.methodLink "VerifiedCode$Program" 22 arraycopyName ∈ j_W := (jw_2 (List.mem_of_getElem? (i := 6) rfl) rfl)
theorem cw_copy_VC_89 : Cond.methodLink "VerifiedCode" 89 arraycopyName ∈ j_W := (jw_2 (List.mem_of_getElem? (i := 231) rfl) rfl)
theorem cw_max_Ck_71 : Cond.methodLink "VerifiedCode$Checker" 71 Lib.Math.max.name ∈ j_W := (jw_3 (List.mem_of_getElem? (i := 157) rfl) rfl)
theorem cw_max2 : Cond.static Lib.Math.max.name ∈ j_W := (jw_3 (List.mem_of_getElem? (i := 158) rfl) rfl)
theorem cw_max3 : Cond.initialized "java/lang/Math" ∈ j_W := (jw_1 (List.mem_of_getElem? (i := 17) rfl) rfl)
theorem cw_max4 : Cond.code Lib.Math.max.name Lib.Math.max.code 2 (some .int) ∈ j_W := (jw_3 (List.mem_of_getElem? (i := 159) rfl) rfl)
theorem cw_copy2 : Cond.native arraycopyName ∈ j_W := (jw_2 (List.mem_of_getElem? (i := 8) rfl) rfl)
theorem cw_copy3 : Cond.static arraycopyName ∈ j_W := (jw_2 (List.mem_of_getElem? (i := 7) rfl) rfl)
theorem cw_copy4 : Cond.initialized "java/lang/System" ∈ j_W := (jw_1 (List.mem_of_getElem? (i := 15) rfl) rfl)
