
set_option maxRecDepth 20000 in
theorem mx_L_7 : MX RL 7 0 yX4_addStreet 2 := ⟨(List.mem_of_getElem? (i := 188) (by decide +kernel)), (List.mem_of_getElem? (i := 59) (by decide +kernel)), ⟨by decide +kernel, by decide +kernel⟩, by decide +kernel, fun _ => ⟨(List.mem_of_getElem? (i := 189) (by decide +kernel)), (List.mem_of_getElem? (i := 190) (by decide +kernel))⟩, fun h => by omega⟩
set_option maxRecDepth 20000 in
theorem k_X4_addStreet : Cond.code yX4_addStreet cX4_addStreet 3 (some .int) ∈ GT := (List.mem_of_getElem? (i := 191) (by decide +kernel))
set_option maxRecDepth 20000 in
theorem hc_addStreet_xIA : HC RL (tableOf [(0, 10, 13, 13), (0, 10, 17, 15)]) 5 xIA 13 := ⟨[], ⟨0, 10, 13, 13⟩, [⟨0, 10, 17, 15⟩], rfl, (fun z hz => nomatch hz), by decide, by decide, (List.mem_of_getElem? (i := 186) (by decide +kernel)), (List.mem_of_getElem? (i := 197) (by decide +kernel)), rfl⟩
set_option maxRecDepth 20000 in
theorem hc_addStreet_xIS : HC RL (tableOf [(0, 10, 13, 13), (0, 10, 17, 15)]) 5 xIS 17 := ⟨[⟨0, 10, 13, 13⟩], ⟨0, 10, 17, 15⟩, [], rfl, fun z hz => by
  obtain rfl := List.mem_singleton.mp hz
  exact ⟨by decide, xIA, (List.mem_of_getElem? (i := 186) (by decide +kernel)), fun U h => h.1⟩, by decide, by decide, (List.mem_of_getElem? (i := 187) (by decide +kernel)), (List.mem_of_getElem? (i := 269) (by decide +kernel)), rfl⟩
set_option maxRecDepth 20000 in
theorem mx_L_17 : MX RL 17 0 yX4_addPoint 3 := ⟨(List.mem_of_getElem? (i := 292) (by decide +kernel)), (List.mem_of_getElem? (i := 59) (by decide +kernel)), ⟨by decide +kernel, by decide +kernel⟩, by decide +kernel, fun _ => ⟨(List.mem_of_getElem? (i := 293) (by decide +kernel)), (List.mem_of_getElem? (i := 294) (by decide +kernel))⟩, fun h => by omega⟩
set_option maxRecDepth 20000 in
theorem k_X4_addPoint : Cond.code yX4_addPoint cX4_addPoint 5 (some .int) ∈ GT := (List.mem_of_getElem? (i := 295) (by decide +kernel))
set_option maxRecDepth 20000 in
theorem hc_addPoint_xIO : HC RL (tableOf [(0, 12, 15, 21), (0, 12, 19, 13), (0, 12, 23, 15)]) 7 xIO 15 := ⟨[], ⟨0, 12, 15, 21⟩, [⟨0, 12, 19, 13⟩, ⟨0, 12, 23, 15⟩], rfl, (fun z hz => nomatch hz), by decide, by decide, (List.mem_of_getElem? (i := 291) (by decide +kernel)), (List.mem_of_getElem? (i := 302) (by decide +kernel)), rfl⟩
set_option maxRecDepth 20000 in
theorem hc_addPoint_xIA : HC RL (tableOf [(0, 12, 15, 21), (0, 12, 19, 13), (0, 12, 23, 15)]) 7 xIA 19 := ⟨[⟨0, 12, 15, 21⟩], ⟨0, 12, 19, 13⟩, [⟨0, 12, 23, 15⟩], rfl, fun z hz => by
  obtain rfl := List.mem_singleton.mp hz
  exact ⟨by decide, xIO, (List.mem_of_getElem? (i := 291) (by decide +kernel)), fun U h => h.2.1⟩, by decide, by decide, (List.mem_of_getElem? (i := 186) (by decide +kernel)), (List.mem_of_getElem? (i := 197) (by decide +kernel)), rfl⟩
set_option maxRecDepth 20000 in
theorem hc_addPoint_xIS : HC RL (tableOf [(0, 12, 15, 21), (0, 12, 19, 13), (0, 12, 23, 15)]) 7 xIS 23 := ⟨[⟨0, 12, 15, 21⟩, ⟨0, 12, 19, 13⟩], ⟨0, 12, 23, 15⟩, [], rfl, fun z hz => by
  rcases List.mem_cons.mp hz with rfl | hz
  · exact ⟨by decide, xIO, (List.mem_of_getElem? (i := 291) (by decide +kernel)), fun U h => h.2.2⟩
  · obtain rfl := List.mem_singleton.mp hz
    exact ⟨by decide, xIA, (List.mem_of_getElem? (i := 186) (by decide +kernel)), fun U h => h.1⟩, by decide, by decide, (List.mem_of_getElem? (i := 187) (by decide +kernel)), (List.mem_of_getElem? (i := 269) (by decide +kernel)), rfl⟩
set_option maxRecDepth 20000 in
theorem mx_L_23 : MX RL 23 0 yX4_dropPoint 1 := ⟨(List.mem_of_getElem? (i := 357) (by decide +kernel)), (List.mem_of_getElem? (i := 59) (by decide +kernel)), ⟨by decide +kernel, by decide +kernel⟩, by decide +kernel, fun _ => ⟨(List.mem_of_getElem? (i := 358) (by decide +kernel)), (List.mem_of_getElem? (i := 359) (by decide +kernel))⟩, fun h => by omega⟩
set_option maxRecDepth 20000 in
theorem k_X4_dropPoint : Cond.code yX4_dropPoint cX4_dropPoint 3 (some .int) ∈ GT := (List.mem_of_getElem? (i := 360) (by decide +kernel))
set_option maxRecDepth 20000 in
theorem hc_dropPoint_xIO : HC RL (tableOf [(0, 9, 12, 21), (0, 9, 15, 15)]) 4 xIO 12 := ⟨[], ⟨0, 9, 12, 21⟩, [⟨0, 9, 15, 15⟩], rfl, (fun z hz => nomatch hz), by decide, by decide, (List.mem_of_getElem? (i := 291) (by decide +kernel)), (List.mem_of_getElem? (i := 302) (by decide +kernel)), rfl⟩
set_option maxRecDepth 20000 in
theorem hc_dropPoint_xIS : HC RL (tableOf [(0, 9, 12, 21), (0, 9, 15, 15)]) 4 xIS 15 := ⟨[⟨0, 9, 12, 21⟩], ⟨0, 9, 15, 15⟩, [], rfl, fun z hz => by
  obtain rfl := List.mem_singleton.mp hz
  exact ⟨by decide, xIO, (List.mem_of_getElem? (i := 291) (by decide +kernel)), fun U h => h.2.2⟩, by decide, by decide, (List.mem_of_getElem? (i := 187) (by decide +kernel)), (List.mem_of_getElem? (i := 269) (by decide +kernel)), rfl⟩
set_option maxRecDepth 20000 in
theorem mx_L_27 : MX RL 27 0 yX4_setOneWay 2 := ⟨(List.mem_of_getElem? (i := 372) (by decide +kernel)), (List.mem_of_getElem? (i := 59) (by decide +kernel)), ⟨by decide +kernel, by decide +kernel⟩, by decide +kernel, fun _ => ⟨(List.mem_of_getElem? (i := 373) (by decide +kernel)), (List.mem_of_getElem? (i := 374) (by decide +kernel))⟩, fun h => by omega⟩
set_option maxRecDepth 20000 in
theorem k_X4_setOneWay : Cond.code yX4_setOneWay cX4_setOneWay 4 (some .boolean) ∈ GT := (List.mem_of_getElem? (i := 375) (by decide +kernel))
set_option maxRecDepth 20000 in
theorem hc_setOneWay_xIO : HC RL (tableOf [(0, 17, 20, 21)]) 5 xIO 20 := ⟨[], ⟨0, 17, 20, 21⟩, [], rfl, (fun z hz => nomatch hz), by decide, by decide, (List.mem_of_getElem? (i := 291) (by decide +kernel)), (List.mem_of_getElem? (i := 302) (by decide +kernel)), rfl⟩
set_option maxRecDepth 20000 in
theorem mx_L_31 : MX RL 31 0 yX4_rename 3 := ⟨(List.mem_of_getElem? (i := 379) (by decide +kernel)), (List.mem_of_getElem? (i := 59) (by decide +kernel)), ⟨by decide +kernel, by decide +kernel⟩, by decide +kernel, fun _ => ⟨(List.mem_of_getElem? (i := 380) (by decide +kernel)), (List.mem_of_getElem? (i := 381) (by decide +kernel))⟩, fun h => by omega⟩
set_option maxRecDepth 20000 in
theorem k_X4_rename : Cond.code yX4_rename cX4_rename 4 none ∈ GT := (List.mem_of_getElem? (i := 382) (by decide +kernel))
set_option maxRecDepth 20000 in
theorem hc_rename_xIO : HC RL (tableOf [(0, 7, 10, 21), (0, 7, 14, 13)]) 4 xIO 10 := ⟨[], ⟨0, 7, 10, 21⟩, [⟨0, 7, 14, 13⟩], rfl, (fun z hz => nomatch hz), by decide, by decide, (List.mem_of_getElem? (i := 291) (by decide +kernel)), (List.mem_of_getElem? (i := 302) (by decide +kernel)), rfl⟩
set_option maxRecDepth 20000 in
theorem hc_rename_xIA : HC RL (tableOf [(0, 7, 10, 21), (0, 7, 14, 13)]) 4 xIA 14 := ⟨[⟨0, 7, 10, 21⟩], ⟨0, 7, 14, 13⟩, [], rfl, fun z hz => by
  obtain rfl := List.mem_singleton.mp hz
  exact ⟨by decide, xIO, (List.mem_of_getElem? (i := 291) (by decide +kernel)), fun U h => h.2.1⟩, by decide, by decide, (List.mem_of_getElem? (i := 186) (by decide +kernel)), (List.mem_of_getElem? (i := 197) (by decide +kernel)), rfl⟩
set_option maxRecDepth 20000 in
theorem mx_L_35 : MX RL 35 0 yX4_setKind 2 := ⟨(List.mem_of_getElem? (i := 386) (by decide +kernel)), (List.mem_of_getElem? (i := 59) (by decide +kernel)), ⟨by decide +kernel, by decide +kernel⟩, by decide +kernel, fun _ => ⟨(List.mem_of_getElem? (i := 387) (by decide +kernel)), (List.mem_of_getElem? (i := 388) (by decide +kernel))⟩, fun h => by omega⟩
set_option maxRecDepth 20000 in
theorem k_X4_setKind : Cond.code yX4_setKind cX4_setKind 4 (some .int) ∈ GT := (List.mem_of_getElem? (i := 389) (by decide +kernel))
set_option maxRecDepth 20000 in
theorem hc_setKind_xIO : HC RL (tableOf [(0, 10, 13, 21), (0, 10, 17, 13)]) 5 xIO 13 := ⟨[], ⟨0, 10, 13, 21⟩, [⟨0, 10, 17, 13⟩], rfl, (fun z hz => nomatch hz), by decide, by decide, (List.mem_of_getElem? (i := 291) (by decide +kernel)), (List.mem_of_getElem? (i := 302) (by decide +kernel)), rfl⟩
set_option maxRecDepth 20000 in
theorem hc_setKind_xIA : HC RL (tableOf [(0, 10, 13, 21), (0, 10, 17, 13)]) 5 xIA 17 := ⟨[⟨0, 10, 13, 21⟩], ⟨0, 10, 17, 13⟩, [], rfl, fun z hz => by
  obtain rfl := List.mem_singleton.mp hz
  exact ⟨by decide, xIO, (List.mem_of_getElem? (i := 291) (by decide +kernel)), fun U h => h.2.1⟩, by decide, by decide, (List.mem_of_getElem? (i := 186) (by decide +kernel)), (List.mem_of_getElem? (i := 197) (by decide +kernel)), rfl⟩
set_option maxRecDepth 20000 in
theorem mx_L_38 : MX RL 38 0 yX4_streetAt 1 := ⟨(List.mem_of_getElem? (i := 394) (by decide +kernel)), (List.mem_of_getElem? (i := 59) (by decide +kernel)), ⟨by decide +kernel, by decide +kernel⟩, by decide +kernel, fun _ => ⟨(List.mem_of_getElem? (i := 395) (by decide +kernel)), (List.mem_of_getElem? (i := 396) (by decide +kernel))⟩, fun h => by omega⟩
set_option maxRecDepth 20000 in
theorem k_X4_streetAt : Cond.code yX4_streetAt cX4_streetAt 3 (some .int) ∈ GT := (List.mem_of_getElem? (i := 397) (by decide +kernel))
set_option maxRecDepth 20000 in
theorem hc_streetAt_xIO : HC RL (tableOf [(0, 9, 12, 21)]) 4 xIO 12 := ⟨[], ⟨0, 9, 12, 21⟩, [], rfl, (fun z hz => nomatch hz), by decide, by decide, (List.mem_of_getElem? (i := 291) (by decide +kernel)), (List.mem_of_getElem? (i := 302) (by decide +kernel)), rfl⟩
set_option maxRecDepth 20000 in
theorem mx_L_41 : MX RL 41 0 yX4_placeOf 1 := ⟨(List.mem_of_getElem? (i := 485) (by decide +kernel)), (List.mem_of_getElem? (i := 59) (by decide +kernel)), ⟨by decide +kernel, by decide +kernel⟩, by decide +kernel, fun _ => ⟨(List.mem_of_getElem? (i := 486) (by decide +kernel)), (List.mem_of_getElem? (i := 487) (by decide +kernel))⟩, fun h => by omega⟩
set_option maxRecDepth 20000 in
theorem k_X4_placeOf : Cond.code yX4_placeOf cX4_placeOf 2 (some .int) ∈ GT := (List.mem_of_getElem? (i := 488) (by decide +kernel))
set_option maxRecDepth 20000 in
theorem hc_placeOf_xIO : HC RL (tableOf [(0, 9, 12, 21)]) 4 xIO 12 := ⟨[], ⟨0, 9, 12, 21⟩, [], rfl, (fun z hz => nomatch hz), by decide, by decide, (List.mem_of_getElem? (i := 291) (by decide +kernel)), (List.mem_of_getElem? (i := 302) (by decide +kernel)), rfl⟩
set_option maxRecDepth 20000 in
theorem mx_L_44 : MX RL 44 0 yX4_compareKeys 2 := ⟨(List.mem_of_getElem? (i := 492) (by decide +kernel)), (List.mem_of_getElem? (i := 59) (by decide +kernel)), ⟨by decide +kernel, by decide +kernel⟩, by decide +kernel, fun _ => ⟨(List.mem_of_getElem? (i := 493) (by decide +kernel)), (List.mem_of_getElem? (i := 494) (by decide +kernel))⟩, fun h => by omega⟩
set_option maxRecDepth 20000 in
theorem k_X4_compareKeys : Cond.code yX4_compareKeys cX4_compareKeys 3 (some .int) ∈ GT := (List.mem_of_getElem? (i := 495) (by decide +kernel))
set_option maxRecDepth 20000 in
theorem hc_compareKeys_xIO : HC RL (tableOf [(0, 10, 13, 21)]) 5 xIO 13 := ⟨[], ⟨0, 10, 13, 21⟩, [], rfl, (fun z hz => nomatch hz), by decide, by decide, (List.mem_of_getElem? (i := 291) (by decide +kernel)), (List.mem_of_getElem? (i := 302) (by decide +kernel)), rfl⟩
set_option maxRecDepth 20000 in
theorem mx_L_47 : MX RL 47 0 yX4_lineLength 1 := ⟨(List.mem_of_getElem? (i := 499) (by decide +kernel)), (List.mem_of_getElem? (i := 59) (by decide +kernel)), ⟨by decide +kernel, by decide +kernel⟩, by decide +kernel, fun _ => ⟨(List.mem_of_getElem? (i := 500) (by decide +kernel)), (List.mem_of_getElem? (i := 501) (by decide +kernel))⟩, fun h => by omega⟩
set_option maxRecDepth 20000 in
theorem k_X4_lineLength : Cond.code yX4_lineLength cX4_lineLength 2 (some .int) ∈ GT := (List.mem_of_getElem? (i := 502) (by decide +kernel))
set_option maxRecDepth 20000 in
theorem hc_lineLength_xIO : HC RL (tableOf [(0, 9, 12, 21)]) 4 xIO 12 := ⟨[], ⟨0, 9, 12, 21⟩, [], rfl, (fun z hz => nomatch hz), by decide, by decide, (List.mem_of_getElem? (i := 291) (by decide +kernel)), (List.mem_of_getElem? (i := 302) (by decide +kernel)), rfl⟩
set_option maxRecDepth 20000 in
theorem mx_L_50 : MX RL 50 0 yX4_lineChar 2 := ⟨(List.mem_of_getElem? (i := 712) (by decide +kernel)), (List.mem_of_getElem? (i := 59) (by decide +kernel)), ⟨by decide +kernel, by decide +kernel⟩, by decide +kernel, fun _ => ⟨(List.mem_of_getElem? (i := 713) (by decide +kernel)), (List.mem_of_getElem? (i := 714) (by decide +kernel))⟩, fun h => by omega⟩
set_option maxRecDepth 20000 in
theorem k_X4_lineChar : Cond.code yX4_lineChar cX4_lineChar 4 (some .char) ∈ GT := (List.mem_of_getElem? (i := 715) (by decide +kernel))
set_option maxRecDepth 20000 in
theorem hc_lineChar_xIO : HC RL (tableOf [(0, 10, 13, 21)]) 5 xIO 13 := ⟨[], ⟨0, 10, 13, 21⟩, [], rfl, (fun z hz => nomatch hz), by decide, by decide, (List.mem_of_getElem? (i := 291) (by decide +kernel)), (List.mem_of_getElem? (i := 302) (by decide +kernel)), rfl⟩
set_option maxRecDepth 20000 in
theorem mx_L_54 : MX RL 54 0 yX4_trackLength 1 := ⟨(List.mem_of_getElem? (i := 730) (by decide +kernel)), (List.mem_of_getElem? (i := 59) (by decide +kernel)), ⟨by decide +kernel, by decide +kernel⟩, by decide +kernel, fun _ => ⟨(List.mem_of_getElem? (i := 731) (by decide +kernel)), (List.mem_of_getElem? (i := 732) (by decide +kernel))⟩, fun h => by omega⟩
set_option maxRecDepth 20000 in
theorem k_X4_trackLength : Cond.code yX4_trackLength cX4_trackLength 2 (some .int) ∈ GT := (List.mem_of_getElem? (i := 733) (by decide +kernel))
set_option maxRecDepth 20000 in
theorem hc_trackLength_xIO : HC RL (tableOf [(0, 9, 12, 21)]) 4 xIO 12 := ⟨[], ⟨0, 9, 12, 21⟩, [], rfl, (fun z hz => nomatch hz), by decide, by decide, (List.mem_of_getElem? (i := 291) (by decide +kernel)), (List.mem_of_getElem? (i := 302) (by decide +kernel)), rfl⟩
set_option maxRecDepth 20000 in
theorem mx_L_57 : MX RL 57 0 yX4_squares 1 := ⟨(List.mem_of_getElem? (i := 737) (by decide +kernel)), (List.mem_of_getElem? (i := 59) (by decide +kernel)), ⟨by decide +kernel, by decide +kernel⟩, by decide +kernel, fun _ => ⟨(List.mem_of_getElem? (i := 738) (by decide +kernel)), (List.mem_of_getElem? (i := 739) (by decide +kernel))⟩, fun h => by omega⟩
set_option maxRecDepth 20000 in
theorem k_X4_squares : Cond.code yX4_squares cX4_squares 2 (some .int) ∈ GT := (List.mem_of_getElem? (i := 740) (by decide +kernel))
set_option maxRecDepth 20000 in
theorem hc_squares_xIO : HC RL (tableOf [(0, 9, 12, 21)]) 4 xIO 12 := ⟨[], ⟨0, 9, 12, 21⟩, [], rfl, (fun z hz => nomatch hz), by decide, by decide, (List.mem_of_getElem? (i := 291) (by decide +kernel)), (List.mem_of_getElem? (i := 302) (by decide +kernel)), rfl⟩
set_option maxRecDepth 20000 in
theorem mx_L_60 : MX RL 60 0 yX4_runs 1 := ⟨(List.mem_of_getElem? (i := 754) (by decide +kernel)), (List.mem_of_getElem? (i := 59) (by decide +kernel)), ⟨by decide +kernel, by decide +kernel⟩, by decide +kernel, fun _ => ⟨(List.mem_of_getElem? (i := 755) (by decide +kernel)), (List.mem_of_getElem? (i := 756) (by decide +kernel))⟩, fun h => by omega⟩
set_option maxRecDepth 20000 in
theorem k_X4_runs : Cond.code yX4_runs cX4_runs 2 (some .int) ∈ GT := (List.mem_of_getElem? (i := 757) (by decide +kernel))
set_option maxRecDepth 20000 in
theorem hc_runs_xIO : HC RL (tableOf [(0, 9, 12, 21)]) 4 xIO 12 := ⟨[], ⟨0, 9, 12, 21⟩, [], rfl, (fun z hz => nomatch hz), by decide, by decide, (List.mem_of_getElem? (i := 291) (by decide +kernel)), (List.mem_of_getElem? (i := 302) (by decide +kernel)), rfl⟩
set_option maxRecDepth 20000 in
theorem mx_L_63 : MX RL 63 0 yX4_isOn 3 := ⟨(List.mem_of_getElem? (i := 765) (by decide +kernel)), (List.mem_of_getElem? (i := 59) (by decide +kernel)), ⟨by decide +kernel, by decide +kernel⟩, by decide +kernel, fun _ => ⟨(List.mem_of_getElem? (i := 766) (by decide +kernel)), (List.mem_of_getElem? (i := 767) (by decide +kernel))⟩, fun h => by omega⟩
set_option maxRecDepth 20000 in
theorem k_X4_isOn : Cond.code yX4_isOn cX4_isOn 4 (some .boolean) ∈ GT := (List.mem_of_getElem? (i := 768) (by decide +kernel))
set_option maxRecDepth 20000 in
theorem hc_isOn_xIO : HC RL (tableOf [(0, 19, 22, 21)]) 7 xIO 22 := ⟨[], ⟨0, 19, 22, 21⟩, [], rfl, (fun z hz => nomatch hz), by decide, by decide, (List.mem_of_getElem? (i := 291) (by decide +kernel)), (List.mem_of_getElem? (i := 302) (by decide +kernel)), rfl⟩
set_option maxRecDepth 20000 in
theorem mx_L_67 : MX RL 67 0 yX4_isOnTrack 3 := ⟨(List.mem_of_getElem? (i := 773) (by decide +kernel)), (List.mem_of_getElem? (i := 59) (by decide +kernel)), ⟨by decide +kernel, by decide +kernel⟩, by decide +kernel, fun _ => ⟨(List.mem_of_getElem? (i := 774) (by decide +kernel)), (List.mem_of_getElem? (i := 775) (by decide +kernel))⟩, fun h => by omega⟩
set_option maxRecDepth 20000 in
theorem k_X4_isOnTrack : Cond.code yX4_isOnTrack cX4_isOnTrack 4 (some .boolean) ∈ GT := (List.mem_of_getElem? (i := 776) (by decide +kernel))
set_option maxRecDepth 20000 in
theorem hc_isOnTrack_xIO : HC RL (tableOf [(0, 19, 22, 21)]) 7 xIO 22 := ⟨[], ⟨0, 19, 22, 21⟩, [], rfl, (fun z hz => nomatch hz), by decide, by decide, (List.mem_of_getElem? (i := 291) (by decide +kernel)), (List.mem_of_getElem? (i := 302) (by decide +kernel)), rfl⟩
set_option maxRecDepth 20000 in
theorem mx_L_70 : MX RL 70 0 yX4_streetsOf 2 := ⟨(List.mem_of_getElem? (i := 785) (by decide +kernel)), (List.mem_of_getElem? (i := 59) (by decide +kernel)), ⟨by decide +kernel, by decide +kernel⟩, by decide +kernel, fun _ => ⟨(List.mem_of_getElem? (i := 786) (by decide +kernel)), (List.mem_of_getElem? (i := 787) (by decide +kernel))⟩, fun h => by omega⟩
set_option maxRecDepth 20000 in
theorem k_X4_streetsOf : Cond.code yX4_streetsOf cX4_streetsOf 5 (some .int) ∈ GT := (List.mem_of_getElem? (i := 788) (by decide +kernel))
set_option maxRecDepth 20000 in
theorem hc_streetsOf_xIO : HC RL (tableOf [(0, 10, 13, 21)]) 5 xIO 13 := ⟨[], ⟨0, 10, 13, 21⟩, [], rfl, (fun z hz => nomatch hz), by decide, by decide, (List.mem_of_getElem? (i := 291) (by decide +kernel)), (List.mem_of_getElem? (i := 302) (by decide +kernel)), rfl⟩
set_option maxRecDepth 20000 in
theorem mx_L_73 : MX RL 73 0 yX4_distance 3 := ⟨(List.mem_of_getElem? (i := 792) (by decide +kernel)), (List.mem_of_getElem? (i := 59) (by decide +kernel)), ⟨by decide +kernel, by decide +kernel⟩, by decide +kernel, fun _ => ⟨(List.mem_of_getElem? (i := 793) (by decide +kernel)), (List.mem_of_getElem? (i := 794) (by decide +kernel))⟩, fun h => by omega⟩
set_option maxRecDepth 20000 in
theorem k_X4_distance : Cond.code yX4_distance cX4_distance 5 (some .int) ∈ GT := (List.mem_of_getElem? (i := 795) (by decide +kernel))
set_option maxRecDepth 20000 in
theorem hc_distance_xIO : HC RL (tableOf [(0, 12, 15, 21)]) 7 xIO 15 := ⟨[], ⟨0, 12, 15, 21⟩, [], rfl, (fun z hz => nomatch hz), by decide, by decide, (List.mem_of_getElem? (i := 291) (by decide +kernel)), (List.mem_of_getElem? (i := 302) (by decide +kernel)), rfl⟩
set_option maxRecDepth 20000 in
theorem mx_L_76 : MX RL 76 0 yX4_nearest 3 := ⟨(List.mem_of_getElem? (i := 804) (by decide +kernel)), (List.mem_of_getElem? (i := 59) (by decide +kernel)), ⟨by decide +kernel, by decide +kernel⟩, by decide +kernel, fun _ => ⟨(List.mem_of_getElem? (i := 805) (by decide +kernel)), (List.mem_of_getElem? (i := 806) (by decide +kernel))⟩, fun h => by omega⟩
set_option maxRecDepth 20000 in
theorem k_X4_nearest : Cond.code yX4_nearest cX4_nearest 4 (some .int) ∈ GT := (List.mem_of_getElem? (i := 807) (by decide +kernel))
set_option maxRecDepth 20000 in
theorem hc_nearest_xIO : HC RL (tableOf [(0, 12, 15, 21)]) 7 xIO 15 := ⟨[], ⟨0, 12, 15, 21⟩, [], rfl, (fun z hz => nomatch hz), by decide, by decide, (List.mem_of_getElem? (i := 291) (by decide +kernel)), (List.mem_of_getElem? (i := 302) (by decide +kernel)), rfl⟩
set_option maxRecDepth 20000 in
theorem mx_L_79 : MX RL 79 0 yX4_walk 4 := ⟨(List.mem_of_getElem? (i := 811) (by decide +kernel)), (List.mem_of_getElem? (i := 59) (by decide +kernel)), ⟨by decide +kernel, by decide +kernel⟩, by decide +kernel, fun _ => ⟨(List.mem_of_getElem? (i := 812) (by decide +kernel)), (List.mem_of_getElem? (i := 813) (by decide +kernel))⟩, fun h => by omega⟩
set_option maxRecDepth 20000 in
theorem k_X4_walk : Cond.code yX4_walk cX4_walk 5 (some .int) ∈ GT := (List.mem_of_getElem? (i := 814) (by decide +kernel))
set_option maxRecDepth 20000 in
theorem hc_walk_xIO : HC RL (tableOf [(0, 14, 17, 21)]) 9 xIO 17 := ⟨[], ⟨0, 14, 17, 21⟩, [], rfl, (fun z hz => nomatch hz), by decide, by decide, (List.mem_of_getElem? (i := 291) (by decide +kernel)), (List.mem_of_getElem? (i := 302) (by decide +kernel)), rfl⟩
set_option maxRecDepth 20000 in
theorem mx_L_83 : MX RL 83 0 yX4_walkByRounds 4 := ⟨(List.mem_of_getElem? (i := 843) (by decide +kernel)), (List.mem_of_getElem? (i := 59) (by decide +kernel)), ⟨by decide +kernel, by decide +kernel⟩, by decide +kernel, fun _ => ⟨(List.mem_of_getElem? (i := 844) (by decide +kernel)), (List.mem_of_getElem? (i := 845) (by decide +kernel))⟩, fun h => by omega⟩
set_option maxRecDepth 20000 in
theorem k_X4_walkByRounds : Cond.code yX4_walkByRounds cX4_walkByRounds 5 (some .int) ∈ GT := (List.mem_of_getElem? (i := 846) (by decide +kernel))
set_option maxRecDepth 20000 in
theorem hc_walkByRounds_xIO : HC RL (tableOf [(0, 14, 17, 21)]) 9 xIO 17 := ⟨[], ⟨0, 14, 17, 21⟩, [], rfl, (fun z hz => nomatch hz), by decide, by decide, (List.mem_of_getElem? (i := 291) (by decide +kernel)), (List.mem_of_getElem? (i := 302) (by decide +kernel)), rfl⟩
set_option maxRecDepth 20000 in
theorem mx_L_86 : MX RL 86 0 yX4_reachable 2 := ⟨(List.mem_of_getElem? (i := 862) (by decide +kernel)), (List.mem_of_getElem? (i := 59) (by decide +kernel)), ⟨by decide +kernel, by decide +kernel⟩, by decide +kernel, fun _ => ⟨(List.mem_of_getElem? (i := 863) (by decide +kernel)), (List.mem_of_getElem? (i := 864) (by decide +kernel))⟩, fun h => by omega⟩
set_option maxRecDepth 20000 in
theorem k_X4_reachable : Cond.code yX4_reachable cX4_reachable 3 (some .int) ∈ GT := (List.mem_of_getElem? (i := 865) (by decide +kernel))
set_option maxRecDepth 20000 in
theorem hc_reachable_xIO : HC RL (tableOf [(0, 10, 13, 21)]) 5 xIO 13 := ⟨[], ⟨0, 10, 13, 21⟩, [], rfl, (fun z hz => nomatch hz), by decide, by decide, (List.mem_of_getElem? (i := 291) (by decide +kernel)), (List.mem_of_getElem? (i := 302) (by decide +kernel)), rfl⟩
section
variable {l : Launch} {D : va_G} {cy : Nat → ClassId} {n0 : Nat} {ad : Nat → Nat} {b : Nat → Nat} {E : va_W} {ws : va_W}
set_option maxHeartbeats 4000000 in
set_option maxRecDepth 100000 in
theorem c_L_addStreet {μ : Nat → Int → Int} {n : Nat} {N : Nat → List Int} {ow : Nat → Int} {m : Nat → Nat} {p : Nat → Nat → Int} {w z : Int} {o : Nat} {g9 : Nat → Int64} (hfl : l.stackTraces = false) (hX : XI μ n N ow m p) (hwR : -2147483648 ≤ w ∧ w < 2147483648) : CTH l D cy n0 ad yL_addStreet (.codeWith yL_addStreet cL_addStreet 5 (some .int) [(0, 10, 13, 13), (0, 10, 17, 15)]) ({ frames := 8, cells := 2, slots := 12, locals := 126 }) [.ref (b 0), .int (zI w), .int (zI z), .ref o] (gw 105 XSh cy b μ ++ ((o, .inl (cy 4, 1, .inr (.inl g9))) :: E)) (fun vv uu => ∃ zz μ' f', vv = some (.int (zI zz)) ∧ uu = (gw 105 XSh cy b μ' ++ ((o, .inl (cy 4, 1, .inr (.inl f'))) :: E)) ∧ ((zz = 0 ∧ ∃ q, f' 0 = (zI q).toInt64 ∧ (q = n ∧ n < 16 ∧ NmOK w z ∧ XI μ' (n + 1) (fset N n (nameL z w.toNat)) ow m p ∧ μ' 1 = μ 1)) ∨ (∃ X, zz = ecode [xIA, xIS] X ∧ (((X = xIA ∧ ¬ NmOK w z) ∨ (X = xIS ∧ NmOK w z ∧ n = 16)) ∧ μ' = μ)))) := by
  refine CTH.walk hfl (by decide) (Nat.le_of_ble_eq_true rfl) ?_
  intro A J hJ
  show J (gw 105 XSh cy b μ ++ ((o, .inl (cy 4, 1, .inr (.inl g9))) :: E)) 0 0 0 [(0, .ref (b 0)), (1, .int (zI w)), (2, .int (zI z)), (3, .ref o)] []
  refine j_aload_n hJ (j := 3) rfl rfl dL_addStreet_0 ?_
  refine j_iconst hJ dL_addStreet_1 ?_
  refine j_aload_n hJ (j := 0) rfl rfl dL_addStreet_2 ?_
  refine j_iload_n hJ (j := 1) rfl rfl dL_addStreet_3 ?_
  refine j_iload_n hJ (j := 2) rfl rfl dL_addStreet_4 ?_
  refine j_callVXh hJ (c_X4_addStreet (E := (o, .inl (cy 4, 1, .inr (.inl g9))) :: E) hfl hX hwR) mx_L_7 k_X4_addStreet (q0 := 0) (by rw [gw_get (by decide)]; rfl) rfl ⟨(Nat.le_of_ble_eq_true rfl), (Nat.le_of_ble_eq_true rfl)⟩ ⟨(Nat.le_of_ble_eq_true rfl), (Nat.le_of_ble_eq_true rfl)⟩ (Nat.le_of_ble_eq_true rfl) dL_addStreet_5 rfl ?_ ?_
  · intro X u hX
    obtain ⟨μ9, rfl, hx⟩ := hX
    have hX3 : X = xIA ∨ X = xIS := by
      rcases hx with ⟨⟨h, -⟩ | ⟨h, -⟩, -⟩
      · exact Or.inl h
      · exact Or.inr h
    rcases hX3 with rfl | rfl
    · refine ⟨13, hc_addStreet_xIA, fun q9 => ?_⟩
      show J (gw 105 XSh cy b μ9 ++ ((o, .inl (cy 4, 1, .inr (.inl g9))) :: E)) 2 12 13 [(0, .ref (b 0)), (1, .int (zI w)), (2, .int (zI z)), (3, .ref o)] [.ref q9]
      refine j_astore hJ (lv' := [(4, .ref q9), (0, .ref (b 0)), (1, .int (zI w)), (2, .int (zI z)), (3, .ref o)]) (by decide) rfl dL_addStreet_13 ?_
      refine j_iconst hJ dL_addStreet_15 ?_
      refine j_iret hJ rfl rfl rfl (Nat.le_of_ble_eq_true rfl) (Nat.le_of_ble_eq_true rfl) dL_addStreet_16 ⟨1, μ9, g9, rfl, rfl, ?_⟩
      exact Or.inr ⟨xIA, by decide +kernel, hx⟩
    · refine ⟨17, hc_addStreet_xIS, fun q9 => ?_⟩
      show J (gw 105 XSh cy b μ9 ++ ((o, .inl (cy 4, 1, .inr (.inl g9))) :: E)) 2 12 17 [(0, .ref (b 0)), (1, .int (zI w)), (2, .int (zI z)), (3, .ref o)] [.ref q9]
      refine j_astore hJ (lv' := [(4, .ref q9), (0, .ref (b 0)), (1, .int (zI w)), (2, .int (zI z)), (3, .ref o)]) (by decide) rfl dL_addStreet_17 ?_
      refine j_iconst hJ dL_addStreet_19 ?_
      refine j_iret hJ rfl rfl rfl (Nat.le_of_ble_eq_true rfl) (Nat.le_of_ble_eq_true rfl) dL_addStreet_20 ⟨2, μ9, g9, rfl, rfl, ?_⟩
      exact Or.inr ⟨xIS, by decide +kernel, hx⟩
  · intro v u hv
    obtain ⟨q, μ8, rfl, rfl, h⟩ := hv
    show J (gw 105 XSh cy b μ8 ++ ((o, .inl (cy 4, 1, .inr (.inl g9))) :: E)) 2 12 8 [(0, .ref (b 0)), (1, .int (zI w)), (2, .int (zI z)), (3, .ref o)] [.int (zI q), .int (zI 0), .ref o]
    refine j_i2l hJ dL_addStreet_8 ?_
    refine j_lastore hJ (q0 := 105) out_at dL_addStreet_9 ?_
    intro g8 hg8
    rw [out_set]
    show J (gw 105 XSh cy b μ8 ++ ((o, .inl (cy 4, 1, .inr (.inl g8))) :: E)) 2 12 10 [(0, .ref (b 0)), (1, .int (zI w)), (2, .int (zI z)), (3, .ref o)] []
    refine j_goto hJ (tgt := 21) (by decide) dL_addStreet_10 ?_
    refine j_iconst hJ dL_addStreet_21 ?_
    refine j_iret hJ rfl rfl rfl (Nat.le_of_ble_eq_true rfl) (Nat.le_of_ble_eq_true rfl) dL_addStreet_22 ⟨0, μ8, g8, rfl, rfl, ?_⟩
    exact Or.inl ⟨rfl, q, hg8, h⟩
set_option maxHeartbeats 4000000 in
set_option maxRecDepth 100000 in
theorem c_L_addPoint {μ : Nat → Int → Int} {n : Nat} {N : Nat → List Int} {ow : Nat → Int} {m : Nat → Nat} {p : Nat → Nat → Int} {s c r : Int} {o : Nat} {g9 : Nat → Int64} (hfl : l.stackTraces = false) (hX : XI μ n N ow m p) (hsR : -2147483648 ≤ s ∧ s < 2147483648) (hcR : -2147483648 ≤ c ∧ c < 2147483648) (hrR : -2147483648 ≤ r ∧ r < 2147483648) : CTH l D cy n0 ad yL_addPoint (.codeWith yL_addPoint cL_addPoint 6 (some .int) [(0, 12, 15, 21), (0, 12, 19, 13), (0, 12, 23, 15)]) ({ frames := 8, cells := 3, slots := 18, locals := 127 }) [.ref (b 0), .int (zI s), .int (zI c), .int (zI r), .ref o] (gw 105 XSh cy b μ ++ ((o, .inl (cy 4, 1, .inr (.inl g9))) :: E)) (fun vv uu => ∃ zz μ' f', vv = some (.int (zI zz)) ∧ uu = (gw 105 XSh cy b μ' ++ ((o, .inl (cy 4, 1, .inr (.inl f'))) :: E)) ∧ ((zz = 0 ∧ ∃ q, f' 0 = (zI q).toInt64 ∧ (StOK n s ∧ SqOK c r ∧ (m s.toNat = 0 ∨ Aln (p s.toNat (m s.toNat - 1)) c r) ∧ m s.toNat < 10 ∧ q = ((trk (pset (p s.toNat) (m s.toNat) (12 * c + r)) (m s.toNat + 1)).length : Nat) ∧ XI μ' n N ow (fset m s.toNat (m s.toNat + 1)) (fset p s.toNat (pset (p s.toNat) (m s.toNat) (12 * c + r))) ∧ μ' 1 = μ 1)) ∨ (∃ X, zz = ecode [xIO, xIA, xIS] X ∧ (((X = xIO ∧ ¬ (StOK n s ∧ SqOK c r)) ∨ (X = xIA ∧ (StOK n s ∧ SqOK c r) ∧ ¬ (m s.toNat = 0 ∨ Aln (p s.toNat (m s.toNat - 1)) c r)) ∨ (X = xIS ∧ (StOK n s ∧ SqOK c r) ∧ (m s.toNat = 0 ∨ Aln (p s.toNat (m s.toNat - 1)) c r) ∧ m s.toNat = 10)) ∧ μ' = μ)))) := by
  refine CTH.walk hfl (by decide) (Nat.le_of_ble_eq_true rfl) ?_
  intro A J hJ
  show J (gw 105 XSh cy b μ ++ ((o, .inl (cy 4, 1, .inr (.inl g9))) :: E)) 0 0 0 [(0, .ref (b 0)), (1, .int (zI s)), (2, .int (zI c)), (3, .int (zI r)), (4, .ref o)] []
  refine j_aload hJ (j := 4) rfl dL_addPoint_0 ?_
  refine j_iconst hJ dL_addPoint_2 ?_
  refine j_aload_n hJ (j := 0) rfl rfl dL_addPoint_3 ?_
  refine j_iload_n hJ (j := 1) rfl rfl dL_addPoint_4 ?_
  refine j_iload_n hJ (j := 2) rfl rfl dL_addPoint_5 ?_
  refine j_iload_n hJ (j := 3) rfl rfl dL_addPoint_6 ?_
  refine j_callVXh hJ (c_X4_addPoint (E := (o, .inl (cy 4, 1, .inr (.inl g9))) :: E) hfl hX hsR hcR hrR) mx_L_17 k_X4_addPoint (q0 := 0) (by rw [gw_get (by decide)]; rfl) rfl ⟨(Nat.le_of_ble_eq_true rfl), (Nat.le_of_ble_eq_true rfl)⟩ ⟨(Nat.le_of_ble_eq_true rfl), (Nat.le_of_ble_eq_true rfl)⟩ (Nat.le_of_ble_eq_true rfl) dL_addPoint_7 rfl ?_ ?_
  · intro X u hX
    obtain ⟨μ9, rfl, hx⟩ := hX
    have hX3 : X = xIO ∨ X = xIA ∨ X = xIS := by
      rcases hx with ⟨⟨h, -⟩ | ⟨h, -⟩ | ⟨h, -⟩, -⟩
      · exact Or.inl h
      · exact Or.inr (Or.inl h)
      · exact Or.inr (Or.inr h)
    rcases hX3 with rfl | rfl | rfl
    · refine ⟨15, hc_addPoint_xIO, fun q9 => ?_⟩
      show J (gw 105 XSh cy b μ9 ++ ((o, .inl (cy 4, 1, .inr (.inl g9))) :: E)) 3 18 15 [(0, .ref (b 0)), (1, .int (zI s)), (2, .int (zI c)), (3, .int (zI r)), (4, .ref o)] [.ref q9]
      refine j_astore hJ (lv' := [(5, .ref q9), (0, .ref (b 0)), (1, .int (zI s)), (2, .int (zI c)), (3, .int (zI r)), (4, .ref o)]) (by decide) rfl dL_addPoint_15 ?_
      refine j_iconst hJ dL_addPoint_17 ?_
      refine j_iret hJ rfl rfl rfl (Nat.le_of_ble_eq_true rfl) (Nat.le_of_ble_eq_true rfl) dL_addPoint_18 ⟨1, μ9, g9, rfl, rfl, ?_⟩
      exact Or.inr ⟨xIO, by decide +kernel, hx⟩
    · refine ⟨19, hc_addPoint_xIA, fun q9 => ?_⟩
      show J (gw 105 XSh cy b μ9 ++ ((o, .inl (cy 4, 1, .inr (.inl g9))) :: E)) 3 18 19 [(0, .ref (b 0)), (1, .int (zI s)), (2, .int (zI c)), (3, .int (zI r)), (4, .ref o)] [.ref q9]
      refine j_astore hJ (lv' := [(5, .ref q9), (0, .ref (b 0)), (1, .int (zI s)), (2, .int (zI c)), (3, .int (zI r)), (4, .ref o)]) (by decide) rfl dL_addPoint_19 ?_
      refine j_iconst hJ dL_addPoint_21 ?_
      refine j_iret hJ rfl rfl rfl (Nat.le_of_ble_eq_true rfl) (Nat.le_of_ble_eq_true rfl) dL_addPoint_22 ⟨2, μ9, g9, rfl, rfl, ?_⟩
      exact Or.inr ⟨xIA, by decide +kernel, hx⟩
    · refine ⟨23, hc_addPoint_xIS, fun q9 => ?_⟩
      show J (gw 105 XSh cy b μ9 ++ ((o, .inl (cy 4, 1, .inr (.inl g9))) :: E)) 3 18 23 [(0, .ref (b 0)), (1, .int (zI s)), (2, .int (zI c)), (3, .int (zI r)), (4, .ref o)] [.ref q9]
      refine j_astore hJ (lv' := [(5, .ref q9), (0, .ref (b 0)), (1, .int (zI s)), (2, .int (zI c)), (3, .int (zI r)), (4, .ref o)]) (by decide) rfl dL_addPoint_23 ?_
      refine j_iconst hJ dL_addPoint_25 ?_
      refine j_iret hJ rfl rfl rfl (Nat.le_of_ble_eq_true rfl) (Nat.le_of_ble_eq_true rfl) dL_addPoint_26 ⟨3, μ9, g9, rfl, rfl, ?_⟩
      exact Or.inr ⟨xIS, by decide +kernel, hx⟩
  · intro v u hv
    obtain ⟨q, μ8, rfl, rfl, h⟩ := hv
    show J (gw 105 XSh cy b μ8 ++ ((o, .inl (cy 4, 1, .inr (.inl g9))) :: E)) 3 18 10 [(0, .ref (b 0)), (1, .int (zI s)), (2, .int (zI c)), (3, .int (zI r)), (4, .ref o)] [.int (zI q), .int (zI 0), .ref o]
    refine j_i2l hJ dL_addPoint_10 ?_
    refine j_lastore hJ (q0 := 105) out_at dL_addPoint_11 ?_
    intro g8 hg8
    rw [out_set]
    show J (gw 105 XSh cy b μ8 ++ ((o, .inl (cy 4, 1, .inr (.inl g8))) :: E)) 3 18 12 [(0, .ref (b 0)), (1, .int (zI s)), (2, .int (zI c)), (3, .int (zI r)), (4, .ref o)] []
    refine j_goto hJ (tgt := 27) (by decide) dL_addPoint_12 ?_
    refine j_iconst hJ dL_addPoint_27 ?_
    refine j_iret hJ rfl rfl rfl (Nat.le_of_ble_eq_true rfl) (Nat.le_of_ble_eq_true rfl) dL_addPoint_28 ⟨0, μ8, g8, rfl, rfl, ?_⟩
    exact Or.inl ⟨rfl, q, hg8, h⟩
set_option maxHeartbeats 4000000 in
set_option maxRecDepth 100000 in
theorem c_L_dropPoint {μ : Nat → Int → Int} {n : Nat} {N : Nat → List Int} {ow : Nat → Int} {m : Nat → Nat} {p : Nat → Nat → Int} {s : Int} {o : Nat} {g9 : Nat → Int64} (hfl : l.stackTraces = false) (hX : XI μ n N ow m p) (hsR : -2147483648 ≤ s ∧ s < 2147483648) : CTH l D cy n0 ad yL_dropPoint (.codeWith yL_dropPoint cL_dropPoint 4 (some .int) [(0, 9, 12, 21), (0, 9, 15, 15)]) ({ frames := 8, cells := 2, slots := 12, locals := 125 }) [.ref (b 0), .int (zI s), .ref o] (gw 105 XSh cy b μ ++ ((o, .inl (cy 4, 1, .inr (.inl g9))) :: E)) (fun vv uu => ∃ zz μ' f', vv = some (.int (zI zz)) ∧ uu = (gw 105 XSh cy b μ' ++ ((o, .inl (cy 4, 1, .inr (.inl f'))) :: E)) ∧ ((zz = 0 ∧ ∃ q, f' 0 = (zI q).toInt64 ∧ (StOK n s ∧ 0 < m s.toNat ∧ q = ((trk (p s.toNat) (m s.toNat - 1)).length : Nat) ∧ XI μ' n N ow (fset m s.toNat (m s.toNat - 1)) p ∧ μ' 1 = μ 1)) ∨ (∃ X, zz = ecode [xIO, xIS] X ∧ (((X = xIO ∧ ¬ StOK n s) ∨ (X = xIS ∧ StOK n s ∧ m s.toNat = 0)) ∧ μ' = μ)))) := by
  refine CTH.walk hfl (by decide) (Nat.le_of_ble_eq_true rfl) ?_
  intro A J hJ
  show J (gw 105 XSh cy b μ ++ ((o, .inl (cy 4, 1, .inr (.inl g9))) :: E)) 0 0 0 [(0, .ref (b 0)), (1, .int (zI s)), (2, .ref o)] []
  refine j_aload_n hJ (j := 2) rfl rfl dL_dropPoint_0 ?_
  refine j_iconst hJ dL_dropPoint_1 ?_
  refine j_aload_n hJ (j := 0) rfl rfl dL_dropPoint_2 ?_
  refine j_iload_n hJ (j := 1) rfl rfl dL_dropPoint_3 ?_
  refine j_callVXh hJ (c_X4_dropPoint (E := (o, .inl (cy 4, 1, .inr (.inl g9))) :: E) hfl hX hsR) mx_L_23 k_X4_dropPoint (q0 := 0) (by rw [gw_get (by decide)]; rfl) rfl ⟨(Nat.le_of_ble_eq_true rfl), (Nat.le_of_ble_eq_true rfl)⟩ ⟨(Nat.le_of_ble_eq_true rfl), (Nat.le_of_ble_eq_true rfl)⟩ (Nat.le_of_ble_eq_true rfl) dL_dropPoint_4 rfl ?_ ?_
  · intro X u hX
    obtain ⟨μ9, rfl, hx⟩ := hX
    have hX3 : X = xIO ∨ X = xIS := by
      rcases hx with ⟨⟨h, -⟩ | ⟨h, -⟩, -⟩
      · exact Or.inl h
      · exact Or.inr h
    rcases hX3 with rfl | rfl
    · refine ⟨12, hc_dropPoint_xIO, fun q9 => ?_⟩
      show J (gw 105 XSh cy b μ9 ++ ((o, .inl (cy 4, 1, .inr (.inl g9))) :: E)) 2 12 12 [(0, .ref (b 0)), (1, .int (zI s)), (2, .ref o)] [.ref q9]
      refine j_astore_n hJ (lv' := [(3, .ref q9), (0, .ref (b 0)), (1, .int (zI s)), (2, .ref o)]) rfl (by decide) rfl dL_dropPoint_12 ?_
      refine j_iconst hJ dL_dropPoint_13 ?_
      refine j_iret hJ rfl rfl rfl (Nat.le_of_ble_eq_true rfl) (Nat.le_of_ble_eq_true rfl) dL_dropPoint_14 ⟨1, μ9, g9, rfl, rfl, ?_⟩
      exact Or.inr ⟨xIO, by decide +kernel, hx⟩
    · refine ⟨15, hc_dropPoint_xIS, fun q9 => ?_⟩
      show J (gw 105 XSh cy b μ9 ++ ((o, .inl (cy 4, 1, .inr (.inl g9))) :: E)) 2 12 15 [(0, .ref (b 0)), (1, .int (zI s)), (2, .ref o)] [.ref q9]
      refine j_astore_n hJ (lv' := [(3, .ref q9), (0, .ref (b 0)), (1, .int (zI s)), (2, .ref o)]) rfl (by decide) rfl dL_dropPoint_15 ?_
      refine j_iconst hJ dL_dropPoint_16 ?_
      refine j_iret hJ rfl rfl rfl (Nat.le_of_ble_eq_true rfl) (Nat.le_of_ble_eq_true rfl) dL_dropPoint_17 ⟨2, μ9, g9, rfl, rfl, ?_⟩
      exact Or.inr ⟨xIS, by decide +kernel, hx⟩
  · intro v u hv
    obtain ⟨q, μ8, rfl, rfl, h⟩ := hv
    show J (gw 105 XSh cy b μ8 ++ ((o, .inl (cy 4, 1, .inr (.inl g9))) :: E)) 2 12 7 [(0, .ref (b 0)), (1, .int (zI s)), (2, .ref o)] [.int (zI q), .int (zI 0), .ref o]
    refine j_i2l hJ dL_dropPoint_7 ?_
    refine j_lastore hJ (q0 := 105) out_at dL_dropPoint_8 ?_
    intro g8 hg8
    rw [out_set]
    show J (gw 105 XSh cy b μ8 ++ ((o, .inl (cy 4, 1, .inr (.inl g8))) :: E)) 2 12 9 [(0, .ref (b 0)), (1, .int (zI s)), (2, .ref o)] []
    refine j_goto hJ (tgt := 18) (by decide) dL_dropPoint_9 ?_
    refine j_iconst hJ dL_dropPoint_18 ?_
    refine j_iret hJ rfl rfl rfl (Nat.le_of_ble_eq_true rfl) (Nat.le_of_ble_eq_true rfl) dL_dropPoint_19 ⟨0, μ8, g8, rfl, rfl, ?_⟩
    exact Or.inl ⟨rfl, q, hg8, h⟩
set_option maxHeartbeats 4000000 in
set_option maxRecDepth 100000 in
theorem c_L_setOneWay {μ : Nat → Int → Int} {n : Nat} {N : Nat → List Int} {ow : Nat → Int} {m : Nat → Nat} {p : Nat → Nat → Int} {s f : Int} {o : Nat} {g9 : Nat → Int64} (hfl : l.stackTraces = false) (hX : XI μ n N ow m p) (hsR : -2147483648 ≤ s ∧ s < 2147483648) (hf : f = 0 ∨ f = 1) : CTH l D cy n0 ad yL_setOneWay (.codeWith yL_setOneWay cL_setOneWay 5 (some .int) [(0, 17, 20, 21)]) ({ frames := 8, cells := 1, slots := 6, locals := 126 }) [.ref (b 0), .int (zI s), .int (zI f), .ref o] (gw 105 XSh cy b μ ++ ((o, .inl (cy 4, 1, .inr (.inl g9))) :: E)) (fun vv uu => ∃ zz μ' f', vv = some (.int (zI zz)) ∧ uu = (gw 105 XSh cy b μ' ++ ((o, .inl (cy 4, 1, .inr (.inl f'))) :: E)) ∧ ((zz = 0 ∧ ∃ q, f' 0 = (zI q).toInt64 ∧ (StOK n s ∧ q = ow s.toNat ∧ XI μ' n N (fset ow s.toNat f) m p ∧ μ' 1 = μ 1)) ∨ (∃ X, zz = ecode [xIO] X ∧ ((X = xIO ∧ ¬ StOK n s) ∧ μ' = μ)))) := by
  refine CTH.walk hfl (by decide) (Nat.le_of_ble_eq_true rfl) ?_
  intro A J hJ
  show J (gw 105 XSh cy b μ ++ ((o, .inl (cy 4, 1, .inr (.inl g9))) :: E)) 0 0 0 [(0, .ref (b 0)), (1, .int (zI s)), (2, .int (zI f)), (3, .ref o)] []
  refine j_aload_n hJ (j := 3) rfl rfl dL_setOneWay_0 ?_
  refine j_iconst hJ dL_setOneWay_1 ?_
  refine j_aload_n hJ (j := 0) rfl rfl dL_setOneWay_2 ?_
  refine j_iload_n hJ (j := 1) rfl rfl dL_setOneWay_3 ?_
  refine j_iload_n hJ (j := 2) rfl rfl dL_setOneWay_4 ?_
  refine j_callVXh hJ (c_X4_setOneWay (E := (o, .inl (cy 4, 1, .inr (.inl g9))) :: E) hfl hX hsR hf) mx_L_27 k_X4_setOneWay (q0 := 0) (by rw [gw_get (by decide)]; rfl) rfl ⟨(Nat.le_of_ble_eq_true rfl), (Nat.le_of_ble_eq_true rfl)⟩ ⟨(Nat.le_of_ble_eq_true rfl), (Nat.le_of_ble_eq_true rfl)⟩ (Nat.le_of_ble_eq_true rfl) dL_setOneWay_5 rfl ?_ ?_
  · intro X u hX
    obtain ⟨μ9, rfl, hx⟩ := hX
    have hX3 : X = xIO := by
      rcases hx with ⟨⟨h, -⟩, -⟩
      · exact h
    rcases hX3 with rfl
    · refine ⟨20, hc_setOneWay_xIO, fun q9 => ?_⟩
      show J (gw 105 XSh cy b μ9 ++ ((o, .inl (cy 4, 1, .inr (.inl g9))) :: E)) 1 6 20 [(0, .ref (b 0)), (1, .int (zI s)), (2, .int (zI f)), (3, .ref o)] [.ref q9]
      refine j_astore hJ (lv' := [(4, .ref q9), (0, .ref (b 0)), (1, .int (zI s)), (2, .int (zI f)), (3, .ref o)]) (by decide) rfl dL_setOneWay_20 ?_
      refine j_iconst hJ dL_setOneWay_22 ?_
      refine j_iret hJ rfl rfl rfl (Nat.le_of_ble_eq_true rfl) (Nat.le_of_ble_eq_true rfl) dL_setOneWay_23 ⟨1, μ9, g9, rfl, rfl, ?_⟩
      exact Or.inr ⟨xIO, by decide +kernel, hx⟩
  · intro v u hv
    obtain ⟨q, μ8, rfl, rfl, h⟩ := hv
    have hq01 : q = 0 ∨ q = 1 := by
      have h1 := h.1.1
      have h2 := h.1.2
      have h3 := hX.2.1
      rw [h.2.1]; exact (hX.2.2.2.2.1 s.toNat (by omega)).2
    show J (gw 105 XSh cy b μ8 ++ ((o, .inl (cy 4, 1, .inr (.inl g9))) :: E)) 1 6 8 [(0, .ref (b 0)), (1, .int (zI s)), (2, .int (zI f)), (3, .ref o)] [.int (zI q), .int (zI 0), .ref o]
    refine j_if_eq hJ (tgt := 15) ⟨by omega, by omega⟩ (by decide) dL_setOneWay_8 ?_ ?_
    · intro h8
      have hq0 : q = 0 := by omega
      refine j_lconst (v := (zI q).toInt64) hJ (by rw [hq0]; rfl) dL_setOneWay_15 ?_
      refine j_lastore hJ (q0 := 105) out_at dL_setOneWay_16 ?_
      intro g8 hg8
      rw [out_set]
      show J (gw 105 XSh cy b μ8 ++ ((o, .inl (cy 4, 1, .inr (.inl g8))) :: E)) 1 6 17 [(0, .ref (b 0)), (1, .int (zI s)), (2, .int (zI f)), (3, .ref o)] []
      refine j_goto hJ (tgt := 24) (by decide) dL_setOneWay_17 ?_
      refine j_iconst hJ dL_setOneWay_24 ?_
      refine j_iret hJ rfl rfl rfl (Nat.le_of_ble_eq_true rfl) (Nat.le_of_ble_eq_true rfl) dL_setOneWay_25 ⟨0, μ8, g8, rfl, rfl, ?_⟩
      exact Or.inl ⟨rfl, q, hg8, h⟩
    · intro h8
      have hq1 : q = 1 := by omega
      refine j_lconst (v := (zI q).toInt64) hJ (by rw [hq1]; rfl) dL_setOneWay_11 ?_
      refine j_goto hJ (tgt := 16) (by decide) dL_setOneWay_12 ?_
      refine j_lastore hJ (q0 := 105) out_at dL_setOneWay_16 ?_
      intro g8 hg8
      rw [out_set]
      show J (gw 105 XSh cy b μ8 ++ ((o, .inl (cy 4, 1, .inr (.inl g8))) :: E)) 1 6 17 [(0, .ref (b 0)), (1, .int (zI s)), (2, .int (zI f)), (3, .ref o)] []
      refine j_goto hJ (tgt := 24) (by decide) dL_setOneWay_17 ?_
      refine j_iconst hJ dL_setOneWay_24 ?_
      refine j_iret hJ rfl rfl rfl (Nat.le_of_ble_eq_true rfl) (Nat.le_of_ble_eq_true rfl) dL_setOneWay_25 ⟨0, μ8, g8, rfl, rfl, ?_⟩
      exact Or.inl ⟨rfl, q, hg8, h⟩
set_option maxHeartbeats 4000000 in
set_option maxRecDepth 100000 in
theorem c_L_rename {μ : Nat → Int → Int} {n : Nat} {N : Nat → List Int} {ow : Nat → Int} {m : Nat → Nat} {p : Nat → Nat → Int} {s w z : Int} (hfl : l.stackTraces = false) (hX : XI μ n N ow m p) (hsR : -2147483648 ≤ s ∧ s < 2147483648) (hwR : -2147483648 ≤ w ∧ w < 2147483648) : CTH l D cy n0 ad yL_rename (.codeWith yL_rename cL_rename 5 (some .int) [(0, 7, 10, 21), (0, 7, 14, 13)]) ({ frames := 8, cells := 2, slots := 12, locals := 127 }) [.ref (b 0), .int (zI s), .int (zI w), .int (zI z)] (gw 105 XSh cy b μ ++ E) (fun vv uu => ∃ zz μ', vv = some (.int (zI zz)) ∧ uu = (gw 105 XSh cy b μ' ++ E) ∧ ((zz = 0 ∧ (StOK n s ∧ NmOK w z ∧ XI μ' n (fset N s.toNat (nameL z w.toNat)) ow m p ∧ μ' 1 = μ 1)) ∨ (∃ X, zz = ecode [xIO, xIA] X ∧ (((X = xIO ∧ ¬ StOK n s) ∨ (X = xIA ∧ StOK n s ∧ ¬ NmOK w z)) ∧ μ' = μ)))) := by
  refine CTH.walk hfl (by decide) (Nat.le_of_ble_eq_true rfl) ?_
  intro A J hJ
  show J (gw 105 XSh cy b μ ++ E) 0 0 0 [(0, .ref (b 0)), (1, .int (zI s)), (2, .int (zI w)), (3, .int (zI z))] []
  refine j_aload_n hJ (j := 0) rfl rfl dL_rename_0 ?_
  refine j_iload_n hJ (j := 1) rfl rfl dL_rename_1 ?_
  refine j_iload_n hJ (j := 2) rfl rfl dL_rename_2 ?_
  refine j_iload_n hJ (j := 3) rfl rfl dL_rename_3 ?_
  refine j_callVXh hJ (c_X4_rename (E := E) hfl hX hsR hwR) mx_L_31 k_X4_rename (q0 := 0) (by rw [gw_get (by decide)]; rfl) rfl ⟨(Nat.le_of_ble_eq_true rfl), (Nat.le_of_ble_eq_true rfl)⟩ ⟨(Nat.le_of_ble_eq_true rfl), (Nat.le_of_ble_eq_true rfl)⟩ (Nat.le_of_ble_eq_true rfl) dL_rename_4 rfl ?_ ?_
  · intro X u hX
    obtain ⟨μ9, rfl, hx⟩ := hX
    have hX3 : X = xIO ∨ X = xIA := by
      rcases hx with ⟨⟨h, -⟩ | ⟨h, -⟩, -⟩
      · exact Or.inl h
      · exact Or.inr h
    rcases hX3 with rfl | rfl
    · refine ⟨10, hc_rename_xIO, fun q9 => ?_⟩
      show J (gw 105 XSh cy b μ9 ++ E) 2 12 10 [(0, .ref (b 0)), (1, .int (zI s)), (2, .int (zI w)), (3, .int (zI z))] [.ref q9]
      refine j_astore hJ (lv' := [(4, .ref q9), (0, .ref (b 0)), (1, .int (zI s)), (2, .int (zI w)), (3, .int (zI z))]) (by decide) rfl dL_rename_10 ?_
      refine j_iconst hJ dL_rename_12 ?_
      refine j_iret hJ rfl rfl rfl (Nat.le_of_ble_eq_true rfl) (Nat.le_of_ble_eq_true rfl) dL_rename_13 ⟨1, μ9, rfl, rfl, ?_⟩
      exact Or.inr ⟨xIO, by decide +kernel, hx⟩
    · refine ⟨14, hc_rename_xIA, fun q9 => ?_⟩
      show J (gw 105 XSh cy b μ9 ++ E) 2 12 14 [(0, .ref (b 0)), (1, .int (zI s)), (2, .int (zI w)), (3, .int (zI z))] [.ref q9]
      refine j_astore hJ (lv' := [(4, .ref q9), (0, .ref (b 0)), (1, .int (zI s)), (2, .int (zI w)), (3, .int (zI z))]) (by decide) rfl dL_rename_14 ?_
      refine j_iconst hJ dL_rename_16 ?_
      refine j_iret hJ rfl rfl rfl (Nat.le_of_ble_eq_true rfl) (Nat.le_of_ble_eq_true rfl) dL_rename_17 ⟨2, μ9, rfl, rfl, ?_⟩
      exact Or.inr ⟨xIA, by decide +kernel, hx⟩
  · intro v u hv
    obtain ⟨μ8, rfl, rfl, h⟩ := hv
    show J (gw 105 XSh cy b μ8 ++ E) 2 12 7 [(0, .ref (b 0)), (1, .int (zI s)), (2, .int (zI w)), (3, .int (zI z))] []
    refine j_goto hJ (tgt := 18) (by decide) dL_rename_7 ?_
    refine j_iconst hJ dL_rename_18 ?_
    refine j_iret hJ rfl rfl rfl (Nat.le_of_ble_eq_true rfl) (Nat.le_of_ble_eq_true rfl) dL_rename_19 ⟨0, μ8, rfl, rfl, ?_⟩
    exact Or.inl ⟨rfl, h⟩
set_option maxHeartbeats 4000000 in
set_option maxRecDepth 100000 in
theorem c_L_setKind {μ : Nat → Int → Int} {n : Nat} {N : Nat → List Int} {ow : Nat → Int} {m : Nat → Nat} {p : Nat → Nat → Int} {w k : Int} {o : Nat} {g9 : Nat → Int64} (hfl : l.stackTraces = false) (hX : XI μ n N ow m p) (hwR : -2147483648 ≤ w ∧ w < 2147483648) (hkR : -2147483648 ≤ k ∧ k < 2147483648) : CTH l D cy n0 ad yL_setKind (.codeWith yL_setKind cL_setKind 5 (some .int) [(0, 10, 13, 21), (0, 10, 17, 13)]) ({ frames := 7, cells := 1, slots := 6, locals := 105 }) [.ref (b 0), .int (zI w), .int (zI k), .ref o] (gw 105 XSh cy b μ ++ ((o, .inl (cy 4, 1, .inr (.inl g9))) :: E)) (fun vv uu => ∃ zz μ' f', vv = some (.int (zI zz)) ∧ uu = (gw 105 XSh cy b μ' ++ ((o, .inl (cy 4, 1, .inr (.inl f'))) :: E)) ∧ ((zz = 0 ∧ ∃ q, f' 0 = (zI q).toInt64 ∧ ((0 ≤ w ∧ w < 24) ∧ (0 ≤ k ∧ k ≤ 2) ∧ q = μ 1 w ∧ XI μ' n N ow m p ∧ ∀ j, μ' 1 j = if j = w then k else μ 1 j)) ∨ (∃ X, zz = ecode [xIO, xIA] X ∧ (((X = xIO ∧ ¬ (0 ≤ w ∧ w < 24)) ∨ (X = xIA ∧ (0 ≤ w ∧ w < 24) ∧ ¬ (0 ≤ k ∧ k ≤ 2))) ∧ μ' = μ)))) := by
  refine CTH.walk hfl (by decide) (Nat.le_of_ble_eq_true rfl) ?_
  intro A J hJ
  show J (gw 105 XSh cy b μ ++ ((o, .inl (cy 4, 1, .inr (.inl g9))) :: E)) 0 0 0 [(0, .ref (b 0)), (1, .int (zI w)), (2, .int (zI k)), (3, .ref o)] []
  refine j_aload_n hJ (j := 3) rfl rfl dL_setKind_0 ?_
  refine j_iconst hJ dL_setKind_1 ?_
  refine j_aload_n hJ (j := 0) rfl rfl dL_setKind_2 ?_
  refine j_iload_n hJ (j := 1) rfl rfl dL_setKind_3 ?_
  refine j_iload_n hJ (j := 2) rfl rfl dL_setKind_4 ?_
  refine j_callVXh hJ (c_X4_setKind (E := (o, .inl (cy 4, 1, .inr (.inl g9))) :: E) hfl hX hwR hkR) mx_L_35 k_X4_setKind (q0 := 0) (by rw [gw_get (by decide)]; rfl) rfl ⟨(Nat.le_of_ble_eq_true rfl), (Nat.le_of_ble_eq_true rfl)⟩ ⟨(Nat.le_of_ble_eq_true rfl), (Nat.le_of_ble_eq_true rfl)⟩ (Nat.le_of_ble_eq_true rfl) dL_setKind_5 rfl ?_ ?_
  · intro X u hX
    obtain ⟨μ9, rfl, hx⟩ := hX
    have hX3 : X = xIO ∨ X = xIA := by
      rcases hx with ⟨⟨h, -⟩ | ⟨h, -⟩, -⟩
      · exact Or.inl h
      · exact Or.inr h
    rcases hX3 with rfl | rfl
    · refine ⟨13, hc_setKind_xIO, fun q9 => ?_⟩
      show J (gw 105 XSh cy b μ9 ++ ((o, .inl (cy 4, 1, .inr (.inl g9))) :: E)) 1 6 13 [(0, .ref (b 0)), (1, .int (zI w)), (2, .int (zI k)), (3, .ref o)] [.ref q9]
      refine j_astore hJ (lv' := [(4, .ref q9), (0, .ref (b 0)), (1, .int (zI w)), (2, .int (zI k)), (3, .ref o)]) (by decide) rfl dL_setKind_13 ?_
      refine j_iconst hJ dL_setKind_15 ?_
      refine j_iret hJ rfl rfl rfl (Nat.le_of_ble_eq_true rfl) (Nat.le_of_ble_eq_true rfl) dL_setKind_16 ⟨1, μ9, g9, rfl, rfl, ?_⟩
      exact Or.inr ⟨xIO, by decide +kernel, hx⟩
    · refine ⟨17, hc_setKind_xIA, fun q9 => ?_⟩
      show J (gw 105 XSh cy b μ9 ++ ((o, .inl (cy 4, 1, .inr (.inl g9))) :: E)) 1 6 17 [(0, .ref (b 0)), (1, .int (zI w)), (2, .int (zI k)), (3, .ref o)] [.ref q9]
      refine j_astore hJ (lv' := [(4, .ref q9), (0, .ref (b 0)), (1, .int (zI w)), (2, .int (zI k)), (3, .ref o)]) (by decide) rfl dL_setKind_17 ?_
      refine j_iconst hJ dL_setKind_19 ?_
      refine j_iret hJ rfl rfl rfl (Nat.le_of_ble_eq_true rfl) (Nat.le_of_ble_eq_true rfl) dL_setKind_20 ⟨2, μ9, g9, rfl, rfl, ?_⟩
      exact Or.inr ⟨xIA, by decide +kernel, hx⟩
  · intro v u hv
    obtain ⟨q, μ8, rfl, rfl, h⟩ := hv
    show J (gw 105 XSh cy b μ8 ++ ((o, .inl (cy 4, 1, .inr (.inl g9))) :: E)) 1 6 8 [(0, .ref (b 0)), (1, .int (zI w)), (2, .int (zI k)), (3, .ref o)] [.int (zI q), .int (zI 0), .ref o]
    refine j_i2l hJ dL_setKind_8 ?_
    refine j_lastore hJ (q0 := 105) out_at dL_setKind_9 ?_
    intro g8 hg8
    rw [out_set]
    show J (gw 105 XSh cy b μ8 ++ ((o, .inl (cy 4, 1, .inr (.inl g8))) :: E)) 1 6 10 [(0, .ref (b 0)), (1, .int (zI w)), (2, .int (zI k)), (3, .ref o)] []
    refine j_goto hJ (tgt := 21) (by decide) dL_setKind_10 ?_
    refine j_iconst hJ dL_setKind_21 ?_
    refine j_iret hJ rfl rfl rfl (Nat.le_of_ble_eq_true rfl) (Nat.le_of_ble_eq_true rfl) dL_setKind_22 ⟨0, μ8, g8, rfl, rfl, ?_⟩
    exact Or.inl ⟨rfl, q, hg8, h⟩
set_option maxHeartbeats 4000000 in
set_option maxRecDepth 100000 in
theorem c_L_streetAt {μ : Nat → Int → Int} {n : Nat} {N : Nat → List Int} {ow : Nat → Int} {m : Nat → Nat} {p : Nat → Nat → Int} {v : Int} {o : Nat} {g9 : Nat → Int64} (hfl : l.stackTraces = false) (hX : XI μ n N ow m p) (hvR : -2147483648 ≤ v ∧ v < 2147483648) : CTH l D cy n0 ad yL_streetAt (.codeWith yL_streetAt cL_streetAt 4 (some .int) [(0, 9, 12, 21)]) ({ frames := 10, cells := 1, slots := 6, locals := 226 }) [.ref (b 0), .int (zI v), .ref o] (gw 105 XSh cy b μ ++ ((o, .inl (cy 4, 1, .inr (.inl g9))) :: E)) (fun vv uu => ∃ zz μ' f', vv = some (.int (zI zz)) ∧ uu = (gw 105 XSh cy b μ' ++ ((o, .inl (cy 4, 1, .inr (.inl f'))) :: E)) ∧ ((zz = 0 ∧ ∃ q, f' 0 = (zI q).toInt64 ∧ (StOK n v ∧ (∃ s : Nat, s < n ∧ q = s ∧ (cnt (μ 1) N n s : Int) = v) ∧ FrS μ μ')) ∨ (∃ X, zz = ecode [xIO] X ∧ ((X = xIO ∧ ¬ StOK n v) ∧ μ' = μ)))) := by
  refine CTH.walk hfl (by decide) (Nat.le_of_ble_eq_true rfl) ?_
  intro A J hJ
  show J (gw 105 XSh cy b μ ++ ((o, .inl (cy 4, 1, .inr (.inl g9))) :: E)) 0 0 0 [(0, .ref (b 0)), (1, .int (zI v)), (2, .ref o)] []
  refine j_aload_n hJ (j := 2) rfl rfl dL_streetAt_0 ?_
  refine j_iconst hJ dL_streetAt_1 ?_
  refine j_aload_n hJ (j := 0) rfl rfl dL_streetAt_2 ?_
  refine j_iload_n hJ (j := 1) rfl rfl dL_streetAt_3 ?_
  refine j_callVXh hJ (c_X4_streetAt (E := (o, .inl (cy 4, 1, .inr (.inl g9))) :: E) hfl hX hvR) mx_L_38 k_X4_streetAt (q0 := 0) (by rw [gw_get (by decide)]; rfl) rfl ⟨(Nat.le_of_ble_eq_true rfl), (Nat.le_of_ble_eq_true rfl)⟩ ⟨(Nat.le_of_ble_eq_true rfl), (Nat.le_of_ble_eq_true rfl)⟩ (Nat.le_of_ble_eq_true rfl) dL_streetAt_4 rfl ?_ ?_
  · intro X u hX
    obtain ⟨μ9, rfl, hx⟩ := hX
    have hX3 : X = xIO := by
      rcases hx with ⟨⟨h, -⟩, -⟩
      · exact h
    rcases hX3 with rfl
    · refine ⟨12, hc_streetAt_xIO, fun q9 => ?_⟩
      show J (gw 105 XSh cy b μ9 ++ ((o, .inl (cy 4, 1, .inr (.inl g9))) :: E)) 1 6 12 [(0, .ref (b 0)), (1, .int (zI v)), (2, .ref o)] [.ref q9]
      refine j_astore_n hJ (lv' := [(3, .ref q9), (0, .ref (b 0)), (1, .int (zI v)), (2, .ref o)]) rfl (by decide) rfl dL_streetAt_12 ?_
      refine j_iconst hJ dL_streetAt_13 ?_
      refine j_iret hJ rfl rfl rfl (Nat.le_of_ble_eq_true rfl) (Nat.le_of_ble_eq_true rfl) dL_streetAt_14 ⟨1, μ9, g9, rfl, rfl, ?_⟩
      exact Or.inr ⟨xIO, by decide +kernel, hx⟩
  · intro v u hv
    obtain ⟨q, μ8, rfl, rfl, h⟩ := hv
    show J (gw 105 XSh cy b μ8 ++ ((o, .inl (cy 4, 1, .inr (.inl g9))) :: E)) 1 6 7 [(0, .ref (b 0)), (1, .int (zI v)), (2, .ref o)] [.int (zI q), .int (zI 0), .ref o]
    refine j_i2l hJ dL_streetAt_7 ?_
    refine j_lastore hJ (q0 := 105) out_at dL_streetAt_8 ?_
    intro g8 hg8
    rw [out_set]
    show J (gw 105 XSh cy b μ8 ++ ((o, .inl (cy 4, 1, .inr (.inl g8))) :: E)) 1 6 9 [(0, .ref (b 0)), (1, .int (zI v)), (2, .ref o)] []
    refine j_goto hJ (tgt := 15) (by decide) dL_streetAt_9 ?_
    refine j_iconst hJ dL_streetAt_15 ?_
    refine j_iret hJ rfl rfl rfl (Nat.le_of_ble_eq_true rfl) (Nat.le_of_ble_eq_true rfl) dL_streetAt_16 ⟨0, μ8, g8, rfl, rfl, ?_⟩
    exact Or.inl ⟨rfl, q, hg8, h⟩
set_option maxHeartbeats 4000000 in
set_option maxRecDepth 100000 in
theorem c_L_placeOf {μ : Nat → Int → Int} {n : Nat} {N : Nat → List Int} {ow : Nat → Int} {m : Nat → Nat} {p : Nat → Nat → Int} {s : Int} {o : Nat} {g9 : Nat → Int64} (hfl : l.stackTraces = false) (hX : XI μ n N ow m p) (hsR : -2147483648 ≤ s ∧ s < 2147483648) : CTH l D cy n0 ad yL_placeOf (.codeWith yL_placeOf cL_placeOf 4 (some .int) [(0, 9, 12, 21)]) ({ frames := 10, cells := 1, slots := 6, locals := 225 }) [.ref (b 0), .int (zI s), .ref o] (gw 105 XSh cy b μ ++ ((o, .inl (cy 4, 1, .inr (.inl g9))) :: E)) (fun vv uu => ∃ zz μ' f', vv = some (.int (zI zz)) ∧ uu = (gw 105 XSh cy b μ' ++ ((o, .inl (cy 4, 1, .inr (.inl f'))) :: E)) ∧ ((zz = 0 ∧ ∃ q, f' 0 = (zI q).toInt64 ∧ (StOK n s ∧ q = (cnt (μ 1) N n s.toNat : Nat) ∧ FrS μ μ')) ∨ (∃ X, zz = ecode [xIO] X ∧ ((X = xIO ∧ ¬ StOK n s) ∧ μ' = μ)))) := by
  refine CTH.walk hfl (by decide) (Nat.le_of_ble_eq_true rfl) ?_
  intro A J hJ
  show J (gw 105 XSh cy b μ ++ ((o, .inl (cy 4, 1, .inr (.inl g9))) :: E)) 0 0 0 [(0, .ref (b 0)), (1, .int (zI s)), (2, .ref o)] []
  refine j_aload_n hJ (j := 2) rfl rfl dL_placeOf_0 ?_
  refine j_iconst hJ dL_placeOf_1 ?_
  refine j_aload_n hJ (j := 0) rfl rfl dL_placeOf_2 ?_
  refine j_iload_n hJ (j := 1) rfl rfl dL_placeOf_3 ?_
  refine j_callVXh hJ (c_X4_placeOf (E := (o, .inl (cy 4, 1, .inr (.inl g9))) :: E) hfl hX hsR) mx_L_41 k_X4_placeOf (q0 := 0) (by rw [gw_get (by decide)]; rfl) rfl ⟨(Nat.le_of_ble_eq_true rfl), (Nat.le_of_ble_eq_true rfl)⟩ ⟨(Nat.le_of_ble_eq_true rfl), (Nat.le_of_ble_eq_true rfl)⟩ (Nat.le_of_ble_eq_true rfl) dL_placeOf_4 rfl ?_ ?_
  · intro X u hX
    obtain ⟨μ9, rfl, hx⟩ := hX
    have hX3 : X = xIO := by
      rcases hx with ⟨⟨h, -⟩, -⟩
      · exact h
    rcases hX3 with rfl
    · refine ⟨12, hc_placeOf_xIO, fun q9 => ?_⟩
      show J (gw 105 XSh cy b μ9 ++ ((o, .inl (cy 4, 1, .inr (.inl g9))) :: E)) 1 6 12 [(0, .ref (b 0)), (1, .int (zI s)), (2, .ref o)] [.ref q9]
      refine j_astore_n hJ (lv' := [(3, .ref q9), (0, .ref (b 0)), (1, .int (zI s)), (2, .ref o)]) rfl (by decide) rfl dL_placeOf_12 ?_
      refine j_iconst hJ dL_placeOf_13 ?_
      refine j_iret hJ rfl rfl rfl (Nat.le_of_ble_eq_true rfl) (Nat.le_of_ble_eq_true rfl) dL_placeOf_14 ⟨1, μ9, g9, rfl, rfl, ?_⟩
      exact Or.inr ⟨xIO, by decide +kernel, hx⟩
  · intro v u hv
    obtain ⟨q, μ8, rfl, rfl, h⟩ := hv
    show J (gw 105 XSh cy b μ8 ++ ((o, .inl (cy 4, 1, .inr (.inl g9))) :: E)) 1 6 7 [(0, .ref (b 0)), (1, .int (zI s)), (2, .ref o)] [.int (zI q), .int (zI 0), .ref o]
    refine j_i2l hJ dL_placeOf_7 ?_
    refine j_lastore hJ (q0 := 105) out_at dL_placeOf_8 ?_
    intro g8 hg8
    rw [out_set]
    show J (gw 105 XSh cy b μ8 ++ ((o, .inl (cy 4, 1, .inr (.inl g8))) :: E)) 1 6 9 [(0, .ref (b 0)), (1, .int (zI s)), (2, .ref o)] []
    refine j_goto hJ (tgt := 15) (by decide) dL_placeOf_9 ?_
    refine j_iconst hJ dL_placeOf_15 ?_
    refine j_iret hJ rfl rfl rfl (Nat.le_of_ble_eq_true rfl) (Nat.le_of_ble_eq_true rfl) dL_placeOf_16 ⟨0, μ8, g8, rfl, rfl, ?_⟩
    exact Or.inl ⟨rfl, q, hg8, h⟩
set_option maxHeartbeats 4000000 in
set_option maxRecDepth 100000 in
theorem c_L_compareKeys {μ : Nat → Int → Int} {n : Nat} {N : Nat → List Int} {ow : Nat → Int} {m : Nat → Nat} {p : Nat → Nat → Int} {s t : Int} {o : Nat} {g9 : Nat → Int64} (hfl : l.stackTraces = false) (hX : XI μ n N ow m p) (hsR : -2147483648 ≤ s ∧ s < 2147483648) (htR : -2147483648 ≤ t ∧ t < 2147483648) : CTH l D cy n0 ad yL_compareKeys (.codeWith yL_compareKeys cL_compareKeys 5 (some .int) [(0, 10, 13, 21)]) ({ frames := 8, cells := 2, slots := 12, locals := 180 }) [.ref (b 0), .int (zI s), .int (zI t), .ref o] (gw 105 XSh cy b μ ++ ((o, .inl (cy 4, 1, .inr (.inl g9))) :: E)) (fun vv uu => ∃ zz μ' f', vv = some (.int (zI zz)) ∧ uu = (gw 105 XSh cy b μ' ++ ((o, .inl (cy 4, 1, .inr (.inl f'))) :: E)) ∧ ((zz = 0 ∧ ∃ q, f' 0 = (zI q).toInt64 ∧ ((StOK n s ∧ StOK n t) ∧ q = ko (μ 1) N s.toNat t.toNat ∧ FrS μ μ')) ∨ (∃ X, zz = ecode [xIO] X ∧ ((X = xIO ∧ ¬ (StOK n s ∧ StOK n t)) ∧ μ' = μ)))) := by
  refine CTH.walk hfl (by decide) (Nat.le_of_ble_eq_true rfl) ?_
  intro A J hJ
  show J (gw 105 XSh cy b μ ++ ((o, .inl (cy 4, 1, .inr (.inl g9))) :: E)) 0 0 0 [(0, .ref (b 0)), (1, .int (zI s)), (2, .int (zI t)), (3, .ref o)] []
  refine j_aload_n hJ (j := 3) rfl rfl dL_compareKeys_0 ?_
  refine j_iconst hJ dL_compareKeys_1 ?_
  refine j_aload_n hJ (j := 0) rfl rfl dL_compareKeys_2 ?_
  refine j_iload_n hJ (j := 1) rfl rfl dL_compareKeys_3 ?_
  refine j_iload_n hJ (j := 2) rfl rfl dL_compareKeys_4 ?_
  refine j_callVXh hJ (c_X4_compareKeys (E := (o, .inl (cy 4, 1, .inr (.inl g9))) :: E) hfl hX hsR htR) mx_L_44 k_X4_compareKeys (q0 := 0) (by rw [gw_get (by decide)]; rfl) rfl ⟨(Nat.le_of_ble_eq_true rfl), (Nat.le_of_ble_eq_true rfl)⟩ ⟨(Nat.le_of_ble_eq_true rfl), (Nat.le_of_ble_eq_true rfl)⟩ (Nat.le_of_ble_eq_true rfl) dL_compareKeys_5 rfl ?_ ?_
  · intro X u hX
    obtain ⟨μ9, rfl, hx⟩ := hX
    have hX3 : X = xIO := by
      rcases hx with ⟨⟨h, -⟩, -⟩
      · exact h
    rcases hX3 with rfl
    · refine ⟨13, hc_compareKeys_xIO, fun q9 => ?_⟩
      show J (gw 105 XSh cy b μ9 ++ ((o, .inl (cy 4, 1, .inr (.inl g9))) :: E)) 2 12 13 [(0, .ref (b 0)), (1, .int (zI s)), (2, .int (zI t)), (3, .ref o)] [.ref q9]
      refine j_astore hJ (lv' := [(4, .ref q9), (0, .ref (b 0)), (1, .int (zI s)), (2, .int (zI t)), (3, .ref o)]) (by decide) rfl dL_compareKeys_13 ?_
      refine j_iconst hJ dL_compareKeys_15 ?_
      refine j_iret hJ rfl rfl rfl (Nat.le_of_ble_eq_true rfl) (Nat.le_of_ble_eq_true rfl) dL_compareKeys_16 ⟨1, μ9, g9, rfl, rfl, ?_⟩
      exact Or.inr ⟨xIO, by decide +kernel, hx⟩
  · intro v u hv
    obtain ⟨q, μ8, rfl, rfl, h⟩ := hv
    show J (gw 105 XSh cy b μ8 ++ ((o, .inl (cy 4, 1, .inr (.inl g9))) :: E)) 2 12 8 [(0, .ref (b 0)), (1, .int (zI s)), (2, .int (zI t)), (3, .ref o)] [.int (zI q), .int (zI 0), .ref o]
    refine j_i2l hJ dL_compareKeys_8 ?_
    refine j_lastore hJ (q0 := 105) out_at dL_compareKeys_9 ?_
    intro g8 hg8
    rw [out_set]
    show J (gw 105 XSh cy b μ8 ++ ((o, .inl (cy 4, 1, .inr (.inl g8))) :: E)) 2 12 10 [(0, .ref (b 0)), (1, .int (zI s)), (2, .int (zI t)), (3, .ref o)] []
    refine j_goto hJ (tgt := 17) (by decide) dL_compareKeys_10 ?_
    refine j_iconst hJ dL_compareKeys_17 ?_
    refine j_iret hJ rfl rfl rfl (Nat.le_of_ble_eq_true rfl) (Nat.le_of_ble_eq_true rfl) dL_compareKeys_18 ⟨0, μ8, g8, rfl, rfl, ?_⟩
    exact Or.inl ⟨rfl, q, hg8, h⟩
set_option maxHeartbeats 4000000 in
set_option maxRecDepth 100000 in
theorem c_L_lineLength {μ : Nat → Int → Int} {n : Nat} {N : Nat → List Int} {ow : Nat → Int} {m : Nat → Nat} {p : Nat → Nat → Int} {s : Int} {o : Nat} {g9 : Nat → Int64} (hfl : l.stackTraces = false) (hX : XI μ n N ow m p) (hsR : -2147483648 ≤ s ∧ s < 2147483648) : CTH l D cy n0 ad yL_lineLength (.codeWith yL_lineLength cL_lineLength 4 (some .int) [(0, 9, 12, 21)]) ({ frames := 10, cells := 9, slots := 2282, locals := 227 }) [.ref (b 0), .int (zI s), .ref o] (gw 105 XSh cy b μ ++ ((o, .inl (cy 4, 1, .inr (.inl g9))) :: E)) (fun vv uu => ∃ zz μ' f', vv = some (.int (zI zz)) ∧ uu = (gw 105 XSh cy b μ' ++ ((o, .inl (cy 4, 1, .inr (.inl f'))) :: E)) ∧ ((zz = 0 ∧ ∃ q, f' 0 = (zI q).toInt64 ∧ (μ' = μ ∧ (StOK n s ∧ q = ((lineT (μ 1) (N s.toNat) (trk (p s.toNat) (m s.toNat))).length : Nat)))) ∨ (∃ X, zz = ecode [xIO] X ∧ ((X = xIO ∧ ¬ StOK n s) ∧ μ' = μ)))) := by
  refine CTH.walk hfl (by decide) (Nat.le_of_ble_eq_true rfl) ?_
  intro A J hJ
  show J (gw 105 XSh cy b μ ++ ((o, .inl (cy 4, 1, .inr (.inl g9))) :: E)) 0 0 0 [(0, .ref (b 0)), (1, .int (zI s)), (2, .ref o)] []
  refine j_aload_n hJ (j := 2) rfl rfl dL_lineLength_0 ?_
  refine j_iconst hJ dL_lineLength_1 ?_
  refine j_aload_n hJ (j := 0) rfl rfl dL_lineLength_2 ?_
  refine j_iload_n hJ (j := 1) rfl rfl dL_lineLength_3 ?_
  refine j_callVXh hJ (c_X4_lineLength (E := (o, .inl (cy 4, 1, .inr (.inl g9))) :: E) hfl hX hsR) mx_L_47 k_X4_lineLength (q0 := 0) (by rw [gw_get (by decide)]; rfl) rfl ⟨(Nat.le_of_ble_eq_true rfl), (Nat.le_of_ble_eq_true rfl)⟩ ⟨(Nat.le_of_ble_eq_true rfl), (Nat.le_of_ble_eq_true rfl)⟩ (Nat.le_of_ble_eq_true rfl) dL_lineLength_4 rfl ?_ ?_
  · intro X u hX
    obtain ⟨μ9, rfl, hx⟩ := hX
    have hX3 : X = xIO := by
      rcases hx with ⟨⟨h, -⟩, -⟩
      · exact h
    rcases hX3 with rfl
    · refine ⟨12, hc_lineLength_xIO, fun q9 => ?_⟩
      show J (gw 105 XSh cy b μ9 ++ ((o, .inl (cy 4, 1, .inr (.inl g9))) :: E)) 9 2282 12 [(0, .ref (b 0)), (1, .int (zI s)), (2, .ref o)] [.ref q9]
      refine j_astore_n hJ (lv' := [(3, .ref q9), (0, .ref (b 0)), (1, .int (zI s)), (2, .ref o)]) rfl (by decide) rfl dL_lineLength_12 ?_
      refine j_iconst hJ dL_lineLength_13 ?_
      refine j_iret hJ rfl rfl rfl (Nat.le_of_ble_eq_true rfl) (Nat.le_of_ble_eq_true rfl) dL_lineLength_14 ⟨1, μ9, g9, rfl, rfl, ?_⟩
      exact Or.inr ⟨xIO, by decide +kernel, hx⟩
  · intro v u hv
    obtain ⟨q, rfl, rfl, h⟩ := hv
    show J (gw 105 XSh cy b μ ++ ((o, .inl (cy 4, 1, .inr (.inl g9))) :: E)) 9 2282 7 [(0, .ref (b 0)), (1, .int (zI s)), (2, .ref o)] [.int (zI q), .int (zI 0), .ref o]
    refine j_i2l hJ dL_lineLength_7 ?_
    refine j_lastore hJ (q0 := 105) out_at dL_lineLength_8 ?_
    intro g8 hg8
    rw [out_set]
    show J (gw 105 XSh cy b μ ++ ((o, .inl (cy 4, 1, .inr (.inl g8))) :: E)) 9 2282 9 [(0, .ref (b 0)), (1, .int (zI s)), (2, .ref o)] []
    refine j_goto hJ (tgt := 15) (by decide) dL_lineLength_9 ?_
    refine j_iconst hJ dL_lineLength_15 ?_
    refine j_iret hJ rfl rfl rfl (Nat.le_of_ble_eq_true rfl) (Nat.le_of_ble_eq_true rfl) dL_lineLength_16 ⟨0, μ, g8, rfl, rfl, ?_⟩
    exact Or.inl ⟨rfl, q, hg8, rfl, h⟩
set_option maxHeartbeats 4000000 in
set_option maxRecDepth 100000 in
theorem c_L_lineChar {μ : Nat → Int → Int} {n : Nat} {N : Nat → List Int} {ow : Nat → Int} {m : Nat → Nat} {p : Nat → Nat → Int} {s k : Int} {o : Nat} {g9 : Nat → Int64} (hfl : l.stackTraces = false) (hX : XI μ n N ow m p) (hsR : -2147483648 ≤ s ∧ s < 2147483648) (hkR : -2147483648 ≤ k ∧ k < 2147483648) : CTH l D cy n0 ad yL_lineChar (.codeWith yL_lineChar cL_lineChar 5 (some .int) [(0, 10, 13, 21)]) ({ frames := 10, cells := 10, slots := 2288, locals := 229 }) [.ref (b 0), .int (zI s), .int (zI k), .ref o] (gw 105 XSh cy b μ ++ ((o, .inl (cy 4, 1, .inr (.inl g9))) :: E)) (fun vv uu => ∃ zz μ' f', vv = some (.int (zI zz)) ∧ uu = (gw 105 XSh cy b μ' ++ ((o, .inl (cy 4, 1, .inr (.inl f'))) :: E)) ∧ ((zz = 0 ∧ ∃ q, f' 0 = (zI q).toInt64 ∧ (μ' = μ ∧ ((StOK n s ∧ 0 ≤ k ∧ k < ((lineT (μ 1) (N s.toNat) (trk (p s.toNat) (m s.toNat))).length : Nat)) ∧ (lineT (μ 1) (N s.toNat) (trk (p s.toNat) (m s.toNat)))[k.toNat]? = some q ∧ 0 ≤ q ∧ q < 128))) ∨ (∃ X, zz = ecode [xIO] X ∧ ((X = xIO ∧ ¬ (StOK n s ∧ 0 ≤ k ∧ k < ((lineT (μ 1) (N s.toNat) (trk (p s.toNat) (m s.toNat))).length : Nat))) ∧ μ' = μ)))) := by
  refine CTH.walk hfl (by decide) (Nat.le_of_ble_eq_true rfl) ?_
  intro A J hJ
  show J (gw 105 XSh cy b μ ++ ((o, .inl (cy 4, 1, .inr (.inl g9))) :: E)) 0 0 0 [(0, .ref (b 0)), (1, .int (zI s)), (2, .int (zI k)), (3, .ref o)] []
  refine j_aload_n hJ (j := 3) rfl rfl dL_lineChar_0 ?_
  refine j_iconst hJ dL_lineChar_1 ?_
  refine j_aload_n hJ (j := 0) rfl rfl dL_lineChar_2 ?_
  refine j_iload_n hJ (j := 1) rfl rfl dL_lineChar_3 ?_
  refine j_iload_n hJ (j := 2) rfl rfl dL_lineChar_4 ?_
  refine j_callVXh hJ (c_X4_lineChar (E := (o, .inl (cy 4, 1, .inr (.inl g9))) :: E) hfl hX hsR hkR) mx_L_50 k_X4_lineChar (q0 := 0) (by rw [gw_get (by decide)]; rfl) rfl ⟨(Nat.le_of_ble_eq_true rfl), (Nat.le_of_ble_eq_true rfl)⟩ ⟨(Nat.le_of_ble_eq_true rfl), (Nat.le_of_ble_eq_true rfl)⟩ (Nat.le_of_ble_eq_true rfl) dL_lineChar_5 rfl ?_ ?_
  · intro X u hX
    obtain ⟨μ9, rfl, hx⟩ := hX
    have hX3 : X = xIO := by
      rcases hx with ⟨⟨h, -⟩, -⟩
      · exact h
    rcases hX3 with rfl
    · refine ⟨13, hc_lineChar_xIO, fun q9 => ?_⟩
      show J (gw 105 XSh cy b μ9 ++ ((o, .inl (cy 4, 1, .inr (.inl g9))) :: E)) 10 2288 13 [(0, .ref (b 0)), (1, .int (zI s)), (2, .int (zI k)), (3, .ref o)] [.ref q9]
      refine j_astore hJ (lv' := [(4, .ref q9), (0, .ref (b 0)), (1, .int (zI s)), (2, .int (zI k)), (3, .ref o)]) (by decide) rfl dL_lineChar_13 ?_
      refine j_iconst hJ dL_lineChar_15 ?_
      refine j_iret hJ rfl rfl rfl (Nat.le_of_ble_eq_true rfl) (Nat.le_of_ble_eq_true rfl) dL_lineChar_16 ⟨1, μ9, g9, rfl, rfl, ?_⟩
      exact Or.inr ⟨xIO, by decide +kernel, hx⟩
  · intro v u hv
    obtain ⟨q, rfl, rfl, h⟩ := hv
    show J (gw 105 XSh cy b μ ++ ((o, .inl (cy 4, 1, .inr (.inl g9))) :: E)) 10 2288 8 [(0, .ref (b 0)), (1, .int (zI s)), (2, .int (zI k)), (3, .ref o)] [.int (zI q), .int (zI 0), .ref o]
    refine j_i2l hJ dL_lineChar_8 ?_
    refine j_lastore hJ (q0 := 105) out_at dL_lineChar_9 ?_
    intro g8 hg8
    rw [out_set]
    show J (gw 105 XSh cy b μ ++ ((o, .inl (cy 4, 1, .inr (.inl g8))) :: E)) 10 2288 10 [(0, .ref (b 0)), (1, .int (zI s)), (2, .int (zI k)), (3, .ref o)] []
    refine j_goto hJ (tgt := 17) (by decide) dL_lineChar_10 ?_
    refine j_iconst hJ dL_lineChar_17 ?_
    refine j_iret hJ rfl rfl rfl (Nat.le_of_ble_eq_true rfl) (Nat.le_of_ble_eq_true rfl) dL_lineChar_18 ⟨0, μ, g8, rfl, rfl, ?_⟩
    exact Or.inl ⟨rfl, q, hg8, rfl, h⟩
set_option maxHeartbeats 4000000 in
set_option maxRecDepth 100000 in
theorem c_L_trackLength {μ : Nat → Int → Int} {n : Nat} {N : Nat → List Int} {ow : Nat → Int} {m : Nat → Nat} {p : Nat → Nat → Int} {s : Int} {o : Nat} {g9 : Nat → Int64} (hfl : l.stackTraces = false) (hX : XI μ n N ow m p) (hsR : -2147483648 ≤ s ∧ s < 2147483648) : CTH l D cy n0 ad yL_trackLength (.codeWith yL_trackLength cL_trackLength 4 (some .int) [(0, 9, 12, 21)]) ({ frames := 8, cells := 1, slots := 6, locals := 124 }) [.ref (b 0), .int (zI s), .ref o] (gw 105 XSh cy b μ ++ ((o, .inl (cy 4, 1, .inr (.inl g9))) :: E)) (fun vv uu => ∃ zz μ' f', vv = some (.int (zI zz)) ∧ uu = (gw 105 XSh cy b μ' ++ ((o, .inl (cy 4, 1, .inr (.inl f'))) :: E)) ∧ ((zz = 0 ∧ ∃ q, f' 0 = (zI q).toInt64 ∧ (μ' = μ ∧ (StOK n s ∧ q = ((trk (p s.toNat) (m s.toNat)).length : Nat)))) ∨ (∃ X, zz = ecode [xIO] X ∧ ((X = xIO ∧ ¬ StOK n s) ∧ μ' = μ)))) := by
  refine CTH.walk hfl (by decide) (Nat.le_of_ble_eq_true rfl) ?_
  intro A J hJ
  show J (gw 105 XSh cy b μ ++ ((o, .inl (cy 4, 1, .inr (.inl g9))) :: E)) 0 0 0 [(0, .ref (b 0)), (1, .int (zI s)), (2, .ref o)] []
  refine j_aload_n hJ (j := 2) rfl rfl dL_trackLength_0 ?_
  refine j_iconst hJ dL_trackLength_1 ?_
  refine j_aload_n hJ (j := 0) rfl rfl dL_trackLength_2 ?_
  refine j_iload_n hJ (j := 1) rfl rfl dL_trackLength_3 ?_
  refine j_callVXh hJ (c_X4_trackLength (E := (o, .inl (cy 4, 1, .inr (.inl g9))) :: E) hfl hX hsR) mx_L_54 k_X4_trackLength (q0 := 0) (by rw [gw_get (by decide)]; rfl) rfl ⟨(Nat.le_of_ble_eq_true rfl), (Nat.le_of_ble_eq_true rfl)⟩ ⟨(Nat.le_of_ble_eq_true rfl), (Nat.le_of_ble_eq_true rfl)⟩ (Nat.le_of_ble_eq_true rfl) dL_trackLength_4 rfl ?_ ?_
  · intro X u hX
    obtain ⟨μ9, rfl, hx⟩ := hX
    have hX3 : X = xIO := by
      rcases hx with ⟨⟨h, -⟩, -⟩
      · exact h
    rcases hX3 with rfl
    · refine ⟨12, hc_trackLength_xIO, fun q9 => ?_⟩
      show J (gw 105 XSh cy b μ9 ++ ((o, .inl (cy 4, 1, .inr (.inl g9))) :: E)) 1 6 12 [(0, .ref (b 0)), (1, .int (zI s)), (2, .ref o)] [.ref q9]
      refine j_astore_n hJ (lv' := [(3, .ref q9), (0, .ref (b 0)), (1, .int (zI s)), (2, .ref o)]) rfl (by decide) rfl dL_trackLength_12 ?_
      refine j_iconst hJ dL_trackLength_13 ?_
      refine j_iret hJ rfl rfl rfl (Nat.le_of_ble_eq_true rfl) (Nat.le_of_ble_eq_true rfl) dL_trackLength_14 ⟨1, μ9, g9, rfl, rfl, ?_⟩
      exact Or.inr ⟨xIO, by decide +kernel, hx⟩
  · intro v u hv
    obtain ⟨q, rfl, rfl, h⟩ := hv
    show J (gw 105 XSh cy b μ ++ ((o, .inl (cy 4, 1, .inr (.inl g9))) :: E)) 1 6 7 [(0, .ref (b 0)), (1, .int (zI s)), (2, .ref o)] [.int (zI q), .int (zI 0), .ref o]
    refine j_i2l hJ dL_trackLength_7 ?_
    refine j_lastore hJ (q0 := 105) out_at dL_trackLength_8 ?_
    intro g8 hg8
    rw [out_set]
    show J (gw 105 XSh cy b μ ++ ((o, .inl (cy 4, 1, .inr (.inl g8))) :: E)) 1 6 9 [(0, .ref (b 0)), (1, .int (zI s)), (2, .ref o)] []
    refine j_goto hJ (tgt := 15) (by decide) dL_trackLength_9 ?_
    refine j_iconst hJ dL_trackLength_15 ?_
    refine j_iret hJ rfl rfl rfl (Nat.le_of_ble_eq_true rfl) (Nat.le_of_ble_eq_true rfl) dL_trackLength_16 ⟨0, μ, g8, rfl, rfl, ?_⟩
    exact Or.inl ⟨rfl, q, hg8, rfl, h⟩
set_option maxHeartbeats 4000000 in
set_option maxRecDepth 100000 in
theorem c_L_squares {μ : Nat → Int → Int} {n : Nat} {N : Nat → List Int} {ow : Nat → Int} {m : Nat → Nat} {p : Nat → Nat → Int} {s : Int} {o : Nat} {g9 : Nat → Int64} (hfl : l.stackTraces = false) (hX : XI μ n N ow m p) (hsR : -2147483648 ≤ s ∧ s < 2147483648) : CTH l D cy n0 ad yL_squares (.codeWith yL_squares cL_squares 4 (some .int) [(0, 9, 12, 21)]) ({ frames := 8, cells := 1, slots := 6, locals := 124 }) [.ref (b 0), .int (zI s), .ref o] (gw 105 XSh cy b μ ++ ((o, .inl (cy 4, 1, .inr (.inl g9))) :: E)) (fun vv uu => ∃ zz μ' f', vv = some (.int (zI zz)) ∧ uu = (gw 105 XSh cy b μ' ++ ((o, .inl (cy 4, 1, .inr (.inl f'))) :: E)) ∧ ((zz = 0 ∧ ∃ q, f' 0 = (zI q).toInt64 ∧ (μ' = μ ∧ (StOK n s ∧ q = (cntN (fun k => decide ((k : Int) ∈ trk (p s.toNat) (m s.toNat))) 144 : Nat)))) ∨ (∃ X, zz = ecode [xIO] X ∧ ((X = xIO ∧ ¬ StOK n s) ∧ μ' = μ)))) := by
  refine CTH.walk hfl (by decide) (Nat.le_of_ble_eq_true rfl) ?_
  intro A J hJ
  show J (gw 105 XSh cy b μ ++ ((o, .inl (cy 4, 1, .inr (.inl g9))) :: E)) 0 0 0 [(0, .ref (b 0)), (1, .int (zI s)), (2, .ref o)] []
  refine j_aload_n hJ (j := 2) rfl rfl dL_squares_0 ?_
  refine j_iconst hJ dL_squares_1 ?_
  refine j_aload_n hJ (j := 0) rfl rfl dL_squares_2 ?_
  refine j_iload_n hJ (j := 1) rfl rfl dL_squares_3 ?_
  refine j_callVXh hJ (c_X4_squares (E := (o, .inl (cy 4, 1, .inr (.inl g9))) :: E) hfl hX hsR) mx_L_57 k_X4_squares (q0 := 0) (by rw [gw_get (by decide)]; rfl) rfl ⟨(Nat.le_of_ble_eq_true rfl), (Nat.le_of_ble_eq_true rfl)⟩ ⟨(Nat.le_of_ble_eq_true rfl), (Nat.le_of_ble_eq_true rfl)⟩ (Nat.le_of_ble_eq_true rfl) dL_squares_4 rfl ?_ ?_
  · intro X u hX
    obtain ⟨μ9, rfl, hx⟩ := hX
    have hX3 : X = xIO := by
      rcases hx with ⟨⟨h, -⟩, -⟩
      · exact h
    rcases hX3 with rfl
    · refine ⟨12, hc_squares_xIO, fun q9 => ?_⟩
      show J (gw 105 XSh cy b μ9 ++ ((o, .inl (cy 4, 1, .inr (.inl g9))) :: E)) 1 6 12 [(0, .ref (b 0)), (1, .int (zI s)), (2, .ref o)] [.ref q9]
      refine j_astore_n hJ (lv' := [(3, .ref q9), (0, .ref (b 0)), (1, .int (zI s)), (2, .ref o)]) rfl (by decide) rfl dL_squares_12 ?_
      refine j_iconst hJ dL_squares_13 ?_
      refine j_iret hJ rfl rfl rfl (Nat.le_of_ble_eq_true rfl) (Nat.le_of_ble_eq_true rfl) dL_squares_14 ⟨1, μ9, g9, rfl, rfl, ?_⟩
      exact Or.inr ⟨xIO, by decide +kernel, hx⟩
  · intro v u hv
    obtain ⟨q, rfl, rfl, h⟩ := hv
    show J (gw 105 XSh cy b μ ++ ((o, .inl (cy 4, 1, .inr (.inl g9))) :: E)) 1 6 7 [(0, .ref (b 0)), (1, .int (zI s)), (2, .ref o)] [.int (zI q), .int (zI 0), .ref o]
    refine j_i2l hJ dL_squares_7 ?_
    refine j_lastore hJ (q0 := 105) out_at dL_squares_8 ?_
    intro g8 hg8
    rw [out_set]
    show J (gw 105 XSh cy b μ ++ ((o, .inl (cy 4, 1, .inr (.inl g8))) :: E)) 1 6 9 [(0, .ref (b 0)), (1, .int (zI s)), (2, .ref o)] []
    refine j_goto hJ (tgt := 15) (by decide) dL_squares_9 ?_
    refine j_iconst hJ dL_squares_15 ?_
    refine j_iret hJ rfl rfl rfl (Nat.le_of_ble_eq_true rfl) (Nat.le_of_ble_eq_true rfl) dL_squares_16 ⟨0, μ, g8, rfl, rfl, ?_⟩
    exact Or.inl ⟨rfl, q, hg8, rfl, h⟩
set_option maxHeartbeats 4000000 in
set_option maxRecDepth 100000 in
theorem c_L_runs {μ : Nat → Int → Int} {n : Nat} {N : Nat → List Int} {ow : Nat → Int} {m : Nat → Nat} {p : Nat → Nat → Int} {s : Int} {o : Nat} {g9 : Nat → Int64} (hfl : l.stackTraces = false) (hX : XI μ n N ow m p) (hsR : -2147483648 ≤ s ∧ s < 2147483648) : CTH l D cy n0 ad yL_runs (.codeWith yL_runs cL_runs 4 (some .int) [(0, 9, 12, 21)]) ({ frames := 8, cells := 1, slots := 6, locals := 124 }) [.ref (b 0), .int (zI s), .ref o] (gw 105 XSh cy b μ ++ ((o, .inl (cy 4, 1, .inr (.inl g9))) :: E)) (fun vv uu => ∃ zz μ' f', vv = some (.int (zI zz)) ∧ uu = (gw 105 XSh cy b μ' ++ ((o, .inl (cy 4, 1, .inr (.inl f'))) :: E)) ∧ ((zz = 0 ∧ ∃ q, f' 0 = (zI q).toInt64 ∧ (μ' = μ ∧ (StOK n s ∧ q = (cntN (fun k => decide ((k : Int) ∈ trk (p s.toNat) (m s.toNat)) && (k % 12 == 0 || !decide ((k : Int) - 1 ∈ trk (p s.toNat) (m s.toNat)))) 144 : Nat)))) ∨ (∃ X, zz = ecode [xIO] X ∧ ((X = xIO ∧ ¬ StOK n s) ∧ μ' = μ)))) := by
  refine CTH.walk hfl (by decide) (Nat.le_of_ble_eq_true rfl) ?_
  intro A J hJ
  show J (gw 105 XSh cy b μ ++ ((o, .inl (cy 4, 1, .inr (.inl g9))) :: E)) 0 0 0 [(0, .ref (b 0)), (1, .int (zI s)), (2, .ref o)] []
  refine j_aload_n hJ (j := 2) rfl rfl dL_runs_0 ?_
  refine j_iconst hJ dL_runs_1 ?_
  refine j_aload_n hJ (j := 0) rfl rfl dL_runs_2 ?_
  refine j_iload_n hJ (j := 1) rfl rfl dL_runs_3 ?_
  refine j_callVXh hJ (c_X4_runs (E := (o, .inl (cy 4, 1, .inr (.inl g9))) :: E) hfl hX hsR) mx_L_60 k_X4_runs (q0 := 0) (by rw [gw_get (by decide)]; rfl) rfl ⟨(Nat.le_of_ble_eq_true rfl), (Nat.le_of_ble_eq_true rfl)⟩ ⟨(Nat.le_of_ble_eq_true rfl), (Nat.le_of_ble_eq_true rfl)⟩ (Nat.le_of_ble_eq_true rfl) dL_runs_4 rfl ?_ ?_
  · intro X u hX
    obtain ⟨μ9, rfl, hx⟩ := hX
    have hX3 : X = xIO := by
      rcases hx with ⟨⟨h, -⟩, -⟩
      · exact h
    rcases hX3 with rfl
    · refine ⟨12, hc_runs_xIO, fun q9 => ?_⟩
      show J (gw 105 XSh cy b μ9 ++ ((o, .inl (cy 4, 1, .inr (.inl g9))) :: E)) 1 6 12 [(0, .ref (b 0)), (1, .int (zI s)), (2, .ref o)] [.ref q9]
      refine j_astore_n hJ (lv' := [(3, .ref q9), (0, .ref (b 0)), (1, .int (zI s)), (2, .ref o)]) rfl (by decide) rfl dL_runs_12 ?_
      refine j_iconst hJ dL_runs_13 ?_
      refine j_iret hJ rfl rfl rfl (Nat.le_of_ble_eq_true rfl) (Nat.le_of_ble_eq_true rfl) dL_runs_14 ⟨1, μ9, g9, rfl, rfl, ?_⟩
      exact Or.inr ⟨xIO, by decide +kernel, hx⟩
  · intro v u hv
    obtain ⟨q, rfl, rfl, h⟩ := hv
    show J (gw 105 XSh cy b μ ++ ((o, .inl (cy 4, 1, .inr (.inl g9))) :: E)) 1 6 7 [(0, .ref (b 0)), (1, .int (zI s)), (2, .ref o)] [.int (zI q), .int (zI 0), .ref o]
    refine j_i2l hJ dL_runs_7 ?_
    refine j_lastore hJ (q0 := 105) out_at dL_runs_8 ?_
    intro g8 hg8
    rw [out_set]
    show J (gw 105 XSh cy b μ ++ ((o, .inl (cy 4, 1, .inr (.inl g8))) :: E)) 1 6 9 [(0, .ref (b 0)), (1, .int (zI s)), (2, .ref o)] []
    refine j_goto hJ (tgt := 15) (by decide) dL_runs_9 ?_
    refine j_iconst hJ dL_runs_15 ?_
    refine j_iret hJ rfl rfl rfl (Nat.le_of_ble_eq_true rfl) (Nat.le_of_ble_eq_true rfl) dL_runs_16 ⟨0, μ, g8, rfl, rfl, ?_⟩
    exact Or.inl ⟨rfl, q, hg8, rfl, h⟩
set_option maxHeartbeats 4000000 in
set_option maxRecDepth 100000 in
theorem c_L_isOn {μ : Nat → Int → Int} {n : Nat} {N : Nat → List Int} {ow : Nat → Int} {m : Nat → Nat} {p : Nat → Nat → Int} {s c r : Int} {o : Nat} {g9 : Nat → Int64} (hfl : l.stackTraces = false) (hX : XI μ n N ow m p) (hsR : -2147483648 ≤ s ∧ s < 2147483648) (hcR : -2147483648 ≤ c ∧ c < 2147483648) (hrR : -2147483648 ≤ r ∧ r < 2147483648) : CTH l D cy n0 ad yL_isOn (.codeWith yL_isOn cL_isOn 6 (some .int) [(0, 19, 22, 21)]) ({ frames := 8, cells := 2, slots := 12, locals := 126 }) [.ref (b 0), .int (zI s), .int (zI c), .int (zI r), .ref o] (gw 105 XSh cy b μ ++ ((o, .inl (cy 4, 1, .inr (.inl g9))) :: E)) (fun vv uu => ∃ zz μ' f', vv = some (.int (zI zz)) ∧ uu = (gw 105 XSh cy b μ' ++ ((o, .inl (cy 4, 1, .inr (.inl f'))) :: E)) ∧ ((zz = 0 ∧ ∃ q, f' 0 = (zI q).toInt64 ∧ (μ' = μ ∧ ((StOK n s ∧ SqOK c r) ∧ q = (if 12 * c + r ∈ trk (p s.toNat) (m s.toNat) then 1 else 0)))) ∨ (∃ X, zz = ecode [xIO] X ∧ ((X = xIO ∧ ¬ (StOK n s ∧ SqOK c r)) ∧ μ' = μ)))) := by
  refine CTH.walk hfl (by decide) (Nat.le_of_ble_eq_true rfl) ?_
  intro A J hJ
  show J (gw 105 XSh cy b μ ++ ((o, .inl (cy 4, 1, .inr (.inl g9))) :: E)) 0 0 0 [(0, .ref (b 0)), (1, .int (zI s)), (2, .int (zI c)), (3, .int (zI r)), (4, .ref o)] []
  refine j_aload hJ (j := 4) rfl dL_isOn_0 ?_
  refine j_iconst hJ dL_isOn_2 ?_
  refine j_aload_n hJ (j := 0) rfl rfl dL_isOn_3 ?_
  refine j_iload_n hJ (j := 1) rfl rfl dL_isOn_4 ?_
  refine j_iload_n hJ (j := 2) rfl rfl dL_isOn_5 ?_
  refine j_iload_n hJ (j := 3) rfl rfl dL_isOn_6 ?_
  refine j_callVXh hJ (c_X4_isOn (E := (o, .inl (cy 4, 1, .inr (.inl g9))) :: E) hfl hX hsR hcR hrR) mx_L_63 k_X4_isOn (q0 := 0) (by rw [gw_get (by decide)]; rfl) rfl ⟨(Nat.le_of_ble_eq_true rfl), (Nat.le_of_ble_eq_true rfl)⟩ ⟨(Nat.le_of_ble_eq_true rfl), (Nat.le_of_ble_eq_true rfl)⟩ (Nat.le_of_ble_eq_true rfl) dL_isOn_7 rfl ?_ ?_
  · intro X u hX
    obtain ⟨μ9, rfl, hx⟩ := hX
    have hX3 : X = xIO := by
      rcases hx with ⟨⟨h, -⟩, -⟩
      · exact h
    rcases hX3 with rfl
    · refine ⟨22, hc_isOn_xIO, fun q9 => ?_⟩
      show J (gw 105 XSh cy b μ9 ++ ((o, .inl (cy 4, 1, .inr (.inl g9))) :: E)) 2 12 22 [(0, .ref (b 0)), (1, .int (zI s)), (2, .int (zI c)), (3, .int (zI r)), (4, .ref o)] [.ref q9]
      refine j_astore hJ (lv' := [(5, .ref q9), (0, .ref (b 0)), (1, .int (zI s)), (2, .int (zI c)), (3, .int (zI r)), (4, .ref o)]) (by decide) rfl dL_isOn_22 ?_
      refine j_iconst hJ dL_isOn_24 ?_
      refine j_iret hJ rfl rfl rfl (Nat.le_of_ble_eq_true rfl) (Nat.le_of_ble_eq_true rfl) dL_isOn_25 ⟨1, μ9, g9, rfl, rfl, ?_⟩
      exact Or.inr ⟨xIO, by decide +kernel, hx⟩
  · intro v u hv
    obtain ⟨q, rfl, rfl, h⟩ := hv
    have hq01 : q = 0 ∨ q = 1 := by rw [h.2]; split <;> omega
    show J (gw 105 XSh cy b μ ++ ((o, .inl (cy 4, 1, .inr (.inl g9))) :: E)) 2 12 10 [(0, .ref (b 0)), (1, .int (zI s)), (2, .int (zI c)), (3, .int (zI r)), (4, .ref o)] [.int (zI q), .int (zI 0), .ref o]
    refine j_if_eq hJ (tgt := 17) ⟨by omega, by omega⟩ (by decide) dL_isOn_10 ?_ ?_
    · intro h10
      have hq0 : q = 0 := by omega
      refine j_lconst (v := (zI q).toInt64) hJ (by rw [hq0]; rfl) dL_isOn_17 ?_
      refine j_lastore hJ (q0 := 105) out_at dL_isOn_18 ?_
      intro g8 hg8
      rw [out_set]
      show J (gw 105 XSh cy b μ ++ ((o, .inl (cy 4, 1, .inr (.inl g8))) :: E)) 2 12 19 [(0, .ref (b 0)), (1, .int (zI s)), (2, .int (zI c)), (3, .int (zI r)), (4, .ref o)] []
      refine j_goto hJ (tgt := 26) (by decide) dL_isOn_19 ?_
      refine j_iconst hJ dL_isOn_26 ?_
      refine j_iret hJ rfl rfl rfl (Nat.le_of_ble_eq_true rfl) (Nat.le_of_ble_eq_true rfl) dL_isOn_27 ⟨0, μ, g8, rfl, rfl, ?_⟩
      exact Or.inl ⟨rfl, q, hg8, rfl, h⟩
    · intro h10
      have hq1 : q = 1 := by omega
      refine j_lconst (v := (zI q).toInt64) hJ (by rw [hq1]; rfl) dL_isOn_13 ?_
      refine j_goto hJ (tgt := 18) (by decide) dL_isOn_14 ?_
      refine j_lastore hJ (q0 := 105) out_at dL_isOn_18 ?_
      intro g8 hg8
      rw [out_set]
      show J (gw 105 XSh cy b μ ++ ((o, .inl (cy 4, 1, .inr (.inl g8))) :: E)) 2 12 19 [(0, .ref (b 0)), (1, .int (zI s)), (2, .int (zI c)), (3, .int (zI r)), (4, .ref o)] []
      refine j_goto hJ (tgt := 26) (by decide) dL_isOn_19 ?_
      refine j_iconst hJ dL_isOn_26 ?_
      refine j_iret hJ rfl rfl rfl (Nat.le_of_ble_eq_true rfl) (Nat.le_of_ble_eq_true rfl) dL_isOn_27 ⟨0, μ, g8, rfl, rfl, ?_⟩
      exact Or.inl ⟨rfl, q, hg8, rfl, h⟩
set_option maxHeartbeats 4000000 in
set_option maxRecDepth 100000 in
theorem c_L_isOnTrack {μ : Nat → Int → Int} {n : Nat} {N : Nat → List Int} {ow : Nat → Int} {m : Nat → Nat} {p : Nat → Nat → Int} {s c r : Int} {o : Nat} {g9 : Nat → Int64} (hfl : l.stackTraces = false) (hX : XI μ n N ow m p) (hsR : -2147483648 ≤ s ∧ s < 2147483648) (hcR : -2147483648 ≤ c ∧ c < 2147483648) (hrR : -2147483648 ≤ r ∧ r < 2147483648) : CTH l D cy n0 ad yL_isOnTrack (.codeWith yL_isOnTrack cL_isOnTrack 6 (some .int) [(0, 19, 22, 21)]) ({ frames := 8, cells := 2, slots := 12, locals := 126 }) [.ref (b 0), .int (zI s), .int (zI c), .int (zI r), .ref o] (gw 105 XSh cy b μ ++ ((o, .inl (cy 4, 1, .inr (.inl g9))) :: E)) (fun vv uu => ∃ zz μ' f', vv = some (.int (zI zz)) ∧ uu = (gw 105 XSh cy b μ' ++ ((o, .inl (cy 4, 1, .inr (.inl f'))) :: E)) ∧ ((zz = 0 ∧ ∃ q, f' 0 = (zI q).toInt64 ∧ (μ' = μ ∧ ((StOK n s ∧ SqOK c r) ∧ q = (if 12 * c + r ∈ trk (p s.toNat) (m s.toNat) then 1 else 0)))) ∨ (∃ X, zz = ecode [xIO] X ∧ ((X = xIO ∧ ¬ (StOK n s ∧ SqOK c r)) ∧ μ' = μ)))) := by
  refine CTH.walk hfl (by decide) (Nat.le_of_ble_eq_true rfl) ?_
  intro A J hJ
  show J (gw 105 XSh cy b μ ++ ((o, .inl (cy 4, 1, .inr (.inl g9))) :: E)) 0 0 0 [(0, .ref (b 0)), (1, .int (zI s)), (2, .int (zI c)), (3, .int (zI r)), (4, .ref o)] []
  refine j_aload hJ (j := 4) rfl dL_isOnTrack_0 ?_
  refine j_iconst hJ dL_isOnTrack_2 ?_
  refine j_aload_n hJ (j := 0) rfl rfl dL_isOnTrack_3 ?_
  refine j_iload_n hJ (j := 1) rfl rfl dL_isOnTrack_4 ?_
  refine j_iload_n hJ (j := 2) rfl rfl dL_isOnTrack_5 ?_
  refine j_iload_n hJ (j := 3) rfl rfl dL_isOnTrack_6 ?_
  refine j_callVXh hJ (c_X4_isOnTrack (E := (o, .inl (cy 4, 1, .inr (.inl g9))) :: E) hfl hX hsR hcR hrR) mx_L_67 k_X4_isOnTrack (q0 := 0) (by rw [gw_get (by decide)]; rfl) rfl ⟨(Nat.le_of_ble_eq_true rfl), (Nat.le_of_ble_eq_true rfl)⟩ ⟨(Nat.le_of_ble_eq_true rfl), (Nat.le_of_ble_eq_true rfl)⟩ (Nat.le_of_ble_eq_true rfl) dL_isOnTrack_7 rfl ?_ ?_
  · intro X u hX
    obtain ⟨μ9, rfl, hx⟩ := hX
    have hX3 : X = xIO := by
      rcases hx with ⟨⟨h, -⟩, -⟩
      · exact h
    rcases hX3 with rfl
    · refine ⟨22, hc_isOnTrack_xIO, fun q9 => ?_⟩
      show J (gw 105 XSh cy b μ9 ++ ((o, .inl (cy 4, 1, .inr (.inl g9))) :: E)) 2 12 22 [(0, .ref (b 0)), (1, .int (zI s)), (2, .int (zI c)), (3, .int (zI r)), (4, .ref o)] [.ref q9]
      refine j_astore hJ (lv' := [(5, .ref q9), (0, .ref (b 0)), (1, .int (zI s)), (2, .int (zI c)), (3, .int (zI r)), (4, .ref o)]) (by decide) rfl dL_isOnTrack_22 ?_
      refine j_iconst hJ dL_isOnTrack_24 ?_
      refine j_iret hJ rfl rfl rfl (Nat.le_of_ble_eq_true rfl) (Nat.le_of_ble_eq_true rfl) dL_isOnTrack_25 ⟨1, μ9, g9, rfl, rfl, ?_⟩
      exact Or.inr ⟨xIO, by decide +kernel, hx⟩
  · intro v u hv
    obtain ⟨q, rfl, rfl, h⟩ := hv
    have hq01 : q = 0 ∨ q = 1 := by rw [h.2]; split <;> omega
    show J (gw 105 XSh cy b μ ++ ((o, .inl (cy 4, 1, .inr (.inl g9))) :: E)) 2 12 10 [(0, .ref (b 0)), (1, .int (zI s)), (2, .int (zI c)), (3, .int (zI r)), (4, .ref o)] [.int (zI q), .int (zI 0), .ref o]
    refine j_if_eq hJ (tgt := 17) ⟨by omega, by omega⟩ (by decide) dL_isOnTrack_10 ?_ ?_
    · intro h10
      have hq0 : q = 0 := by omega
      refine j_lconst (v := (zI q).toInt64) hJ (by rw [hq0]; rfl) dL_isOnTrack_17 ?_
      refine j_lastore hJ (q0 := 105) out_at dL_isOnTrack_18 ?_
      intro g8 hg8
      rw [out_set]
      show J (gw 105 XSh cy b μ ++ ((o, .inl (cy 4, 1, .inr (.inl g8))) :: E)) 2 12 19 [(0, .ref (b 0)), (1, .int (zI s)), (2, .int (zI c)), (3, .int (zI r)), (4, .ref o)] []
      refine j_goto hJ (tgt := 26) (by decide) dL_isOnTrack_19 ?_
      refine j_iconst hJ dL_isOnTrack_26 ?_
      refine j_iret hJ rfl rfl rfl (Nat.le_of_ble_eq_true rfl) (Nat.le_of_ble_eq_true rfl) dL_isOnTrack_27 ⟨0, μ, g8, rfl, rfl, ?_⟩
      exact Or.inl ⟨rfl, q, hg8, rfl, h⟩
    · intro h10
      have hq1 : q = 1 := by omega
      refine j_lconst (v := (zI q).toInt64) hJ (by rw [hq1]; rfl) dL_isOnTrack_13 ?_
      refine j_goto hJ (tgt := 18) (by decide) dL_isOnTrack_14 ?_
      refine j_lastore hJ (q0 := 105) out_at dL_isOnTrack_18 ?_
      intro g8 hg8
      rw [out_set]
      show J (gw 105 XSh cy b μ ++ ((o, .inl (cy 4, 1, .inr (.inl g8))) :: E)) 2 12 19 [(0, .ref (b 0)), (1, .int (zI s)), (2, .int (zI c)), (3, .int (zI r)), (4, .ref o)] []
      refine j_goto hJ (tgt := 26) (by decide) dL_isOnTrack_19 ?_
      refine j_iconst hJ dL_isOnTrack_26 ?_
      refine j_iret hJ rfl rfl rfl (Nat.le_of_ble_eq_true rfl) (Nat.le_of_ble_eq_true rfl) dL_isOnTrack_27 ⟨0, μ, g8, rfl, rfl, ?_⟩
      exact Or.inl ⟨rfl, q, hg8, rfl, h⟩
set_option maxHeartbeats 4000000 in
set_option maxRecDepth 100000 in
theorem c_L_streetsOf {μ : Nat → Int → Int} {n : Nat} {N : Nat → List Int} {ow : Nat → Int} {m : Nat → Nat} {p : Nat → Nat → Int} {c r : Int} {o : Nat} {g9 : Nat → Int64} (hfl : l.stackTraces = false) (hX : XI μ n N ow m p) (hcR : -2147483648 ≤ c ∧ c < 2147483648) (hrR : -2147483648 ≤ r ∧ r < 2147483648) : CTH l D cy n0 ad yL_streetsOf (.codeWith yL_streetsOf cL_streetsOf 5 (some .int) [(0, 10, 13, 21)]) ({ frames := 8, cells := 1, slots := 6, locals := 127 }) [.ref (b 0), .int (zI c), .int (zI r), .ref o] (gw 105 XSh cy b μ ++ ((o, .inl (cy 4, 1, .inr (.inl g9))) :: E)) (fun vv uu => ∃ zz μ' f', vv = some (.int (zI zz)) ∧ uu = (gw 105 XSh cy b μ' ++ ((o, .inl (cy 4, 1, .inr (.inl f'))) :: E)) ∧ ((zz = 0 ∧ ∃ q, f' 0 = (zI q).toInt64 ∧ (μ' = μ ∧ (SqOK c r ∧ q = bitsOf (fun k => decide (12 * c + r ∈ trk (p k) (m k))) n))) ∨ (∃ X, zz = ecode [xIO] X ∧ ((X = xIO ∧ ¬ SqOK c r) ∧ μ' = μ)))) := by
  refine CTH.walk hfl (by decide) (Nat.le_of_ble_eq_true rfl) ?_
  intro A J hJ
  show J (gw 105 XSh cy b μ ++ ((o, .inl (cy 4, 1, .inr (.inl g9))) :: E)) 0 0 0 [(0, .ref (b 0)), (1, .int (zI c)), (2, .int (zI r)), (3, .ref o)] []
  refine j_aload_n hJ (j := 3) rfl rfl dL_streetsOf_0 ?_
  refine j_iconst hJ dL_streetsOf_1 ?_
  refine j_aload_n hJ (j := 0) rfl rfl dL_streetsOf_2 ?_
  refine j_iload_n hJ (j := 1) rfl rfl dL_streetsOf_3 ?_
  refine j_iload_n hJ (j := 2) rfl rfl dL_streetsOf_4 ?_
  refine j_callVXh hJ (c_X4_streetsOf (E := (o, .inl (cy 4, 1, .inr (.inl g9))) :: E) hfl hX hcR hrR) mx_L_70 k_X4_streetsOf (q0 := 0) (by rw [gw_get (by decide)]; rfl) rfl ⟨(Nat.le_of_ble_eq_true rfl), (Nat.le_of_ble_eq_true rfl)⟩ ⟨(Nat.le_of_ble_eq_true rfl), (Nat.le_of_ble_eq_true rfl)⟩ (Nat.le_of_ble_eq_true rfl) dL_streetsOf_5 rfl ?_ ?_
  · intro X u hX
    obtain ⟨μ9, rfl, hx⟩ := hX
    have hX3 : X = xIO := by
      rcases hx with ⟨⟨h, -⟩, -⟩
      · exact h
    rcases hX3 with rfl
    · refine ⟨13, hc_streetsOf_xIO, fun q9 => ?_⟩
      show J (gw 105 XSh cy b μ9 ++ ((o, .inl (cy 4, 1, .inr (.inl g9))) :: E)) 1 6 13 [(0, .ref (b 0)), (1, .int (zI c)), (2, .int (zI r)), (3, .ref o)] [.ref q9]
      refine j_astore hJ (lv' := [(4, .ref q9), (0, .ref (b 0)), (1, .int (zI c)), (2, .int (zI r)), (3, .ref o)]) (by decide) rfl dL_streetsOf_13 ?_
      refine j_iconst hJ dL_streetsOf_15 ?_
      refine j_iret hJ rfl rfl rfl (Nat.le_of_ble_eq_true rfl) (Nat.le_of_ble_eq_true rfl) dL_streetsOf_16 ⟨1, μ9, g9, rfl, rfl, ?_⟩
      exact Or.inr ⟨xIO, by decide +kernel, hx⟩
  · intro v u hv
    obtain ⟨q, rfl, rfl, h⟩ := hv
    show J (gw 105 XSh cy b μ ++ ((o, .inl (cy 4, 1, .inr (.inl g9))) :: E)) 1 6 8 [(0, .ref (b 0)), (1, .int (zI c)), (2, .int (zI r)), (3, .ref o)] [.int (zI q), .int (zI 0), .ref o]
    refine j_i2l hJ dL_streetsOf_8 ?_
    refine j_lastore hJ (q0 := 105) out_at dL_streetsOf_9 ?_
    intro g8 hg8
    rw [out_set]
    show J (gw 105 XSh cy b μ ++ ((o, .inl (cy 4, 1, .inr (.inl g8))) :: E)) 1 6 10 [(0, .ref (b 0)), (1, .int (zI c)), (2, .int (zI r)), (3, .ref o)] []
    refine j_goto hJ (tgt := 17) (by decide) dL_streetsOf_10 ?_
    refine j_iconst hJ dL_streetsOf_17 ?_
    refine j_iret hJ rfl rfl rfl (Nat.le_of_ble_eq_true rfl) (Nat.le_of_ble_eq_true rfl) dL_streetsOf_18 ⟨0, μ, g8, rfl, rfl, ?_⟩
    exact Or.inl ⟨rfl, q, hg8, rfl, h⟩
set_option maxHeartbeats 4000000 in
set_option maxRecDepth 100000 in
theorem c_L_distance {μ : Nat → Int → Int} {n : Nat} {N : Nat → List Int} {ow : Nat → Int} {m : Nat → Nat} {p : Nat → Nat → Int} {s c r : Int} {o : Nat} {g9 : Nat → Int64} (hfl : l.stackTraces = false) (hX : XI μ n N ow m p) (hsR : -2147483648 ≤ s ∧ s < 2147483648) (hcR : -2147483648 ≤ c ∧ c < 2147483648) (hrR : -2147483648 ≤ r ∧ r < 2147483648) : CTH l D cy n0 ad yL_distance (.codeWith yL_distance cL_distance 6 (some .int) [(0, 12, 15, 21)]) ({ frames := 8, cells := 2, slots := 12, locals := 127 }) [.ref (b 0), .int (zI s), .int (zI c), .int (zI r), .ref o] (gw 105 XSh cy b μ ++ ((o, .inl (cy 4, 1, .inr (.inl g9))) :: E)) (fun vv uu => ∃ zz μ' f', vv = some (.int (zI zz)) ∧ uu = (gw 105 XSh cy b μ' ++ ((o, .inl (cy 4, 1, .inr (.inl f'))) :: E)) ∧ ((zz = 0 ∧ ∃ q, f' 0 = (zI q).toInt64 ∧ (μ' = μ ∧ ((StOK n s ∧ SqOK c r) ∧ ∃ sq, IsNear (fun x => x ∈ trk (p s.toNat) (m s.toNat)) c r 144 sq ∧ q = (if sq = -1 then -1 else far sq c r)))) ∨ (∃ X, zz = ecode [xIO] X ∧ ((X = xIO ∧ ¬ (StOK n s ∧ SqOK c r)) ∧ μ' = μ)))) := by
  refine CTH.walk hfl (by decide) (Nat.le_of_ble_eq_true rfl) ?_
  intro A J hJ
  show J (gw 105 XSh cy b μ ++ ((o, .inl (cy 4, 1, .inr (.inl g9))) :: E)) 0 0 0 [(0, .ref (b 0)), (1, .int (zI s)), (2, .int (zI c)), (3, .int (zI r)), (4, .ref o)] []
  refine j_aload hJ (j := 4) rfl dL_distance_0 ?_
  refine j_iconst hJ dL_distance_2 ?_
  refine j_aload_n hJ (j := 0) rfl rfl dL_distance_3 ?_
  refine j_iload_n hJ (j := 1) rfl rfl dL_distance_4 ?_
  refine j_iload_n hJ (j := 2) rfl rfl dL_distance_5 ?_
  refine j_iload_n hJ (j := 3) rfl rfl dL_distance_6 ?_
  refine j_callVXh hJ (c_X4_distance (E := (o, .inl (cy 4, 1, .inr (.inl g9))) :: E) hfl hX hsR hcR hrR) mx_L_73 k_X4_distance (q0 := 0) (by rw [gw_get (by decide)]; rfl) rfl ⟨(Nat.le_of_ble_eq_true rfl), (Nat.le_of_ble_eq_true rfl)⟩ ⟨(Nat.le_of_ble_eq_true rfl), (Nat.le_of_ble_eq_true rfl)⟩ (Nat.le_of_ble_eq_true rfl) dL_distance_7 rfl ?_ ?_
  · intro X u hX
    obtain ⟨μ9, rfl, hx⟩ := hX
    have hX3 : X = xIO := by
      rcases hx with ⟨⟨h, -⟩, -⟩
      · exact h
    rcases hX3 with rfl
    · refine ⟨15, hc_distance_xIO, fun q9 => ?_⟩
      show J (gw 105 XSh cy b μ9 ++ ((o, .inl (cy 4, 1, .inr (.inl g9))) :: E)) 2 12 15 [(0, .ref (b 0)), (1, .int (zI s)), (2, .int (zI c)), (3, .int (zI r)), (4, .ref o)] [.ref q9]
      refine j_astore hJ (lv' := [(5, .ref q9), (0, .ref (b 0)), (1, .int (zI s)), (2, .int (zI c)), (3, .int (zI r)), (4, .ref o)]) (by decide) rfl dL_distance_15 ?_
      refine j_iconst hJ dL_distance_17 ?_
      refine j_iret hJ rfl rfl rfl (Nat.le_of_ble_eq_true rfl) (Nat.le_of_ble_eq_true rfl) dL_distance_18 ⟨1, μ9, g9, rfl, rfl, ?_⟩
      exact Or.inr ⟨xIO, by decide +kernel, hx⟩
  · intro v u hv
    obtain ⟨q, rfl, rfl, h⟩ := hv
    show J (gw 105 XSh cy b μ ++ ((o, .inl (cy 4, 1, .inr (.inl g9))) :: E)) 2 12 10 [(0, .ref (b 0)), (1, .int (zI s)), (2, .int (zI c)), (3, .int (zI r)), (4, .ref o)] [.int (zI q), .int (zI 0), .ref o]
    refine j_i2l hJ dL_distance_10 ?_
    refine j_lastore hJ (q0 := 105) out_at dL_distance_11 ?_
    intro g8 hg8
    rw [out_set]
    show J (gw 105 XSh cy b μ ++ ((o, .inl (cy 4, 1, .inr (.inl g8))) :: E)) 2 12 12 [(0, .ref (b 0)), (1, .int (zI s)), (2, .int (zI c)), (3, .int (zI r)), (4, .ref o)] []
    refine j_goto hJ (tgt := 19) (by decide) dL_distance_12 ?_
    refine j_iconst hJ dL_distance_19 ?_
    refine j_iret hJ rfl rfl rfl (Nat.le_of_ble_eq_true rfl) (Nat.le_of_ble_eq_true rfl) dL_distance_20 ⟨0, μ, g8, rfl, rfl, ?_⟩
    exact Or.inl ⟨rfl, q, hg8, rfl, h⟩
set_option maxHeartbeats 4000000 in
set_option maxRecDepth 100000 in
theorem c_L_nearest {μ : Nat → Int → Int} {n : Nat} {N : Nat → List Int} {ow : Nat → Int} {m : Nat → Nat} {p : Nat → Nat → Int} {s c r : Int} {o : Nat} {g9 : Nat → Int64} (hfl : l.stackTraces = false) (hX : XI μ n N ow m p) (hsR : -2147483648 ≤ s ∧ s < 2147483648) (hcR : -2147483648 ≤ c ∧ c < 2147483648) (hrR : -2147483648 ≤ r ∧ r < 2147483648) : CTH l D cy n0 ad yL_nearest (.codeWith yL_nearest cL_nearest 6 (some .int) [(0, 12, 15, 21)]) ({ frames := 8, cells := 2, slots := 12, locals := 126 }) [.ref (b 0), .int (zI s), .int (zI c), .int (zI r), .ref o] (gw 105 XSh cy b μ ++ ((o, .inl (cy 4, 1, .inr (.inl g9))) :: E)) (fun vv uu => ∃ zz μ' f', vv = some (.int (zI zz)) ∧ uu = (gw 105 XSh cy b μ' ++ ((o, .inl (cy 4, 1, .inr (.inl f'))) :: E)) ∧ ((zz = 0 ∧ ∃ q, f' 0 = (zI q).toInt64 ∧ (μ' = μ ∧ ((StOK n s ∧ SqOK c r) ∧ IsNear (fun x => x ∈ trk (p s.toNat) (m s.toNat)) c r 144 q))) ∨ (∃ X, zz = ecode [xIO] X ∧ ((X = xIO ∧ ¬ (StOK n s ∧ SqOK c r)) ∧ μ' = μ)))) := by
  refine CTH.walk hfl (by decide) (Nat.le_of_ble_eq_true rfl) ?_
  intro A J hJ
  show J (gw 105 XSh cy b μ ++ ((o, .inl (cy 4, 1, .inr (.inl g9))) :: E)) 0 0 0 [(0, .ref (b 0)), (1, .int (zI s)), (2, .int (zI c)), (3, .int (zI r)), (4, .ref o)] []
  refine j_aload hJ (j := 4) rfl dL_nearest_0 ?_
  refine j_iconst hJ dL_nearest_2 ?_
  refine j_aload_n hJ (j := 0) rfl rfl dL_nearest_3 ?_
  refine j_iload_n hJ (j := 1) rfl rfl dL_nearest_4 ?_
  refine j_iload_n hJ (j := 2) rfl rfl dL_nearest_5 ?_
  refine j_iload_n hJ (j := 3) rfl rfl dL_nearest_6 ?_
  refine j_callVXh hJ (c_X4_nearest (E := (o, .inl (cy 4, 1, .inr (.inl g9))) :: E) hfl hX hsR hcR hrR) mx_L_76 k_X4_nearest (q0 := 0) (by rw [gw_get (by decide)]; rfl) rfl ⟨(Nat.le_of_ble_eq_true rfl), (Nat.le_of_ble_eq_true rfl)⟩ ⟨(Nat.le_of_ble_eq_true rfl), (Nat.le_of_ble_eq_true rfl)⟩ (Nat.le_of_ble_eq_true rfl) dL_nearest_7 rfl ?_ ?_
  · intro X u hX
    obtain ⟨μ9, rfl, hx⟩ := hX
    have hX3 : X = xIO := by
      rcases hx with ⟨⟨h, -⟩, -⟩
      · exact h
    rcases hX3 with rfl
    · refine ⟨15, hc_nearest_xIO, fun q9 => ?_⟩
      show J (gw 105 XSh cy b μ9 ++ ((o, .inl (cy 4, 1, .inr (.inl g9))) :: E)) 2 12 15 [(0, .ref (b 0)), (1, .int (zI s)), (2, .int (zI c)), (3, .int (zI r)), (4, .ref o)] [.ref q9]
      refine j_astore hJ (lv' := [(5, .ref q9), (0, .ref (b 0)), (1, .int (zI s)), (2, .int (zI c)), (3, .int (zI r)), (4, .ref o)]) (by decide) rfl dL_nearest_15 ?_
      refine j_iconst hJ dL_nearest_17 ?_
      refine j_iret hJ rfl rfl rfl (Nat.le_of_ble_eq_true rfl) (Nat.le_of_ble_eq_true rfl) dL_nearest_18 ⟨1, μ9, g9, rfl, rfl, ?_⟩
      exact Or.inr ⟨xIO, by decide +kernel, hx⟩
  · intro v u hv
    obtain ⟨q, rfl, rfl, h⟩ := hv
    show J (gw 105 XSh cy b μ ++ ((o, .inl (cy 4, 1, .inr (.inl g9))) :: E)) 2 12 10 [(0, .ref (b 0)), (1, .int (zI s)), (2, .int (zI c)), (3, .int (zI r)), (4, .ref o)] [.int (zI q), .int (zI 0), .ref o]
    refine j_i2l hJ dL_nearest_10 ?_
    refine j_lastore hJ (q0 := 105) out_at dL_nearest_11 ?_
    intro g8 hg8
    rw [out_set]
    show J (gw 105 XSh cy b μ ++ ((o, .inl (cy 4, 1, .inr (.inl g8))) :: E)) 2 12 12 [(0, .ref (b 0)), (1, .int (zI s)), (2, .int (zI c)), (3, .int (zI r)), (4, .ref o)] []
    refine j_goto hJ (tgt := 19) (by decide) dL_nearest_12 ?_
    refine j_iconst hJ dL_nearest_19 ?_
    refine j_iret hJ rfl rfl rfl (Nat.le_of_ble_eq_true rfl) (Nat.le_of_ble_eq_true rfl) dL_nearest_20 ⟨0, μ, g8, rfl, rfl, ?_⟩
    exact Or.inl ⟨rfl, q, hg8, rfl, h⟩
set_option maxHeartbeats 4000000 in
set_option maxRecDepth 100000 in
theorem c_L_walk {μ : Nat → Int → Int} {n : Nat} {N : Nat → List Int} {ow : Nat → Int} {m : Nat → Nat} {p : Nat → Nat → Int} {c r tc tr : Int} {o : Nat} {g9 : Nat → Int64} (hfl : l.stackTraces = false) (hX : XI μ n N ow m p) (hcR : -2147483648 ≤ c ∧ c < 2147483648) (hrR : -2147483648 ≤ r ∧ r < 2147483648) (htcR : -2147483648 ≤ tc ∧ tc < 2147483648) (htrR : -2147483648 ≤ tr ∧ tr < 2147483648) : CTH l D cy n0 ad yL_walk (.codeWith yL_walk cL_walk 7 (some .int) [(0, 14, 17, 21)]) ({ frames := 8, cells := 2, slots := 12, locals := 127 }) [.ref (b 0), .int (zI c), .int (zI r), .int (zI tc), .int (zI tr), .ref o] (gw 105 XSh cy b μ ++ ((o, .inl (cy 4, 1, .inr (.inl g9))) :: E)) (fun vv uu => ∃ zz μ' f', vv = some (.int (zI zz)) ∧ uu = (gw 105 XSh cy b μ' ++ ((o, .inl (cy 4, 1, .inr (.inl f'))) :: E)) ∧ ((zz = 0 ∧ ∃ q, f' 0 = (zI q).toInt64 ∧ ((SqOK c r ∧ SqOK tc tr) ∧ IsDist (EdS n (fun s => trk (p s) (m s)) ow) (12 * c + r) (12 * tc + tr) q ∧ XI μ' n N ow m p ∧ μ' 1 = μ 1)) ∨ (∃ X, zz = ecode [xIO] X ∧ ((X = xIO ∧ ¬ (SqOK c r ∧ SqOK tc tr)) ∧ μ' = μ)))) := by
  refine CTH.walk hfl (by decide) (Nat.le_of_ble_eq_true rfl) ?_
  intro A J hJ
  show J (gw 105 XSh cy b μ ++ ((o, .inl (cy 4, 1, .inr (.inl g9))) :: E)) 0 0 0 [(0, .ref (b 0)), (1, .int (zI c)), (2, .int (zI r)), (3, .int (zI tc)), (4, .int (zI tr)), (5, .ref o)] []
  refine j_aload hJ (j := 5) rfl dL_walk_0 ?_
  refine j_iconst hJ dL_walk_2 ?_
  refine j_aload_n hJ (j := 0) rfl rfl dL_walk_3 ?_
  refine j_iload_n hJ (j := 1) rfl rfl dL_walk_4 ?_
  refine j_iload_n hJ (j := 2) rfl rfl dL_walk_5 ?_
  refine j_iload_n hJ (j := 3) rfl rfl dL_walk_6 ?_
  refine j_iload hJ (j := 4) rfl dL_walk_7 ?_
  refine j_callVXh hJ (c_X4_walk (E := (o, .inl (cy 4, 1, .inr (.inl g9))) :: E) hfl hX hcR hrR htcR htrR) mx_L_79 k_X4_walk (q0 := 0) (by rw [gw_get (by decide)]; rfl) rfl ⟨(Nat.le_of_ble_eq_true rfl), (Nat.le_of_ble_eq_true rfl)⟩ ⟨(Nat.le_of_ble_eq_true rfl), (Nat.le_of_ble_eq_true rfl)⟩ (Nat.le_of_ble_eq_true rfl) dL_walk_9 rfl ?_ ?_
  · intro X u hX
    obtain ⟨μ9, rfl, hx⟩ := hX
    have hX3 : X = xIO := by
      rcases hx with ⟨⟨h, -⟩, -⟩
      · exact h
    rcases hX3 with rfl
    · refine ⟨17, hc_walk_xIO, fun q9 => ?_⟩
      show J (gw 105 XSh cy b μ9 ++ ((o, .inl (cy 4, 1, .inr (.inl g9))) :: E)) 2 12 17 [(0, .ref (b 0)), (1, .int (zI c)), (2, .int (zI r)), (3, .int (zI tc)), (4, .int (zI tr)), (5, .ref o)] [.ref q9]
      refine j_astore hJ (lv' := [(6, .ref q9), (0, .ref (b 0)), (1, .int (zI c)), (2, .int (zI r)), (3, .int (zI tc)), (4, .int (zI tr)), (5, .ref o)]) (by decide) rfl dL_walk_17 ?_
      refine j_iconst hJ dL_walk_19 ?_
      refine j_iret hJ rfl rfl rfl (Nat.le_of_ble_eq_true rfl) (Nat.le_of_ble_eq_true rfl) dL_walk_20 ⟨1, μ9, g9, rfl, rfl, ?_⟩
      exact Or.inr ⟨xIO, by decide +kernel, hx⟩
  · intro v u hv
    obtain ⟨q, μ8, rfl, rfl, h⟩ := hv
    show J (gw 105 XSh cy b μ8 ++ ((o, .inl (cy 4, 1, .inr (.inl g9))) :: E)) 2 12 12 [(0, .ref (b 0)), (1, .int (zI c)), (2, .int (zI r)), (3, .int (zI tc)), (4, .int (zI tr)), (5, .ref o)] [.int (zI q), .int (zI 0), .ref o]
    refine j_i2l hJ dL_walk_12 ?_
    refine j_lastore hJ (q0 := 105) out_at dL_walk_13 ?_
    intro g8 hg8
    rw [out_set]
    show J (gw 105 XSh cy b μ8 ++ ((o, .inl (cy 4, 1, .inr (.inl g8))) :: E)) 2 12 14 [(0, .ref (b 0)), (1, .int (zI c)), (2, .int (zI r)), (3, .int (zI tc)), (4, .int (zI tr)), (5, .ref o)] []
    refine j_goto hJ (tgt := 21) (by decide) dL_walk_14 ?_
    refine j_iconst hJ dL_walk_21 ?_
    refine j_iret hJ rfl rfl rfl (Nat.le_of_ble_eq_true rfl) (Nat.le_of_ble_eq_true rfl) dL_walk_22 ⟨0, μ8, g8, rfl, rfl, ?_⟩
    exact Or.inl ⟨rfl, q, hg8, h⟩
set_option maxHeartbeats 4000000 in
set_option maxRecDepth 100000 in
theorem c_L_walkByRounds {μ : Nat → Int → Int} {n : Nat} {N : Nat → List Int} {ow : Nat → Int} {m : Nat → Nat} {p : Nat → Nat → Int} {c r tc tr : Int} {o : Nat} {g9 : Nat → Int64} (hfl : l.stackTraces = false) (hX : XI μ n N ow m p) (hcR : -2147483648 ≤ c ∧ c < 2147483648) (hrR : -2147483648 ≤ r ∧ r < 2147483648) (htcR : -2147483648 ≤ tc ∧ tc < 2147483648) (htrR : -2147483648 ≤ tr ∧ tr < 2147483648) : CTH l D cy n0 ad yL_walkByRounds (.codeWith yL_walkByRounds cL_walkByRounds 7 (some .int) [(0, 14, 17, 21)]) ({ frames := 8, cells := 2, slots := 12, locals := 127 }) [.ref (b 0), .int (zI c), .int (zI r), .int (zI tc), .int (zI tr), .ref o] (gw 105 XSh cy b μ ++ ((o, .inl (cy 4, 1, .inr (.inl g9))) :: E)) (fun vv uu => ∃ zz μ' f', vv = some (.int (zI zz)) ∧ uu = (gw 105 XSh cy b μ' ++ ((o, .inl (cy 4, 1, .inr (.inl f'))) :: E)) ∧ ((zz = 0 ∧ ∃ q, f' 0 = (zI q).toInt64 ∧ ((SqOK c r ∧ SqOK tc tr) ∧ IsDist (EdS n (fun s => trk (p s) (m s)) ow) (12 * c + r) (12 * tc + tr) q ∧ XI μ' n N ow m p ∧ μ' 1 = μ 1)) ∨ (∃ X, zz = ecode [xIO] X ∧ ((X = xIO ∧ ¬ (SqOK c r ∧ SqOK tc tr)) ∧ μ' = μ)))) := by
  refine CTH.walk hfl (by decide) (Nat.le_of_ble_eq_true rfl) ?_
  intro A J hJ
  show J (gw 105 XSh cy b μ ++ ((o, .inl (cy 4, 1, .inr (.inl g9))) :: E)) 0 0 0 [(0, .ref (b 0)), (1, .int (zI c)), (2, .int (zI r)), (3, .int (zI tc)), (4, .int (zI tr)), (5, .ref o)] []
  refine j_aload hJ (j := 5) rfl dL_walkByRounds_0 ?_
  refine j_iconst hJ dL_walkByRounds_2 ?_
  refine j_aload_n hJ (j := 0) rfl rfl dL_walkByRounds_3 ?_
  refine j_iload_n hJ (j := 1) rfl rfl dL_walkByRounds_4 ?_
  refine j_iload_n hJ (j := 2) rfl rfl dL_walkByRounds_5 ?_
  refine j_iload_n hJ (j := 3) rfl rfl dL_walkByRounds_6 ?_
  refine j_iload hJ (j := 4) rfl dL_walkByRounds_7 ?_
  refine j_callVXh hJ (c_X4_walkByRounds (E := (o, .inl (cy 4, 1, .inr (.inl g9))) :: E) hfl hX hcR hrR htcR htrR) mx_L_83 k_X4_walkByRounds (q0 := 0) (by rw [gw_get (by decide)]; rfl) rfl ⟨(Nat.le_of_ble_eq_true rfl), (Nat.le_of_ble_eq_true rfl)⟩ ⟨(Nat.le_of_ble_eq_true rfl), (Nat.le_of_ble_eq_true rfl)⟩ (Nat.le_of_ble_eq_true rfl) dL_walkByRounds_9 rfl ?_ ?_
  · intro X u hX
    obtain ⟨μ9, rfl, hx⟩ := hX
    have hX3 : X = xIO := by
      rcases hx with ⟨⟨h, -⟩, -⟩
      · exact h
    rcases hX3 with rfl
    · refine ⟨17, hc_walkByRounds_xIO, fun q9 => ?_⟩
      show J (gw 105 XSh cy b μ9 ++ ((o, .inl (cy 4, 1, .inr (.inl g9))) :: E)) 2 12 17 [(0, .ref (b 0)), (1, .int (zI c)), (2, .int (zI r)), (3, .int (zI tc)), (4, .int (zI tr)), (5, .ref o)] [.ref q9]
      refine j_astore hJ (lv' := [(6, .ref q9), (0, .ref (b 0)), (1, .int (zI c)), (2, .int (zI r)), (3, .int (zI tc)), (4, .int (zI tr)), (5, .ref o)]) (by decide) rfl dL_walkByRounds_17 ?_
      refine j_iconst hJ dL_walkByRounds_19 ?_
      refine j_iret hJ rfl rfl rfl (Nat.le_of_ble_eq_true rfl) (Nat.le_of_ble_eq_true rfl) dL_walkByRounds_20 ⟨1, μ9, g9, rfl, rfl, ?_⟩
      exact Or.inr ⟨xIO, by decide +kernel, hx⟩
  · intro v u hv
    obtain ⟨q, μ8, rfl, rfl, h⟩ := hv
    show J (gw 105 XSh cy b μ8 ++ ((o, .inl (cy 4, 1, .inr (.inl g9))) :: E)) 2 12 12 [(0, .ref (b 0)), (1, .int (zI c)), (2, .int (zI r)), (3, .int (zI tc)), (4, .int (zI tr)), (5, .ref o)] [.int (zI q), .int (zI 0), .ref o]
    refine j_i2l hJ dL_walkByRounds_12 ?_
    refine j_lastore hJ (q0 := 105) out_at dL_walkByRounds_13 ?_
    intro g8 hg8
    rw [out_set]
    show J (gw 105 XSh cy b μ8 ++ ((o, .inl (cy 4, 1, .inr (.inl g8))) :: E)) 2 12 14 [(0, .ref (b 0)), (1, .int (zI c)), (2, .int (zI r)), (3, .int (zI tc)), (4, .int (zI tr)), (5, .ref o)] []
    refine j_goto hJ (tgt := 21) (by decide) dL_walkByRounds_14 ?_
    refine j_iconst hJ dL_walkByRounds_21 ?_
    refine j_iret hJ rfl rfl rfl (Nat.le_of_ble_eq_true rfl) (Nat.le_of_ble_eq_true rfl) dL_walkByRounds_22 ⟨0, μ8, g8, rfl, rfl, ?_⟩
    exact Or.inl ⟨rfl, q, hg8, h⟩
set_option maxHeartbeats 4000000 in
set_option maxRecDepth 100000 in
theorem c_L_reachable {μ : Nat → Int → Int} {n : Nat} {N : Nat → List Int} {ow : Nat → Int} {m : Nat → Nat} {p : Nat → Nat → Int} {c r : Int} {o : Nat} {g9 : Nat → Int64} (hfl : l.stackTraces = false) (hX : XI μ n N ow m p) (hcR : -2147483648 ≤ c ∧ c < 2147483648) (hrR : -2147483648 ≤ r ∧ r < 2147483648) : CTH l D cy n0 ad yL_reachable (.codeWith yL_reachable cL_reachable 5 (some .int) [(0, 10, 13, 21)]) ({ frames := 8, cells := 1, slots := 6, locals := 125 }) [.ref (b 0), .int (zI c), .int (zI r), .ref o] (gw 105 XSh cy b μ ++ ((o, .inl (cy 4, 1, .inr (.inl g9))) :: E)) (fun vv uu => ∃ zz μ' f', vv = some (.int (zI zz)) ∧ uu = (gw 105 XSh cy b μ' ++ ((o, .inl (cy 4, 1, .inr (.inl f'))) :: E)) ∧ ((zz = 0 ∧ ∃ q, f' 0 = (zI q).toInt64 ∧ (SqOK c r ∧ IsCount (EdS n (fun s => trk (p s) (m s)) ow) (12 * c + r) q ∧ XI μ' n N ow m p ∧ μ' 1 = μ 1)) ∨ (∃ X, zz = ecode [xIO] X ∧ ((X = xIO ∧ ¬ SqOK c r) ∧ μ' = μ)))) := by
  refine CTH.walk hfl (by decide) (Nat.le_of_ble_eq_true rfl) ?_
  intro A J hJ
  show J (gw 105 XSh cy b μ ++ ((o, .inl (cy 4, 1, .inr (.inl g9))) :: E)) 0 0 0 [(0, .ref (b 0)), (1, .int (zI c)), (2, .int (zI r)), (3, .ref o)] []
  refine j_aload_n hJ (j := 3) rfl rfl dL_reachable_0 ?_
  refine j_iconst hJ dL_reachable_1 ?_
  refine j_aload_n hJ (j := 0) rfl rfl dL_reachable_2 ?_
  refine j_iload_n hJ (j := 1) rfl rfl dL_reachable_3 ?_
  refine j_iload_n hJ (j := 2) rfl rfl dL_reachable_4 ?_
  refine j_callVXh hJ (c_X4_reachable (E := (o, .inl (cy 4, 1, .inr (.inl g9))) :: E) hfl hX hcR hrR) mx_L_86 k_X4_reachable (q0 := 0) (by rw [gw_get (by decide)]; rfl) rfl ⟨(Nat.le_of_ble_eq_true rfl), (Nat.le_of_ble_eq_true rfl)⟩ ⟨(Nat.le_of_ble_eq_true rfl), (Nat.le_of_ble_eq_true rfl)⟩ (Nat.le_of_ble_eq_true rfl) dL_reachable_5 rfl ?_ ?_
  · intro X u hX
    obtain ⟨μ9, rfl, hx⟩ := hX
    have hX3 : X = xIO := by
      rcases hx with ⟨⟨h, -⟩, -⟩
      · exact h
    rcases hX3 with rfl
    · refine ⟨13, hc_reachable_xIO, fun q9 => ?_⟩
      show J (gw 105 XSh cy b μ9 ++ ((o, .inl (cy 4, 1, .inr (.inl g9))) :: E)) 1 6 13 [(0, .ref (b 0)), (1, .int (zI c)), (2, .int (zI r)), (3, .ref o)] [.ref q9]
      refine j_astore hJ (lv' := [(4, .ref q9), (0, .ref (b 0)), (1, .int (zI c)), (2, .int (zI r)), (3, .ref o)]) (by decide) rfl dL_reachable_13 ?_
      refine j_iconst hJ dL_reachable_15 ?_
      refine j_iret hJ rfl rfl rfl (Nat.le_of_ble_eq_true rfl) (Nat.le_of_ble_eq_true rfl) dL_reachable_16 ⟨1, μ9, g9, rfl, rfl, ?_⟩
      exact Or.inr ⟨xIO, by decide +kernel, hx⟩
  · intro v u hv
    obtain ⟨q, μ8, rfl, rfl, h⟩ := hv
    show J (gw 105 XSh cy b μ8 ++ ((o, .inl (cy 4, 1, .inr (.inl g9))) :: E)) 1 6 8 [(0, .ref (b 0)), (1, .int (zI c)), (2, .int (zI r)), (3, .ref o)] [.int (zI q), .int (zI 0), .ref o]
    refine j_i2l hJ dL_reachable_8 ?_
    refine j_lastore hJ (q0 := 105) out_at dL_reachable_9 ?_
    intro g8 hg8
    rw [out_set]
    show J (gw 105 XSh cy b μ8 ++ ((o, .inl (cy 4, 1, .inr (.inl g8))) :: E)) 1 6 10 [(0, .ref (b 0)), (1, .int (zI c)), (2, .int (zI r)), (3, .ref o)] []
    refine j_goto hJ (tgt := 17) (by decide) dL_reachable_10 ?_
    refine j_iconst hJ dL_reachable_17 ?_
    refine j_iret hJ rfl rfl rfl (Nat.le_of_ble_eq_true rfl) (Nat.le_of_ble_eq_true rfl) dL_reachable_18 ⟨0, μ8, g8, rfl, rfl, ?_⟩
    exact Or.inl ⟨rfl, q, hg8, h⟩
end
