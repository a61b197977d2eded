set_option maxRecDepth 20000 in
theorem ggX0_bearsLorries_X3_isWithin : GoodIn wsX0_bearsLorries wsX3_isWithin := goodIn_r _ [5] (by decide +kernel) (by decide +kernel)
set_option maxRecDepth 20000 in
theorem gX0_bearsLorries_X3_isWithin_n21 : GoodIn wsX0_bearsLorries (wsX3_isWithin) := ggX0_bearsLorries_X3_isWithin
set_option maxRecDepth 20000 in
theorem ggX2_warmthOf_X3_isWithin : GoodIn wsX2_warmthOf wsX3_isWithin := goodIn_r _ [5] (by decide +kernel) (by decide +kernel)
set_option maxRecDepth 20000 in
theorem gX2_warmthOf_X3_isWithin_n24 : GoodIn wsX2_warmthOf (wsX3_isWithin) := ggX2_warmthOf_X3_isWithin
set_option maxRecDepth 20000 in
theorem ggX2_wetWarmthOf_X3_isWithin : GoodIn wsX2_wetWarmthOf wsX3_isWithin := goodIn_r _ [4] (by decide +kernel) (by decide +kernel)
set_option maxRecDepth 20000 in
theorem gX2_wetWarmthOf_X3_isWithin_n24 : GoodIn wsX2_wetWarmthOf (wsX3_isWithin) := ggX2_wetWarmthOf_X3_isWithin
set_option maxRecDepth 20000 in
theorem ggX2_wetWarmthOf_X2_warmthOf : GoodIn wsX2_wetWarmthOf wsX2_warmthOf := goodIn_ca (goodIn_r _ [9, 10, 11, 2, 3, 4, 12, 13, 14, 15] (by decide +kernel) (by decide +kernel)) (goodIn_sub (fun _ h => (List.mem_cons_of_mem _ (List.mem_append_right _ h))) (by decide +kernel))
set_option maxRecDepth 20000 in
theorem gX2_wetWarmthOf_X2_warmthOf : GoodIn wsX2_wetWarmthOf (wsV RX2 28 RX2 yX2_warmthOf wsX2_warmthOf) := goodIn_app (goodIn_of _ (by decide +kernel)) ggX2_wetWarmthOf_X2_warmthOf
set_option maxRecDepth 20000 in
theorem ggX2_windOf_X3_isWithin : GoodIn wsX2_windOf wsX3_isWithin := goodIn_r _ [4] (by decide +kernel) (by decide +kernel)
set_option maxRecDepth 20000 in
theorem gX2_windOf_X3_isWithin_n24 : GoodIn wsX2_windOf (wsX3_isWithin) := ggX2_windOf_X3_isWithin
set_option maxRecDepth 20000 in
theorem ggX3_init_X2_init : GoodIn wsX3_init wsX2_init := goodIn_ca (goodIn_r _ [23, 24, 2, 3, 25, 26, 27, 28, 29, 37, 38, 39, 40] (by decide +kernel) (by decide +kernel)) (goodIn_sub (fun _ h => (List.mem_cons_of_mem _ (List.mem_append_right _ h))) (by decide +kernel))
set_option maxRecDepth 20000 in
theorem gX3_init_X2_init : GoodIn wsX3_init (wsX2_init) := ggX3_init_X2_init
set_option maxRecDepth 20000 in
theorem ggX3_init_X0_init : GoodIn wsX3_init wsX0_init := goodIn_ca (goodIn_r _ [32, 33, 2, 3, 25, 34, 35, 36, 51, 52, 53] (by decide +kernel) (by decide +kernel)) (goodIn_sub (fun _ h => (List.mem_cons_of_mem _ (List.mem_append_right _ h))) (by decide +kernel))
set_option maxRecDepth 20000 in
theorem gX3_init_X0_init : GoodIn wsX3_init (wsX0_init) := ggX3_init_X0_init
set_option maxRecDepth 20000 in
theorem ggX3_weather_X3_isWithin : GoodIn wsX3_weather wsX3_isWithin := goodIn_r _ [14] (by decide +kernel) (by decide +kernel)
set_option maxRecDepth 20000 in
theorem gX3_weather_X3_isWithin : GoodIn wsX3_weather (va_wsS RX3 52 yX3_isWithin wsX3_isWithin) := goodIn_app (goodIn_of _ (by decide +kernel)) ggX3_weather_X3_isWithin
set_option maxRecDepth 20000 in
theorem ggX3_warmth_X3_isWithin : GoodIn wsX3_warmth wsX3_isWithin := goodIn_r _ [7] (by decide +kernel) (by decide +kernel)
set_option maxRecDepth 20000 in
theorem gX3_warmth_X3_isWithin : GoodIn wsX3_warmth (va_wsS RX3 52 yX3_isWithin wsX3_isWithin) := goodIn_app (goodIn_of _ (by decide +kernel)) ggX3_warmth_X3_isWithin
set_option maxRecDepth 20000 in
theorem ggX3_warmth_X2_warmthOf : GoodIn wsX3_warmth wsX2_warmthOf := goodIn_ca (goodIn_r _ [12, 13, 14, 5, 6, 7, 25, 26, 27, 28] (by decide +kernel) (by decide +kernel)) (goodIn_sub (fun _ h => (List.mem_cons_of_mem _ (List.mem_append_right _ h))) (by decide +kernel))
set_option maxRecDepth 20000 in
theorem gX3_warmth_X2_warmthOf : GoodIn wsX3_warmth (wsV RX3 83 RX2 yX2_warmthOf wsX2_warmthOf) := goodIn_app (goodIn_of _ (by decide +kernel)) ggX3_warmth_X2_warmthOf
set_option maxRecDepth 20000 in
theorem ggX3_wet_X3_isWithin : GoodIn wsX3_wet wsX3_isWithin := goodIn_r _ [7] (by decide +kernel) (by decide +kernel)
set_option maxRecDepth 20000 in
theorem gX3_wet_X3_isWithin : GoodIn wsX3_wet (va_wsS RX3 52 yX3_isWithin wsX3_isWithin) := goodIn_app (goodIn_of _ (by decide +kernel)) ggX3_wet_X3_isWithin
set_option maxRecDepth 20000 in
theorem ggX3_wet_X2_wetWarmthOf : GoodIn wsX3_wet wsX2_wetWarmthOf := goodIn_ca (goodIn_r _ [12, 13, 5, 6, 7, 14, 15, 16, 11, 17, 18, 19, 30, 31, 32, 33] (by decide +kernel) (by decide +kernel)) (goodIn_sub (fun _ h => (List.mem_cons_of_mem _ (List.mem_append_right _ h))) (by decide +kernel))
set_option maxRecDepth 20000 in
theorem gX3_wet_X2_wetWarmthOf : GoodIn wsX3_wet (wsV RX3 87 RX2 yX2_wetWarmthOf wsX2_wetWarmthOf) := goodIn_app (goodIn_of _ (by decide +kernel)) ggX3_wet_X2_wetWarmthOf
set_option maxRecDepth 20000 in
theorem ggX3_go_X3_isWithin : GoodIn wsX3_go wsX3_isWithin := goodIn_r _ [9] (by decide +kernel) (by decide +kernel)
set_option maxRecDepth 20000 in
theorem gX3_go_X3_isWithin : GoodIn wsX3_go (va_wsS RX3 52 yX3_isWithin wsX3_isWithin) := goodIn_app (goodIn_of _ (by decide +kernel)) ggX3_go_X3_isWithin
set_option maxRecDepth 20000 in
theorem ggX3_go_X3_passHour : GoodIn wsX3_go wsX3_passHour := goodIn_ca (goodIn_ca (goodIn_r _ [13, 14, 5, 15, 16, 17, 18, 19, 20, 21, 22, 23, 24, 25, 26, 7, 8, 9, 27, 28, 29, 30, 31, 32, 33, 34, 35, 36, 37, 38, 39, 40, 41, 42, 43, 44, 45, 46, 47, 48, 49, 50, 51, 52, 53, 54, 55, 56, 57, 6, 58, 59, 60, 61, 62, 63, 64, 65, 66, 67, 68, 69, 70, 71, 72, 73, 74, 75, 76, 77, 78, 79, 80, 81, 82, 83, 84, 85, 86, 87, 88, 89, 90, 91, 92, 93, 94, 95, 96, 97, 98, 99, 100, 101, 102, 103, 104, 105, 106, 107, 108, 109, 110, 111, 112, 113, 114, 115, 116, 117, 118, 119, 120, 121, 122, 123, 124, 125, 126, 127, 128, 129, 130, 131, 132, 133, 134, 135, 136, 137, 138, 139, 140, 141, 142, 143, 144, 145, 146, 147, 148, 149, 150, 151, 152, 153, 154, 155, 156, 157, 158, 159, 160, 161, 162, 163, 164, 165, 166, 167] (by decide +kernel) (by decide +kernel)) (goodIn_sub (fun _ h => (List.mem_cons_of_mem _ (List.mem_append_left _ (List.mem_append_right _ h)))) (by decide +kernel))) (goodIn_sub (fun _ h => (List.mem_cons_of_mem _ (List.mem_append_right _ h))) (by decide +kernel))
set_option maxRecDepth 20000 in
theorem gX3_go_X3_passHour : GoodIn wsX3_go (wsV RX3 97 RX3 yX3_passHour wsX3_passHour) := goodIn_app (goodIn_of _ (by decide +kernel)) ggX3_go_X3_passHour
set_option maxRecDepth 20000 in
theorem ggX3_ice_X3_isWithin : GoodIn wsX3_ice wsX3_isWithin := goodIn_r _ [8] (by decide +kernel) (by decide +kernel)
set_option maxRecDepth 20000 in
theorem gX3_ice_X3_isWithin : GoodIn wsX3_ice (va_wsS RX3 52 yX3_isWithin wsX3_isWithin) := goodIn_app (goodIn_of _ (by decide +kernel)) ggX3_ice_X3_isWithin
set_option maxRecDepth 20000 in
theorem ggX3_clear_X3_isWithin : GoodIn wsX3_clear wsX3_isWithin := goodIn_r _ [8] (by decide +kernel) (by decide +kernel)
set_option maxRecDepth 20000 in
theorem gX3_clear_X3_isWithin : GoodIn wsX3_clear (va_wsS RX3 52 yX3_isWithin wsX3_isWithin) := goodIn_app (goodIn_of _ (by decide +kernel)) ggX3_clear_X3_isWithin
set_option maxRecDepth 20000 in
theorem ggX3_bears_X3_isWithin : GoodIn wsX3_bears wsX3_isWithin := goodIn_r _ [7] (by decide +kernel) (by decide +kernel)
set_option maxRecDepth 20000 in
theorem gX3_bears_X3_isWithin : GoodIn wsX3_bears (va_wsS RX3 52 yX3_isWithin wsX3_isWithin) := goodIn_app (goodIn_of _ (by decide +kernel)) ggX3_bears_X3_isWithin
set_option maxRecDepth 20000 in
theorem ggX3_bears_X0_bearsLorries : GoodIn wsX3_bears wsX0_bearsLorries := goodIn_ca (goodIn_r _ [12, 13, 14, 5, 6, 7, 25, 26, 27] (by decide +kernel) (by decide +kernel)) (goodIn_sub (fun _ h => (List.mem_cons_of_mem _ (List.mem_append_right _ h))) (by decide +kernel))
set_option maxRecDepth 20000 in
theorem gX3_bears_X0_bearsLorries : GoodIn wsX3_bears (wsV RX3 108 RX0 yX0_bearsLorries wsX0_bearsLorries) := goodIn_app (goodIn_of _ (by decide +kernel)) ggX3_bears_X0_bearsLorries
set_option maxRecDepth 20000 in
theorem ggX3_cut_X3_isWithin : GoodIn wsX3_cut wsX3_isWithin := goodIn_r _ [16] (by decide +kernel) (by decide +kernel)
set_option maxRecDepth 20000 in
theorem gX3_cut_X3_isWithin : GoodIn wsX3_cut (va_wsS RX3 52 yX3_isWithin wsX3_isWithin) := goodIn_app (goodIn_of _ (by decide +kernel)) ggX3_cut_X3_isWithin
set_option maxRecDepth 20000 in
theorem ggX3_cut_X0_bearsLorries : GoodIn wsX3_cut wsX0_bearsLorries := goodIn_ca (goodIn_r _ [21, 22, 23, 14, 15, 16, 39, 40, 41] (by decide +kernel) (by decide +kernel)) (goodIn_sub (fun _ h => (List.mem_cons_of_mem _ (List.mem_append_left _ (List.mem_append_left _ (List.mem_append_right _ h))))) (by decide +kernel))
set_option maxRecDepth 20000 in
theorem gX3_cut_X0_bearsLorries : GoodIn wsX3_cut (wsV RX3 108 RX0 yX0_bearsLorries wsX0_bearsLorries) := goodIn_app (goodIn_of _ (by decide +kernel)) ggX3_cut_X0_bearsLorries
set_option maxRecDepth 20000 in
theorem ggX3_lorries_X3_isWithin : GoodIn wsX3_lorries wsX3_isWithin := goodIn_r _ [8] (by decide +kernel) (by decide +kernel)
set_option maxRecDepth 20000 in
theorem gX3_lorries_X3_isWithin : GoodIn wsX3_lorries (va_wsS RX3 52 yX3_isWithin wsX3_isWithin) := goodIn_app (goodIn_of _ (by decide +kernel)) ggX3_lorries_X3_isWithin
set_option maxRecDepth 20000 in
theorem ggX3_lorries_X3_storeSnow : GoodIn wsX3_lorries wsX3_storeSnow := goodIn_r _ [12, 4, 13, 14, 15, 16, 17, 18, 19, 20, 21, 22, 23, 24, 25, 26] (by decide +kernel) (by decide +kernel)
set_option maxRecDepth 20000 in
theorem gX3_lorries_X3_storeSnow : GoodIn wsX3_lorries (wsV RX3 124 RX3 yX3_storeSnow wsX3_storeSnow) := goodIn_app (goodIn_of _ (by decide +kernel)) ggX3_lorries_X3_storeSnow
set_option maxRecDepth 20000 in
theorem ggX3_site_X1_init : GoodIn wsX3_site wsX1_init := goodIn_ca (goodIn_r _ [10, 11, 12, 13, 14, 15, 16, 17, 18, 19, 20, 21, 22, 23, 24, 25, 26, 27, 28, 29, 30, 31, 42, 43, 44, 45, 46, 47, 48, 49, 50, 51, 52, 53, 54, 55, 56] (by decide +kernel) (by decide +kernel)) (goodIn_sub (fun _ h => (List.mem_cons_of_mem _ (List.mem_append_right _ h))) (by decide +kernel))
set_option maxRecDepth 20000 in
theorem gX3_site_X1_init : GoodIn wsX3_site (wsX1_init) := ggX3_site_X1_init
set_option maxRecDepth 20000 in
theorem ggX3_put_X3_placedSite : GoodIn wsX3_put wsX3_placedSite := goodIn_r _ [14, 15, 16, 13, 17, 18, 19, 20, 21, 22, 23, 125, 126, 127, 128, 129, 130, 131, 132, 133, 134] (by decide +kernel) (by decide +kernel)
set_option maxRecDepth 20000 in
theorem gX3_put_X3_placedSite : GoodIn wsX3_put (wsV RX3 131 RX3 yX3_placedSite wsX3_placedSite) := goodIn_app (goodIn_of _ (by decide +kernel)) ggX3_put_X3_placedSite
set_option maxRecDepth 20000 in
theorem ggX3_put_X3_placeOf : GoodIn wsX3_put wsX3_placeOf := goodIn_r _ [26] (by decide +kernel) (by decide +kernel)
set_option maxRecDepth 20000 in
theorem gX3_put_X3_placeOf : GoodIn wsX3_put (va_wsS RX3 142 yX3_placeOf wsX3_placeOf) := goodIn_app (goodIn_of _ (by decide +kernel)) ggX3_put_X3_placeOf
set_option maxRecDepth 20000 in
theorem ggX3_at_X3_placedSite : GoodIn wsX3_at wsX3_placedSite := goodIn_r _ [8, 9, 10, 7, 11, 12, 13, 14, 15, 16, 17, 36, 37, 38, 39, 40, 41, 42, 43, 44, 45] (by decide +kernel) (by decide +kernel)
set_option maxRecDepth 20000 in
theorem gX3_at_X3_placedSite : GoodIn wsX3_at (wsV RX3 131 RX3 yX3_placedSite wsX3_placedSite) := goodIn_app (goodIn_of _ (by decide +kernel)) ggX3_at_X3_placedSite
set_option maxRecDepth 20000 in
theorem ggX3_at_X3_placeOf : GoodIn wsX3_at wsX3_placeOf := goodIn_r _ [20] (by decide +kernel) (by decide +kernel)
set_option maxRecDepth 20000 in
theorem gX3_at_X3_placeOf : GoodIn wsX3_at (va_wsS RX3 142 yX3_placeOf wsX3_placeOf) := goodIn_app (goodIn_of _ (by decide +kernel)) ggX3_at_X3_placeOf
set_option maxRecDepth 20000 in
theorem ggX3_mass_X3_placedSite : GoodIn wzX3_mass wsX3_placedSite := goodIn_r _ [10, 11, 12, 9, 13, 14, 15, 16, 17, 18, 19, 44, 45, 46, 47, 48, 49, 50, 51, 52, 53] (by decide +kernel) (by decide +kernel)
set_option maxRecDepth 20000 in
theorem gX3_mass_X3_placedSite : GoodIn wzX3_mass (wsV RX3 131 RX3 yX3_placedSite wsX3_placedSite) := goodIn_app (goodIn_of _ (by decide +kernel)) ggX3_mass_X3_placedSite
set_option maxRecDepth 20000 in
theorem ggX3_mass_X3_placeOf : GoodIn wzX3_mass wsX3_placeOf := goodIn_r _ [22] (by decide +kernel) (by decide +kernel)
set_option maxRecDepth 20000 in
theorem gX3_mass_X3_placeOf : GoodIn wzX3_mass (va_wsS RX3 142 yX3_placeOf wsX3_placeOf) := goodIn_app (goodIn_of _ (by decide +kernel)) ggX3_mass_X3_placeOf
set_option maxRecDepth 20000 in
theorem ggX3_load_X3_placedSite : GoodIn wzX3_load wsX3_placedSite := goodIn_r _ [10, 11, 12, 9, 13, 14, 15, 16, 17, 18, 19, 59, 60, 61, 62, 63, 64, 65, 66, 67, 68] (by decide +kernel) (by decide +kernel)
set_option maxRecDepth 20000 in
theorem gX3_load_X3_placedSite : GoodIn wzX3_load (wsV RX3 131 RX3 yX3_placedSite wsX3_placedSite) := goodIn_app (goodIn_of _ (by decide +kernel)) ggX3_load_X3_placedSite
set_option maxRecDepth 20000 in
theorem ggX3_load_X3_placeOf : GoodIn wzX3_load wsX3_placeOf := goodIn_r _ [22] (by decide +kernel) (by decide +kernel)
set_option maxRecDepth 20000 in
theorem gX3_load_X3_placeOf : GoodIn wzX3_load (va_wsS RX3 142 yX3_placeOf wsX3_placeOf) := goodIn_app (goodIn_of _ (by decide +kernel)) ggX3_load_X3_placeOf
set_option maxRecDepth 20000 in
theorem ggX3_strength_X3_placedSite : GoodIn wzX3_strength wsX3_placedSite := goodIn_r _ [11, 12, 13, 10, 14, 15, 16, 17, 18, 19, 20, 54, 55, 56, 57, 58, 59, 60, 61, 62, 63] (by decide +kernel) (by decide +kernel)
set_option maxRecDepth 20000 in
theorem gX3_strength_X3_placedSite : GoodIn wzX3_strength (wsV RX3 131 RX3 yX3_placedSite wsX3_placedSite) := goodIn_app (goodIn_of _ (by decide +kernel)) ggX3_strength_X3_placedSite
set_option maxRecDepth 20000 in
theorem ggX3_strength_X3_placeOf : GoodIn wzX3_strength wsX3_placeOf := goodIn_r _ [23] (by decide +kernel) (by decide +kernel)
set_option maxRecDepth 20000 in
theorem gX3_strength_X3_placeOf : GoodIn wzX3_strength (va_wsS RX3 142 yX3_placeOf wsX3_placeOf) := goodIn_app (goodIn_of _ (by decide +kernel)) ggX3_strength_X3_placeOf
set_option maxRecDepth 20000 in
theorem ggX3_strength_X2_warmthOf : GoodIn wzX3_strength wsX2_warmthOf := goodIn_ca (goodIn_r _ [34, 35, 36, 13, 10, 14, 79, 80, 81, 82] (by decide +kernel) (by decide +kernel)) (goodIn_sub (fun _ h => (List.mem_cons_of_mem _ (List.mem_append_right _ h))) (by decide +kernel))
set_option maxRecDepth 20000 in
theorem gX3_strength_X2_warmthOf : GoodIn wzX3_strength (wsV RX3 83 RX2 yX2_warmthOf wsX2_warmthOf) := goodIn_app (goodIn_of _ (by decide +kernel)) ggX3_strength_X2_warmthOf
set_option maxRecDepth 20000 in
theorem ggX3_creep_X3_placedSite : GoodIn wzX3_creep wsX3_placedSite := goodIn_r _ [10, 11, 12, 9, 13, 14, 15, 16, 17, 18, 19, 44, 45, 46, 47, 48, 49, 50, 51, 52, 53] (by decide +kernel) (by decide +kernel)
set_option maxRecDepth 20000 in
theorem gX3_creep_X3_placedSite : GoodIn wzX3_creep (wsV RX3 131 RX3 yX3_placedSite wsX3_placedSite) := goodIn_app (goodIn_of _ (by decide +kernel)) ggX3_creep_X3_placedSite
set_option maxRecDepth 20000 in
theorem ggX3_creep_X3_placeOf : GoodIn wzX3_creep wsX3_placeOf := goodIn_r _ [22] (by decide +kernel) (by decide +kernel)
set_option maxRecDepth 20000 in
theorem gX3_creep_X3_placeOf : GoodIn wzX3_creep (va_wsS RX3 142 yX3_placeOf wsX3_placeOf) := goodIn_app (goodIn_of _ (by decide +kernel)) ggX3_creep_X3_placeOf
set_option maxRecDepth 20000 in
theorem ggX3_age_X3_placedSite : GoodIn wzX3_age wsX3_placedSite := goodIn_r _ [10, 11, 12, 9, 13, 14, 15, 16, 17, 18, 19, 44, 45, 46, 47, 48, 49, 50, 51, 52, 53] (by decide +kernel) (by decide +kernel)
set_option maxRecDepth 20000 in
theorem gX3_age_X3_placedSite : GoodIn wzX3_age (wsV RX3 131 RX3 yX3_placedSite wsX3_placedSite) := goodIn_app (goodIn_of _ (by decide +kernel)) ggX3_age_X3_placedSite
set_option maxRecDepth 20000 in
theorem ggX3_age_X3_placeOf : GoodIn wzX3_age wsX3_placeOf := goodIn_r _ [22] (by decide +kernel) (by decide +kernel)
set_option maxRecDepth 20000 in
theorem gX3_age_X3_placeOf : GoodIn wzX3_age (va_wsS RX3 142 yX3_placeOf wsX3_placeOf) := goodIn_app (goodIn_of _ (by decide +kernel)) ggX3_age_X3_placeOf
set_option maxRecDepth 20000 in
theorem ggX3_isArch_X3_placedSite : GoodIn wzX3_isArch wsX3_placedSite := goodIn_r _ [9, 10, 11, 8, 12, 13, 14, 15, 16, 17, 18, 37, 38, 39, 40, 41, 42, 43, 44, 45, 46] (by decide +kernel) (by decide +kernel)
set_option maxRecDepth 20000 in
theorem gX3_isArch_X3_placedSite : GoodIn wzX3_isArch (wsV RX3 131 RX3 yX3_placedSite wsX3_placedSite) := goodIn_app (goodIn_of _ (by decide +kernel)) ggX3_isArch_X3_placedSite
set_option maxRecDepth 20000 in
theorem ggX3_isArch_X3_placeOf : GoodIn wzX3_isArch wsX3_placeOf := goodIn_r _ [21] (by decide +kernel) (by decide +kernel)
set_option maxRecDepth 20000 in
theorem gX3_isArch_X3_placeOf : GoodIn wzX3_isArch (va_wsS RX3 142 yX3_placeOf wsX3_placeOf) := goodIn_app (goodIn_of _ (by decide +kernel)) ggX3_isArch_X3_placeOf
set_option maxRecDepth 20000 in
theorem ggX3_fell_X3_numberedSite : GoodIn wsX3_fell wsX3_numberedSite := goodIn_r _ [8, 9, 10, 11, 12, 7, 13, 29, 30, 31, 32, 33, 34, 35, 36, 37, 38] (by decide +kernel) (by decide +kernel)
set_option maxRecDepth 20000 in
theorem gX3_fell_X3_numberedSite : GoodIn wsX3_fell (wsV RX3 207 RX3 yX3_numberedSite wsX3_numberedSite) := goodIn_app (goodIn_of _ (by decide +kernel)) ggX3_fell_X3_numberedSite
set_option maxRecDepth 20000 in
theorem ggX3_lastFell_X3_numberedSite : GoodIn wzX3_lastFell wsX3_numberedSite := goodIn_r _ [10, 11, 12, 13, 14, 9, 15, 31, 32, 33, 34, 35, 36, 37, 38, 39, 40] (by decide +kernel) (by decide +kernel)
set_option maxRecDepth 20000 in
theorem gX3_lastFell_X3_numberedSite : GoodIn wzX3_lastFell (wsV RX3 207 RX3 yX3_numberedSite wsX3_numberedSite) := goodIn_app (goodIn_of _ (by decide +kernel)) ggX3_lastFell_X3_numberedSite
set_option maxRecDepth 20000 in
theorem ggX3_cover_X3_numberedSite : GoodIn wsX3_cover wsX3_numberedSite := goodIn_r _ [9, 10, 11, 12, 13, 8, 14, 30, 31, 32, 33, 34, 35, 36, 37, 38, 39] (by decide +kernel) (by decide +kernel)
set_option maxRecDepth 20000 in
theorem gX3_cover_X3_numberedSite : GoodIn wsX3_cover (wsV RX3 207 RX3 yX3_numberedSite wsX3_numberedSite) := goodIn_app (goodIn_of _ (by decide +kernel)) ggX3_cover_X3_numberedSite
set_option maxRecDepth 20000 in
theorem ggX3_lamp_X3_placedSite : GoodIn wzX3_lamp wsX3_placedSite := goodIn_r _ [14, 15, 16, 13, 17, 18, 19, 20, 21, 22, 23, 48, 49, 50, 51, 52, 53, 54, 55, 56, 57] (by decide +kernel) (by decide +kernel)
set_option maxRecDepth 20000 in
theorem gX3_lamp_X3_placedSite : GoodIn wzX3_lamp (wsV RX3 131 RX3 yX3_placedSite wsX3_placedSite) := goodIn_app (goodIn_of _ (by decide +kernel)) ggX3_lamp_X3_placedSite
set_option maxRecDepth 20000 in
theorem ggX3_lamp_X3_placeOf : GoodIn wzX3_lamp wsX3_placeOf := goodIn_r _ [26] (by decide +kernel) (by decide +kernel)
set_option maxRecDepth 20000 in
theorem gX3_lamp_X3_placeOf : GoodIn wzX3_lamp (va_wsS RX3 142 yX3_placeOf wsX3_placeOf) := goodIn_app (goodIn_of _ (by decide +kernel)) ggX3_lamp_X3_placeOf
set_option maxRecDepth 20000 in
theorem ggX3_lightBits_X3_placedSite : GoodIn wsX3_lightBits wsX3_placedSite := goodIn_r _ [7, 8, 9, 6, 10, 11, 12, 13, 14, 15, 16, 44, 45, 46, 47, 48, 49, 50, 51, 52, 53] (by decide +kernel) (by decide +kernel)
set_option maxRecDepth 20000 in
theorem gX3_lightBits_X3_placedSite : GoodIn wsX3_lightBits (wsV RX3 131 RX3 yX3_placedSite wsX3_placedSite) := goodIn_app (goodIn_of _ (by decide +kernel)) ggX3_lightBits_X3_placedSite
set_option maxRecDepth 20000 in
theorem ggX3_isOpen_X3_numberedSite : GoodIn wsX3_isOpen wsX3_numberedSite := goodIn_r _ [9, 10, 11, 12, 13, 8, 14, 65, 66, 67, 68, 69, 70, 71, 72, 73, 74] (by decide +kernel) (by decide +kernel)
set_option maxRecDepth 20000 in
theorem gX3_isOpen_X3_numberedSite : GoodIn wsX3_isOpen (wsV RX3 207 RX3 yX3_numberedSite wsX3_numberedSite) := goodIn_app (goodIn_of _ (by decide +kernel)) ggX3_isOpen_X3_numberedSite
set_option maxRecDepth 20000 in
theorem ggX3_isOpen_X2_warmthOf : GoodIn wsX3_isOpen wsX2_warmthOf := goodIn_ca (goodIn_r _ [19, 20, 21, 13, 8, 14, 75, 76, 77, 78] (by decide +kernel) (by decide +kernel)) (goodIn_sub (fun _ h => (List.mem_cons_of_mem _ (List.mem_append_right _ h))) (by decide +kernel))
set_option maxRecDepth 20000 in
theorem gX3_isOpen_X2_warmthOf : GoodIn wsX3_isOpen (wsV RX3 83 RX2 yX2_warmthOf wsX2_warmthOf) := goodIn_app (goodIn_of _ (by decide +kernel)) ggX3_isOpen_X2_warmthOf
set_option maxRecDepth 20000 in
theorem ggX3_carries_X3_placedSite : GoodIn wzX3_carries wsX3_placedSite := goodIn_r _ [11, 12, 13, 10, 14, 15, 16, 17, 18, 19, 20, 79, 80, 81, 82, 83, 84, 85, 86, 87, 88] (by decide +kernel) (by decide +kernel)
set_option maxRecDepth 20000 in
theorem gX3_carries_X3_placedSite : GoodIn wzX3_carries (wsV RX3 131 RX3 yX3_placedSite wsX3_placedSite) := goodIn_app (goodIn_of _ (by decide +kernel)) ggX3_carries_X3_placedSite
set_option maxRecDepth 20000 in
theorem ggX3_carries_X2_warmthOf : GoodIn wzX3_carries wsX2_warmthOf := goodIn_ca (goodIn_r _ [37, 38, 39, 13, 10, 14, 104, 105, 106, 107] (by decide +kernel) (by decide +kernel)) (goodIn_sub (fun _ h => (List.mem_cons_of_mem _ (List.mem_append_right _ h))) (by decide +kernel))
set_option maxRecDepth 20000 in
theorem gX3_carries_X2_warmthOf : GoodIn wzX3_carries (wsV RX3 83 RX2 yX2_warmthOf wsX2_warmthOf) := goodIn_app (goodIn_of _ (by decide +kernel)) ggX3_carries_X2_warmthOf
set_option maxRecDepth 20000 in
theorem ggX3_visit_X3_numberedSite : GoodIn wsX3_visit wsX3_numberedSite := goodIn_r _ [15, 16, 17, 18, 19, 14, 20, 71, 72, 73, 74, 75, 76, 77, 78, 79, 80] (by decide +kernel) (by decide +kernel)
set_option maxRecDepth 20000 in
theorem gX3_visit_X3_numberedSite : GoodIn wsX3_visit (wsV RX3 207 RX3 yX3_numberedSite wsX3_numberedSite) := goodIn_app (goodIn_of _ (by decide +kernel)) ggX3_visit_X3_numberedSite
set_option maxRecDepth 20000 in
theorem ggX3_visit_X3_isWithin : GoodIn wsX3_visit wsX3_isWithin := goodIn_r _ [20] (by decide +kernel) (by decide +kernel)
set_option maxRecDepth 20000 in
theorem gX3_visit_X3_isWithin : GoodIn wsX3_visit (va_wsS RX3 52 yX3_isWithin wsX3_isWithin) := goodIn_app (goodIn_of _ (by decide +kernel)) ggX3_visit_X3_isWithin
set_option maxRecDepth 20000 in
theorem ggX3_visit_X2_warmthOf : GoodIn wsX3_visit wsX2_warmthOf := goodIn_ca (goodIn_r _ [25, 26, 27, 19, 14, 20, 96, 97, 98, 99] (by decide +kernel) (by decide +kernel)) (goodIn_sub (fun _ h => (List.mem_cons_of_mem _ (List.mem_append_right _ h))) (by decide +kernel))
set_option maxRecDepth 20000 in
theorem gX3_visit_X2_warmthOf : GoodIn wsX3_visit (wsV RX3 83 RX2 yX2_warmthOf wsX2_warmthOf) := goodIn_app (goodIn_of _ (by decide +kernel)) ggX3_visit_X2_warmthOf
set_option maxRecDepth 20000 in
theorem ggX3_squareBits_X3_isWithin : GoodIn wsX3_squareBits wsX3_isWithin := goodIn_r _ [11] (by decide +kernel) (by decide +kernel)
set_option maxRecDepth 20000 in
theorem gX3_squareBits_X3_isWithin : GoodIn wsX3_squareBits (va_wsS RX3 52 yX3_isWithin wsX3_isWithin) := goodIn_app (goodIn_of _ (by decide +kernel)) ggX3_squareBits_X3_isWithin
set_option maxRecDepth 20000 in
theorem ggX3_squareBits_X2_warmthOf : GoodIn wsX3_squareBits wsX2_warmthOf := goodIn_ca (goodIn_r _ [16, 17, 18, 9, 10, 11, 35, 36, 37, 38] (by decide +kernel) (by decide +kernel)) (goodIn_sub (fun _ h => (List.mem_cons_of_mem _ (List.mem_append_right _ h))) (by decide +kernel))
set_option maxRecDepth 20000 in
theorem gX3_squareBits_X2_warmthOf : GoodIn wsX3_squareBits (wsV RX3 83 RX2 yX2_warmthOf wsX2_warmthOf) := goodIn_app (goodIn_of _ (by decide +kernel)) ggX3_squareBits_X2_warmthOf
set_option maxRecDepth 20000 in
theorem ggX3_squareBits_X3_bitsOfDouble : GoodIn wsX3_squareBits wsX3_bitsOfDouble := goodIn_r _ [21, 22, 23, 24] (by decide +kernel) (by decide +kernel)
set_option maxRecDepth 20000 in
theorem gX3_squareBits_X3_bitsOfDouble : GoodIn wsX3_squareBits (va_wsS RX3 262 yX3_bitsOfDouble wsX3_bitsOfDouble) := goodIn_app (goodIn_of _ (by decide +kernel)) ggX3_squareBits_X3_bitsOfDouble
set_option maxRecDepth 20000 in
theorem ggX3_plan_X3_placedSite : GoodIn wsX3_plan wsX3_placedSite := goodIn_r _ [8, 9, 10, 7, 11, 12, 13, 14, 15, 16, 17, 42, 43, 44, 45, 46, 47, 48, 49, 50, 51] (by decide +kernel) (by decide +kernel)
set_option maxRecDepth 20000 in
theorem gX3_plan_X3_placedSite : GoodIn wsX3_plan (wsV RX3 131 RX3 yX3_placedSite wsX3_placedSite) := goodIn_app (goodIn_of _ (by decide +kernel)) ggX3_plan_X3_placedSite
set_option maxRecDepth 20000 in
theorem ggX3_plan_X3_placeOf : GoodIn wsX3_plan wsX3_placeOf := goodIn_r _ [20] (by decide +kernel) (by decide +kernel)
set_option maxRecDepth 20000 in
theorem gX3_plan_X3_placeOf : GoodIn wsX3_plan (va_wsS RX3 142 yX3_placeOf wsX3_placeOf) := goodIn_app (goodIn_of _ (by decide +kernel)) ggX3_plan_X3_placeOf
set_option maxRecDepth 20000 in
theorem ggX3_carve_X3_placedSite : GoodIn wzX3_carve wsX3_placedSite := goodIn_r _ [17, 18, 19, 16, 20, 21, 22, 23, 24, 25, 26, 128, 129, 130, 131, 132, 133, 134, 135, 136, 137] (by decide +kernel) (by decide +kernel)
set_option maxRecDepth 20000 in
theorem gX3_carve_X3_placedSite : GoodIn wzX3_carve (wsV RX3 131 RX3 yX3_placedSite wsX3_placedSite) := goodIn_app (goodIn_of _ (by decide +kernel)) ggX3_carve_X3_placedSite
set_option maxRecDepth 20000 in
theorem ggX3_carve_X3_isWithin : GoodIn wzX3_carve wsX3_isWithin := goodIn_r _ [20] (by decide +kernel) (by decide +kernel)
set_option maxRecDepth 20000 in
theorem gX3_carve_X3_isWithin : GoodIn wzX3_carve (va_wsS RX3 52 yX3_isWithin wsX3_isWithin) := goodIn_app (goodIn_of _ (by decide +kernel)) ggX3_carve_X3_isWithin
set_option maxRecDepth 20000 in
theorem ggX3_carve_X3_placeOf : GoodIn wzX3_carve wsX3_placeOf := goodIn_r _ [29] (by decide +kernel) (by decide +kernel)
set_option maxRecDepth 20000 in
theorem gX3_carve_X3_placeOf : GoodIn wzX3_carve (va_wsS RX3 142 yX3_placeOf wsX3_placeOf) := goodIn_app (goodIn_of _ (by decide +kernel)) ggX3_carve_X3_placeOf
set_option maxRecDepth 20000 in
theorem ggX3_hours_X3_numberedSite : GoodIn wsX3_hours wsX3_numberedSite := goodIn_r _ [8, 9, 10, 11, 12, 7, 13, 29, 30, 31, 32, 33, 34, 35, 36, 37, 38] (by decide +kernel) (by decide +kernel)
set_option maxRecDepth 20000 in
theorem gX3_hours_X3_numberedSite : GoodIn wsX3_hours (wsV RX3 207 RX3 yX3_numberedSite wsX3_numberedSite) := goodIn_app (goodIn_of _ (by decide +kernel)) ggX3_hours_X3_numberedSite
set_option maxRecDepth 20000 in
theorem ggX3_judge_X3_numberedSite : GoodIn wsX3_judge wsX3_numberedSite := goodIn_r _ [12, 13, 14, 15, 16, 11, 17, 40, 41, 42, 43, 44, 45, 46, 47, 48, 49] (by decide +kernel) (by decide +kernel)
set_option maxRecDepth 20000 in
theorem gX3_judge_X3_numberedSite : GoodIn wsX3_judge (wsV RX3 207 RX3 yX3_numberedSite wsX3_numberedSite) := goodIn_app (goodIn_of _ (by decide +kernel)) ggX3_judge_X3_numberedSite
set_option maxRecDepth 20000 in
theorem ggX3_mark_X3_numberedSite : GoodIn wzX3_mark wsX3_numberedSite := goodIn_r _ [11, 12, 13, 14, 15, 10, 16, 32, 33, 34, 35, 36, 37, 38, 39, 40, 41] (by decide +kernel) (by decide +kernel)
set_option maxRecDepth 20000 in
theorem gX3_mark_X3_numberedSite : GoodIn wzX3_mark (wsV RX3 207 RX3 yX3_numberedSite wsX3_numberedSite) := goodIn_app (goodIn_of _ (by decide +kernel)) ggX3_mark_X3_numberedSite
set_option maxRecDepth 20000 in
theorem ggX3_take_X3_placedSite : GoodIn wzX3_take wsX3_placedSite := goodIn_r _ [14, 15, 16, 13, 17, 18, 19, 20, 21, 22, 23, 96, 97, 98, 99, 100, 101, 102, 103, 104, 105] (by decide +kernel) (by decide +kernel)
set_option maxRecDepth 20000 in
theorem gX3_take_X3_placedSite : GoodIn wzX3_take (wsV RX3 131 RX3 yX3_placedSite wsX3_placedSite) := goodIn_app (goodIn_of _ (by decide +kernel)) ggX3_take_X3_placedSite
set_option maxRecDepth 20000 in
theorem ggX3_take_X3_placeOf : GoodIn wzX3_take wsX3_placeOf := goodIn_r _ [26] (by decide +kernel) (by decide +kernel)
set_option maxRecDepth 20000 in
theorem gX3_take_X3_placeOf : GoodIn wzX3_take (va_wsS RX3 142 yX3_placeOf wsX3_placeOf) := goodIn_app (goodIn_of _ (by decide +kernel)) ggX3_take_X3_placeOf
set_option maxRecDepth 20000 in
theorem ggX3_take_X2_warmthOf : GoodIn wzX3_take wsX2_warmthOf := goodIn_ca (goodIn_r _ [37, 38, 39, 16, 13, 17, 121, 122, 123, 124] (by decide +kernel) (by decide +kernel)) (goodIn_sub (fun _ h => (List.mem_cons_of_mem _ (List.mem_append_right _ h))) (by decide +kernel))
set_option maxRecDepth 20000 in
theorem gX3_take_X2_warmthOf : GoodIn wzX3_take (wsV RX3 83 RX2 yX2_warmthOf wsX2_warmthOf) := goodIn_app (goodIn_of _ (by decide +kernel)) ggX3_take_X2_warmthOf
set_option maxRecDepth 20000 in
theorem ggX3_count_X3_numberedSite : GoodIn wsX3_count wsX3_numberedSite := goodIn_r _ [7, 8, 9, 10, 11, 6, 12, 19, 20, 21, 22, 23, 24, 25, 26, 27, 28] (by decide +kernel) (by decide +kernel)
set_option maxRecDepth 20000 in
theorem gX3_count_X3_numberedSite : GoodIn wsX3_count (wsV RX3 207 RX3 yX3_numberedSite wsX3_numberedSite) := goodIn_app (goodIn_of _ (by decide +kernel)) ggX3_count_X3_numberedSite
set_option maxRecDepth 20000 in
theorem ggX3_openShare_X3_numberedSite : GoodIn wsX3_openShare wsX3_numberedSite := goodIn_r _ [10, 3, 11, 12, 13, 9, 14, 65, 66, 67, 68, 69, 70, 71, 72, 73, 74] (by decide +kernel) (by decide +kernel)
set_option maxRecDepth 20000 in
theorem gX3_openShare_X3_numberedSite : GoodIn wsX3_openShare (wsV RX3 207 RX3 yX3_numberedSite wsX3_numberedSite) := goodIn_app (goodIn_of _ (by decide +kernel)) ggX3_openShare_X3_numberedSite
set_option maxRecDepth 20000 in
theorem ggX3_openShare_X2_warmthOf : GoodIn wsX3_openShare wsX2_warmthOf := goodIn_ca (goodIn_r _ [19, 20, 21, 13, 9, 14, 75, 76, 77, 78] (by decide +kernel) (by decide +kernel)) (goodIn_sub (fun _ h => (List.mem_cons_of_mem _ (List.mem_append_right _ h))) (by decide +kernel))
set_option maxRecDepth 20000 in
theorem gX3_openShare_X2_warmthOf : GoodIn wsX3_openShare (wsV RX3 83 RX2 yX2_warmthOf wsX2_warmthOf) := goodIn_app (goodIn_of _ (by decide +kernel)) ggX3_openShare_X2_warmthOf
set_option maxRecDepth 20000 in
theorem ggX3_meanCreep_X3_numberedSite : GoodIn wsX3_meanCreep wsX3_numberedSite := goodIn_r _ [9, 10, 11, 12, 13, 8, 14, 26, 27, 28, 29, 30, 31, 32, 33, 34, 35] (by decide +kernel) (by decide +kernel)
set_option maxRecDepth 20000 in
theorem gX3_meanCreep_X3_numberedSite : GoodIn wsX3_meanCreep (wsV RX3 207 RX3 yX3_numberedSite wsX3_numberedSite) := goodIn_app (goodIn_of _ (by decide +kernel)) ggX3_meanCreep_X3_numberedSite
set_option maxRecDepth 20000 in
theorem ggX3_checksum_X3_numberedSite : GoodIn wsX3_checksum wsX3_numberedSite := goodIn_r _ [14, 2, 15, 16, 17, 13, 18, 25, 26, 27, 28, 29, 30, 31, 32, 33, 34] (by decide +kernel) (by decide +kernel)
set_option maxRecDepth 20000 in
theorem gX3_checksum_X3_numberedSite : GoodIn wsX3_checksum (wsV RX3 207 RX3 yX3_numberedSite wsX3_numberedSite) := goodIn_app (goodIn_of _ (by decide +kernel)) ggX3_checksum_X3_numberedSite
set_option maxRecDepth 20000 in
theorem ggX3_isSound_X3_numberedSite : GoodIn wsX3_isSound wsX3_numberedSite := goodIn_r _ [9, 1, 10, 11, 12, 8, 13, 44, 45, 46, 47, 48, 49, 50, 51, 52, 53] (by decide +kernel) (by decide +kernel)
set_option maxRecDepth 20000 in
theorem gX3_isSound_X3_numberedSite : GoodIn wsX3_isSound (wsV RX3 207 RX3 yX3_numberedSite wsX3_numberedSite) := goodIn_app (goodIn_of _ (by decide +kernel)) ggX3_isSound_X3_numberedSite
set_option maxRecDepth 20000 in
theorem ggX3_numberedSite_X3_isWithin : GoodIn wsX3_numberedSite wsX3_isWithin := goodIn_r _ [6] (by decide +kernel) (by decide +kernel)
set_option maxRecDepth 20000 in
theorem gX3_numberedSite_X3_isWithin : GoodIn wsX3_numberedSite (va_wsS RX3 52 yX3_isWithin wsX3_isWithin) := goodIn_app (goodIn_of _ (by decide +kernel)) ggX3_numberedSite_X3_isWithin
set_option maxRecDepth 20000 in
theorem ggX3_placedSite_X3_isWithin : GoodIn wsX3_placedSite wsX3_isWithin := goodIn_r _ [4] (by decide +kernel) (by decide +kernel)
set_option maxRecDepth 20000 in
theorem gX3_placedSite_X3_isWithin : GoodIn wsX3_placedSite (va_wsS RX3 52 yX3_isWithin wsX3_isWithin) := goodIn_app (goodIn_of _ (by decide +kernel)) ggX3_placedSite_X3_isWithin
set_option maxRecDepth 20000 in
theorem ggX3_placedSite_X3_numberedSite : GoodIn wsX3_placedSite wsX3_numberedSite := goodIn_r _ [8, 9, 10, 1, 2, 3, 4, 11, 12, 13, 14, 15, 16, 17, 18, 19, 20] (by decide +kernel) (by decide +kernel)
set_option maxRecDepth 20000 in
theorem gX3_placedSite_X3_numberedSite : GoodIn wsX3_placedSite (wsV RX3 207 RX3 yX3_numberedSite wsX3_numberedSite) := goodIn_app (goodIn_of _ (by decide +kernel)) ggX3_placedSite_X3_numberedSite
set_option maxRecDepth 20000 in
theorem ggX3_passHour_X2_warmthOf : GoodIn wsX3_passHour wsX2_warmthOf := goodIn_ca (goodIn_r _ [12, 13, 14, 15, 16, 17, 153, 154, 155, 156] (by decide +kernel) (by decide +kernel)) (goodIn_sub (fun _ h => (List.mem_cons_of_mem _ (List.mem_append_left _ (List.mem_append_right _ h)))) (by decide +kernel))
set_option maxRecDepth 20000 in
theorem gX3_passHour_X2_warmthOf : GoodIn wsX3_passHour (wsV RX3 83 RX2 yX2_warmthOf wsX2_warmthOf) := goodIn_app (goodIn_of _ (by decide +kernel)) ggX3_passHour_X2_warmthOf
set_option maxRecDepth 20000 in
theorem ggX3_passHour_X0_passHour : GoodIn wsX3_passHour wsX0_passHour := goodIn_ca (goodIn_ca (goodIn_r _ [22, 23, 24, 25, 26, 27, 28, 29, 30, 31, 157, 158, 159] (by decide +kernel) (by decide +kernel)) (goodIn_sub (fun _ h => (List.mem_cons_of_mem _ (List.mem_append_left _ (List.mem_append_right _ h)))) (by decide +kernel))) (goodIn_sub (fun _ h => (List.mem_cons_of_mem _ (List.mem_append_right _ h))) (by decide +kernel))
set_option maxRecDepth 20000 in
theorem gX3_passHour_X0_passHour : GoodIn wsX3_passHour (wsV RX3 330 RX0 yX0_passHour wsX0_passHour) := goodIn_app (goodIn_of _ (by decide +kernel)) ggX3_passHour_X0_passHour
set_option maxRecDepth 20000 in
theorem ggX3_passHour_X2_wetWarmthOf : GoodIn wsX3_passHour wsX2_wetWarmthOf := goodIn_ca (goodIn_r _ [35, 36, 15, 16, 17, 37, 9, 10, 11, 12, 13, 14, 153, 154, 155, 156] (by decide +kernel) (by decide +kernel)) (goodIn_sub (fun _ h => (List.mem_cons_of_mem _ (List.mem_append_left _ (List.mem_append_right _ h)))) (by decide +kernel))
set_option maxRecDepth 20000 in
theorem gX3_passHour_X2_wetWarmthOf : GoodIn wsX3_passHour (wsV RX3 87 RX2 yX2_wetWarmthOf wsX2_wetWarmthOf) := goodIn_app (goodIn_of _ (by decide +kernel)) ggX3_passHour_X2_wetWarmthOf
set_option maxRecDepth 20000 in
theorem ggX3_passHour_X3_storeSnow : GoodIn wsX3_passHour wsX3_storeSnow := goodIn_r _ [41, 42, 43, 30, 26, 31, 128, 129, 130, 131, 132, 133, 134, 135, 136, 137] (by decide +kernel) (by decide +kernel)
set_option maxRecDepth 20000 in
theorem gX3_passHour_X3_storeSnow : GoodIn wsX3_passHour (wsV RX3 124 RX3 yX3_storeSnow wsX3_storeSnow) := goodIn_app (goodIn_of _ (by decide +kernel)) ggX3_passHour_X3_storeSnow
set_option maxRecDepth 20000 in
theorem ggX3_passHour_X3_numberedSite : GoodIn wsX3_passHour wsX3_numberedSite := goodIn_r _ [47, 5, 48, 49, 15, 16, 17, 128, 129, 130, 131, 132, 133, 134, 135, 136, 137] (by decide +kernel) (by decide +kernel)
set_option maxRecDepth 20000 in
theorem gX3_passHour_X3_numberedSite : GoodIn wsX3_passHour (wsV RX3 207 RX3 yX3_numberedSite wsX3_numberedSite) := goodIn_app (goodIn_of _ (by decide +kernel)) ggX3_passHour_X3_numberedSite
set_option maxRecDepth 20000 in
theorem ggX3_passHour_X2_windOf : GoodIn wsX3_passHour wsX2_windOf := goodIn_ca (goodIn_r _ [53, 54, 15, 16, 17, 153, 154, 155, 156] (by decide +kernel) (by decide +kernel)) (goodIn_sub (fun _ h => (List.mem_cons_of_mem _ (List.mem_append_left _ (List.mem_append_right _ h)))) (by decide +kernel))
set_option maxRecDepth 20000 in
theorem gX3_passHour_X2_windOf : GoodIn wsX3_passHour (wsV RX3 332 RX2 yX2_windOf wsX2_windOf) := goodIn_app (goodIn_of _ (by decide +kernel)) ggX3_passHour_X2_windOf
set_option maxRecDepth 20000 in
theorem ggX6_init_Jx4a65c_init_da8c8 : GoodIn wsX6_init wsJx4a65c_init_da8c8 := goodIn_r _ [17, 18, 19, 20, 21, 22, 23, 24, 25, 26, 27, 28, 29, 2, 3, 45, 46, 47] (by decide +kernel) (by decide +kernel)
set_option maxRecDepth 20000 in
theorem gX6_init_Jx4a65c_init_da8c8 : GoodIn wsX6_init (wsJx4a65c_init_da8c8) := ggX6_init_Jx4a65c_init_da8c8
set_option maxRecDepth 20000 in
theorem ggX6_init_J7_fill_53178 : GoodIn wsX6_init wsJ7_fill_53178 := goodIn_r _ [33] (by decide +kernel) (by decide +kernel)
set_option maxRecDepth 20000 in
theorem gX6_init_J7_fill_53178 : GoodIn wsX6_init (va_wsS RX6 38 yJ7_fill_53178 wsJ7_fill_53178) := goodIn_app (goodIn_of _ (by decide +kernel)) ggX6_init_J7_fill_53178
set_option maxRecDepth 20000 in
theorem ggX6_weather_X6_isBetween : GoodIn wsX6_weather wsX6_isBetween := goodIn_r _ [12] (by decide +kernel) (by decide +kernel)
set_option maxRecDepth 20000 in
theorem gX6_weather_X6_isBetween : GoodIn wsX6_weather (va_wsS RX6 46 yX6_isBetween wsX6_isBetween) := goodIn_app (goodIn_of _ (by decide +kernel)) ggX6_weather_X6_isBetween
set_option maxRecDepth 20000 in
theorem ggX6_weather_X6_isWrong : GoodIn wsX6_weather wsX6_isWrong := goodIn_r _ [16, 17, 18, 19, 20, 21, 22, 23, 24, 25, 26, 27, 28] (by decide +kernel) (by decide +kernel)
set_option maxRecDepth 20000 in
theorem gX6_weather_X6_isWrong : GoodIn wsX6_weather (wsV RX6 61 RX6 yX6_isWrong wsX6_isWrong) := goodIn_app (goodIn_of _ (by decide +kernel)) ggX6_weather_X6_isWrong
set_option maxRecDepth 20000 in
theorem ggX6_warmth_X6_isBetween : GoodIn wsX6_warmth wsX6_isBetween := goodIn_r _ [5] (by decide +kernel) (by decide +kernel)
set_option maxRecDepth 20000 in
theorem gX6_warmth_X6_isBetween : GoodIn wsX6_warmth (va_wsS RX6 46 yX6_isBetween wsX6_isBetween) := goodIn_app (goodIn_of _ (by decide +kernel)) ggX6_warmth_X6_isBetween
set_option maxRecDepth 20000 in
theorem ggX6_warmth_X6_isWrong : GoodIn wsX6_warmth wsX6_isWrong := goodIn_r _ [9, 10, 16, 17, 18, 19, 20, 21, 22, 23, 24, 25, 26] (by decide +kernel) (by decide +kernel)
set_option maxRecDepth 20000 in
theorem gX6_warmth_X6_isWrong : GoodIn wsX6_warmth (wsV RX6 61 RX6 yX6_isWrong wsX6_isWrong) := goodIn_app (goodIn_of _ (by decide +kernel)) ggX6_warmth_X6_isWrong
set_option maxRecDepth 20000 in
theorem ggX6_warmth_X6_warmthOf : GoodIn wsX6_warmth wsX6_warmthOf := goodIn_ca (goodIn_r _ [14, 15, 16, 17, 18, 19, 20, 21, 22, 23, 24, 25, 26] (by decide +kernel) (by decide +kernel)) (goodIn_sub (fun _ h => (List.mem_cons_of_mem _ (List.mem_append_right _ h))) (by decide +kernel))
set_option maxRecDepth 20000 in
theorem gX6_warmth_X6_warmthOf : GoodIn wsX6_warmth (wsV RX6 67 RX6 yX6_warmthOf wsX6_warmthOf) := goodIn_app (goodIn_of _ (by decide +kernel)) ggX6_warmth_X6_warmthOf
set_option maxRecDepth 20000 in
theorem ggX6_wetOf_X6_warmthOf : GoodIn wsX6_wetOf wsX6_warmthOf := goodIn_ca (goodIn_r _ [6, 1, 7, 8, 9, 10, 11, 12, 13, 14, 15, 16, 17] (by decide +kernel) (by decide +kernel)) (goodIn_sub (fun _ h => (List.mem_cons_of_mem _ (List.mem_append_right _ h))) (by decide +kernel))
set_option maxRecDepth 20000 in
theorem gX6_wetOf_X6_warmthOf : GoodIn wsX6_wetOf (wsV RX6 67 RX6 yX6_warmthOf wsX6_warmthOf) := goodIn_app (goodIn_of _ (by decide +kernel)) ggX6_wetOf_X6_warmthOf
set_option maxRecDepth 20000 in
theorem ggX6_wet_X6_isBetween : GoodIn wsX6_wet wsX6_isBetween := goodIn_r _ [5] (by decide +kernel) (by decide +kernel)
set_option maxRecDepth 20000 in
theorem gX6_wet_X6_isBetween : GoodIn wsX6_wet (va_wsS RX6 46 yX6_isBetween wsX6_isBetween) := goodIn_app (goodIn_of _ (by decide +kernel)) ggX6_wet_X6_isBetween
set_option maxRecDepth 20000 in
theorem ggX6_wet_X6_isWrong : GoodIn wsX6_wet wsX6_isWrong := goodIn_r _ [9, 10, 20, 21, 22, 23, 24, 25, 26, 27, 28, 29, 30] (by decide +kernel) (by decide +kernel)
set_option maxRecDepth 20000 in
theorem gX6_wet_X6_isWrong : GoodIn wsX6_wet (wsV RX6 61 RX6 yX6_isWrong wsX6_isWrong) := goodIn_app (goodIn_of _ (by decide +kernel)) ggX6_wet_X6_isWrong
set_option maxRecDepth 20000 in
theorem ggX6_wet_X6_wetOf : GoodIn wsX6_wet wsX6_wetOf := goodIn_ca (goodIn_r _ [14, 15, 16, 17, 18, 4, 19, 20, 21, 22, 23, 24, 25, 26, 27, 28, 29, 30] (by decide +kernel) (by decide +kernel)) (goodIn_sub (fun _ h => (List.mem_cons_of_mem _ (List.mem_append_right _ h))) (by decide +kernel))
set_option maxRecDepth 20000 in
theorem gX6_wet_X6_wetOf : GoodIn wsX6_wet (wsV RX6 73 RX6 yX6_wetOf wsX6_wetOf) := goodIn_app (goodIn_of _ (by decide +kernel)) ggX6_wet_X6_wetOf
set_option maxRecDepth 20000 in
theorem ggX6_freezes_X6_wetOf : GoodIn wsX6_freezes wsX6_wetOf := goodIn_ca (goodIn_r _ [17, 18, 19, 20, 21, 16, 22, 23, 24, 25, 26, 27, 28, 29, 30, 31, 32, 33] (by decide +kernel) (by decide +kernel)) (goodIn_sub (fun _ h => (List.mem_cons_of_mem _ (List.mem_append_left _ (List.mem_append_right _ h)))) (by decide +kernel))
set_option maxRecDepth 20000 in
theorem gX6_freezes_X6_wetOf : GoodIn wsX6_freezes (wsV RX6 73 RX6 yX6_wetOf wsX6_wetOf) := goodIn_app (goodIn_of _ (by decide +kernel)) ggX6_freezes_X6_wetOf
set_option maxRecDepth 20000 in
theorem ggX6_isNoField_X6_isBetween : GoodIn wsX6_isNoField wsX6_isBetween := goodIn_r _ [5] (by decide +kernel) (by decide +kernel)
set_option maxRecDepth 20000 in
theorem gX6_isNoField_X6_isBetween : GoodIn wsX6_isNoField (va_wsS RX6 46 yX6_isBetween wsX6_isBetween) := goodIn_app (goodIn_of _ (by decide +kernel)) ggX6_isNoField_X6_isBetween
set_option maxRecDepth 20000 in
theorem ggX6_isNoField_X6_isWrong : GoodIn wsX6_isNoField wsX6_isWrong := goodIn_r _ [9, 10, 11, 12, 13, 14, 15, 16, 17, 18, 19, 20, 21] (by decide +kernel) (by decide +kernel)
set_option maxRecDepth 20000 in
theorem gX6_isNoField_X6_isWrong : GoodIn wsX6_isNoField (wsV RX6 61 RX6 yX6_isWrong wsX6_isWrong) := goodIn_app (goodIn_of _ (by decide +kernel)) ggX6_isNoField_X6_isWrong
set_option maxRecDepth 20000 in
theorem ggX6_ice_X6_isNoField : GoodIn wsX6_ice wsX6_isNoField := goodIn_r _ [6, 7, 8, 9, 5, 10, 11, 12, 13, 14, 15, 16, 17, 18, 19, 20, 21, 22, 23, 24, 25, 26] (by decide +kernel) (by decide +kernel)
set_option maxRecDepth 20000 in
theorem gX6_ice_X6_isNoField : GoodIn wsX6_ice (wsV RX6 94 RX6 yX6_isNoField wsX6_isNoField) := goodIn_app (goodIn_of _ (by decide +kernel)) ggX6_ice_X6_isNoField
set_option maxRecDepth 20000 in
theorem ggX6_clear_X6_isNoField : GoodIn wsX6_clear wsX6_isNoField := goodIn_r _ [6, 7, 8, 9, 5, 10, 11, 12, 13, 14, 15, 16, 17, 18, 19, 20, 21, 22, 23, 24, 25, 26] (by decide +kernel) (by decide +kernel)
set_option maxRecDepth 20000 in
theorem gX6_clear_X6_isNoField : GoodIn wsX6_clear (wsV RX6 94 RX6 yX6_isNoField wsX6_isNoField) := goodIn_app (goodIn_of _ (by decide +kernel)) ggX6_clear_X6_isNoField
set_option maxRecDepth 20000 in
theorem ggX6_bears_X6_isNoField : GoodIn wsX6_bears wsX6_isNoField := goodIn_r _ [5, 6, 7, 8, 4, 9, 10, 11, 12, 13, 14, 21, 22, 23, 24, 25, 26, 27, 28, 29, 30, 31] (by decide +kernel) (by decide +kernel)
set_option maxRecDepth 20000 in
theorem gX6_bears_X6_isNoField : GoodIn wsX6_bears (wsV RX6 94 RX6 yX6_isNoField wsX6_isNoField) := goodIn_app (goodIn_of _ (by decide +kernel)) ggX6_bears_X6_isNoField
set_option maxRecDepth 20000 in
theorem ggX6_bears_X6_hasRoad : GoodIn wsX6_bears wsX6_hasRoad := goodIn_ca (goodIn_r _ [18, 19, 20, 21, 22, 23, 24, 25, 26, 27, 28, 29, 30, 31] (by decide +kernel) (by decide +kernel)) (goodIn_sub (fun _ h => (List.mem_cons_of_mem _ (List.mem_append_right _ h))) (by decide +kernel))
set_option maxRecDepth 20000 in
theorem gX6_bears_X6_hasRoad : GoodIn wsX6_bears (wsV RX6 97 RX6 yX6_hasRoad wsX6_hasRoad) := goodIn_app (goodIn_of _ (by decide +kernel)) ggX6_bears_X6_hasRoad
set_option maxRecDepth 20000 in
theorem ggX6_cut_X6_isNoField : GoodIn wsX6_cut wsX6_isNoField := goodIn_r _ [11, 12, 13, 14, 10, 15, 16, 17, 18, 19, 20, 25, 26, 27, 28, 29, 30, 31, 32, 33, 34, 35] (by decide +kernel) (by decide +kernel)
set_option maxRecDepth 20000 in
theorem gX6_cut_X6_isNoField : GoodIn wsX6_cut (wsV RX6 94 RX6 yX6_isNoField wsX6_isNoField) := goodIn_app (goodIn_of _ (by decide +kernel)) ggX6_cut_X6_isNoField
set_option maxRecDepth 20000 in
theorem ggX6_cut_X6_isBetween : GoodIn wsX6_cut wsX6_isBetween := goodIn_r _ [15] (by decide +kernel) (by decide +kernel)
set_option maxRecDepth 20000 in
theorem gX6_cut_X6_isBetween : GoodIn wsX6_cut (va_wsS RX6 46 yX6_isBetween wsX6_isBetween) := goodIn_app (goodIn_of _ (by decide +kernel)) ggX6_cut_X6_isBetween
set_option maxRecDepth 20000 in
theorem ggX6_cut_X6_hasRoad : GoodIn wsX6_cut wsX6_hasRoad := goodIn_ca (goodIn_r _ [24, 2, 3, 25, 26, 27, 28, 29, 30, 31, 32, 33, 34, 35] (by decide +kernel) (by decide +kernel)) (goodIn_sub (fun _ h => (List.mem_cons_of_mem _ (List.mem_append_right _ h))) (by decide +kernel))
set_option maxRecDepth 20000 in
theorem gX6_cut_X6_hasRoad : GoodIn wsX6_cut (wsV RX6 97 RX6 yX6_hasRoad wsX6_hasRoad) := goodIn_app (goodIn_of _ (by decide +kernel)) ggX6_cut_X6_hasRoad
set_option maxRecDepth 20000 in
theorem ggX6_cut_X6_isWrong : GoodIn wsX6_cut wsX6_isWrong := goodIn_r _ [19, 20, 25, 26, 27, 28, 29, 30, 31, 32, 33, 34, 35] (by decide +kernel) (by decide +kernel)
set_option maxRecDepth 20000 in
theorem gX6_cut_X6_isWrong : GoodIn wsX6_cut (wsV RX6 61 RX6 yX6_isWrong wsX6_isWrong) := goodIn_app (goodIn_of _ (by decide +kernel)) ggX6_cut_X6_isWrong
set_option maxRecDepth 20000 in
theorem ggX6_lorries_X6_isBetween : GoodIn wsX6_lorries wsX6_isBetween := goodIn_r _ [11] (by decide +kernel) (by decide +kernel)
set_option maxRecDepth 20000 in
theorem gX6_lorries_X6_isBetween : GoodIn wsX6_lorries (va_wsS RX6 46 yX6_isBetween wsX6_isBetween) := goodIn_app (goodIn_of _ (by decide +kernel)) ggX6_lorries_X6_isBetween
set_option maxRecDepth 20000 in
theorem ggX6_lorries_X6_isWrong : GoodIn wsX6_lorries wsX6_isWrong := goodIn_r _ [15, 16, 17, 18, 19, 20, 21, 22, 23, 24, 25, 26, 27] (by decide +kernel) (by decide +kernel)
set_option maxRecDepth 20000 in
theorem gX6_lorries_X6_isWrong : GoodIn wsX6_lorries (wsV RX6 61 RX6 yX6_isWrong wsX6_isWrong) := goodIn_app (goodIn_of _ (by decide +kernel)) ggX6_lorries_X6_isWrong
set_option maxRecDepth 20000 in
theorem ggX6_go_X6_isBetween : GoodIn wsX6_go wsX6_isBetween := goodIn_r _ [8] (by decide +kernel) (by decide +kernel)
set_option maxRecDepth 20000 in
theorem gX6_go_X6_isBetween : GoodIn wsX6_go (va_wsS RX6 46 yX6_isBetween wsX6_isBetween) := goodIn_app (goodIn_of _ (by decide +kernel)) ggX6_go_X6_isBetween
set_option maxRecDepth 20000 in
theorem ggX6_go_X6_isWrong : GoodIn wsX6_go wsX6_isWrong := goodIn_r _ [12, 13, 132, 133, 134, 135, 136, 137, 138, 139, 140, 141, 142] (by decide +kernel) (by decide +kernel)
set_option maxRecDepth 20000 in
theorem gX6_go_X6_isWrong : GoodIn wsX6_go (wsV RX6 61 RX6 yX6_isWrong wsX6_isWrong) := goodIn_app (goodIn_of _ (by decide +kernel)) ggX6_go_X6_isWrong
set_option maxRecDepth 20000 in
theorem ggX6_go_X6_warmthOf : GoodIn wsX6_go wsX6_warmthOf := goodIn_ca (goodIn_r _ [17, 18, 132, 133, 134, 135, 136, 137, 138, 139, 140, 141, 142] (by decide +kernel) (by decide +kernel)) (goodIn_sub (fun _ h => (List.mem_cons_of_mem _ (List.mem_append_left _ (List.mem_append_right _ h)))) (by decide +kernel))
set_option maxRecDepth 20000 in
theorem gX6_go_X6_warmthOf : GoodIn wsX6_go (wsV RX6 67 RX6 yX6_warmthOf wsX6_warmthOf) := goodIn_app (goodIn_of _ (by decide +kernel)) ggX6_go_X6_warmthOf
set_option maxRecDepth 20000 in
theorem ggX6_go_X6_freezes : GoodIn wsX6_go wsX6_freezes := goodIn_ca (goodIn_ca (goodIn_r _ [22, 23, 24, 25, 26, 27, 28, 29, 30, 31, 32, 2, 33, 34, 35, 36, 7, 37, 18, 14, 15, 16, 17, 132, 133, 134, 135, 136, 137, 138, 139, 140, 141, 142] (by decide +kernel) (by decide +kernel)) (goodIn_sub (fun _ h => (List.mem_cons_of_mem _ (List.mem_append_left _ (List.mem_append_right _ h)))) (by decide +kernel))) (goodIn_sub (fun _ h => (List.mem_cons_of_mem _ (List.mem_append_right _ h))) (by decide +kernel))
set_option maxRecDepth 20000 in
theorem gX6_go_X6_freezes : GoodIn wsX6_go (wsV RX6 105 RX6 yX6_freezes wsX6_freezes) := goodIn_app (goodIn_of _ (by decide +kernel)) ggX6_go_X6_freezes
set_option maxRecDepth 20000 in
theorem ggX6_go_Jx4a65c_iterator_32c93 : GoodIn wsX6_go wsJx4a65c_iterator_32c93 := goodIn_r _ [42, 43, 44, 45, 46, 47, 48, 49, 50, 51, 52, 53, 54, 55, 56, 143, 144, 145, 146, 147, 148, 149] (by decide +kernel) (by decide +kernel)
set_option maxRecDepth 20000 in
theorem gX6_go_Jx4a65c_iterator_32c93_f109Jx4a65c : GoodIn wsX6_go (va_wsF RX6 109 RJx4a65c ⟨"java/util/List", "iterator", "()Ljava/util/Iterator;"⟩ yJx4a65c_iterator_32c93 wsJx4a65c_iterator_32c93) := goodIn_app (goodIn_of _ (by decide +kernel)) ggX6_go_Jx4a65c_iterator_32c93
set_option maxRecDepth 20000 in
theorem ggX6_go_Jx35411_hasNext_aae02 : GoodIn wsX6_go wsJx35411_hasNext_aae02 := goodIn_r _ [60, 61, 49, 143, 144, 145, 146, 147, 148, 149] (by decide +kernel) (by decide +kernel)
set_option maxRecDepth 20000 in
theorem gX6_go_Jx35411_hasNext_aae02_f115Jx35411 : GoodIn wsX6_go (va_wsF RX6 115 RJx35411 ⟨"java/util/Iterator", "hasNext", "()Z"⟩ yJx35411_hasNext_aae02 wsJx35411_hasNext_aae02) := goodIn_app (goodIn_of _ (by decide +kernel)) ggX6_go_Jx35411_hasNext_aae02
set_option maxRecDepth 20000 in
theorem ggX6_site_Jx4a65c_size_8abf5 : GoodIn wsX6_site wsJx4a65c_size_8abf5 := goodIn_r _ [9, 10, 103, 104, 105] (by decide +kernel) (by decide +kernel)
set_option maxRecDepth 20000 in
theorem gX6_site_Jx4a65c_size_8abf5_f130Jx4a65c : GoodIn wsX6_site (va_wsF RX6 130 RJx4a65c ⟨"java/util/List", "size", "()I"⟩ yJx4a65c_size_8abf5 wsJx4a65c_size_8abf5) := goodIn_app (goodIn_of _ (by decide +kernel)) ggX6_site_Jx4a65c_size_8abf5
set_option maxRecDepth 20000 in
theorem ggX6_site_X6_isWrong : GoodIn wsX6_site wsX6_isWrong := goodIn_r _ [15, 16, 82, 83, 84, 85, 86, 87, 88, 89, 90, 91, 92] (by decide +kernel) (by decide +kernel)
set_option maxRecDepth 20000 in
theorem gX6_site_X6_isWrong : GoodIn wsX6_site (wsV RX6 61 RX6 yX6_isWrong wsX6_isWrong) := goodIn_app (goodIn_of _ (by decide +kernel)) ggX6_site_X6_isWrong
set_option maxRecDepth 20000 in
theorem ggX6_site_X5_init : GoodIn wsX6_site wsX5_init := goodIn_r _ [18, 19, 20, 21, 22, 23, 24, 25, 26, 27, 93, 94, 95, 96, 97, 98, 99, 100, 101, 102] (by decide +kernel) (by decide +kernel)
set_option maxRecDepth 20000 in
theorem gX6_site_X5_init_n134 : GoodIn wsX6_site (wsX5_init) := ggX6_site_X5_init
set_option maxRecDepth 20000 in
theorem ggX6_site_Jx4a65c_add_9ea2d : GoodIn wsX6_site wsJx4a65c_add_9ea2d := goodIn_r _ [31, 32, 33, 34, 10, 35, 36, 37, 8, 38, 39, 40, 41, 42, 43, 44, 45, 46, 47, 48, 49, 50, 51, 52, 53, 54, 55, 56, 57, 58, 59, 60, 61, 62, 63, 64, 65, 66, 67, 68, 69, 70, 71, 72, 73, 74, 75, 76, 77, 78, 79, 80, 81, 103, 104, 105] (by decide +kernel) (by decide +kernel)
set_option maxRecDepth 20000 in
theorem gX6_site_Jx4a65c_add_9ea2d_f137Jx4a65c : GoodIn wsX6_site (va_wsF RX6 137 RJx4a65c ⟨"java/util/List", "add", "(Ljava/lang/Object;)Z"⟩ yJx4a65c_add_9ea2d wsJx4a65c_add_9ea2d) := goodIn_app (goodIn_of _ (by decide +kernel)) ggX6_site_Jx4a65c_add_9ea2d
set_option maxRecDepth 20000 in
theorem ggX6_isNoSite_Jx4a65c_size_8abf5 : GoodIn wsX6_isNoSite wsJx4a65c_size_8abf5 := goodIn_r _ [6, 7, 28, 29, 30] (by decide +kernel) (by decide +kernel)
set_option maxRecDepth 20000 in
theorem gX6_isNoSite_Jx4a65c_size_8abf5_f130Jx4a65c : GoodIn wsX6_isNoSite (va_wsF RX6 130 RJx4a65c ⟨"java/util/List", "size", "()I"⟩ yJx4a65c_size_8abf5 wsJx4a65c_size_8abf5) := goodIn_app (goodIn_of _ (by decide +kernel)) ggX6_isNoSite_Jx4a65c_size_8abf5
set_option maxRecDepth 20000 in
theorem ggX6_isNoSite_X6_isBetween : GoodIn wsX6_isNoSite wsX6_isBetween := goodIn_r _ [11] (by decide +kernel) (by decide +kernel)
set_option maxRecDepth 20000 in
theorem gX6_isNoSite_X6_isBetween : GoodIn wsX6_isNoSite (va_wsS RX6 46 yX6_isBetween wsX6_isBetween) := goodIn_app (goodIn_of _ (by decide +kernel)) ggX6_isNoSite_X6_isBetween
set_option maxRecDepth 20000 in
theorem ggX6_isNoSite_X6_isWrong : GoodIn wsX6_isNoSite wsX6_isWrong := goodIn_r _ [15, 16, 17, 18, 19, 20, 21, 22, 23, 24, 25, 26, 27] (by decide +kernel) (by decide +kernel)
set_option maxRecDepth 20000 in
theorem gX6_isNoSite_X6_isWrong : GoodIn wsX6_isNoSite (wsV RX6 61 RX6 yX6_isWrong wsX6_isWrong) := goodIn_app (goodIn_of _ (by decide +kernel)) ggX6_isNoSite_X6_isWrong
set_option maxRecDepth 20000 in
theorem ggX6_isNoPlace_Jx4a65c_size_8abf5 : GoodIn wsX6_isNoPlace wsJx4a65c_size_8abf5 := goodIn_r _ [8, 9, 30, 31, 32] (by decide +kernel) (by decide +kernel)
set_option maxRecDepth 20000 in
theorem gX6_isNoPlace_Jx4a65c_size_8abf5_f130Jx4a65c : GoodIn wsX6_isNoPlace (va_wsF RX6 130 RJx4a65c ⟨"java/util/List", "size", "()I"⟩ yJx4a65c_size_8abf5 wsJx4a65c_size_8abf5) := goodIn_app (goodIn_of _ (by decide +kernel)) ggX6_isNoPlace_Jx4a65c_size_8abf5
set_option maxRecDepth 20000 in
theorem ggX6_isNoPlace_X6_isBetween : GoodIn wsX6_isNoPlace wsX6_isBetween := goodIn_r _ [13] (by decide +kernel) (by decide +kernel)
set_option maxRecDepth 20000 in
theorem gX6_isNoPlace_X6_isBetween : GoodIn wsX6_isNoPlace (va_wsS RX6 46 yX6_isBetween wsX6_isBetween) := goodIn_app (goodIn_of _ (by decide +kernel)) ggX6_isNoPlace_X6_isBetween
set_option maxRecDepth 20000 in
theorem ggX6_isNoPlace_X6_isWrong : GoodIn wsX6_isNoPlace wsX6_isWrong := goodIn_r _ [17, 18, 19, 20, 21, 22, 23, 24, 25, 26, 27, 28, 29] (by decide +kernel) (by decide +kernel)
set_option maxRecDepth 20000 in
theorem gX6_isNoPlace_X6_isWrong : GoodIn wsX6_isNoPlace (wsV RX6 61 RX6 yX6_isWrong wsX6_isWrong) := goodIn_app (goodIn_of _ (by decide +kernel)) ggX6_isNoPlace_X6_isWrong
set_option maxRecDepth 20000 in
theorem ggX6_isNoCell_X6_isNoPlace : GoodIn wsX6_isNoCell wsX6_isNoPlace := goodIn_r _ [7, 1, 8, 9, 10, 11, 12, 13, 14, 15, 16, 17, 6, 18, 19, 20, 21, 22, 23, 49, 50, 51, 52, 53, 54, 55, 56, 57, 58, 59, 60, 61, 62] (by decide +kernel) (by decide +kernel)
set_option maxRecDepth 20000 in
theorem gX6_isNoCell_X6_isNoPlace : GoodIn wsX6_isNoCell (wsV RX6 145 RX6 yX6_isNoPlace wsX6_isNoPlace) := goodIn_app (goodIn_of _ (by decide +kernel)) ggX6_isNoCell_X6_isNoPlace
set_option maxRecDepth 20000 in
theorem ggX6_isNoCell_X6_isWrong : GoodIn wsX6_isNoCell wsX6_isWrong := goodIn_r _ [22, 23, 49, 50, 51, 52, 53, 54, 55, 56, 57, 58, 59] (by decide +kernel) (by decide +kernel)
set_option maxRecDepth 20000 in
theorem gX6_isNoCell_X6_isWrong : GoodIn wsX6_isNoCell (wsV RX6 61 RX6 yX6_isWrong wsX6_isWrong) := goodIn_app (goodIn_of _ (by decide +kernel)) ggX6_isNoCell_X6_isWrong
set_option maxRecDepth 20000 in
theorem ggX6_put_X6_isNoPlace : GoodIn wsX6_put wsX6_isNoPlace := goodIn_r _ [14, 1, 15, 16, 17, 18, 19, 20, 21, 22, 23, 24, 13, 25, 26, 27, 28, 29, 30, 125, 126, 127, 128, 129, 130, 131, 132, 133, 134, 135, 151, 152, 153] (by decide +kernel) (by decide +kernel)
set_option maxRecDepth 20000 in
theorem gX6_put_X6_isNoPlace : GoodIn wsX6_put (wsV RX6 145 RX6 yX6_isNoPlace wsX6_isNoPlace) := goodIn_app (goodIn_of _ (by decide +kernel)) ggX6_put_X6_isNoPlace
set_option maxRecDepth 20000 in
theorem ggX6_put_X6_isWrong : GoodIn wsX6_put wsX6_isWrong := goodIn_r _ [29, 30, 125, 126, 127, 128, 129, 130, 131, 132, 133, 134, 135] (by decide +kernel) (by decide +kernel)
set_option maxRecDepth 20000 in
theorem gX6_put_X6_isWrong : GoodIn wsX6_put (wsV RX6 61 RX6 yX6_isWrong wsX6_isWrong) := goodIn_app (goodIn_of _ (by decide +kernel)) ggX6_put_X6_isWrong
set_option maxRecDepth 20000 in
theorem ggX6_put_X6_warmthOf : GoodIn wsX6_put wsX6_warmthOf := goodIn_ca (goodIn_r _ [80, 81, 125, 126, 127, 128, 129, 130, 131, 132, 133, 134, 135] (by decide +kernel) (by decide +kernel)) (goodIn_sub (fun _ h => (List.mem_cons_of_mem _ (List.mem_append_right _ h))) (by decide +kernel))
set_option maxRecDepth 20000 in
theorem gX6_put_X6_warmthOf : GoodIn wsX6_put (wsV RX6 67 RX6 yX6_warmthOf wsX6_warmthOf) := goodIn_app (goodIn_of _ (by decide +kernel)) ggX6_put_X6_warmthOf
set_option maxRecDepth 20000 in
theorem ggX6_at_X6_isNoPlace : GoodIn wsX6_at wsX6_isNoPlace := goodIn_r _ [7, 1, 8, 9, 10, 11, 12, 13, 14, 15, 16, 17, 6, 18, 19, 20, 21, 22, 23, 49, 50, 51, 52, 53, 54, 55, 56, 57, 58, 59, 75, 76, 77] (by decide +kernel) (by decide +kernel)
set_option maxRecDepth 20000 in
theorem gX6_at_X6_isNoPlace : GoodIn wsX6_at (wsV RX6 145 RX6 yX6_isNoPlace wsX6_isNoPlace) := goodIn_app (goodIn_of _ (by decide +kernel)) ggX6_at_X6_isNoPlace
set_option maxRecDepth 20000 in
theorem ggX6_mass_X6_isNoCell : GoodIn wsX6_mass wsX6_isNoCell := goodIn_r _ [7, 1, 2, 8, 9, 10, 6, 11, 12, 13, 14, 15, 16, 17, 18, 19, 20, 21, 22, 23, 24, 25, 26, 27, 28, 29, 30, 31, 32, 33, 34, 35, 36, 37, 38, 39, 40, 41, 42, 43, 44, 45, 46, 47, 48, 49, 50, 51, 52, 53, 54, 55, 56, 57, 58, 59, 60, 61, 62, 63, 79, 80, 81, 64, 65, 66, 67, 68, 69, 70, 71, 72, 73] (by decide +kernel) (by decide +kernel)
set_option maxRecDepth 20000 in
theorem gX6_mass_X6_isNoCell : GoodIn wsX6_mass (wsV RX6 179 RX6 yX6_isNoCell wsX6_isNoCell) := goodIn_app (goodIn_of _ (by decide +kernel)) ggX6_mass_X6_isNoCell
set_option maxRecDepth 20000 in
theorem ggX6_load_X6_isNoCell : GoodIn wsX6_load wsX6_isNoCell := goodIn_r _ [7, 1, 2, 8, 9, 10, 6, 11, 12, 13, 14, 15, 16, 17, 18, 19, 20, 21, 22, 23, 24, 25, 26, 27, 28, 29, 30, 31, 32, 33, 34, 35, 36, 37, 38, 39, 40, 41, 42, 43, 44, 45, 46, 47, 48, 49, 50, 51, 52, 72, 73, 74, 75, 76, 77, 78, 79, 80, 81, 82, 83, 84, 85, 86, 87, 88, 89, 90, 91, 92, 93, 94, 95] (by decide +kernel) (by decide +kernel)
set_option maxRecDepth 20000 in
theorem gX6_load_X6_isNoCell : GoodIn wsX6_load (wsV RX6 179 RX6 yX6_isNoCell wsX6_isNoCell) := goodIn_app (goodIn_of _ (by decide +kernel)) ggX6_load_X6_isNoCell
set_option maxRecDepth 20000 in
theorem ggX6_strength_X6_isNoCell : GoodIn wsX6_strength wsX6_isNoCell := goodIn_r _ [8, 1, 2, 9, 10, 11, 7, 12, 13, 14, 15, 16, 17, 18, 19, 20, 21, 22, 23, 24, 25, 26, 27, 28, 29, 30, 31, 32, 33, 34, 35, 36, 37, 38, 39, 40, 41, 42, 43, 44, 45, 46, 47, 48, 49, 50, 51, 52, 53, 70, 71, 72, 73, 74, 75, 76, 77, 78, 79, 80, 81, 82, 83, 84, 85, 86, 87, 88, 89, 90, 91, 92, 93] (by decide +kernel) (by decide +kernel)
set_option maxRecDepth 20000 in
theorem gX6_strength_X6_isNoCell : GoodIn wsX6_strength (wsV RX6 179 RX6 yX6_isNoCell wsX6_isNoCell) := goodIn_app (goodIn_of _ (by decide +kernel)) ggX6_strength_X6_isNoCell
set_option maxRecDepth 20000 in
theorem ggX6_strength_X6_warmthOf : GoodIn wsX6_strength wsX6_warmthOf := goodIn_ca (goodIn_r _ [57, 58, 70, 71, 72, 73, 74, 75, 76, 77, 78, 79, 80] (by decide +kernel) (by decide +kernel)) (goodIn_sub (fun _ h => (List.mem_cons_of_mem _ (List.mem_append_right _ h))) (by decide +kernel))
set_option maxRecDepth 20000 in
theorem gX6_strength_X6_warmthOf : GoodIn wsX6_strength (wsV RX6 67 RX6 yX6_warmthOf wsX6_warmthOf) := goodIn_app (goodIn_of _ (by decide +kernel)) ggX6_strength_X6_warmthOf
set_option maxRecDepth 20000 in
theorem ggX6_creep_X6_isNoCell : GoodIn wsX6_creep wsX6_isNoCell := goodIn_r _ [7, 1, 2, 8, 9, 10, 6, 11, 12, 13, 14, 15, 16, 17, 18, 19, 20, 21, 22, 23, 24, 25, 26, 27, 28, 29, 30, 31, 32, 33, 34, 35, 36, 37, 38, 39, 40, 41, 42, 43, 44, 45, 46, 47, 48, 49, 50, 51, 52, 53, 54, 55, 56, 57, 58, 59, 60, 61, 62, 63, 79, 80, 81, 64, 65, 66, 67, 68, 69, 70, 71, 72, 73] (by decide +kernel) (by decide +kernel)
set_option maxRecDepth 20000 in
theorem gX6_creep_X6_isNoCell : GoodIn wsX6_creep (wsV RX6 179 RX6 yX6_isNoCell wsX6_isNoCell) := goodIn_app (goodIn_of _ (by decide +kernel)) ggX6_creep_X6_isNoCell
set_option maxRecDepth 20000 in
theorem ggX6_age_X6_isNoCell : GoodIn wsX6_age wsX6_isNoCell := goodIn_r _ [7, 1, 2, 8, 9, 10, 6, 11, 12, 13, 14, 15, 16, 17, 18, 19, 20, 21, 22, 23, 24, 25, 26, 27, 28, 29, 30, 31, 32, 33, 34, 35, 36, 37, 38, 39, 40, 41, 42, 43, 44, 45, 46, 47, 48, 49, 50, 51, 52, 53, 54, 55, 56, 57, 58, 59, 60, 61, 62, 63, 79, 80, 81, 64, 65, 66, 67, 68, 69, 70, 71, 72, 73] (by decide +kernel) (by decide +kernel)
set_option maxRecDepth 20000 in
theorem gX6_age_X6_isNoCell : GoodIn wsX6_age (wsV RX6 179 RX6 yX6_isNoCell wsX6_isNoCell) := goodIn_app (goodIn_of _ (by decide +kernel)) ggX6_age_X6_isNoCell
set_option maxRecDepth 20000 in
theorem ggX6_isArch_X6_isNoCell : GoodIn wsX6_isArch wsX6_isNoCell := goodIn_r _ [7, 1, 2, 8, 9, 10, 6, 11, 12, 13, 14, 15, 16, 17, 18, 19, 20, 21, 22, 23, 24, 25, 26, 27, 28, 29, 30, 31, 32, 33, 34, 35, 36, 37, 38, 39, 40, 41, 42, 43, 44, 45, 46, 47, 48, 49, 50, 51, 52, 62, 63, 64, 65, 66, 67, 68, 69, 70, 71, 72, 73, 74, 75, 76, 77, 78, 79, 80, 81, 82, 83, 84, 85] (by decide +kernel) (by decide +kernel)
set_option maxRecDepth 20000 in
theorem gX6_isArch_X6_isNoCell : GoodIn wsX6_isArch (wsV RX6 179 RX6 yX6_isNoCell wsX6_isNoCell) := goodIn_app (goodIn_of _ (by decide +kernel)) ggX6_isArch_X6_isNoCell
set_option maxRecDepth 20000 in
theorem ggX6_fell_X6_isNoSite : GoodIn wsX6_fell wsX6_isNoSite := goodIn_r _ [7, 1, 8, 9, 10, 11, 12, 13, 14, 15, 6, 16, 17, 18, 19, 20, 21, 39, 40, 41, 42, 43, 44, 45, 46, 47, 48, 49, 60, 61, 62] (by decide +kernel) (by decide +kernel)
set_option maxRecDepth 20000 in
theorem gX6_fell_X6_isNoSite : GoodIn wsX6_fell (wsV RX6 202 RX6 yX6_isNoSite wsX6_isNoSite) := goodIn_app (goodIn_of _ (by decide +kernel)) ggX6_fell_X6_isNoSite
set_option maxRecDepth 20000 in
theorem ggX6_lastFell_X6_isNoSite : GoodIn wsX6_lastFell wsX6_isNoSite := goodIn_r _ [7, 1, 8, 9, 10, 11, 12, 13, 14, 15, 6, 16, 17, 18, 19, 20, 21, 39, 40, 41, 42, 43, 44, 45, 46, 47, 48, 49, 60, 61, 62] (by decide +kernel) (by decide +kernel)
set_option maxRecDepth 20000 in
theorem gX6_lastFell_X6_isNoSite : GoodIn wsX6_lastFell (wsV RX6 202 RX6 yX6_isNoSite wsX6_isNoSite) := goodIn_app (goodIn_of _ (by decide +kernel)) ggX6_lastFell_X6_isNoSite
set_option maxRecDepth 20000 in
theorem ggX6_lastFell_X6_isWrong : GoodIn wsX6_lastFell wsX6_isWrong := goodIn_r _ [20, 21, 39, 40, 41, 42, 43, 44, 45, 46, 47, 48, 49] (by decide +kernel) (by decide +kernel)
set_option maxRecDepth 20000 in
theorem gX6_lastFell_X6_isWrong : GoodIn wsX6_lastFell (wsV RX6 61 RX6 yX6_isWrong wsX6_isWrong) := goodIn_app (goodIn_of _ (by decide +kernel)) ggX6_lastFell_X6_isWrong
set_option maxRecDepth 20000 in
theorem ggX6_cover_X6_isNoSite : GoodIn wsX6_cover wsX6_isNoSite := goodIn_r _ [8, 1, 9, 10, 11, 12, 13, 14, 15, 16, 7, 17, 18, 19, 20, 21, 22, 40, 41, 42, 43, 44, 45, 46, 47, 48, 49, 50, 61, 62, 63] (by decide +kernel) (by decide +kernel)
set_option maxRecDepth 20000 in
theorem gX6_cover_X6_isNoSite : GoodIn wsX6_cover (wsV RX6 202 RX6 yX6_isNoSite wsX6_isNoSite) := goodIn_app (goodIn_of _ (by decide +kernel)) ggX6_cover_X6_isNoSite
set_option maxRecDepth 20000 in
theorem ggX6_lamp_X6_isNoCell : GoodIn wsX6_lamp wsX6_isNoCell := goodIn_r _ [8, 1, 2, 9, 10, 11, 7, 12, 13, 14, 15, 16, 17, 18, 19, 20, 21, 22, 23, 24, 25, 26, 27, 28, 29, 30, 31, 32, 33, 34, 35, 36, 37, 38, 39, 40, 41, 42, 43, 44, 45, 46, 47, 48, 49, 50, 51, 52, 53, 54, 55, 56, 57, 58, 59, 60, 61, 62, 63, 64, 80, 81, 82, 65, 66, 67, 68, 69, 70, 71, 72, 73, 74] (by decide +kernel) (by decide +kernel)
set_option maxRecDepth 20000 in
theorem gX6_lamp_X6_isNoCell : GoodIn wsX6_lamp (wsV RX6 179 RX6 yX6_isNoCell wsX6_isNoCell) := goodIn_app (goodIn_of _ (by decide +kernel)) ggX6_lamp_X6_isNoCell
set_option maxRecDepth 20000 in
theorem ggX6_lamp_X6_isWrong : GoodIn wsX6_lamp wsX6_isWrong := goodIn_r _ [27, 28, 54, 55, 56, 57, 58, 59, 60, 61, 62, 63, 64] (by decide +kernel) (by decide +kernel)
set_option maxRecDepth 20000 in
theorem gX6_lamp_X6_isWrong : GoodIn wsX6_lamp (wsV RX6 61 RX6 yX6_isWrong wsX6_isWrong) := goodIn_app (goodIn_of _ (by decide +kernel)) ggX6_lamp_X6_isWrong
set_option maxRecDepth 20000 in
theorem ggX6_lightBits_X6_isNoPlace : GoodIn wsX6_lightBits wsX6_isNoPlace := goodIn_r _ [7, 1, 8, 9, 10, 11, 12, 13, 14, 15, 16, 17, 6, 18, 19, 20, 21, 22, 23, 70, 71, 72, 73, 74, 75, 76, 77, 78, 79, 80, 96, 97, 98] (by decide +kernel) (by decide +kernel)
set_option maxRecDepth 20000 in
theorem gX6_lightBits_X6_isNoPlace : GoodIn wsX6_lightBits (wsV RX6 145 RX6 yX6_isNoPlace wsX6_isNoPlace) := goodIn_app (goodIn_of _ (by decide +kernel)) ggX6_lightBits_X6_isNoPlace
set_option maxRecDepth 20000 in
theorem ggX6_isOpen_X6_isNoSite : GoodIn wsX6_isOpen wsX6_isNoSite := goodIn_r _ [7, 1, 8, 9, 10, 11, 12, 13, 14, 15, 6, 16, 17, 18, 19, 20, 21, 89, 90, 91, 92, 93, 94, 95, 96, 97, 98, 99, 100, 101, 102] (by decide +kernel) (by decide +kernel)
set_option maxRecDepth 20000 in
theorem gX6_isOpen_X6_isNoSite : GoodIn wsX6_isOpen (wsV RX6 202 RX6 yX6_isNoSite wsX6_isNoSite) := goodIn_app (goodIn_of _ (by decide +kernel)) ggX6_isOpen_X6_isNoSite
set_option maxRecDepth 20000 in
theorem ggX6_carries_X6_isNoPlace : GoodIn wsX6_carries wsX6_isNoPlace := goodIn_r _ [7, 1, 8, 9, 10, 11, 12, 13, 14, 15, 16, 17, 6, 18, 19, 20, 21, 22, 23, 92, 93, 94, 95, 96, 97, 98, 99, 100, 101, 102, 103, 104, 105] (by decide +kernel) (by decide +kernel)
set_option maxRecDepth 20000 in
theorem gX6_carries_X6_isNoPlace : GoodIn wsX6_carries (wsV RX6 145 RX6 yX6_isNoPlace wsX6_isNoPlace) := goodIn_app (goodIn_of _ (by decide +kernel)) ggX6_carries_X6_isNoPlace
set_option maxRecDepth 20000 in
theorem ggX6_carries_X6_isWrong : GoodIn wsX6_carries wsX6_isWrong := goodIn_r _ [22, 23, 92, 93, 94, 95, 96, 97, 98, 99, 100, 101, 102] (by decide +kernel) (by decide +kernel)
set_option maxRecDepth 20000 in
theorem gX6_carries_X6_isWrong : GoodIn wsX6_carries (wsV RX6 61 RX6 yX6_isWrong wsX6_isWrong) := goodIn_app (goodIn_of _ (by decide +kernel)) ggX6_carries_X6_isWrong
set_option maxRecDepth 20000 in
theorem ggX6_visit_X6_isNoSite : GoodIn wsX6_visit wsX6_isNoSite := goodIn_r _ [9, 2, 10, 11, 12, 13, 14, 15, 16, 17, 8, 18, 19, 20, 21, 22, 23, 91, 92, 93, 94, 95, 96, 97, 98, 99, 100, 101, 112, 113, 114] (by decide +kernel) (by decide +kernel)
set_option maxRecDepth 20000 in
theorem gX6_visit_X6_isNoSite : GoodIn wsX6_visit (wsV RX6 202 RX6 yX6_isNoSite wsX6_isNoSite) := goodIn_app (goodIn_of _ (by decide +kernel)) ggX6_visit_X6_isNoSite
set_option maxRecDepth 20000 in
theorem ggX6_visit_X6_isBetween : GoodIn wsX6_visit wsX6_isBetween := goodIn_r _ [18] (by decide +kernel) (by decide +kernel)
set_option maxRecDepth 20000 in
theorem gX6_visit_X6_isBetween : GoodIn wsX6_visit (va_wsS RX6 46 yX6_isBetween wsX6_isBetween) := goodIn_app (goodIn_of _ (by decide +kernel)) ggX6_visit_X6_isBetween
set_option maxRecDepth 20000 in
theorem ggX6_visit_X6_isWrong : GoodIn wsX6_visit wsX6_isWrong := goodIn_r _ [22, 23, 91, 92, 93, 94, 95, 96, 97, 98, 99, 100, 101] (by decide +kernel) (by decide +kernel)
set_option maxRecDepth 20000 in
theorem gX6_visit_X6_isWrong : GoodIn wsX6_visit (wsV RX6 61 RX6 yX6_isWrong wsX6_isWrong) := goodIn_app (goodIn_of _ (by decide +kernel)) ggX6_visit_X6_isWrong
set_option maxRecDepth 20000 in
theorem ggX6_squareBits_X6_isBetween : GoodIn wsX6_squareBits wsX6_isBetween := goodIn_r _ [11] (by decide +kernel) (by decide +kernel)
set_option maxRecDepth 20000 in
theorem gX6_squareBits_X6_isBetween : GoodIn wsX6_squareBits (va_wsS RX6 46 yX6_isBetween wsX6_isBetween) := goodIn_app (goodIn_of _ (by decide +kernel)) ggX6_squareBits_X6_isBetween
set_option maxRecDepth 20000 in
theorem ggX6_squareBits_X6_isWrong : GoodIn wsX6_squareBits wsX6_isWrong := goodIn_r _ [15, 16, 34, 35, 36, 37, 38, 39, 40, 41, 42, 43, 44] (by decide +kernel) (by decide +kernel)
set_option maxRecDepth 20000 in
theorem gX6_squareBits_X6_isWrong : GoodIn wsX6_squareBits (wsV RX6 61 RX6 yX6_isWrong wsX6_isWrong) := goodIn_app (goodIn_of _ (by decide +kernel)) ggX6_squareBits_X6_isWrong
set_option maxRecDepth 20000 in
theorem ggX6_squareBits_X6_warmthOf : GoodIn wsX6_squareBits wsX6_warmthOf := goodIn_ca (goodIn_r _ [20, 21, 34, 35, 36, 37, 38, 39, 40, 41, 42, 43, 44] (by decide +kernel) (by decide +kernel)) (goodIn_sub (fun _ h => (List.mem_cons_of_mem _ (List.mem_append_right _ h))) (by decide +kernel))
set_option maxRecDepth 20000 in
theorem gX6_squareBits_X6_warmthOf : GoodIn wsX6_squareBits (wsV RX6 67 RX6 yX6_warmthOf wsX6_warmthOf) := goodIn_app (goodIn_of _ (by decide +kernel)) ggX6_squareBits_X6_warmthOf
set_option maxRecDepth 20000 in
theorem ggX6_squareBits_Jxe99ae_doubleToLongBits_ccdee : GoodIn wsX6_squareBits wsJxe99ae_doubleToLongBits_ccdee := goodIn_r _ [25, 26, 27, 28, 29, 30, 31, 32, 24, 33] (by decide +kernel) (by decide +kernel)
set_option maxRecDepth 20000 in
theorem gX6_squareBits_Jxe99ae_doubleToLongBits_ccdee : GoodIn wsX6_squareBits (va_wsS RX6 246 yJxe99ae_doubleToLongBits_ccdee wsJxe99ae_doubleToLongBits_ccdee) := goodIn_app (goodIn_of _ (by decide +kernel)) ggX6_squareBits_Jxe99ae_doubleToLongBits_ccdee
set_option maxRecDepth 20000 in
theorem ggX6_plan_X6_isNoPlace : GoodIn wsX6_plan wsX6_isNoPlace := goodIn_r _ [7, 1, 8, 9, 10, 11, 12, 13, 14, 15, 16, 17, 6, 18, 19, 20, 21, 22, 23, 41, 42, 43, 44, 45, 46, 47, 48, 49, 50, 51, 62, 63, 64] (by decide +kernel) (by decide +kernel)
set_option maxRecDepth 20000 in
theorem gX6_plan_X6_isNoPlace : GoodIn wsX6_plan (wsV RX6 145 RX6 yX6_isNoPlace wsX6_isNoPlace) := goodIn_app (goodIn_of _ (by decide +kernel)) ggX6_plan_X6_isNoPlace
set_option maxRecDepth 20000 in
theorem ggX6_carve_X6_isNoPlace : GoodIn wsX6_carve wsX6_isNoPlace := goodIn_r _ [9, 1, 10, 11, 12, 13, 14, 15, 16, 17, 18, 19, 8, 20, 21, 22, 23, 24, 25, 106, 107, 108, 109, 110, 111, 112, 113, 114, 115, 116, 132, 133, 134] (by decide +kernel) (by decide +kernel)
set_option maxRecDepth 20000 in
theorem gX6_carve_X6_isNoPlace : GoodIn wsX6_carve (wsV RX6 145 RX6 yX6_isNoPlace wsX6_isNoPlace) := goodIn_app (goodIn_of _ (by decide +kernel)) ggX6_carve_X6_isNoPlace
set_option maxRecDepth 20000 in
theorem ggX6_carve_X6_isBetween : GoodIn wsX6_carve wsX6_isBetween := goodIn_r _ [20] (by decide +kernel) (by decide +kernel)
set_option maxRecDepth 20000 in
theorem gX6_carve_X6_isBetween : GoodIn wsX6_carve (va_wsS RX6 46 yX6_isBetween wsX6_isBetween) := goodIn_app (goodIn_of _ (by decide +kernel)) ggX6_carve_X6_isBetween
set_option maxRecDepth 20000 in
theorem ggX6_carve_X6_isWrong : GoodIn wsX6_carve wsX6_isWrong := goodIn_r _ [24, 25, 106, 107, 108, 109, 110, 111, 112, 113, 114, 115, 116] (by decide +kernel) (by decide +kernel)
set_option maxRecDepth 20000 in
theorem gX6_carve_X6_isWrong : GoodIn wsX6_carve (wsV RX6 61 RX6 yX6_isWrong wsX6_isWrong) := goodIn_app (goodIn_of _ (by decide +kernel)) ggX6_carve_X6_isWrong
set_option maxRecDepth 20000 in
theorem ggX6_carve_X6_warmthOf : GoodIn wsX6_carve wsX6_warmthOf := goodIn_ca (goodIn_r _ [46, 47, 106, 107, 108, 109, 110, 111, 112, 113, 114, 115, 116] (by decide +kernel) (by decide +kernel)) (goodIn_sub (fun _ h => (List.mem_cons_of_mem _ (List.mem_append_right _ h))) (by decide +kernel))
set_option maxRecDepth 20000 in
theorem gX6_carve_X6_warmthOf : GoodIn wsX6_carve (wsV RX6 67 RX6 yX6_warmthOf wsX6_warmthOf) := goodIn_app (goodIn_of _ (by decide +kernel)) ggX6_carve_X6_warmthOf
set_option maxRecDepth 20000 in
theorem ggX6_hours_X6_isNoSite : GoodIn wsX6_hours wsX6_isNoSite := goodIn_r _ [7, 1, 8, 9, 10, 11, 12, 13, 14, 15, 6, 16, 17, 18, 19, 20, 21, 39, 40, 41, 42, 43, 44, 45, 46, 47, 48, 49, 60, 61, 62] (by decide +kernel) (by decide +kernel)
set_option maxRecDepth 20000 in
theorem gX6_hours_X6_isNoSite : GoodIn wsX6_hours (wsV RX6 202 RX6 yX6_isNoSite wsX6_isNoSite) := goodIn_app (goodIn_of _ (by decide +kernel)) ggX6_hours_X6_isNoSite
set_option maxRecDepth 20000 in
theorem ggX6_judge_X6_isNoSite : GoodIn wsX6_judge wsX6_isNoSite := goodIn_r _ [9, 1, 10, 11, 12, 13, 14, 15, 16, 17, 8, 18, 19, 20, 21, 22, 23, 49, 50, 51, 52, 53, 54, 55, 56, 57, 58, 59, 70, 71, 72] (by decide +kernel) (by decide +kernel)
set_option maxRecDepth 20000 in
theorem gX6_judge_X6_isNoSite : GoodIn wsX6_judge (wsV RX6 202 RX6 yX6_isNoSite wsX6_isNoSite) := goodIn_app (goodIn_of _ (by decide +kernel)) ggX6_judge_X6_isNoSite
set_option maxRecDepth 20000 in
theorem ggX6_mark_X6_isNoSite : GoodIn wsX6_mark wsX6_isNoSite := goodIn_r _ [7, 1, 8, 9, 10, 11, 12, 13, 14, 15, 6, 16, 17, 18, 19, 20, 21, 39, 40, 41, 42, 43, 44, 45, 46, 47, 48, 49, 60, 61, 62] (by decide +kernel) (by decide +kernel)
set_option maxRecDepth 20000 in
theorem gX6_mark_X6_isNoSite : GoodIn wsX6_mark (wsV RX6 202 RX6 yX6_isNoSite wsX6_isNoSite) := goodIn_app (goodIn_of _ (by decide +kernel)) ggX6_mark_X6_isNoSite
set_option maxRecDepth 20000 in
theorem ggX6_mark_X6_isWrong : GoodIn wsX6_mark wsX6_isWrong := goodIn_r _ [20, 21, 39, 40, 41, 42, 43, 44, 45, 46, 47, 48, 49] (by decide +kernel) (by decide +kernel)
set_option maxRecDepth 20000 in
theorem gX6_mark_X6_isWrong : GoodIn wsX6_mark (wsV RX6 61 RX6 yX6_isWrong wsX6_isWrong) := goodIn_app (goodIn_of _ (by decide +kernel)) ggX6_mark_X6_isWrong
set_option maxRecDepth 20000 in
theorem ggX6_take_X6_isNoCell : GoodIn wsX6_take wsX6_isNoCell := goodIn_r _ [8, 1, 2, 9, 10, 11, 7, 12, 13, 14, 15, 16, 17, 18, 19, 20, 21, 22, 23, 24, 25, 26, 27, 28, 29, 30, 31, 32, 33, 34, 35, 36, 37, 38, 39, 40, 41, 42, 43, 44, 45, 46, 47, 48, 49, 50, 51, 52, 53, 99, 100, 101, 102, 103, 104, 105, 106, 107, 108, 109, 125, 126, 127, 110, 111, 112, 113, 114, 115, 116, 117, 118, 119] (by decide +kernel) (by decide +kernel)
set_option maxRecDepth 20000 in
theorem gX6_take_X6_isNoCell : GoodIn wsX6_take (wsV RX6 179 RX6 yX6_isNoCell wsX6_isNoCell) := goodIn_app (goodIn_of _ (by decide +kernel)) ggX6_take_X6_isNoCell
set_option maxRecDepth 20000 in
theorem ggX6_take_X6_warmthOf : GoodIn wsX6_take wsX6_warmthOf := goodIn_ca (goodIn_r _ [57, 58, 99, 100, 101, 102, 103, 104, 105, 106, 107, 108, 109] (by decide +kernel) (by decide +kernel)) (goodIn_sub (fun _ h => (List.mem_cons_of_mem _ (List.mem_append_right _ h))) (by decide +kernel))
set_option maxRecDepth 20000 in
theorem gX6_take_X6_warmthOf : GoodIn wsX6_take (wsV RX6 67 RX6 yX6_warmthOf wsX6_warmthOf) := goodIn_app (goodIn_of _ (by decide +kernel)) ggX6_take_X6_warmthOf
set_option maxRecDepth 20000 in
theorem ggX6_take_X6_isWrong : GoodIn wsX6_take wsX6_isWrong := goodIn_r _ [27, 28, 99, 100, 101, 102, 103, 104, 105, 106, 107, 108, 109] (by decide +kernel) (by decide +kernel)
set_option maxRecDepth 20000 in
theorem gX6_take_X6_isWrong : GoodIn wsX6_take (wsV RX6 61 RX6 yX6_isWrong wsX6_isWrong) := goodIn_app (goodIn_of _ (by decide +kernel)) ggX6_take_X6_isWrong
set_option maxRecDepth 20000 in
theorem ggX6_count_X6_isNoSite : GoodIn wsX6_count wsX6_isNoSite := goodIn_r _ [7, 1, 8, 9, 10, 11, 12, 13, 14, 15, 6, 16, 17, 18, 19, 20, 21, 45, 46, 47, 48, 49, 50, 51, 52, 53, 54, 55, 56, 57, 58] (by decide +kernel) (by decide +kernel)
set_option maxRecDepth 20000 in
theorem gX6_count_X6_isNoSite : GoodIn wsX6_count (wsV RX6 202 RX6 yX6_isNoSite wsX6_isNoSite) := goodIn_app (goodIn_of _ (by decide +kernel)) ggX6_count_X6_isNoSite
set_option maxRecDepth 20000 in
theorem ggX6_openShare_Jx4a65c_iterator_32c93 : GoodIn wsX6_openShare wsJx4a65c_iterator_32c93 := goodIn_r _ [7, 8, 9, 10, 11, 12, 13, 14, 15, 16, 17, 18, 19, 20, 21, 114, 115, 116, 117, 118, 119, 120] (by decide +kernel) (by decide +kernel)
set_option maxRecDepth 20000 in
theorem gX6_openShare_Jx4a65c_iterator_32c93_f109Jx4a65c : GoodIn wsX6_openShare (va_wsF RX6 109 RJx4a65c ⟨"java/util/List", "iterator", "()Ljava/util/Iterator;"⟩ yJx4a65c_iterator_32c93 wsJx4a65c_iterator_32c93) := goodIn_app (goodIn_of _ (by decide +kernel)) ggX6_openShare_Jx4a65c_iterator_32c93
set_option maxRecDepth 20000 in
theorem ggX6_openShare_Jx35411_hasNext_aae02 : GoodIn wsX6_openShare wsJx35411_hasNext_aae02 := goodIn_r _ [25, 26, 14, 114, 115, 116, 117, 118, 119, 120] (by decide +kernel) (by decide +kernel)
set_option maxRecDepth 20000 in
theorem gX6_openShare_Jx35411_hasNext_aae02_f115Jx35411 : GoodIn wsX6_openShare (va_wsF RX6 115 RJx35411 ⟨"java/util/Iterator", "hasNext", "()Z"⟩ yJx35411_hasNext_aae02 wsJx35411_hasNext_aae02) := goodIn_app (goodIn_of _ (by decide +kernel)) ggX6_openShare_Jx35411_hasNext_aae02
set_option maxRecDepth 20000 in
theorem ggX6_openShare_Jx4a65c_isEmpty_aae02 : GoodIn wsX6_openShare wsJx4a65c_isEmpty_aae02 := goodIn_r _ [92, 93, 118, 119, 120] (by decide +kernel) (by decide +kernel)
set_option maxRecDepth 20000 in
theorem gX6_openShare_Jx4a65c_isEmpty_aae02_f272Jx4a65c : GoodIn wsX6_openShare (va_wsF RX6 272 RJx4a65c ⟨"java/util/List", "isEmpty", "()Z"⟩ yJx4a65c_isEmpty_aae02 wsJx4a65c_isEmpty_aae02) := goodIn_app (goodIn_of _ (by decide +kernel)) ggX6_openShare_Jx4a65c_isEmpty_aae02
set_option maxRecDepth 20000 in
theorem ggX6_openShare_X6_isWrong : GoodIn wsX6_openShare wsX6_isWrong := goodIn_r _ [97, 98, 103, 104, 105, 106, 107, 108, 109, 110, 111, 112, 113] (by decide +kernel) (by decide +kernel)
set_option maxRecDepth 20000 in
theorem gX6_openShare_X6_isWrong : GoodIn wsX6_openShare (wsV RX6 61 RX6 yX6_isWrong wsX6_isWrong) := goodIn_app (goodIn_of _ (by decide +kernel)) ggX6_openShare_X6_isWrong
set_option maxRecDepth 20000 in
theorem ggX6_openShare_Jx4a65c_size_8abf5 : GoodIn wsX6_openShare wsJx4a65c_size_8abf5 := goodIn_r _ [102, 93, 118, 119, 120] (by decide +kernel) (by decide +kernel)
set_option maxRecDepth 20000 in
theorem gX6_openShare_Jx4a65c_size_8abf5_f130Jx4a65c : GoodIn wsX6_openShare (va_wsF RX6 130 RJx4a65c ⟨"java/util/List", "size", "()I"⟩ yJx4a65c_size_8abf5 wsJx4a65c_size_8abf5) := goodIn_app (goodIn_of _ (by decide +kernel)) ggX6_openShare_Jx4a65c_size_8abf5
set_option maxRecDepth 20000 in
theorem ggX6_meanCreep_X6_isNoSite : GoodIn wsX6_meanCreep wsX6_isNoSite := goodIn_r _ [7, 1, 8, 9, 10, 11, 12, 13, 14, 15, 6, 16, 17, 18, 19, 20, 21, 45, 46, 47, 48, 49, 50, 51, 52, 53, 54, 55, 71, 72, 73] (by decide +kernel) (by decide +kernel)
set_option maxRecDepth 20000 in
theorem gX6_meanCreep_X6_isNoSite : GoodIn wsX6_meanCreep (wsV RX6 202 RX6 yX6_isNoSite wsX6_isNoSite) := goodIn_app (goodIn_of _ (by decide +kernel)) ggX6_meanCreep_X6_isNoSite
set_option maxRecDepth 20000 in
theorem ggX6_meanCreep_X6_isWrong : GoodIn wsX6_meanCreep wsX6_isWrong := goodIn_r _ [20, 21, 45, 46, 47, 48, 49, 50, 51, 52, 53, 54, 55] (by decide +kernel) (by decide +kernel)
set_option maxRecDepth 20000 in
theorem gX6_meanCreep_X6_isWrong : GoodIn wsX6_meanCreep (wsV RX6 61 RX6 yX6_isWrong wsX6_isWrong) := goodIn_app (goodIn_of _ (by decide +kernel)) ggX6_meanCreep_X6_isWrong
set_option maxRecDepth 20000 in
theorem ggX6_checksum_Jx4a65c_iterator_32c93 : GoodIn wsX6_checksum wsJx4a65c_iterator_32c93 := goodIn_r _ [13, 14, 15, 16, 17, 18, 19, 20, 21, 22, 23, 24, 25, 26, 27, 68, 69, 70, 71, 72, 73, 74] (by decide +kernel) (by decide +kernel)
set_option maxRecDepth 20000 in
theorem gX6_checksum_Jx4a65c_iterator_32c93_f109Jx4a65c : GoodIn wsX6_checksum (va_wsF RX6 109 RJx4a65c ⟨"java/util/List", "iterator", "()Ljava/util/Iterator;"⟩ yJx4a65c_iterator_32c93 wsJx4a65c_iterator_32c93) := goodIn_app (goodIn_of _ (by decide +kernel)) ggX6_checksum_Jx4a65c_iterator_32c93
set_option maxRecDepth 20000 in
theorem ggX6_checksum_Jx35411_hasNext_aae02 : GoodIn wsX6_checksum wsJx35411_hasNext_aae02 := goodIn_r _ [31, 32, 20, 68, 69, 70, 71, 72, 73, 74] (by decide +kernel) (by decide +kernel)
set_option maxRecDepth 20000 in
theorem gX6_checksum_Jx35411_hasNext_aae02_f115Jx35411 : GoodIn wsX6_checksum (va_wsF RX6 115 RJx35411 ⟨"java/util/Iterator", "hasNext", "()Z"⟩ yJx35411_hasNext_aae02 wsJx35411_hasNext_aae02) := goodIn_app (goodIn_of _ (by decide +kernel)) ggX6_checksum_Jx35411_hasNext_aae02
set_option maxRecDepth 20000 in
theorem ggJxe99ae_doubleToLongBits_ccdee_Jxe99ae_isNaN_b9ae7 : GoodIn wsJxe99ae_doubleToLongBits_ccdee wsJxe99ae_isNaN_b9ae7 := goodIn_r _ [9] (by decide +kernel) (by decide +kernel)
set_option maxRecDepth 20000 in
theorem gJxe99ae_doubleToLongBits_ccdee_Jxe99ae_isNaN_b9ae7 : GoodIn wsJxe99ae_doubleToLongBits_ccdee (va_wsS RJxe99ae 122 yJxe99ae_isNaN_b9ae7 wsJxe99ae_isNaN_b9ae7) := goodIn_app (goodIn_of _ (by decide +kernel)) ggJxe99ae_doubleToLongBits_ccdee_Jxe99ae_isNaN_b9ae7
set_option maxRecDepth 20000 in
theorem ggJxc12de_init_da8c8_Jxa1e45_init_da8c8 : GoodIn wsJxc12de_init_da8c8 wsJxa1e45_init_da8c8 := goodIn_r _ [5, 6, 7, 8] (by decide +kernel) (by decide +kernel)
set_option maxRecDepth 20000 in
theorem gJxc12de_init_da8c8_Jxa1e45_init_da8c8 : GoodIn wsJxc12de_init_da8c8 (wsJxa1e45_init_da8c8) := ggJxc12de_init_da8c8_Jxa1e45_init_da8c8
set_option maxRecDepth 20000 in
theorem ggJx4a65c_init_da8c8_Jxc12de_init_da8c8 : GoodIn wsJx4a65c_init_da8c8 wsJxc12de_init_da8c8 := goodIn_r _ [6, 7, 8, 9, 10, 11, 12, 13, 14, 15, 16, 17] (by decide +kernel) (by decide +kernel)
set_option maxRecDepth 20000 in
theorem gJx4a65c_init_da8c8_Jxc12de_init_da8c8 : GoodIn wsJx4a65c_init_da8c8 (wsJxc12de_init_da8c8) := ggJx4a65c_init_da8c8_Jxc12de_init_da8c8
set_option maxRecDepth 20000 in
theorem ggJx4a65c_grow_d5877_Jx4a65c_grow_92f84 : GoodIn wsJx4a65c_grow_d5877 wsJx4a65c_grow_92f84 := goodIn_r _ [6, 7, 8, 9, 10, 11, 12, 13, 14, 15, 16, 17, 18, 19, 20, 21, 22, 23, 24, 25, 26, 27, 28, 29, 30, 31, 32, 33, 34, 35, 36, 37, 38, 39, 40, 41, 42, 43, 44, 45] (by decide +kernel) (by decide +kernel)
set_option maxRecDepth 20000 in
theorem gJx4a65c_grow_d5877_Jx4a65c_grow_92f84 : GoodIn wsJx4a65c_grow_d5877 (wsV RJx4a65c 69 RJx4a65c yJx4a65c_grow_92f84 wsJx4a65c_grow_92f84) := goodIn_app (goodIn_of _ (by decide +kernel)) ggJx4a65c_grow_d5877_Jx4a65c_grow_92f84
set_option maxRecDepth 20000 in
theorem ggJx4a65c_add_72be8_Jx4a65c_grow_d5877 : GoodIn wsJx4a65c_add_72be8 wsJx4a65c_grow_d5877 := goodIn_r _ [6, 1, 7, 8, 9, 5, 10, 11, 12, 13, 14, 15, 16, 17, 18, 19, 20, 21, 22, 23, 24, 25, 26, 27, 28, 29, 30, 31, 32, 33, 34, 35, 36, 37, 38, 39, 40, 41, 42, 43, 44, 45, 46, 47, 48, 49] (by decide +kernel) (by decide +kernel)
set_option maxRecDepth 20000 in
theorem gJx4a65c_add_72be8_Jx4a65c_grow_d5877 : GoodIn wsJx4a65c_add_72be8 (wsV RJx4a65c 129 RJx4a65c yJx4a65c_grow_d5877 wsJx4a65c_grow_d5877) := goodIn_app (goodIn_of _ (by decide +kernel)) ggJx4a65c_add_72be8_Jx4a65c_grow_d5877
set_option maxRecDepth 20000 in
theorem ggJx4a65c_add_9ea2d_Jx4a65c_add_72be8 : GoodIn wsJx4a65c_add_9ea2d wsJx4a65c_add_72be8 := goodIn_r _ [9, 4, 10, 11, 12, 8, 13, 14, 15, 16, 17, 3, 18, 19, 20, 21, 22, 23, 24, 25, 26, 27, 28, 29, 30, 31, 32, 33, 34, 35, 36, 37, 38, 39, 40, 41, 42, 43, 44, 45, 46, 47, 48, 49, 50, 51, 52, 53, 54, 55] (by decide +kernel) (by decide +kernel)
set_option maxRecDepth 20000 in
theorem gJx4a65c_add_9ea2d_Jx4a65c_add_72be8 : GoodIn wsJx4a65c_add_9ea2d (wsV RJx4a65c 131 RJx4a65c yJx4a65c_add_72be8 wsJx4a65c_add_72be8) := goodIn_app (goodIn_of _ (by decide +kernel)) ggJx4a65c_add_9ea2d_Jx4a65c_add_72be8
set_option maxRecDepth 20000 in
theorem ggJx4a65c_iterator_32c93_Jx35411_init_45d68 : GoodIn wsJx4a65c_iterator_32c93 wsJx35411_init_45d68 := goodIn_r _ [6, 7, 8, 9, 10, 11, 12, 13, 14, 15, 16, 17, 18, 19, 20, 21] (by decide +kernel) (by decide +kernel)
set_option maxRecDepth 20000 in
theorem gJx4a65c_iterator_32c93_Jx35411_init_45d68 : GoodIn wsJx4a65c_iterator_32c93 (wsJx35411_init_45d68) := ggJx4a65c_iterator_32c93_Jx35411_init_45d68
set_option maxRecDepth 20000 in
theorem ggL_weather_X3_weather : GoodIn wsL_weather wsX3_weather := goodIn_ca (goodIn_ca (goodIn_ca (goodIn_r _ [7, 8, 9, 10, 11, 12, 13, 14, 15, 16, 17, 18, 19, 6, 20, 21, 22, 23, 24, 25, 26, 27, 28, 29, 30, 31, 32, 33, 34] (by decide +kernel) (by decide +kernel)) (goodIn_sub (fun _ h => (List.mem_cons_of_mem _ (List.mem_append_left _ (List.mem_append_right _ h)))) (by decide +kernel))) (goodIn_sub (fun _ h => (List.mem_cons_of_mem _ (List.mem_append_right _ h))) (by decide +kernel))) (goodIn_sub (fun _ h => (List.mem_cons_of_mem _ (List.mem_append_left _ (List.mem_append_left _ (List.mem_append_right _ h))))) (by decide +kernel))
set_option maxRecDepth 20000 in
theorem gL_weather_X3_weather : GoodIn wsL_weather (wsV RL 7 RX3 yX3_weather wsX3_weather) := goodIn_app (goodIn_of _ (by decide +kernel)) ggL_weather_X3_weather
set_option maxRecDepth 20000 in
theorem ggL_warmth_X3_warmth : GoodIn wsL_warmth wsX3_warmth := goodIn_ca (goodIn_ca (goodIn_r _ [6, 7, 8, 9, 10, 11, 5, 12, 13, 14, 15, 16, 17, 18, 19, 20, 21, 22, 23, 24, 25, 26, 27, 28, 29, 30, 31, 32, 33] (by decide +kernel) (by decide +kernel)) (goodIn_sub (fun _ h => (List.mem_cons_of_mem _ (List.mem_append_right _ h))) (by decide +kernel))) (goodIn_sub (fun _ h => (List.mem_cons_of_mem _ (List.mem_append_left _ (List.mem_append_right _ h)))) (by decide +kernel))
set_option maxRecDepth 20000 in
theorem gL_warmth_X3_warmth : GoodIn wsL_warmth (wsV RL 17 RX3 yX3_warmth wsX3_warmth) := goodIn_app (goodIn_of _ (by decide +kernel)) ggL_warmth_X3_warmth
set_option maxRecDepth 20000 in
theorem ggL_wet_X3_wet : GoodIn wsL_wet wsX3_wet := goodIn_ca (goodIn_ca (goodIn_r _ [6, 7, 8, 9, 10, 11, 5, 12, 13, 14, 15, 16, 17, 18, 19, 20, 21, 22, 23, 24, 25, 26, 27, 28, 29, 30, 31, 32, 33, 34, 35, 36, 37, 38] (by decide +kernel) (by decide +kernel)) (goodIn_sub (fun _ h => (List.mem_cons_of_mem _ (List.mem_append_right _ h))) (by decide +kernel))) (goodIn_sub (fun _ h => (List.mem_cons_of_mem _ (List.mem_append_left _ (List.mem_append_right _ h)))) (by decide +kernel))
set_option maxRecDepth 20000 in
theorem gL_wet_X3_wet : GoodIn wsL_wet (wsV RL 21 RX3 yX3_wet wsX3_wet) := goodIn_app (goodIn_of _ (by decide +kernel)) ggL_wet_X3_wet
set_option maxRecDepth 20000 in
theorem ggL_go_X3_go : GoodIn wsL_go wsX3_go := goodIn_ca (goodIn_ca (goodIn_ca (goodIn_ca (goodIn_r _ [7, 8, 9, 10, 11, 12, 13, 14, 6, 15, 16, 17, 18, 19, 20, 21, 22, 23, 24, 25, 26, 27, 28, 29, 30, 31, 32, 33, 34, 35, 36, 37, 38, 39, 40, 41, 42, 43, 44, 45, 46, 47, 48, 49, 50, 51, 52, 53, 54, 55, 56, 57, 58, 59, 60, 61, 62, 63, 64, 65, 66, 67, 68, 69, 70, 71, 72, 73, 74, 75, 76, 77, 78, 79, 80, 81, 82, 83, 84, 85, 86, 87, 88, 89, 90, 91, 92, 93, 94, 95, 96, 97, 98, 99, 100, 101, 102, 103, 104, 105, 106, 107, 108, 109, 110, 111, 112, 113, 114, 115, 116, 117, 118, 119, 120, 121, 122, 123, 124, 125, 126, 127, 128, 129, 130, 131, 132, 133, 134, 135, 136, 137, 138, 139, 140, 141, 142, 143, 144, 145, 146, 147, 148, 149, 150, 151, 152, 153, 154, 155, 156, 157, 158, 159, 160, 161, 162, 163, 164, 165, 166, 167, 168, 169, 170, 171, 172, 173] (by decide +kernel) (by decide +kernel)) (goodIn_sub (fun _ h => (List.mem_cons_of_mem _ (List.mem_append_left _ (List.mem_append_left _ (List.mem_append_right _ h))))) (by decide +kernel))) (goodIn_sub (fun _ h => (List.mem_cons_of_mem _ (List.mem_append_left _ (List.mem_append_right _ h)))) (by decide +kernel))) (goodIn_sub (fun _ h => (List.mem_cons_of_mem _ (List.mem_append_left _ (List.mem_append_left _ (List.mem_append_left _ (List.mem_append_right _ h)))))) (by decide +kernel))) (goodIn_sub (fun _ h => (List.mem_cons_of_mem _ (List.mem_append_right _ h))) (by decide +kernel))
set_option maxRecDepth 20000 in
theorem gL_go_X3_go : GoodIn wsL_go (wsV RL 24 RX3 yX3_go wsX3_go) := goodIn_app (goodIn_of _ (by decide +kernel)) ggL_go_X3_go
set_option maxRecDepth 20000 in
theorem ggL_ice_X3_ice : GoodIn wsL_ice wsX3_ice := goodIn_ca (goodIn_ca (goodIn_r _ [6, 7, 8, 9, 10, 11, 12, 5, 13, 14, 15, 16, 17, 18, 19, 20, 21, 22, 23, 24, 25, 26] (by decide +kernel) (by decide +kernel)) (goodIn_sub (fun _ h => (List.mem_cons_of_mem _ (List.mem_append_right _ h))) (by decide +kernel))) (goodIn_sub (fun _ h => (List.mem_cons_of_mem _ (List.mem_append_left _ (List.mem_append_right _ h)))) (by decide +kernel))
set_option maxRecDepth 20000 in
theorem gL_ice_X3_ice : GoodIn wsL_ice (wsV RL 29 RX3 yX3_ice wsX3_ice) := goodIn_app (goodIn_of _ (by decide +kernel)) ggL_ice_X3_ice
set_option maxRecDepth 20000 in
theorem ggL_clear_X3_clear : GoodIn wsL_clear wsX3_clear := goodIn_ca (goodIn_ca (goodIn_r _ [6, 7, 8, 9, 10, 11, 12, 5, 13, 14, 15, 16, 17, 18, 19, 20, 21, 22, 23, 24, 25, 26] (by decide +kernel) (by decide +kernel)) (goodIn_sub (fun _ h => (List.mem_cons_of_mem _ (List.mem_append_right _ h))) (by decide +kernel))) (goodIn_sub (fun _ h => (List.mem_cons_of_mem _ (List.mem_append_left _ (List.mem_append_right _ h)))) (by decide +kernel))
set_option maxRecDepth 20000 in
theorem gL_clear_X3_clear : GoodIn wsL_clear (wsV RL 32 RX3 yX3_clear wsX3_clear) := goodIn_app (goodIn_of _ (by decide +kernel)) ggL_clear_X3_clear
set_option maxRecDepth 20000 in
theorem ggL_bears_X3_bears : GoodIn wsL_bears wsX3_bears := goodIn_ca (goodIn_ca (goodIn_r _ [6, 7, 8, 9, 10, 11, 5, 12, 13, 14, 15, 16, 17, 18, 19, 20, 21, 22, 23, 24, 25, 26, 27, 28, 29, 30, 31, 32] (by decide +kernel) (by decide +kernel)) (goodIn_sub (fun _ h => (List.mem_cons_of_mem _ (List.mem_append_right _ h))) (by decide +kernel))) (goodIn_sub (fun _ h => (List.mem_cons_of_mem _ (List.mem_append_left _ (List.mem_append_right _ h)))) (by decide +kernel))
set_option maxRecDepth 20000 in
theorem gL_bears_X3_bears : GoodIn wsL_bears (wsV RL 35 RX3 yX3_bears wsX3_bears) := goodIn_app (goodIn_of _ (by decide +kernel)) ggL_bears_X3_bears
set_option maxRecDepth 20000 in
theorem ggL_cut_X3_cut : GoodIn wsL_cut wsX3_cut := goodIn_ca (goodIn_ca (goodIn_ca (goodIn_ca (goodIn_r _ [8, 9, 10, 11, 12, 13, 14, 15, 16, 17, 18, 19, 20, 21, 22, 7, 23, 24, 25, 26, 27, 28, 29, 30, 31, 32, 33, 34, 35, 36, 37, 38, 39, 40, 41, 42, 43, 44, 45, 46, 47, 48] (by decide +kernel) (by decide +kernel)) (goodIn_sub (fun _ h => (List.mem_cons_of_mem _ (List.mem_append_left _ (List.mem_append_left _ (List.mem_append_right _ h))))) (by decide +kernel))) (goodIn_sub (fun _ h => (List.mem_cons_of_mem _ (List.mem_append_left _ (List.mem_append_left _ (List.mem_append_left _ (List.mem_append_right _ h)))))) (by decide +kernel))) (goodIn_sub (fun _ h => (List.mem_cons_of_mem _ (List.mem_append_left _ (List.mem_append_right _ h)))) (by decide +kernel))) (goodIn_sub (fun _ h => (List.mem_cons_of_mem _ (List.mem_append_right _ h))) (by decide +kernel))
set_option maxRecDepth 20000 in
theorem gL_cut_X3_cut : GoodIn wsL_cut (wsV RL 39 RX3 yX3_cut wsX3_cut) := goodIn_app (goodIn_of _ (by decide +kernel)) ggL_cut_X3_cut
set_option maxRecDepth 20000 in
theorem ggL_lorries_X3_lorries : GoodIn wsL_lorries wsX3_lorries := goodIn_ca (goodIn_r _ [6, 7, 8, 9, 10, 11, 12, 5, 13, 14, 15, 16, 17, 18, 19, 20, 21, 22, 23, 24, 25, 26, 27, 28, 29, 30, 31] (by decide +kernel) (by decide +kernel)) (goodIn_sub (fun _ h => (List.mem_cons_of_mem _ (List.mem_append_right _ h))) (by decide +kernel))
set_option maxRecDepth 20000 in
theorem gL_lorries_X3_lorries : GoodIn wsL_lorries (wsV RL 43 RX3 yX3_lorries wsX3_lorries) := goodIn_app (goodIn_of _ (by decide +kernel)) ggL_lorries_X3_lorries
set_option maxRecDepth 20000 in
theorem ggL_site_X3_site : GoodIn wsL_site wsX3_site := goodIn_ca (goodIn_ca (goodIn_r _ [6, 7, 8, 9, 10, 11, 12, 13, 14, 15, 16, 17, 18, 19, 20, 21, 22, 23, 24, 25, 26, 27, 28, 29, 30, 31, 32, 33, 34, 35, 36, 37, 38, 39, 40, 41, 42, 43, 44, 45, 46, 47, 48, 49, 50, 51, 52, 53, 54, 55, 56, 57, 58, 59, 60, 61, 62] (by decide +kernel) (by decide +kernel)) (goodIn_sub (fun _ h => (List.mem_cons_of_mem _ (List.mem_append_right _ h))) (by decide +kernel))) (goodIn_sub (fun _ h => (List.mem_cons_of_mem _ (List.mem_append_left _ (List.mem_append_right _ h)))) (by decide +kernel))
set_option maxRecDepth 20000 in
theorem gL_site_X3_site : GoodIn wsL_site (wsV RL 46 RX3 yX3_site wsX3_site) := goodIn_app (goodIn_of _ (by decide +kernel)) ggL_site_X3_site
set_option maxRecDepth 20000 in
theorem ggL_put_X3_put : GoodIn wsL_put wsX3_put := goodIn_ca (goodIn_ca (goodIn_ca (goodIn_ca (goodIn_ca (goodIn_r _ [9, 10, 11, 12, 13, 14, 15, 16, 17, 18, 19, 20, 21, 8, 22, 23, 24, 25, 26, 27, 28, 29, 30, 31, 32, 33, 34, 35, 36, 37, 38, 39, 40, 41, 42, 43, 44, 45, 46, 47, 48, 49, 50, 51, 52, 53, 54, 55, 56, 57, 58, 59, 60, 61, 62, 63, 64, 65, 66, 67, 68, 69, 70, 71, 72, 73, 74, 75, 76, 77, 78, 79, 80, 81, 82, 83, 84, 85, 86, 87, 88, 89, 90, 91, 92, 93, 94, 95, 96, 97, 98, 99, 100, 101, 102, 103, 104, 105, 106, 107, 108, 109, 110, 111, 112, 113, 114, 115, 116, 117, 118, 119, 120, 121, 122, 123, 124, 125, 126, 127, 128, 129, 130, 131, 132, 133, 134, 135, 136, 137, 138, 139, 140, 141, 142, 143, 144, 145, 146, 147, 148, 149, 150, 151, 152, 153, 154, 155, 156, 157, 158, 159, 160, 161] (by decide +kernel) (by decide +kernel)) (goodIn_sub (fun _ h => (List.mem_cons_of_mem _ (List.mem_append_left _ (List.mem_append_left _ (List.mem_append_left _ (List.mem_append_right _ h)))))) (by decide +kernel))) (goodIn_sub (fun _ h => (List.mem_cons_of_mem _ (List.mem_append_left _ (List.mem_append_left _ (List.mem_append_right _ h))))) (by decide +kernel))) (goodIn_sub (fun _ h => (List.mem_cons_of_mem _ (List.mem_append_left _ (List.mem_append_right _ h)))) (by decide +kernel))) (goodIn_sub (fun _ h => (List.mem_cons_of_mem _ (List.mem_append_right _ h))) (by decide +kernel))) (goodIn_sub (fun _ h => (List.mem_cons_of_mem _ (List.mem_append_left _ (List.mem_append_left _ (List.mem_append_left _ (List.mem_append_left _ (List.mem_append_right _ h))))))) (by decide +kernel))
set_option maxRecDepth 20000 in
theorem gL_put_X3_put : GoodIn wsL_put (wsV RL 50 RX3 yX3_put wsX3_put) := goodIn_app (goodIn_of _ (by decide +kernel)) ggL_put_X3_put
set_option maxRecDepth 20000 in
theorem ggL_at_X3_at : GoodIn wsL_at wsX3_at := goodIn_ca (goodIn_ca (goodIn_r _ [6, 7, 8, 9, 10, 11, 12, 5, 13, 14, 15, 16, 17, 18, 19, 20, 21, 22, 23, 24, 25, 26, 27, 28, 29, 30, 31, 32, 33, 34, 35, 36, 37, 38, 39, 40, 41, 42, 43, 44, 45, 46, 47, 48, 49, 50] (by decide +kernel) (by decide +kernel)) (goodIn_sub (fun _ h => (List.mem_cons_of_mem _ (List.mem_append_right _ h))) (by decide +kernel))) (goodIn_sub (fun _ h => (List.mem_cons_of_mem _ (List.mem_append_left _ (List.mem_append_right _ h)))) (by decide +kernel))
set_option maxRecDepth 20000 in
theorem gL_at_X3_at : GoodIn wsL_at (wsV RL 56 RX3 yX3_at wsX3_at) := goodIn_app (goodIn_of _ (by decide +kernel)) ggL_at_X3_at
set_option maxRecDepth 20000 in
theorem ggL_mass_X3_mass : GoodIn wzL_mass wzX3_mass := goodIn_ca (goodIn_ca (goodIn_r _ [7, 8, 9, 10, 11, 12, 13, 14, 15, 6, 16, 17, 18, 19, 20, 21, 22, 23, 24, 25, 26, 27, 28, 29, 30, 31, 32, 33, 34, 35, 36, 37, 38, 39, 40, 41, 42, 43, 44, 45, 46, 47, 48, 49, 50, 51, 52, 53, 54, 55, 56, 57, 58, 59] (by decide +kernel) (by decide +kernel)) (goodIn_sub (fun _ h => (List.mem_cons_of_mem _ (List.mem_append_right _ h))) (by decide +kernel))) (goodIn_sub (fun _ h => (List.mem_cons_of_mem _ (List.mem_append_left _ (List.mem_append_right _ h)))) (by decide +kernel))
set_option maxRecDepth 20000 in
theorem gL_mass_X3_mass : GoodIn wzL_mass (wsV RL 60 RX3 yX3_mass wzX3_mass) := goodIn_app (goodIn_of _ (by decide +kernel)) ggL_mass_X3_mass
set_option maxRecDepth 20000 in
theorem ggL_load_X3_load : GoodIn wzL_load wzX3_load := goodIn_ca (goodIn_ca (goodIn_r _ [7, 8, 9, 10, 11, 12, 13, 14, 15, 6, 16, 17, 18, 19, 20, 21, 22, 23, 24, 25, 26, 27, 28, 29, 30, 31, 32, 33, 34, 35, 36, 37, 38, 39, 40, 41, 42, 43, 44, 45, 46, 47, 48, 49, 50, 51, 52, 53, 54, 55, 56, 57, 58, 59, 60, 61, 62, 63, 64, 65, 66, 67, 68, 69, 70, 71, 72, 73, 74] (by decide +kernel) (by decide +kernel)) (goodIn_sub (fun _ h => (List.mem_cons_of_mem _ (List.mem_append_right _ h))) (by decide +kernel))) (goodIn_sub (fun _ h => (List.mem_cons_of_mem _ (List.mem_append_left _ (List.mem_append_right _ h)))) (by decide +kernel))
set_option maxRecDepth 20000 in
theorem gL_load_X3_load : GoodIn wzL_load (wsV RL 66 RX3 yX3_load wzX3_load) := goodIn_app (goodIn_of _ (by decide +kernel)) ggL_load_X3_load
set_option maxRecDepth 20000 in
theorem ggL_strength_X3_strength : GoodIn wzL_strength wzX3_strength := goodIn_ca (goodIn_ca (goodIn_r _ [7, 8, 9, 10, 11, 12, 13, 14, 15, 16, 6, 17, 18, 19, 20, 21, 22, 23, 24, 25, 26, 27, 28, 29, 30, 31, 32, 33, 34, 35, 36, 37, 38, 39, 40, 41, 42, 43, 44, 45, 46, 47, 48, 49, 50, 51, 52, 53, 54, 55, 56, 57, 58, 59, 60, 61, 62, 63, 64, 65, 66, 67, 68, 69, 70, 71, 72, 73, 74, 75, 76, 77, 78, 79, 80, 81, 82, 83, 84, 85, 86, 87, 88] (by decide +kernel) (by decide +kernel)) (goodIn_sub (fun _ h => (List.mem_cons_of_mem _ (List.mem_append_right _ h))) (by decide +kernel))) (goodIn_sub (fun _ h => (List.mem_cons_of_mem _ (List.mem_append_left _ (List.mem_append_right _ h)))) (by decide +kernel))
set_option maxRecDepth 20000 in
theorem gL_strength_X3_strength : GoodIn wzL_strength (wsV RL 69 RX3 yX3_strength wzX3_strength) := goodIn_app (goodIn_of _ (by decide +kernel)) ggL_strength_X3_strength
set_option maxRecDepth 20000 in
theorem ggL_creep_X3_creep : GoodIn wzL_creep wzX3_creep := goodIn_ca (goodIn_ca (goodIn_r _ [7, 8, 9, 10, 11, 12, 13, 14, 15, 6, 16, 17, 18, 19, 20, 21, 22, 23, 24, 25, 26, 27, 28, 29, 30, 31, 32, 33, 34, 35, 36, 37, 38, 39, 40, 41, 42, 43, 44, 45, 46, 47, 48, 49, 50, 51, 52, 53, 54, 55, 56, 57, 58, 59] (by decide +kernel) (by decide +kernel)) (goodIn_sub (fun _ h => (List.mem_cons_of_mem _ (List.mem_append_right _ h))) (by decide +kernel))) (goodIn_sub (fun _ h => (List.mem_cons_of_mem _ (List.mem_append_left _ (List.mem_append_right _ h)))) (by decide +kernel))
set_option maxRecDepth 20000 in
theorem gL_creep_X3_creep : GoodIn wzL_creep (wsV RL 72 RX3 yX3_creep wzX3_creep) := goodIn_app (goodIn_of _ (by decide +kernel)) ggL_creep_X3_creep
set_option maxRecDepth 20000 in
theorem ggL_age_X3_age : GoodIn wzL_age wzX3_age := goodIn_ca (goodIn_ca (goodIn_r _ [7, 8, 9, 10, 11, 12, 13, 14, 15, 6, 16, 17, 18, 19, 20, 21, 22, 23, 24, 25, 26, 27, 28, 29, 30, 31, 32, 33, 34, 35, 36, 37, 38, 39, 40, 41, 42, 43, 44, 45, 46, 47, 48, 49, 50, 51, 52, 53, 54, 55, 56, 57, 58, 59] (by decide +kernel) (by decide +kernel)) (goodIn_sub (fun _ h => (List.mem_cons_of_mem _ (List.mem_append_right _ h))) (by decide +kernel))) (goodIn_sub (fun _ h => (List.mem_cons_of_mem _ (List.mem_append_left _ (List.mem_append_right _ h)))) (by decide +kernel))
set_option maxRecDepth 20000 in
theorem gL_age_X3_age : GoodIn wzL_age (wsV RL 75 RX3 yX3_age wzX3_age) := goodIn_app (goodIn_of _ (by decide +kernel)) ggL_age_X3_age
set_option maxRecDepth 20000 in
theorem ggL_isArch_X3_isArch : GoodIn wzL_isArch wzX3_isArch := goodIn_ca (goodIn_ca (goodIn_r _ [7, 8, 9, 10, 11, 12, 13, 14, 6, 15, 16, 17, 18, 19, 20, 21, 22, 23, 24, 25, 26, 27, 28, 29, 30, 31, 32, 33, 34, 35, 36, 37, 38, 39, 40, 41, 42, 43, 44, 45, 46, 47, 48, 49, 50, 51, 52, 53, 54, 55, 56, 57, 58, 59, 60, 61, 62, 63, 64, 65, 66, 67] (by decide +kernel) (by decide +kernel)) (goodIn_sub (fun _ h => (List.mem_cons_of_mem _ (List.mem_append_right _ h))) (by decide +kernel))) (goodIn_sub (fun _ h => (List.mem_cons_of_mem _ (List.mem_append_left _ (List.mem_append_right _ h)))) (by decide +kernel))
set_option maxRecDepth 20000 in
theorem gL_isArch_X3_isArch : GoodIn wzL_isArch (wsV RL 78 RX3 yX3_isArch wzX3_isArch) := goodIn_app (goodIn_of _ (by decide +kernel)) ggL_isArch_X3_isArch
set_option maxRecDepth 20000 in
theorem ggL_fell_X3_fell : GoodIn wsL_fell wsX3_fell := goodIn_ca (goodIn_r _ [6, 7, 8, 9, 10, 11, 12, 5, 13, 14, 15, 16, 17, 18, 19, 20, 21, 22, 23, 24, 25, 26, 27, 28, 29, 30, 31, 32, 33, 34, 35, 36, 37, 38, 39, 40, 41, 42, 43] (by decide +kernel) (by decide +kernel)) (goodIn_sub (fun _ h => (List.mem_cons_of_mem _ (List.mem_append_right _ h))) (by decide +kernel))
set_option maxRecDepth 20000 in
theorem gL_fell_X3_fell : GoodIn wsL_fell (wsV RL 82 RX3 yX3_fell wsX3_fell) := goodIn_app (goodIn_of _ (by decide +kernel)) ggL_fell_X3_fell
set_option maxRecDepth 20000 in
theorem ggL_lastFell_X3_lastFell : GoodIn wzL_lastFell wzX3_lastFell := goodIn_ca (goodIn_r _ [7, 8, 9, 10, 11, 12, 13, 14, 15, 6, 16, 17, 18, 19, 20, 21, 22, 23, 24, 25, 26, 27, 28, 29, 30, 31, 32, 33, 34, 35, 36, 37, 38, 39, 40, 41, 42, 43, 44, 45, 46] (by decide +kernel) (by decide +kernel)) (goodIn_sub (fun _ h => (List.mem_cons_of_mem _ (List.mem_append_right _ h))) (by decide +kernel))
set_option maxRecDepth 20000 in
theorem gL_lastFell_X3_lastFell : GoodIn wzL_lastFell (wsV RL 85 RX3 yX3_lastFell wzX3_lastFell) := goodIn_app (goodIn_of _ (by decide +kernel)) ggL_lastFell_X3_lastFell
set_option maxRecDepth 20000 in
theorem ggL_cover_X3_cover : GoodIn wsL_cover wsX3_cover := goodIn_ca (goodIn_r _ [6, 7, 8, 9, 10, 11, 12, 13, 5, 14, 15, 16, 17, 18, 19, 20, 21, 22, 23, 24, 25, 26, 27, 28, 29, 30, 31, 32, 33, 34, 35, 36, 37, 38, 39, 40, 41, 42, 43, 44] (by decide +kernel) (by decide +kernel)) (goodIn_sub (fun _ h => (List.mem_cons_of_mem _ (List.mem_append_right _ h))) (by decide +kernel))
set_option maxRecDepth 20000 in
theorem gL_cover_X3_cover : GoodIn wsL_cover (wsV RL 88 RX3 yX3_cover wsX3_cover) := goodIn_app (goodIn_of _ (by decide +kernel)) ggL_cover_X3_cover
set_option maxRecDepth 20000 in
theorem ggL_lamp_X3_lamp : GoodIn wzL_lamp wzX3_lamp := goodIn_ca (goodIn_ca (goodIn_ca (goodIn_r _ [8, 9, 10, 11, 12, 13, 14, 15, 16, 17, 18, 19, 20, 7, 21, 22, 23, 24, 25, 26, 27, 28, 29, 30, 31, 32, 33, 34, 35, 36, 37, 38, 39, 40, 41, 42, 43, 44, 45, 46, 47, 48, 49, 50, 51, 52, 53, 54, 55, 56, 57, 58, 59, 60, 61, 62, 63, 64] (by decide +kernel) (by decide +kernel)) (goodIn_sub (fun _ h => (List.mem_cons_of_mem _ (List.mem_append_left _ (List.mem_append_right _ h)))) (by decide +kernel))) (goodIn_sub (fun _ h => (List.mem_cons_of_mem _ (List.mem_append_left _ (List.mem_append_left _ (List.mem_append_right _ h))))) (by decide +kernel))) (goodIn_sub (fun _ h => (List.mem_cons_of_mem _ (List.mem_append_right _ h))) (by decide +kernel))
set_option maxRecDepth 20000 in
theorem gL_lamp_X3_lamp : GoodIn wzL_lamp (wsV RL 92 RX3 yX3_lamp wzX3_lamp) := goodIn_app (goodIn_of _ (by decide +kernel)) ggL_lamp_X3_lamp
set_option maxRecDepth 20000 in
theorem ggL_lightBits_X3_lightBits : GoodIn wsL_lightBits wsX3_lightBits := goodIn_ca (goodIn_ca (goodIn_r _ [6, 7, 8, 9, 10, 11, 5, 12, 13, 14, 15, 16, 17, 18, 19, 20, 21, 22, 23, 24, 25, 26, 27, 28, 29, 30, 31, 32, 33, 34, 35, 36, 37, 38, 39, 40, 41, 42, 43, 44, 45, 46, 47, 48, 49, 50, 51, 52, 53, 54, 55, 56, 57, 58, 59, 60, 61, 62, 63, 64, 65, 66, 67, 68, 69, 70, 71, 72, 73] (by decide +kernel) (by decide +kernel)) (goodIn_sub (fun _ h => (List.mem_cons_of_mem _ (List.mem_append_right _ h))) (by decide +kernel))) (goodIn_sub (fun _ h => (List.mem_cons_of_mem _ (List.mem_append_left _ (List.mem_append_right _ h)))) (by decide +kernel))
set_option maxRecDepth 20000 in
theorem gL_lightBits_X3_lightBits : GoodIn wsL_lightBits (wsV RL 96 RX3 yX3_lightBits wsX3_lightBits) := goodIn_app (goodIn_of _ (by decide +kernel)) ggL_lightBits_X3_lightBits
set_option maxRecDepth 20000 in
theorem ggL_isOpen_X3_isOpen : GoodIn wsL_isOpen wsX3_isOpen := goodIn_ca (goodIn_ca (goodIn_r _ [6, 7, 8, 9, 10, 11, 12, 13, 5, 14, 15, 16, 17, 18, 19, 20, 21, 22, 23, 24, 25, 26, 27, 28, 29, 30, 31, 32, 33, 34, 35, 36, 37, 38, 39, 40, 41, 42, 43, 44, 45, 46, 47, 48, 49, 50, 51, 52, 53, 54, 55, 56, 57, 58, 59, 60, 61, 62, 63, 64, 65, 66, 67, 68, 69, 70, 71, 72, 73, 74, 75, 76, 77, 78, 79, 80, 81, 82, 83, 84, 85, 86, 87, 88, 89, 90, 91, 92, 93, 94, 95, 96, 97, 98] (by decide +kernel) (by decide +kernel)) (goodIn_sub (fun _ h => (List.mem_cons_of_mem _ (List.mem_append_right _ h))) (by decide +kernel))) (goodIn_sub (fun _ h => (List.mem_cons_of_mem _ (List.mem_append_left _ (List.mem_append_right _ h)))) (by decide +kernel))
set_option maxRecDepth 20000 in
theorem gL_isOpen_X3_isOpen : GoodIn wsL_isOpen (wsV RL 99 RX3 yX3_isOpen wsX3_isOpen) := goodIn_app (goodIn_of _ (by decide +kernel)) ggL_isOpen_X3_isOpen
set_option maxRecDepth 20000 in
theorem ggL_carries_X3_carries : GoodIn wzL_carries wzX3_carries := goodIn_ca (goodIn_ca (goodIn_r _ [7, 8, 9, 10, 11, 12, 13, 14, 15, 16, 6, 17, 18, 19, 20, 21, 22, 23, 24, 25, 26, 27, 28, 29, 30, 31, 32, 33, 34, 35, 36, 37, 38, 39, 40, 41, 42, 43, 44, 45, 46, 47, 48, 49, 50, 51, 52, 53, 54, 55, 56, 57, 58, 59, 60, 61, 62, 63, 64, 65, 66, 67, 68, 69, 70, 71, 72, 73, 74, 75, 76, 77, 78, 79, 80, 81, 82, 83, 84, 85, 86, 87, 88, 89, 90, 91, 92, 93, 94, 95, 96, 97, 98, 99, 100, 101, 102, 103, 104, 105, 106, 107, 108, 109, 110, 111, 112, 113] (by decide +kernel) (by decide +kernel)) (goodIn_sub (fun _ h => (List.mem_cons_of_mem _ (List.mem_append_right _ h))) (by decide +kernel))) (goodIn_sub (fun _ h => (List.mem_cons_of_mem _ (List.mem_append_left _ (List.mem_append_right _ h)))) (by decide +kernel))
set_option maxRecDepth 20000 in
theorem gL_carries_X3_carries : GoodIn wzL_carries (wsV RL 102 RX3 yX3_carries wzX3_carries) := goodIn_app (goodIn_of _ (by decide +kernel)) ggL_carries_X3_carries
set_option maxRecDepth 20000 in
theorem ggL_visit_X3_visit : GoodIn wsL_visit wsX3_visit := goodIn_ca (goodIn_ca (goodIn_ca (goodIn_ca (goodIn_r _ [8, 9, 10, 11, 12, 13, 14, 15, 16, 17, 18, 19, 20, 21, 7, 22, 23, 24, 25, 26, 27, 28, 29, 30, 31, 32, 33, 34, 35, 36, 37, 38, 39, 40, 41, 42, 43, 44, 45, 46, 47, 48, 49, 50, 51, 52, 53, 54, 55, 56, 57, 58, 59, 60, 61, 62, 63, 64, 65, 66, 67, 68, 69, 70, 71, 72, 73, 74, 75, 76, 77, 78, 79, 80, 81, 82, 83, 84, 85, 86, 87, 88, 89, 90, 91, 92, 93, 94, 95, 96, 97, 98, 99, 100, 101, 102, 103, 104, 105, 106] (by decide +kernel) (by decide +kernel)) (goodIn_sub (fun _ h => (List.mem_cons_of_mem _ (List.mem_append_left _ (List.mem_append_left _ (List.mem_append_right _ h))))) (by decide +kernel))) (goodIn_sub (fun _ h => (List.mem_cons_of_mem _ (List.mem_append_left _ (List.mem_append_right _ h)))) (by decide +kernel))) (goodIn_sub (fun _ h => (List.mem_cons_of_mem _ (List.mem_append_right _ h))) (by decide +kernel))) (goodIn_sub (fun _ h => (List.mem_cons_of_mem _ (List.mem_append_left _ (List.mem_append_left _ (List.mem_append_left _ (List.mem_append_right _ h)))))) (by decide +kernel))
set_option maxRecDepth 20000 in
theorem gL_visit_X3_visit : GoodIn wsL_visit (wsV RL 105 RX3 yX3_visit wsX3_visit) := goodIn_app (goodIn_of _ (by decide +kernel)) ggL_visit_X3_visit
set_option maxRecDepth 20000 in
theorem ggL_squareBits_X3_squareBits : GoodIn wsL_squareBits wsX3_squareBits := goodIn_ca (goodIn_ca (goodIn_r _ [6, 7, 8, 9, 10, 11, 12, 13, 14, 15, 5, 16, 17, 18, 19, 20, 21, 22, 23, 24, 25, 26, 27, 28, 29, 30, 31, 32, 33, 34, 35, 36, 37, 38, 39, 40, 41, 42, 43] (by decide +kernel) (by decide +kernel)) (goodIn_sub (fun _ h => (List.mem_cons_of_mem _ (List.mem_append_right _ h))) (by decide +kernel))) (goodIn_sub (fun _ h => (List.mem_cons_of_mem _ (List.mem_append_left _ (List.mem_append_right _ h)))) (by decide +kernel))
set_option maxRecDepth 20000 in
theorem gL_squareBits_X3_squareBits : GoodIn wsL_squareBits (wsV RL 108 RX3 yX3_squareBits wsX3_squareBits) := goodIn_app (goodIn_of _ (by decide +kernel)) ggL_squareBits_X3_squareBits
set_option maxRecDepth 20000 in
theorem ggL_plan_X3_plan : GoodIn wsL_plan wsX3_plan := goodIn_ca (goodIn_ca (goodIn_r _ [6, 7, 8, 9, 10, 11, 12, 5, 13, 14, 15, 16, 17, 18, 19, 20, 21, 22, 23, 24, 25, 26, 27, 28, 29, 30, 31, 32, 33, 34, 35, 36, 37, 38, 39, 40, 41, 42, 43, 44, 45, 46, 47, 48, 49, 50, 51, 52, 53, 54, 55, 56] (by decide +kernel) (by decide +kernel)) (goodIn_sub (fun _ h => (List.mem_cons_of_mem _ (List.mem_append_right _ h))) (by decide +kernel))) (goodIn_sub (fun _ h => (List.mem_cons_of_mem _ (List.mem_append_left _ (List.mem_append_right _ h)))) (by decide +kernel))
set_option maxRecDepth 20000 in
theorem gL_plan_X3_plan : GoodIn wsL_plan (wsV RL 112 RX3 yX3_plan wsX3_plan) := goodIn_app (goodIn_of _ (by decide +kernel)) ggL_plan_X3_plan
set_option maxRecDepth 20000 in
theorem ggL_carve_X3_carve : GoodIn wzL_carve wzX3_carve := goodIn_ca (goodIn_ca (goodIn_ca (goodIn_ca (goodIn_ca (goodIn_r _ [10, 11, 12, 13, 14, 15, 16, 17, 18, 19, 20, 21, 22, 23, 24, 25, 9, 26, 27, 28, 29, 30, 31, 32, 33, 34, 35, 36, 37, 38, 39, 40, 41, 42, 43, 44, 45, 46, 47, 48, 49, 50, 51, 52, 53, 54, 55, 56, 57, 58, 59, 60, 61, 62, 63, 64, 65, 66, 67, 68, 69, 70, 71, 72, 73, 74, 75, 76, 77, 78, 79, 80, 81, 82, 83, 84, 85, 86, 87, 88, 89, 90, 91, 92, 93, 94, 95, 96, 97, 98, 99, 100, 101, 102, 103, 104, 105, 106, 107, 108, 109, 110, 111, 112, 113, 114, 115, 116, 117, 118, 119, 120, 121, 122, 123, 124, 125, 126, 127, 128, 129, 130, 131, 132, 133, 134, 135, 136, 137, 138, 139, 140, 141, 142, 143, 144, 145, 146, 147, 148, 149, 150] (by decide +kernel) (by decide +kernel)) (goodIn_sub (fun _ h => (List.mem_cons_of_mem _ (List.mem_append_left _ (List.mem_append_left _ (List.mem_append_left _ (List.mem_append_right _ h)))))) (by decide +kernel))) (goodIn_sub (fun _ h => (List.mem_cons_of_mem _ (List.mem_append_left _ (List.mem_append_left _ (List.mem_append_right _ h))))) (by decide +kernel))) (goodIn_sub (fun _ h => (List.mem_cons_of_mem _ (List.mem_append_left _ (List.mem_append_right _ h)))) (by decide +kernel))) (goodIn_sub (fun _ h => (List.mem_cons_of_mem _ (List.mem_append_left _ (List.mem_append_left _ (List.mem_append_left _ (List.mem_append_left _ (List.mem_append_right _ h))))))) (by decide +kernel))) (goodIn_sub (fun _ h => (List.mem_cons_of_mem _ (List.mem_append_right _ h))) (by decide +kernel))
set_option maxRecDepth 20000 in
theorem gL_carve_X3_carve : GoodIn wzL_carve (wsV RL 116 RX3 yX3_carve wzX3_carve) := goodIn_app (goodIn_of _ (by decide +kernel)) ggL_carve_X3_carve
set_option maxRecDepth 20000 in
theorem ggL_hours_X3_hours : GoodIn wsL_hours wsX3_hours := goodIn_ca (goodIn_r _ [6, 7, 8, 9, 10, 11, 12, 5, 13, 14, 15, 16, 17, 18, 19, 20, 21, 22, 23, 24, 25, 26, 27, 28, 29, 30, 31, 32, 33, 34, 35, 36, 37, 38, 39, 40, 41, 42, 43] (by decide +kernel) (by decide +kernel)) (goodIn_sub (fun _ h => (List.mem_cons_of_mem _ (List.mem_append_right _ h))) (by decide +kernel))
set_option maxRecDepth 20000 in
theorem gL_hours_X3_hours : GoodIn wsL_hours (wsV RL 120 RX3 yX3_hours wsX3_hours) := goodIn_app (goodIn_of _ (by decide +kernel)) ggL_hours_X3_hours
set_option maxRecDepth 20000 in
theorem ggL_judge_X3_judge : GoodIn wsL_judge wsX3_judge := goodIn_ca (goodIn_ca (goodIn_r _ [6, 7, 8, 9, 10, 11, 12, 13, 14, 15, 16, 5, 17, 18, 19, 20, 21, 22, 23, 24, 25, 26, 27, 28, 29, 30, 31, 32, 33, 34, 35, 36, 37, 38, 39, 40, 41, 42, 43, 44, 45, 46, 47, 48, 49, 50, 51, 52, 53, 54] (by decide +kernel) (by decide +kernel)) (goodIn_sub (fun _ h => (List.mem_cons_of_mem _ (List.mem_append_right _ h))) (by decide +kernel))) (goodIn_sub (fun _ h => (List.mem_cons_of_mem _ (List.mem_append_left _ (List.mem_append_right _ h)))) (by decide +kernel))
set_option maxRecDepth 20000 in
theorem gL_judge_X3_judge : GoodIn wsL_judge (wsV RL 123 RX3 yX3_judge wsX3_judge) := goodIn_app (goodIn_of _ (by decide +kernel)) ggL_judge_X3_judge
set_option maxRecDepth 20000 in
theorem ggL_mark_X3_mark : GoodIn wzL_mark wzX3_mark := goodIn_ca (goodIn_r _ [7, 8, 9, 10, 11, 12, 13, 14, 15, 16, 6, 17, 18, 19, 20, 21, 22, 23, 24, 25, 26, 27, 28, 29, 30, 31, 32, 33, 34, 35, 36, 37, 38, 39, 40, 41, 42, 43, 44, 45, 46, 47] (by decide +kernel) (by decide +kernel)) (goodIn_sub (fun _ h => (List.mem_cons_of_mem _ (List.mem_append_right _ h))) (by decide +kernel))
set_option maxRecDepth 20000 in
theorem gL_mark_X3_mark : GoodIn wzL_mark (wsV RL 127 RX3 yX3_mark wzX3_mark) := goodIn_app (goodIn_of _ (by decide +kernel)) ggL_mark_X3_mark
set_option maxRecDepth 20000 in
theorem ggL_take_X3_take : GoodIn wzL_take wzX3_take := goodIn_ca (goodIn_ca (goodIn_ca (goodIn_r _ [8, 9, 10, 11, 12, 13, 14, 15, 16, 17, 18, 19, 20, 7, 21, 22, 23, 24, 25, 26, 27, 28, 29, 30, 31, 32, 33, 34, 35, 36, 37, 38, 39, 40, 41, 42, 43, 44, 45, 46, 47, 48, 49, 50, 51, 52, 53, 54, 55, 56, 57, 58, 59, 60, 61, 62, 63, 64, 65, 66, 67, 68, 69, 70, 71, 72, 73, 74, 75, 76, 77, 78, 79, 80, 81, 82, 83, 84, 85, 86, 87, 88, 89, 90, 91, 92, 93, 94, 95, 96, 97, 98, 99, 100, 101, 102, 103, 104, 105, 106, 107, 108, 109, 110, 111, 112, 113, 114, 115, 116, 117, 118, 119, 120, 121, 122, 123, 124, 125, 126, 127, 128, 129, 130, 131] (by decide +kernel) (by decide +kernel)) (goodIn_sub (fun _ h => (List.mem_cons_of_mem _ (List.mem_append_left _ (List.mem_append_right _ h)))) (by decide +kernel))) (goodIn_sub (fun _ h => (List.mem_cons_of_mem _ (List.mem_append_right _ h))) (by decide +kernel))) (goodIn_sub (fun _ h => (List.mem_cons_of_mem _ (List.mem_append_left _ (List.mem_append_left _ (List.mem_append_right _ h))))) (by decide +kernel))
set_option maxRecDepth 20000 in
theorem gL_take_X3_take : GoodIn wzL_take (wsV RL 130 RX3 yX3_take wzX3_take) := goodIn_app (goodIn_of _ (by decide +kernel)) ggL_take_X3_take
set_option maxRecDepth 20000 in
theorem ggL_count_X3_count : GoodIn wsL_count wsX3_count := goodIn_ca (goodIn_ca (goodIn_r _ [6, 7, 8, 9, 10, 11, 5, 12, 13, 14, 15, 16, 17, 18, 19, 20, 21, 22, 23, 24, 25, 26, 27, 28, 29, 30, 31, 32, 33, 34, 35, 36, 37, 38, 39, 40, 41, 42, 43, 44, 45, 46, 47, 48] (by decide +kernel) (by decide +kernel)) (goodIn_sub (fun _ h => (List.mem_cons_of_mem _ (List.mem_append_right _ h))) (by decide +kernel))) (goodIn_sub (fun _ h => (List.mem_cons_of_mem _ (List.mem_append_left _ (List.mem_append_right _ h)))) (by decide +kernel))
set_option maxRecDepth 20000 in
theorem gL_count_X3_count : GoodIn wsL_count (wsV RL 133 RX3 yX3_count wsX3_count) := goodIn_app (goodIn_of _ (by decide +kernel)) ggL_count_X3_count
set_option maxRecDepth 20000 in
theorem ggL_openShare_X3_openShare : GoodIn wsL_openShare wsX3_openShare := goodIn_ca (goodIn_ca (goodIn_r _ [6, 7, 8, 9, 10, 11, 12, 13, 14, 5, 15, 16, 17, 18, 19, 20, 21, 22, 23, 24, 25, 26, 27, 28, 29, 30, 31, 32, 33, 34, 35, 36, 37, 38, 39, 40, 41, 42, 43, 44, 45, 46, 47, 48, 49, 50, 51, 52, 53, 54, 55, 56, 57, 58, 59, 60, 61, 62, 63, 64, 65, 66, 67, 68, 69, 70, 71, 72, 73, 74, 75, 76, 77, 78, 79, 80, 81, 82, 83, 84, 85, 86, 87, 88, 89, 90, 91, 92, 93, 94, 95, 96, 97, 98] (by decide +kernel) (by decide +kernel)) (goodIn_sub (fun _ h => (List.mem_cons_of_mem _ (List.mem_append_right _ h))) (by decide +kernel))) (goodIn_sub (fun _ h => (List.mem_cons_of_mem _ (List.mem_append_left _ (List.mem_append_right _ h)))) (by decide +kernel))
set_option maxRecDepth 20000 in
theorem gL_openShare_X3_openShare : GoodIn wsL_openShare (wsV RL 136 RX3 yX3_openShare wsX3_openShare) := goodIn_app (goodIn_of _ (by decide +kernel)) ggL_openShare_X3_openShare
set_option maxRecDepth 20000 in
theorem ggL_meanCreep_X3_meanCreep : GoodIn wsL_meanCreep wsX3_meanCreep := goodIn_ca (goodIn_ca (goodIn_ca (goodIn_r _ [7, 8, 9, 10, 11, 12, 13, 14, 6, 15, 16, 17, 18, 19, 20, 21, 22, 23, 24, 25, 26, 27, 28, 29, 30, 31, 32, 33, 34, 35, 36, 37, 38, 39, 40, 41, 42, 43, 44, 45, 46, 47, 48, 49, 50, 51, 52, 53, 54, 55, 56] (by decide +kernel) (by decide +kernel)) (goodIn_sub (fun _ h => (List.mem_cons_of_mem _ (List.mem_append_left _ (List.mem_append_right _ h)))) (by decide +kernel))) (goodIn_sub (fun _ h => (List.mem_cons_of_mem _ (List.mem_append_right _ h))) (by decide +kernel))) (goodIn_sub (fun _ h => (List.mem_cons_of_mem _ (List.mem_append_left _ (List.mem_append_left _ (List.mem_append_right _ h))))) (by decide +kernel))
set_option maxRecDepth 20000 in
theorem gL_meanCreep_X3_meanCreep : GoodIn wsL_meanCreep (wsV RL 142 RX3 yX3_meanCreep wsX3_meanCreep) := goodIn_app (goodIn_of _ (by decide +kernel)) ggL_meanCreep_X3_meanCreep
set_option maxRecDepth 20000 in
theorem ggL_law_X3_init : GoodIn wzL_law wsX3_init := goodIn_ca (goodIn_r _ [10, 11, 12, 13, 14, 15, 16, 17, 18, 19, 20, 21, 22, 23, 24, 25, 26, 27, 28, 29, 30, 31, 32, 33, 34, 35, 36, 37, 38, 39, 40, 41, 42, 43, 44, 45, 46, 1109, 1110, 1111, 1112, 1088, 1089, 1090, 1091, 1092, 1093, 1094, 1095, 1096, 1097, 1113, 1114, 1115] (by decide +kernel) (by decide +kernel)) (goodIn_sub (fun _ h => (List.mem_append_left _ (List.mem_append_left _ (List.mem_append_left _ (List.mem_append_left _ (List.mem_append_left _ (List.mem_append_left _ (List.mem_append_right _ h)))))))) (by decide +kernel))
set_option maxRecDepth 20000 in
theorem gL_law_X3_init : GoodIn wzL_law (wsX3_init) := ggL_law_X3_init
set_option maxRecDepth 20000 in
theorem ggL_law_X6_init : GoodIn wzL_law wsX6_init := goodIn_ca (goodIn_r _ [49, 50, 12, 13, 51, 52, 35, 53, 54, 55, 56, 57, 58, 59, 60, 61, 62, 63, 64, 65, 66, 67, 68, 69, 70, 71, 72, 73, 74, 75, 76, 77, 78, 79, 1098, 1099, 1100, 1101, 1102, 1103, 1104, 1105, 1106, 1107, 1108, 1116, 1117, 1118] (by decide +kernel) (by decide +kernel)) (goodIn_sub (fun _ h => (List.mem_append_left _ (List.mem_append_left _ (List.mem_append_left _ (List.mem_append_left _ (List.mem_append_left _ (List.mem_append_left _ (List.mem_append_right _ h)))))))) (by decide +kernel))
set_option maxRecDepth 20000 in
theorem gL_law_X6_init : GoodIn wzL_law (wsX6_init) := ggL_law_X6_init
set_option maxRecDepth 20000 in
theorem ggL_law_L_weather : GoodIn wzL_law wsL_weather := goodIn_ca (goodIn_ca (goodIn_ca (goodIn_r _ [83, 84, 85, 86, 87, 88, 2, 89, 90, 91, 92, 93, 25, 17, 94, 95, 96, 97, 98, 99, 100, 1088, 1089, 1090, 1091, 1092, 1093, 1094, 1095, 1096, 1097, 1109, 1110, 1111, 1112] (by decide +kernel) (by decide +kernel)) (goodIn_sub (fun _ h => (List.mem_append_left _ (List.mem_append_left _ (List.mem_append_left _ (List.mem_append_left _ (List.mem_append_left _ (List.mem_append_left _ (List.mem_append_right _ h)))))))) (by decide +kernel))) (goodIn_sub (fun _ h => (List.mem_append_left _ (List.mem_append_left _ (List.mem_append_left _ (List.mem_append_left _ (List.mem_append_left _ (List.mem_append_right _ h))))))) (by decide +kernel))) (goodIn_sub (fun _ h => (List.mem_append_left _ (List.mem_append_left _ (List.mem_append_left _ (List.mem_append_left _ (List.mem_append_right _ h)))))) (by decide +kernel))
set_option maxRecDepth 20000 in
theorem gL_law_L_weather : GoodIn wzL_law (va_wsS RL 149 yL_weather wsL_weather) := goodIn_app (goodIn_of _ (by decide +kernel)) ggL_law_L_weather
set_option maxRecDepth 20000 in
theorem ggL_law_X6_weather : GoodIn wzL_law wsX6_weather := goodIn_ca (goodIn_r _ [104, 105, 106, 107, 108, 109, 110, 52, 35, 111, 112, 5, 113, 114, 115, 116, 117, 118, 1098, 1099, 1100, 1101, 1102, 1103, 1104, 1105, 1106, 1107, 1108] (by decide +kernel) (by decide +kernel)) (goodIn_sub (fun _ h => (List.mem_append_left _ (List.mem_append_left _ (List.mem_append_left _ (List.mem_append_left _ (List.mem_append_left _ (List.mem_append_left _ (List.mem_append_right _ h)))))))) (by decide +kernel))
set_option maxRecDepth 20000 in
theorem gL_law_X6_weather : GoodIn wzL_law (wsV RL 154 RX6 yX6_weather wsX6_weather) := goodIn_app (goodIn_of _ (by decide +kernel)) ggL_law_X6_weather
set_option maxRecDepth 20000 in
theorem ggL_law_X6_thrown : GoodIn wzL_law wsX6_thrown := goodIn_r _ [122, 118, 1098, 1099, 1100, 1101, 1102, 1103, 1104, 1105, 1106, 1107, 1108] (by decide +kernel) (by decide +kernel)
set_option maxRecDepth 20000 in
theorem gL_law_X6_thrown : GoodIn wzL_law (wsV RL 155 RX6 yX6_thrown wsX6_thrown) := goodIn_app (goodIn_of _ (by decide +kernel)) ggL_law_X6_thrown
set_option maxRecDepth 20000 in
theorem ggL_law_L_warmth : GoodIn wzL_law wsL_warmth := goodIn_ca (goodIn_ca (goodIn_r _ [125, 84, 126, 127, 128, 2, 129, 90, 91, 17, 98, 99, 100, 130, 131, 132, 16, 133, 36, 37, 1088, 1089, 1090, 1091, 1092, 1093, 1094, 1095, 1096, 1097, 1109, 1110, 1111, 1112] (by decide +kernel) (by decide +kernel)) (goodIn_sub (fun _ h => (List.mem_append_left _ (List.mem_append_left _ (List.mem_append_left _ (List.mem_append_left _ (List.mem_append_left _ (List.mem_append_left _ (List.mem_append_right _ h)))))))) (by decide +kernel))) (goodIn_sub (fun _ h => (List.mem_append_left _ (List.mem_append_left _ (List.mem_append_left _ (List.mem_append_left _ (List.mem_append_left _ (List.mem_append_right _ h))))))) (by decide +kernel))
set_option maxRecDepth 20000 in
theorem gL_law_L_warmth : GoodIn wzL_law (va_wsS RL 158 yL_warmth wsL_warmth) := goodIn_app (goodIn_of _ (by decide +kernel)) ggL_law_L_warmth
set_option maxRecDepth 20000 in
theorem ggL_law_X6_warmth : GoodIn wzL_law wsX6_warmth := goodIn_ca (goodIn_r _ [137, 138, 111, 112, 5, 113, 114, 115, 116, 117, 118, 139, 140, 141, 142, 52, 1098, 1099, 1100, 1101, 1102, 1103, 1104, 1105, 1106, 1107, 1108] (by decide +kernel) (by decide +kernel)) (goodIn_sub (fun _ h => (List.mem_append_left _ (List.mem_append_left _ (List.mem_append_left _ (List.mem_append_left _ (List.mem_append_left _ (List.mem_append_left _ (List.mem_append_right _ h)))))))) (by decide +kernel))
set_option maxRecDepth 20000 in
theorem gL_law_X6_warmth : GoodIn wzL_law (wsV RL 161 RX6 yX6_warmth wsX6_warmth) := goodIn_app (goodIn_of _ (by decide +kernel)) ggL_law_X6_warmth
set_option maxRecDepth 20000 in
theorem ggL_law_L_wet : GoodIn wzL_law wsL_wet := goodIn_ca (goodIn_ca (goodIn_r _ [145, 84, 146, 147, 148, 2, 149, 90, 91, 17, 98, 99, 100, 150, 151, 152, 16, 153, 39, 154, 131, 132, 133, 36, 37, 1088, 1089, 1090, 1091, 1092, 1093, 1094, 1095, 1096, 1097, 1109, 1110, 1111, 1112] (by decide +kernel) (by decide +kernel)) (goodIn_sub (fun _ h => (List.mem_append_left _ (List.mem_append_left _ (List.mem_append_left _ (List.mem_append_left _ (List.mem_append_left _ (List.mem_append_left _ (List.mem_append_right _ h)))))))) (by decide +kernel))) (goodIn_sub (fun _ h => (List.mem_append_left _ (List.mem_append_left _ (List.mem_append_left _ (List.mem_append_left _ (List.mem_append_left _ (List.mem_append_right _ h))))))) (by decide +kernel))
set_option maxRecDepth 20000 in
theorem gL_law_L_wet : GoodIn wzL_law (va_wsS RL 162 yL_wet wsL_wet) := goodIn_app (goodIn_of _ (by decide +kernel)) ggL_law_L_wet
set_option maxRecDepth 20000 in
theorem ggL_law_X6_wet : GoodIn wzL_law wsX6_wet := goodIn_ca (goodIn_r _ [158, 159, 111, 112, 5, 113, 114, 115, 116, 117, 118, 160, 161, 162, 163, 52, 139, 140, 141, 142, 1098, 1099, 1100, 1101, 1102, 1103, 1104, 1105, 1106, 1107, 1108] (by decide +kernel) (by decide +kernel)) (goodIn_sub (fun _ h => (List.mem_append_left _ (List.mem_append_left _ (List.mem_append_left _ (List.mem_append_left _ (List.mem_append_left _ (List.mem_append_left _ (List.mem_append_right _ h)))))))) (by decide +kernel))
set_option maxRecDepth 20000 in
theorem gL_law_X6_wet : GoodIn wzL_law (wsV RL 164 RX6 yX6_wet wsX6_wet) := goodIn_app (goodIn_of _ (by decide +kernel)) ggL_law_X6_wet
set_option maxRecDepth 20000 in
theorem ggL_law_L_go : GoodIn wzL_law wsL_go := goodIn_ca (goodIn_ca (goodIn_ca (goodIn_ca (goodIn_r _ [166, 84, 167, 168, 169, 170, 2, 171, 90, 91, 172, 173, 25, 98, 99, 100, 174, 175, 176, 177, 17, 21, 29, 24, 178, 30, 130, 131, 132, 16, 133, 36, 37, 179, 180, 181, 20, 182, 44, 183, 184, 185, 186, 45, 187, 188, 189, 150, 151, 152, 153, 39, 154, 190, 191, 192, 193, 28, 194, 195, 196, 197, 198, 23, 199, 200, 201, 202, 38, 203, 204, 205, 206, 207, 208, 209, 210, 211, 212, 213, 214, 215, 216, 217, 218, 219, 220, 221, 222, 223, 224, 225, 226, 227, 228, 229, 230, 231, 232, 233, 234, 235, 236, 237, 238, 239, 240, 241, 242, 243, 244, 245, 246, 247, 248, 249, 250, 251, 252, 253, 254, 255, 256, 257, 258, 259, 260, 261, 262, 263, 264, 265, 266, 267, 268, 269, 270, 271, 272, 273, 274, 275, 1088, 1089, 1090, 1091, 1092, 1093, 1094, 1095, 1096, 1097, 1119, 1120, 1121, 1122, 1123, 1124, 1125, 1126, 1127, 1128, 1129, 1130, 1131, 1132, 1133, 1109, 1110, 1111, 1112, 1113, 1114, 1115] (by decide +kernel) (by decide +kernel)) (goodIn_sub (fun _ h => (List.mem_append_left _ (List.mem_append_left _ (List.mem_append_left _ (List.mem_append_left _ (List.mem_append_left _ (List.mem_append_left _ (List.mem_append_right _ h)))))))) (by decide +kernel))) (goodIn_sub (fun _ h => (List.mem_append_left _ (List.mem_append_left _ (List.mem_append_left _ (List.mem_append_left _ (List.mem_append_left _ (List.mem_append_right _ h))))))) (by decide +kernel))) (goodIn_sub (fun _ h => (List.mem_append_left _ (List.mem_append_left _ (List.mem_append_left _ (List.mem_append_right _ h))))) (by decide +kernel))) (goodIn_sub (fun _ h => (List.mem_append_left _ (List.mem_append_left _ (List.mem_append_right _ h)))) (by decide +kernel))
set_option maxRecDepth 20000 in
theorem gL_law_L_go : GoodIn wzL_law (va_wsS RL 165 yL_go wsL_go) := goodIn_app (goodIn_of _ (by decide +kernel)) ggL_law_L_go
set_option maxRecDepth 20000 in
theorem ggL_law_X6_go : GoodIn wzL_law wsX6_go := goodIn_ca (goodIn_ca (goodIn_r _ [279, 280, 110, 60, 281, 111, 112, 5, 113, 114, 115, 116, 117, 118, 139, 140, 141, 142, 52, 282, 283, 284, 285, 53, 286, 188, 185, 189, 54, 287, 184, 186, 288, 289, 160, 161, 162, 163, 290, 291, 292, 59, 293, 294, 295, 296, 297, 298, 299, 300, 301, 12, 13, 302, 303, 304, 305, 306, 307, 308, 309, 310, 311, 312, 313, 314, 315, 316, 317, 318, 319, 320, 321, 322, 323, 324, 325, 326, 327, 328, 329, 330, 331, 332, 333, 334, 335, 336, 337, 338, 339, 340, 341, 342, 343, 344, 345, 346, 347, 348, 349, 350, 351, 352, 353, 354, 355, 356, 357, 358, 35, 359, 360, 361, 362, 363, 364, 365, 366, 367, 368, 369, 370, 371, 372, 373, 374, 375, 376, 377, 378, 379, 1098, 1099, 1100, 1101, 1102, 1103, 1104, 1105, 1106, 1107, 1108, 1134, 1135, 1136, 1137, 1116, 1117, 1118, 1138, 1139, 1140, 1141, 1142, 1143, 1144, 1145, 1146, 1147, 1148, 1149, 1150, 1151, 1152] (by decide +kernel) (by decide +kernel)) (goodIn_sub (fun _ h => (List.mem_append_left _ (List.mem_append_left _ (List.mem_append_left _ (List.mem_append_left _ (List.mem_append_left _ (List.mem_append_left _ (List.mem_append_right _ h)))))))) (by decide +kernel))) (goodIn_sub (fun _ h => (List.mem_append_left _ (List.mem_append_left _ (List.mem_append_right _ h)))) (by decide +kernel))
set_option maxRecDepth 20000 in
theorem gL_law_X6_go : GoodIn wzL_law (wsV RL 167 RX6 yX6_go wsX6_go) := goodIn_app (goodIn_of _ (by decide +kernel)) ggL_law_X6_go
set_option maxRecDepth 20000 in
theorem ggL_law_X3_now : GoodIn wzL_law wsX3_now := goodIn_r _ [383, 25, 1088, 1089, 1090, 1091, 1092, 1093, 1094, 1095, 1096, 1097] (by decide +kernel) (by decide +kernel)
set_option maxRecDepth 20000 in
theorem gL_law_X3_now : GoodIn wzL_law (wsV RL 168 RX3 yX3_now wsX3_now) := goodIn_app (goodIn_of _ (by decide +kernel)) ggL_law_X3_now
set_option maxRecDepth 20000 in
theorem ggL_law_X6_now : GoodIn wzL_law wsX6_now := goodIn_r _ [387, 118, 110, 1098, 1099, 1100, 1101, 1102, 1103, 1104, 1105, 1106, 1107, 1108] (by decide +kernel) (by decide +kernel)
set_option maxRecDepth 20000 in
theorem gL_law_X6_now : GoodIn wzL_law (wsV RL 171 RX6 yX6_now wsX6_now) := goodIn_app (goodIn_of _ (by decide +kernel)) ggL_law_X6_now
set_option maxRecDepth 20000 in
theorem ggL_law_L_ice : GoodIn wzL_law wsL_ice := goodIn_ca (goodIn_ca (goodIn_r _ [390, 84, 391, 392, 393, 2, 394, 90, 91, 21, 395, 98, 99, 100, 1088, 1089, 1090, 1091, 1092, 1093, 1094, 1095, 1096, 1097, 1113, 1114, 1115] (by decide +kernel) (by decide +kernel)) (goodIn_sub (fun _ h => (List.mem_append_left _ (List.mem_append_left _ (List.mem_append_left _ (List.mem_append_left _ (List.mem_append_left _ (List.mem_append_left _ (List.mem_append_right _ h)))))))) (by decide +kernel))) (goodIn_sub (fun _ h => (List.mem_append_left _ (List.mem_append_left _ (List.mem_append_left _ (List.mem_append_left _ (List.mem_append_left _ (List.mem_append_right _ h))))))) (by decide +kernel))
set_option maxRecDepth 20000 in
theorem gL_law_L_ice : GoodIn wzL_law (va_wsS RL 172 yL_ice wsL_ice) := goodIn_app (goodIn_of _ (by decide +kernel)) ggL_law_L_ice
set_option maxRecDepth 20000 in
theorem ggL_law_X6_ice : GoodIn wzL_law wsX6_ice := goodIn_ca (goodIn_r _ [399, 53, 400, 401, 402, 5, 403, 404, 111, 112, 113, 114, 115, 116, 117, 118, 1098, 1099, 1100, 1101, 1102, 1103, 1104, 1105, 1106, 1107, 1108] (by decide +kernel) (by decide +kernel)) (goodIn_sub (fun _ h => (List.mem_append_left _ (List.mem_append_left _ (List.mem_append_left _ (List.mem_append_left _ (List.mem_append_left _ (List.mem_append_left _ (List.mem_append_right _ h)))))))) (by decide +kernel))
set_option maxRecDepth 20000 in
theorem gL_law_X6_ice : GoodIn wzL_law (wsV RL 174 RX6 yX6_ice wsX6_ice) := goodIn_app (goodIn_of _ (by decide +kernel)) ggL_law_X6_ice
set_option maxRecDepth 20000 in
theorem ggL_law_L_clear : GoodIn wzL_law wsL_clear := goodIn_ca (goodIn_ca (goodIn_r _ [407, 84, 408, 409, 410, 2, 411, 90, 91, 21, 412, 98, 99, 100, 1088, 1089, 1090, 1091, 1092, 1093, 1094, 1095, 1096, 1097, 1113, 1114, 1115] (by decide +kernel) (by decide +kernel)) (goodIn_sub (fun _ h => (List.mem_append_left _ (List.mem_append_left _ (List.mem_append_left _ (List.mem_append_left _ (List.mem_append_left _ (List.mem_append_left _ (List.mem_append_right _ h)))))))) (by decide +kernel))) (goodIn_sub (fun _ h => (List.mem_append_left _ (List.mem_append_left _ (List.mem_append_left _ (List.mem_append_left _ (List.mem_append_left _ (List.mem_append_right _ h))))))) (by decide +kernel))
set_option maxRecDepth 20000 in
theorem gL_law_L_clear : GoodIn wzL_law (va_wsS RL 175 yL_clear wsL_clear) := goodIn_app (goodIn_of _ (by decide +kernel)) ggL_law_L_clear
set_option maxRecDepth 20000 in
theorem ggL_law_X6_clear : GoodIn wzL_law wsX6_clear := goodIn_ca (goodIn_r _ [416, 54, 400, 401, 402, 5, 403, 404, 111, 112, 113, 114, 115, 116, 117, 118, 1098, 1099, 1100, 1101, 1102, 1103, 1104, 1105, 1106, 1107, 1108] (by decide +kernel) (by decide +kernel)) (goodIn_sub (fun _ h => (List.mem_append_left _ (List.mem_append_left _ (List.mem_append_left _ (List.mem_append_left _ (List.mem_append_left _ (List.mem_append_left _ (List.mem_append_right _ h)))))))) (by decide +kernel))
set_option maxRecDepth 20000 in
theorem gL_law_X6_clear : GoodIn wzL_law (wsV RL 177 RX6 yX6_clear wsX6_clear) := goodIn_app (goodIn_of _ (by decide +kernel)) ggL_law_X6_clear
set_option maxRecDepth 20000 in
theorem ggL_law_L_bears : GoodIn wzL_law wsL_bears := goodIn_ca (goodIn_ca (goodIn_r _ [419, 84, 420, 421, 422, 2, 423, 90, 91, 21, 98, 99, 100, 424, 425, 426, 20, 427, 44, 46, 1088, 1089, 1090, 1091, 1092, 1093, 1094, 1095, 1096, 1097, 1113, 1114, 1115] (by decide +kernel) (by decide +kernel)) (goodIn_sub (fun _ h => (List.mem_append_left _ (List.mem_append_left _ (List.mem_append_left _ (List.mem_append_left _ (List.mem_append_left _ (List.mem_append_left _ (List.mem_append_right _ h)))))))) (by decide +kernel))) (goodIn_sub (fun _ h => (List.mem_append_left _ (List.mem_append_left _ (List.mem_append_left _ (List.mem_append_left _ (List.mem_append_left _ (List.mem_append_right _ h))))))) (by decide +kernel))
set_option maxRecDepth 20000 in
theorem gL_law_L_bears : GoodIn wzL_law (va_wsS RL 178 yL_bears wsL_bears) := goodIn_app (goodIn_of _ (by decide +kernel)) ggL_law_L_bears
set_option maxRecDepth 20000 in
theorem ggL_law_X6_bears : GoodIn wzL_law wsX6_bears := goodIn_ca (goodIn_r _ [431, 400, 401, 402, 5, 403, 404, 111, 112, 113, 114, 115, 116, 117, 118, 432, 433, 434, 435, 53, 55, 1098, 1099, 1100, 1101, 1102, 1103, 1104, 1105, 1106, 1107, 1108] (by decide +kernel) (by decide +kernel)) (goodIn_sub (fun _ h => (List.mem_append_left _ (List.mem_append_left _ (List.mem_append_left _ (List.mem_append_left _ (List.mem_append_left _ (List.mem_append_left _ (List.mem_append_right _ h)))))))) (by decide +kernel))
set_option maxRecDepth 20000 in
theorem gL_law_X6_bears : GoodIn wzL_law (wsV RL 180 RX6 yX6_bears wsX6_bears) := goodIn_app (goodIn_of _ (by decide +kernel)) ggL_law_X6_bears
set_option maxRecDepth 20000 in
theorem ggL_law_L_cut : GoodIn wzL_law wsL_cut := goodIn_ca (goodIn_ca (goodIn_ca (goodIn_ca (goodIn_r _ [438, 84, 85, 167, 439, 440, 441, 2, 442, 90, 91, 92, 93, 172, 173, 21, 395, 443, 26, 27, 30, 98, 99, 100, 424, 425, 426, 20, 427, 44, 46, 444, 445, 446, 447, 45, 1088, 1089, 1090, 1091, 1092, 1093, 1094, 1095, 1096, 1097, 1113, 1114, 1115] (by decide +kernel) (by decide +kernel)) (goodIn_sub (fun _ h => (List.mem_append_left _ (List.mem_append_left _ (List.mem_append_left _ (List.mem_append_left _ (List.mem_append_left _ (List.mem_append_left _ (List.mem_append_right _ h)))))))) (by decide +kernel))) (goodIn_sub (fun _ h => (List.mem_append_left _ (List.mem_append_left _ (List.mem_append_left _ (List.mem_append_left _ (List.mem_append_left _ (List.mem_append_right _ h))))))) (by decide +kernel))) (goodIn_sub (fun _ h => (List.mem_append_left _ (List.mem_append_left _ (List.mem_append_left _ (List.mem_append_left _ (List.mem_append_right _ h)))))) (by decide +kernel))) (goodIn_sub (fun _ h => (List.mem_append_left _ (List.mem_append_left _ (List.mem_append_left _ (List.mem_append_right _ h))))) (by decide +kernel))
set_option maxRecDepth 20000 in
theorem gL_law_L_cut : GoodIn wzL_law (va_wsS RL 181 yL_cut wsL_cut) := goodIn_app (goodIn_of _ (by decide +kernel)) ggL_law_L_cut
set_option maxRecDepth 20000 in
theorem ggL_law_X6_cut : GoodIn wzL_law wsX6_cut := goodIn_ca (goodIn_r _ [451, 105, 53, 55, 56, 54, 452, 400, 401, 402, 5, 403, 404, 111, 112, 113, 114, 115, 116, 117, 118, 432, 433, 434, 435, 1098, 1099, 1100, 1101, 1102, 1103, 1104, 1105, 1106, 1107, 1108] (by decide +kernel) (by decide +kernel)) (goodIn_sub (fun _ h => (List.mem_append_left _ (List.mem_append_left _ (List.mem_append_left _ (List.mem_append_left _ (List.mem_append_left _ (List.mem_append_left _ (List.mem_append_right _ h)))))))) (by decide +kernel))
set_option maxRecDepth 20000 in
theorem gL_law_X6_cut : GoodIn wzL_law (wsV RL 184 RX6 yX6_cut wsX6_cut) := goodIn_app (goodIn_of _ (by decide +kernel)) ggL_law_X6_cut
set_option maxRecDepth 20000 in
theorem ggL_law_X3_yard : GoodIn wzL_law wsX3_yard := goodIn_r _ [456, 26, 27, 1088, 1089, 1090, 1091, 1092, 1093, 1094, 1095, 1096, 1097] (by decide +kernel) (by decide +kernel)
set_option maxRecDepth 20000 in
theorem gL_law_X3_yard : GoodIn wzL_law (wsV RL 185 RX3 yX3_yard wsX3_yard) := goodIn_app (goodIn_of _ (by decide +kernel)) ggL_law_X3_yard
set_option maxRecDepth 20000 in
theorem ggL_law_X6_yard : GoodIn wzL_law wsX6_yard := goodIn_ca (goodIn_r _ [460, 118, 56, 1098, 1099, 1100, 1101, 1102, 1103, 1104, 1105, 1106, 1107, 1108] (by decide +kernel) (by decide +kernel)) (goodIn_sub (fun _ h => (List.mem_append_left _ (List.mem_append_left _ (List.mem_append_left _ (List.mem_append_left _ (List.mem_append_left _ (List.mem_append_left _ (List.mem_append_right _ h)))))))) (by decide +kernel))
set_option maxRecDepth 20000 in
theorem gL_law_X6_yard : GoodIn wzL_law (wsV RL 189 RX6 yX6_yard wsX6_yard) := goodIn_app (goodIn_of _ (by decide +kernel)) ggL_law_X6_yard
set_option maxRecDepth 20000 in
theorem ggL_law_L_lorries : GoodIn wzL_law wsL_lorries := goodIn_ca (goodIn_ca (goodIn_r _ [463, 84, 464, 465, 466, 2, 467, 90, 91, 30, 28, 98, 99, 100, 190, 191, 192, 193, 194, 188, 185, 189, 1088, 1089, 1090, 1091, 1092, 1093, 1094, 1095, 1096, 1097] (by decide +kernel) (by decide +kernel)) (goodIn_sub (fun _ h => (List.mem_append_left _ (List.mem_append_left _ (List.mem_append_left _ (List.mem_append_left _ (List.mem_append_left _ (List.mem_append_left _ (List.mem_append_right _ h)))))))) (by decide +kernel))) (goodIn_sub (fun _ h => (List.mem_append_left _ (List.mem_append_left _ (List.mem_append_left _ (List.mem_append_left _ (List.mem_append_left _ (List.mem_append_right _ h))))))) (by decide +kernel))
set_option maxRecDepth 20000 in
theorem gL_law_L_lorries : GoodIn wzL_law (va_wsS RL 190 yL_lorries wsL_lorries) := goodIn_app (goodIn_of _ (by decide +kernel)) ggL_law_L_lorries
set_option maxRecDepth 20000 in
theorem ggL_law_X6_lorries : GoodIn wzL_law wsX6_lorries := goodIn_r _ [471, 105, 289, 286, 188, 185, 189, 452, 111, 112, 5, 113, 114, 115, 116, 117, 118, 1098, 1099, 1100, 1101, 1102, 1103, 1104, 1105, 1106, 1107, 1108] (by decide +kernel) (by decide +kernel)
set_option maxRecDepth 20000 in
theorem gL_law_X6_lorries : GoodIn wzL_law (wsV RL 192 RX6 yX6_lorries wsX6_lorries) := goodIn_app (goodIn_of _ (by decide +kernel)) ggL_law_X6_lorries
set_option maxRecDepth 20000 in
theorem ggL_law_X3_machine : GoodIn wzL_law wsX3_machine := goodIn_r _ [475, 29, 1088, 1089, 1090, 1091, 1092, 1093, 1094, 1095, 1096, 1097] (by decide +kernel) (by decide +kernel)
set_option maxRecDepth 20000 in
theorem gL_law_X3_machine : GoodIn wzL_law (wsV RL 193 RX3 yX3_machine wsX3_machine) := goodIn_app (goodIn_of _ (by decide +kernel)) ggL_law_X3_machine
set_option maxRecDepth 20000 in
theorem ggL_law_X6_machine : GoodIn wzL_law wsX6_machine := goodIn_r _ [479, 118, 288, 1098, 1099, 1100, 1101, 1102, 1103, 1104, 1105, 1106, 1107, 1108] (by decide +kernel) (by decide +kernel)
set_option maxRecDepth 20000 in
theorem gL_law_X6_machine : GoodIn wzL_law (wsV RL 197 RX6 yX6_machine wsX6_machine) := goodIn_app (goodIn_of _ (by decide +kernel)) ggL_law_X6_machine
set_option maxRecDepth 20000 in
theorem ggL_law_X3_snow : GoodIn wzL_law wsX3_snow := goodIn_r _ [483, 28, 1088, 1089, 1090, 1091, 1092, 1093, 1094, 1095, 1096, 1097] (by decide +kernel) (by decide +kernel)
set_option maxRecDepth 20000 in
theorem gL_law_X3_snow : GoodIn wzL_law (wsV RL 198 RX3 yX3_snow wsX3_snow) := goodIn_app (goodIn_of _ (by decide +kernel)) ggL_law_X3_snow
set_option maxRecDepth 20000 in
theorem ggL_law_X6_snow : GoodIn wzL_law wsX6_snow := goodIn_r _ [487, 118, 289, 1098, 1099, 1100, 1101, 1102, 1103, 1104, 1105, 1106, 1107, 1108] (by decide +kernel) (by decide +kernel)
set_option maxRecDepth 20000 in
theorem gL_law_X6_snow : GoodIn wzL_law (wsV RL 201 RX6 yX6_snow wsX6_snow) := goodIn_app (goodIn_of _ (by decide +kernel)) ggL_law_X6_snow
set_option maxRecDepth 20000 in
theorem ggL_law_L_site : GoodIn wzL_law wsL_site := goodIn_ca (goodIn_ca (goodIn_r _ [490, 167, 491, 492, 493, 2, 494, 172, 173, 24, 23, 22, 495, 206, 496, 497, 498, 499, 12, 13, 500, 214, 35, 209, 229, 230, 326, 231, 501, 243, 208, 502, 220, 219, 503, 504, 505, 506, 1088, 1089, 1090, 1091, 1092, 1093, 1094, 1095, 1096, 1097, 1119, 1120, 1121, 1122, 1123, 1124, 1125, 1126, 1127, 1128, 1129, 1130, 1131, 1132, 1133] (by decide +kernel) (by decide +kernel)) (goodIn_sub (fun _ h => (List.mem_append_left _ (List.mem_append_left _ (List.mem_append_left _ (List.mem_append_left _ (List.mem_append_left _ (List.mem_append_left _ (List.mem_append_right _ h)))))))) (by decide +kernel))) (goodIn_sub (fun _ h => (List.mem_append_left _ (List.mem_append_left _ (List.mem_append_left _ (List.mem_append_right _ h))))) (by decide +kernel))
set_option maxRecDepth 20000 in
theorem gL_law_L_site : GoodIn wzL_law (va_wsS RL 202 yL_site wsL_site) := goodIn_app (goodIn_of _ (by decide +kernel)) ggL_law_L_site
set_option maxRecDepth 20000 in
theorem ggL_law_X6_site : GoodIn wzL_law wsX6_site := goodIn_r _ [510, 60, 511, 512, 323, 513, 514, 515, 59, 516, 517, 114, 115, 116, 5, 117, 118, 518, 519, 327, 520, 12, 13, 331, 325, 326, 521, 344, 522, 523, 524, 525, 526, 304, 65, 527, 528, 529, 530, 531, 532, 533, 534, 535, 536, 537, 538, 64, 539, 184, 185, 186, 540, 541, 542, 543, 544, 545, 546, 547, 548, 549, 550, 551, 78, 552, 553, 554, 555, 556, 557, 558, 559, 560, 561, 562, 188, 189, 563, 564, 565, 566, 1098, 1099, 1100, 1101, 1102, 1103, 1104, 1105, 1106, 1107, 1108, 1138, 1139, 1140, 1141, 1142, 1143, 1144, 1145, 1146, 1147, 1116, 1117, 1118] (by decide +kernel) (by decide +kernel)
set_option maxRecDepth 20000 in
theorem gL_law_X6_site : GoodIn wzL_law (wsV RL 205 RX6 yX6_site wsX6_site) := goodIn_app (goodIn_of _ (by decide +kernel)) ggL_law_X6_site
set_option maxRecDepth 20000 in
theorem ggL_law_L_put : GoodIn wzL_law wsL_put := goodIn_ca (goodIn_ca (goodIn_ca (goodIn_ca (goodIn_ca (goodIn_r _ [569, 570, 84, 85, 167, 571, 572, 573, 2, 574, 575, 576, 90, 91, 92, 93, 172, 173, 30, 577, 578, 579, 580, 98, 99, 100, 195, 196, 197, 198, 24, 23, 581, 248, 249, 582, 211, 212, 206, 213, 214, 583, 259, 260, 261, 254, 255, 256, 257, 250, 251, 252, 253, 210, 584, 585, 586, 587, 28, 26, 27, 588, 589, 590, 591, 592, 226, 227, 228, 209, 229, 230, 231, 232, 233, 234, 593, 594, 595, 596, 17, 25, 130, 131, 132, 16, 133, 36, 37, 235, 236, 237, 238, 239, 240, 241, 242, 208, 243, 244, 245, 246, 247, 258, 262, 263, 264, 265, 266, 188, 185, 189, 267, 184, 186, 268, 269, 270, 215, 216, 217, 218, 219, 220, 221, 222, 223, 224, 225, 597, 598, 599, 600, 1088, 1089, 1090, 1091, 1092, 1093, 1094, 1095, 1096, 1097, 1119, 1120, 1121, 1122, 1123, 1124, 1125, 1126, 1127, 1128, 1129, 1130, 1131, 1132, 1133, 1109, 1110, 1111, 1112] (by decide +kernel) (by decide +kernel)) (goodIn_sub (fun _ h => (List.mem_append_left _ (List.mem_append_left _ (List.mem_append_left _ (List.mem_append_left _ (List.mem_append_left _ (List.mem_append_left _ (List.mem_append_right _ h)))))))) (by decide +kernel))) (goodIn_sub (fun _ h => (List.mem_append_left _ (List.mem_append_right _ h))) (by decide +kernel))) (goodIn_sub (fun _ h => (List.mem_append_left _ (List.mem_append_left _ (List.mem_append_left _ (List.mem_append_left _ (List.mem_append_left _ (List.mem_append_right _ h))))))) (by decide +kernel))) (goodIn_sub (fun _ h => (List.mem_append_left _ (List.mem_append_left _ (List.mem_append_left _ (List.mem_append_left _ (List.mem_append_right _ h)))))) (by decide +kernel))) (goodIn_sub (fun _ h => (List.mem_append_left _ (List.mem_append_left _ (List.mem_append_left _ (List.mem_append_right _ h))))) (by decide +kernel))
set_option maxRecDepth 20000 in
theorem gL_law_L_put : GoodIn wzL_law (va_wsS RL 206 yL_put wsL_put) := goodIn_app (goodIn_of _ (by decide +kernel)) ggL_law_L_put
set_option maxRecDepth 20000 in
theorem ggL_law_X6_put : GoodIn wzL_law wsX6_put := goodIn_ca (goodIn_r _ [604, 60, 281, 289, 56, 452, 605, 606, 607, 110, 608, 609, 610, 5, 611, 612, 613, 513, 514, 515, 59, 516, 517, 111, 112, 113, 114, 115, 116, 117, 118, 614, 615, 616, 617, 618, 619, 620, 621, 622, 623, 624, 625, 626, 627, 628, 629, 65, 630, 335, 336, 323, 337, 338, 339, 331, 631, 372, 373, 374, 334, 363, 364, 365, 366, 367, 368, 369, 370, 632, 633, 634, 635, 12, 13, 636, 637, 139, 140, 141, 142, 52, 638, 347, 348, 349, 350, 351, 352, 353, 325, 326, 354, 355, 356, 357, 358, 35, 359, 360, 361, 362, 371, 375, 376, 377, 378, 379, 188, 185, 189, 332, 184, 186, 340, 341, 342, 343, 344, 345, 327, 639, 640, 641, 642, 1098, 1099, 1100, 1101, 1102, 1103, 1104, 1105, 1106, 1107, 1108, 1138, 1139, 1140, 1141, 1142, 1143, 1144, 1145, 1146, 1147, 1148, 1149, 1150, 1151, 1152, 1116, 1117, 1118] (by decide +kernel) (by decide +kernel)) (goodIn_sub (fun _ h => (List.mem_append_left _ (List.mem_append_left _ (List.mem_append_left _ (List.mem_append_left _ (List.mem_append_left _ (List.mem_append_left _ (List.mem_append_right _ h)))))))) (by decide +kernel))
set_option maxRecDepth 20000 in
theorem gL_law_X6_put : GoodIn wzL_law (wsV RL 209 RX6 yX6_put wsX6_put) := goodIn_app (goodIn_of _ (by decide +kernel)) ggL_law_X6_put
set_option maxRecDepth 20000 in
theorem ggL_law_L_at : GoodIn wzL_law wsL_at := goodIn_ca (goodIn_ca (goodIn_r _ [645, 570, 646, 647, 648, 2, 649, 575, 576, 650, 577, 578, 579, 580, 98, 99, 100, 195, 196, 197, 198, 24, 23, 581, 248, 249, 1119, 1120, 1121, 1122, 1123, 1124, 1125, 1126, 1127, 1128, 1129, 1130, 1131, 1132, 1133, 1088, 1089, 1090, 1091, 1092, 1093, 1094, 1095, 1096, 1097] (by decide +kernel) (by decide +kernel)) (goodIn_sub (fun _ h => (List.mem_append_left _ (List.mem_append_left _ (List.mem_append_left _ (List.mem_append_left _ (List.mem_append_left _ (List.mem_append_left _ (List.mem_append_right _ h)))))))) (by decide +kernel))) (goodIn_sub (fun _ h => (List.mem_append_left _ (List.mem_append_right _ h))) (by decide +kernel))
set_option maxRecDepth 20000 in
theorem gL_law_L_at : GoodIn wzL_law (va_wsS RL 210 yL_at wsL_at) := goodIn_app (goodIn_of _ (by decide +kernel)) ggL_law_L_at
set_option maxRecDepth 20000 in
theorem ggL_law_X6_at : GoodIn wzL_law wsX6_at := goodIn_r _ [654, 60, 281, 608, 609, 610, 5, 611, 612, 613, 513, 514, 515, 59, 516, 517, 111, 112, 113, 114, 115, 116, 117, 118, 614, 615, 616, 617, 618, 619, 620, 621, 622, 623, 624, 625, 626, 627, 628, 629, 65, 630, 335, 336, 323, 337, 338, 339, 331, 1098, 1099, 1100, 1101, 1102, 1103, 1104, 1105, 1106, 1107, 1108, 1138, 1139, 1140, 1141, 1142, 1143, 1144, 1145, 1146, 1147, 1148, 1149, 1150, 1151, 1152, 1116, 1117, 1118] (by decide +kernel) (by decide +kernel)
set_option maxRecDepth 20000 in
theorem gL_law_X6_at : GoodIn wzL_law (wsV RL 213 RX6 yX6_at wsX6_at) := goodIn_app (goodIn_of _ (by decide +kernel)) ggL_law_X6_at
set_option maxRecDepth 20000 in
theorem ggL_law_L_mass : GoodIn wzL_law wzL_mass := goodIn_ca (goodIn_ca (goodIn_r _ [657, 570, 658, 659, 660, 661, 2, 662, 575, 576, 663, 664, 665, 577, 578, 579, 580, 98, 99, 100, 195, 196, 197, 198, 24, 23, 581, 248, 249, 582, 211, 212, 206, 213, 214, 1119, 1120, 1121, 1122, 1123, 1124, 1125, 1126, 1127, 1128, 1129, 1130, 1131, 1132, 1133, 1088, 1089, 1090, 1091, 1092, 1093, 1094, 1095, 1096, 1097] (by decide +kernel) (by decide +kernel)) (goodIn_sub (fun _ h => (List.mem_append_left _ (List.mem_append_left _ (List.mem_append_left _ (List.mem_append_left _ (List.mem_append_left _ (List.mem_append_left _ (List.mem_append_right _ h)))))))) (by decide +kernel))) (goodIn_sub (fun _ h => (List.mem_append_left _ (List.mem_append_right _ h))) (by decide +kernel))
set_option maxRecDepth 20000 in
theorem gL_law_L_mass : GoodIn wzL_law (va_wsS RL 214 yL_mass wzL_mass) := goodIn_app (goodIn_of _ (by decide +kernel)) ggL_law_L_mass
set_option maxRecDepth 20000 in
theorem ggL_law_X6_mass : GoodIn wzL_law wsX6_mass := goodIn_r _ [669, 60, 281, 670, 671, 672, 5, 673, 608, 609, 610, 611, 612, 613, 513, 514, 515, 59, 516, 517, 111, 112, 113, 114, 115, 116, 117, 118, 614, 615, 616, 617, 618, 619, 620, 621, 622, 623, 624, 625, 626, 627, 628, 629, 65, 630, 335, 336, 323, 337, 338, 339, 331, 1098, 1099, 1100, 1101, 1102, 1103, 1104, 1105, 1106, 1107, 1108, 1138, 1139, 1140, 1141, 1142, 1143, 1144, 1145, 1146, 1147, 1148, 1149, 1150, 1151, 1152, 1116, 1117, 1118] (by decide +kernel) (by decide +kernel)
set_option maxRecDepth 20000 in
theorem gL_law_X6_mass : GoodIn wzL_law (wsV RL 216 RX6 yX6_mass wsX6_mass) := goodIn_app (goodIn_of _ (by decide +kernel)) ggL_law_X6_mass
set_option maxRecDepth 20000 in
theorem ggL_law_L_load : GoodIn wzL_law wzL_load := goodIn_ca (goodIn_ca (goodIn_r _ [676, 570, 658, 677, 678, 679, 2, 680, 575, 576, 663, 664, 681, 577, 578, 579, 580, 98, 99, 100, 195, 196, 197, 198, 24, 23, 581, 248, 249, 582, 211, 212, 206, 213, 214, 682, 245, 246, 247, 243, 209, 210, 250, 251, 252, 253, 254, 255, 256, 257, 1119, 1120, 1121, 1122, 1123, 1124, 1125, 1126, 1127, 1128, 1129, 1130, 1131, 1132, 1133, 1088, 1089, 1090, 1091, 1092, 1093, 1094, 1095, 1096, 1097] (by decide +kernel) (by decide +kernel)) (goodIn_sub (fun _ h => (List.mem_append_left _ (List.mem_append_left _ (List.mem_append_left _ (List.mem_append_left _ (List.mem_append_left _ (List.mem_append_left _ (List.mem_append_right _ h)))))))) (by decide +kernel))) (goodIn_sub (fun _ h => (List.mem_append_left _ (List.mem_append_right _ h))) (by decide +kernel))
set_option maxRecDepth 20000 in
theorem gL_law_L_load : GoodIn wzL_law (va_wsS RL 217 yL_load wzL_load) := goodIn_app (goodIn_of _ (by decide +kernel)) ggL_law_L_load
set_option maxRecDepth 20000 in
theorem ggL_law_X6_load : GoodIn wzL_law wsX6_load := goodIn_ca (goodIn_r _ [686, 60, 281, 670, 671, 672, 5, 673, 608, 609, 610, 611, 612, 613, 513, 514, 515, 59, 516, 517, 111, 112, 113, 114, 115, 116, 117, 118, 614, 615, 616, 617, 618, 619, 620, 621, 622, 623, 624, 625, 626, 627, 628, 629, 65, 630, 335, 336, 323, 337, 338, 339, 331, 687, 355, 356, 357, 358, 35, 334, 359, 360, 361, 362, 363, 364, 365, 366, 367, 368, 369, 370, 1098, 1099, 1100, 1101, 1102, 1103, 1104, 1105, 1106, 1107, 1108, 1116, 1117, 1118, 1138, 1139, 1140, 1141, 1142, 1143, 1144, 1145, 1146, 1147, 1148, 1149, 1150, 1151, 1152] (by decide +kernel) (by decide +kernel)) (goodIn_sub (fun _ h => (List.mem_append_left _ (List.mem_append_left _ (List.mem_append_left _ (List.mem_append_left _ (List.mem_append_left _ (List.mem_append_left _ (List.mem_append_right _ h)))))))) (by decide +kernel))
set_option maxRecDepth 20000 in
theorem gL_law_X6_load : GoodIn wzL_law (wsV RL 219 RX6 yX6_load wsX6_load) := goodIn_app (goodIn_of _ (by decide +kernel)) ggL_law_X6_load
set_option maxRecDepth 20000 in
theorem ggL_law_L_strength : GoodIn wzL_law wzL_strength := goodIn_ca (goodIn_ca (goodIn_r _ [690, 570, 658, 691, 692, 693, 2, 694, 575, 576, 663, 664, 17, 25, 577, 578, 579, 580, 98, 99, 100, 195, 196, 197, 198, 24, 23, 581, 248, 249, 582, 211, 212, 206, 213, 214, 130, 131, 132, 16, 133, 36, 37, 695, 263, 264, 265, 230, 266, 188, 185, 189, 231, 267, 184, 186, 210, 268, 269, 270, 1088, 1089, 1090, 1091, 1092, 1093, 1094, 1095, 1096, 1097, 1119, 1120, 1121, 1122, 1123, 1124, 1125, 1126, 1127, 1128, 1129, 1130, 1131, 1132, 1133, 1109, 1110, 1111, 1112] (by decide +kernel) (by decide +kernel)) (goodIn_sub (fun _ h => (List.mem_append_left _ (List.mem_append_left _ (List.mem_append_left _ (List.mem_append_left _ (List.mem_append_left _ (List.mem_append_left _ (List.mem_append_right _ h)))))))) (by decide +kernel))) (goodIn_sub (fun _ h => (List.mem_append_left _ (List.mem_append_right _ h))) (by decide +kernel))
set_option maxRecDepth 20000 in
theorem gL_law_L_strength : GoodIn wzL_law (va_wsS RL 220 yL_strength wzL_strength) := goodIn_app (goodIn_of _ (by decide +kernel)) ggL_law_L_strength
set_option maxRecDepth 20000 in
theorem ggL_law_X6_strength : GoodIn wzL_law wsX6_strength := goodIn_ca (goodIn_r _ [699, 60, 281, 110, 670, 671, 672, 5, 673, 608, 609, 610, 611, 612, 613, 513, 514, 515, 59, 516, 517, 111, 112, 113, 114, 115, 116, 117, 118, 614, 615, 616, 617, 618, 619, 620, 621, 622, 623, 624, 625, 626, 627, 628, 629, 65, 630, 335, 336, 323, 337, 338, 339, 331, 139, 140, 141, 142, 52, 700, 376, 377, 378, 379, 188, 185, 189, 332, 184, 186, 1098, 1099, 1100, 1101, 1102, 1103, 1104, 1105, 1106, 1107, 1108, 1116, 1117, 1118, 1138, 1139, 1140, 1141, 1142, 1143, 1144, 1145, 1146, 1147, 1148, 1149, 1150, 1151, 1152] (by decide +kernel) (by decide +kernel)) (goodIn_sub (fun _ h => (List.mem_append_left _ (List.mem_append_left _ (List.mem_append_left _ (List.mem_append_left _ (List.mem_append_left _ (List.mem_append_left _ (List.mem_append_right _ h)))))))) (by decide +kernel))
set_option maxRecDepth 20000 in
theorem gL_law_X6_strength : GoodIn wzL_law (wsV RL 222 RX6 yX6_strength wsX6_strength) := goodIn_app (goodIn_of _ (by decide +kernel)) ggL_law_X6_strength
set_option maxRecDepth 20000 in
theorem ggL_law_L_creep : GoodIn wzL_law wzL_creep := goodIn_ca (goodIn_ca (goodIn_r _ [703, 570, 658, 704, 705, 706, 2, 707, 575, 576, 663, 664, 708, 577, 578, 579, 580, 98, 99, 100, 195, 196, 197, 198, 24, 23, 581, 248, 249, 582, 211, 212, 206, 213, 214, 1119, 1120, 1121, 1122, 1123, 1124, 1125, 1126, 1127, 1128, 1129, 1130, 1131, 1132, 1133, 1088, 1089, 1090, 1091, 1092, 1093, 1094, 1095, 1096, 1097] (by decide +kernel) (by decide +kernel)) (goodIn_sub (fun _ h => (List.mem_append_left _ (List.mem_append_left _ (List.mem_append_left _ (List.mem_append_left _ (List.mem_append_left _ (List.mem_append_left _ (List.mem_append_right _ h)))))))) (by decide +kernel))) (goodIn_sub (fun _ h => (List.mem_append_left _ (List.mem_append_right _ h))) (by decide +kernel))
set_option maxRecDepth 20000 in
theorem gL_law_L_creep : GoodIn wzL_law (va_wsS RL 223 yL_creep wzL_creep) := goodIn_app (goodIn_of _ (by decide +kernel)) ggL_law_L_creep
set_option maxRecDepth 20000 in
theorem ggL_law_X6_creep : GoodIn wzL_law wsX6_creep := goodIn_r _ [712, 60, 281, 670, 671, 672, 5, 673, 608, 609, 610, 611, 612, 613, 513, 514, 515, 59, 516, 517, 111, 112, 113, 114, 115, 116, 117, 118, 614, 615, 616, 617, 618, 619, 620, 621, 622, 623, 624, 625, 626, 627, 628, 629, 65, 630, 335, 336, 323, 337, 338, 339, 331, 1098, 1099, 1100, 1101, 1102, 1103, 1104, 1105, 1106, 1107, 1108, 1138, 1139, 1140, 1141, 1142, 1143, 1144, 1145, 1146, 1147, 1148, 1149, 1150, 1151, 1152, 1116, 1117, 1118] (by decide +kernel) (by decide +kernel)
set_option maxRecDepth 20000 in
theorem gL_law_X6_creep : GoodIn wzL_law (wsV RL 225 RX6 yX6_creep wsX6_creep) := goodIn_app (goodIn_of _ (by decide +kernel)) ggL_law_X6_creep
set_option maxRecDepth 20000 in
theorem ggL_law_L_age : GoodIn wzL_law wzL_age := goodIn_ca (goodIn_ca (goodIn_r _ [715, 570, 658, 716, 717, 718, 2, 719, 575, 576, 663, 664, 720, 577, 578, 579, 580, 98, 99, 100, 195, 196, 197, 198, 24, 23, 581, 248, 249, 582, 211, 212, 206, 213, 214, 1119, 1120, 1121, 1122, 1123, 1124, 1125, 1126, 1127, 1128, 1129, 1130, 1131, 1132, 1133, 1088, 1089, 1090, 1091, 1092, 1093, 1094, 1095, 1096, 1097] (by decide +kernel) (by decide +kernel)) (goodIn_sub (fun _ h => (List.mem_append_left _ (List.mem_append_left _ (List.mem_append_left _ (List.mem_append_left _ (List.mem_append_left _ (List.mem_append_left _ (List.mem_append_right _ h)))))))) (by decide +kernel))) (goodIn_sub (fun _ h => (List.mem_append_left _ (List.mem_append_right _ h))) (by decide +kernel))
set_option maxRecDepth 20000 in
theorem gL_law_L_age : GoodIn wzL_law (va_wsS RL 226 yL_age wzL_age) := goodIn_app (goodIn_of _ (by decide +kernel)) ggL_law_L_age
set_option maxRecDepth 20000 in
theorem ggL_law_X6_age : GoodIn wzL_law wsX6_age := goodIn_r _ [724, 60, 281, 670, 671, 672, 5, 673, 608, 609, 610, 611, 612, 613, 513, 514, 515, 59, 516, 517, 111, 112, 113, 114, 115, 116, 117, 118, 614, 615, 616, 617, 618, 619, 620, 621, 622, 623, 624, 625, 626, 627, 628, 629, 65, 630, 335, 336, 323, 337, 338, 339, 331, 1098, 1099, 1100, 1101, 1102, 1103, 1104, 1105, 1106, 1107, 1108, 1138, 1139, 1140, 1141, 1142, 1143, 1144, 1145, 1146, 1147, 1148, 1149, 1150, 1151, 1152, 1116, 1117, 1118] (by decide +kernel) (by decide +kernel)
set_option maxRecDepth 20000 in
theorem gL_law_X6_age : GoodIn wzL_law (wsV RL 228 RX6 yX6_age wsX6_age) := goodIn_app (goodIn_of _ (by decide +kernel)) ggL_law_X6_age
set_option maxRecDepth 20000 in
theorem ggL_law_L_isArch : GoodIn wzL_law wzL_isArch := goodIn_ca (goodIn_ca (goodIn_r _ [727, 570, 658, 728, 729, 730, 2, 731, 575, 576, 663, 664, 577, 578, 579, 580, 98, 99, 100, 195, 196, 197, 198, 24, 23, 581, 248, 249, 582, 211, 212, 206, 213, 214, 732, 251, 252, 253, 254, 255, 256, 257, 210, 1088, 1089, 1090, 1091, 1092, 1093, 1094, 1095, 1096, 1097, 1119, 1120, 1121, 1122, 1123, 1124, 1125, 1126, 1127, 1128, 1129, 1130, 1131, 1132, 1133] (by decide +kernel) (by decide +kernel)) (goodIn_sub (fun _ h => (List.mem_append_left _ (List.mem_append_left _ (List.mem_append_left _ (List.mem_append_left _ (List.mem_append_left _ (List.mem_append_left _ (List.mem_append_right _ h)))))))) (by decide +kernel))) (goodIn_sub (fun _ h => (List.mem_append_left _ (List.mem_append_right _ h))) (by decide +kernel))
set_option maxRecDepth 20000 in
theorem gL_law_L_isArch : GoodIn wzL_law (va_wsS RL 229 yL_isArch wzL_isArch) := goodIn_app (goodIn_of _ (by decide +kernel)) ggL_law_L_isArch
set_option maxRecDepth 20000 in
theorem ggL_law_X6_isArch : GoodIn wzL_law wsX6_isArch := goodIn_r _ [736, 60, 281, 670, 671, 672, 5, 673, 608, 609, 610, 611, 612, 613, 513, 514, 515, 59, 516, 517, 111, 112, 113, 114, 115, 116, 117, 118, 614, 615, 616, 617, 618, 619, 620, 621, 622, 623, 624, 625, 626, 627, 628, 629, 65, 630, 335, 336, 323, 337, 338, 339, 331, 737, 364, 365, 366, 334, 367, 368, 369, 370, 1098, 1099, 1100, 1101, 1102, 1103, 1104, 1105, 1106, 1107, 1108, 1116, 1117, 1118, 1138, 1139, 1140, 1141, 1142, 1143, 1144, 1145, 1146, 1147] (by decide +kernel) (by decide +kernel)
set_option maxRecDepth 20000 in
theorem gL_law_X6_isArch : GoodIn wzL_law (wsV RL 231 RX6 yX6_isArch wsX6_isArch) := goodIn_app (goodIn_of _ (by decide +kernel)) ggL_law_X6_isArch
set_option maxRecDepth 20000 in
theorem ggL_law_L_fell : GoodIn wzL_law wsL_fell := goodIn_ca (goodIn_ca (goodIn_r _ [740, 570, 741, 742, 743, 2, 744, 575, 576, 745, 195, 196, 197, 198, 24, 23, 98, 99, 100, 1119, 1120, 1121, 1122, 1123, 1124, 1125, 1126, 1127, 1128, 1129, 1130, 1131, 1132, 1133, 1088, 1089, 1090, 1091, 1092, 1093, 1094, 1095, 1096, 1097] (by decide +kernel) (by decide +kernel)) (goodIn_sub (fun _ h => (List.mem_append_left _ (List.mem_append_left _ (List.mem_append_left _ (List.mem_append_left _ (List.mem_append_left _ (List.mem_append_left _ (List.mem_append_right _ h)))))))) (by decide +kernel))) (goodIn_sub (fun _ h => (List.mem_append_left _ (List.mem_append_right _ h))) (by decide +kernel))
set_option maxRecDepth 20000 in
theorem gL_law_L_fell : GoodIn wzL_law (va_wsS RL 232 yL_fell wsL_fell) := goodIn_app (goodIn_of _ (by decide +kernel)) ggL_law_L_fell
set_option maxRecDepth 20000 in
theorem ggL_law_X6_fell : GoodIn wzL_law wsX6_fell := goodIn_r _ [749, 60, 281, 750, 751, 752, 5, 753, 513, 514, 515, 59, 516, 517, 111, 112, 113, 114, 115, 116, 117, 118, 614, 615, 616, 617, 618, 619, 620, 621, 622, 623, 624, 625, 626, 627, 628, 629, 65, 1098, 1099, 1100, 1101, 1102, 1103, 1104, 1105, 1106, 1107, 1108, 1138, 1139, 1140, 1141, 1142, 1143, 1144, 1145, 1146, 1147, 1116, 1117, 1118] (by decide +kernel) (by decide +kernel)
set_option maxRecDepth 20000 in
theorem gL_law_X6_fell : GoodIn wzL_law (wsV RL 234 RX6 yX6_fell wsX6_fell) := goodIn_app (goodIn_of _ (by decide +kernel)) ggL_law_X6_fell
set_option maxRecDepth 20000 in
theorem ggL_law_L_lastFell : GoodIn wzL_law wzL_lastFell := goodIn_ca (goodIn_ca (goodIn_r _ [756, 570, 658, 757, 758, 759, 2, 760, 575, 576, 663, 664, 761, 195, 196, 197, 198, 24, 23, 98, 99, 100, 1119, 1120, 1121, 1122, 1123, 1124, 1125, 1126, 1127, 1128, 1129, 1130, 1131, 1132, 1133, 1088, 1089, 1090, 1091, 1092, 1093, 1094, 1095, 1096, 1097] (by decide +kernel) (by decide +kernel)) (goodIn_sub (fun _ h => (List.mem_append_left _ (List.mem_append_left _ (List.mem_append_left _ (List.mem_append_left _ (List.mem_append_left _ (List.mem_append_left _ (List.mem_append_right _ h)))))))) (by decide +kernel))) (goodIn_sub (fun _ h => (List.mem_append_left _ (List.mem_append_right _ h))) (by decide +kernel))
set_option maxRecDepth 20000 in
theorem gL_law_L_lastFell : GoodIn wzL_law (va_wsS RL 235 yL_lastFell wzL_lastFell) := goodIn_app (goodIn_of _ (by decide +kernel)) ggL_law_L_lastFell
set_option maxRecDepth 20000 in
theorem ggL_law_X6_lastFell : GoodIn wzL_law wsX6_lastFell := goodIn_r _ [765, 60, 281, 750, 751, 752, 5, 753, 513, 514, 515, 59, 516, 517, 111, 112, 113, 114, 115, 116, 117, 118, 614, 615, 616, 617, 618, 619, 620, 621, 622, 623, 624, 625, 626, 627, 628, 629, 65, 1098, 1099, 1100, 1101, 1102, 1103, 1104, 1105, 1106, 1107, 1108, 1138, 1139, 1140, 1141, 1142, 1143, 1144, 1145, 1146, 1147, 1116, 1117, 1118] (by decide +kernel) (by decide +kernel)
set_option maxRecDepth 20000 in
theorem gL_law_X6_lastFell : GoodIn wzL_law (wsV RL 237 RX6 yX6_lastFell wsX6_lastFell) := goodIn_app (goodIn_of _ (by decide +kernel)) ggL_law_X6_lastFell
set_option maxRecDepth 20000 in
theorem ggL_law_L_cover : GoodIn wzL_law wsL_cover := goodIn_ca (goodIn_ca (goodIn_r _ [768, 570, 769, 770, 771, 2, 772, 575, 576, 178, 30, 195, 196, 197, 198, 24, 23, 98, 99, 100, 1119, 1120, 1121, 1122, 1123, 1124, 1125, 1126, 1127, 1128, 1129, 1130, 1131, 1132, 1133, 1088, 1089, 1090, 1091, 1092, 1093, 1094, 1095, 1096, 1097] (by decide +kernel) (by decide +kernel)) (goodIn_sub (fun _ h => (List.mem_append_left _ (List.mem_append_left _ (List.mem_append_left _ (List.mem_append_left _ (List.mem_append_left _ (List.mem_append_left _ (List.mem_append_right _ h)))))))) (by decide +kernel))) (goodIn_sub (fun _ h => (List.mem_append_left _ (List.mem_append_right _ h))) (by decide +kernel))
set_option maxRecDepth 20000 in
theorem gL_law_L_cover : GoodIn wzL_law (va_wsS RL 238 yL_cover wsL_cover) := goodIn_app (goodIn_of _ (by decide +kernel)) ggL_law_L_cover
set_option maxRecDepth 20000 in
theorem ggL_law_X6_cover : GoodIn wzL_law wsX6_cover := goodIn_r _ [776, 60, 281, 452, 750, 751, 752, 5, 753, 513, 514, 515, 59, 516, 517, 111, 112, 113, 114, 115, 116, 117, 118, 614, 615, 616, 617, 618, 619, 620, 621, 622, 623, 624, 625, 626, 627, 628, 629, 65, 1098, 1099, 1100, 1101, 1102, 1103, 1104, 1105, 1106, 1107, 1108, 1138, 1139, 1140, 1141, 1142, 1143, 1144, 1145, 1146, 1147, 1116, 1117, 1118] (by decide +kernel) (by decide +kernel)
set_option maxRecDepth 20000 in
theorem gL_law_X6_cover : GoodIn wzL_law (wsV RL 241 RX6 yX6_cover wsX6_cover) := goodIn_app (goodIn_of _ (by decide +kernel)) ggL_law_X6_cover
set_option maxRecDepth 20000 in
theorem ggL_law_L_lamp : GoodIn wzL_law wzL_lamp := goodIn_ca (goodIn_ca (goodIn_ca (goodIn_r _ [779, 570, 658, 85, 780, 781, 782, 2, 783, 575, 576, 663, 664, 92, 93, 650, 784, 30, 577, 578, 579, 580, 98, 99, 100, 195, 196, 197, 198, 24, 23, 581, 248, 249, 582, 211, 212, 206, 213, 214, 1119, 1120, 1121, 1122, 1123, 1124, 1125, 1126, 1127, 1128, 1129, 1130, 1131, 1132, 1133, 1088, 1089, 1090, 1091, 1092, 1093, 1094, 1095, 1096, 1097] (by decide +kernel) (by decide +kernel)) (goodIn_sub (fun _ h => (List.mem_append_left _ (List.mem_append_left _ (List.mem_append_left _ (List.mem_append_left _ (List.mem_append_left _ (List.mem_append_left _ (List.mem_append_right _ h)))))))) (by decide +kernel))) (goodIn_sub (fun _ h => (List.mem_append_left _ (List.mem_append_right _ h))) (by decide +kernel))) (goodIn_sub (fun _ h => (List.mem_append_left _ (List.mem_append_left _ (List.mem_append_left _ (List.mem_append_left _ (List.mem_append_right _ h)))))) (by decide +kernel))
set_option maxRecDepth 20000 in
theorem gL_law_L_lamp : GoodIn wzL_law (va_wsS RL 242 yL_lamp wzL_lamp) := goodIn_app (goodIn_of _ (by decide +kernel)) ggL_law_L_lamp
set_option maxRecDepth 20000 in
theorem ggL_law_X6_lamp : GoodIn wzL_law wsX6_lamp := goodIn_r _ [788, 60, 281, 452, 670, 671, 672, 5, 673, 608, 609, 610, 611, 612, 613, 513, 514, 515, 59, 516, 517, 111, 112, 113, 114, 115, 116, 117, 118, 614, 615, 616, 617, 618, 619, 620, 621, 622, 623, 624, 625, 626, 627, 628, 629, 65, 630, 335, 336, 323, 337, 338, 339, 331, 1098, 1099, 1100, 1101, 1102, 1103, 1104, 1105, 1106, 1107, 1108, 1138, 1139, 1140, 1141, 1142, 1143, 1144, 1145, 1146, 1147, 1148, 1149, 1150, 1151, 1152, 1116, 1117, 1118] (by decide +kernel) (by decide +kernel)
set_option maxRecDepth 20000 in
theorem gL_law_X6_lamp : GoodIn wzL_law (wsV RL 245 RX6 yX6_lamp wsX6_lamp) := goodIn_app (goodIn_of _ (by decide +kernel)) ggL_law_X6_lamp
set_option maxRecDepth 20000 in
theorem ggL_law_L_lightBits : GoodIn wzL_law wsL_lightBits := goodIn_ca (goodIn_ca (goodIn_r _ [791, 570, 792, 793, 794, 2, 795, 575, 576, 577, 578, 579, 580, 98, 99, 100, 195, 196, 197, 198, 24, 23, 796, 797, 798, 206, 799, 231, 248, 249, 210, 211, 212, 213, 214, 800, 801, 802, 803, 804, 805, 806, 807, 808, 809, 810, 811, 812, 813, 1088, 1089, 1090, 1091, 1092, 1093, 1094, 1095, 1096, 1097, 1119, 1120, 1121, 1122, 1123, 1124, 1125, 1126, 1127, 1128, 1129, 1130, 1131, 1132, 1133] (by decide +kernel) (by decide +kernel)) (goodIn_sub (fun _ h => (List.mem_append_left _ (List.mem_append_left _ (List.mem_append_left _ (List.mem_append_left _ (List.mem_append_left _ (List.mem_append_left _ (List.mem_append_right _ h)))))))) (by decide +kernel))) (goodIn_sub (fun _ h => (List.mem_append_left _ (List.mem_append_right _ h))) (by decide +kernel))
set_option maxRecDepth 20000 in
theorem gL_law_L_lightBits : GoodIn wzL_law (va_wsS RL 246 yL_lightBits wsL_lightBits) := goodIn_app (goodIn_of _ (by decide +kernel)) ggL_law_L_lightBits
set_option maxRecDepth 20000 in
theorem ggL_law_X6_lightBits : GoodIn wzL_law wsX6_lightBits := goodIn_r _ [817, 60, 281, 608, 609, 610, 5, 611, 612, 613, 513, 514, 515, 59, 516, 517, 111, 112, 113, 114, 115, 116, 117, 118, 614, 615, 616, 617, 618, 619, 620, 621, 622, 623, 624, 625, 626, 627, 628, 629, 65, 630, 335, 336, 323, 337, 338, 339, 331, 818, 819, 820, 607, 821, 636, 822, 823, 824, 825, 826, 827, 828, 829, 830, 831, 832, 833, 834, 835, 836, 1098, 1099, 1100, 1101, 1102, 1103, 1104, 1105, 1106, 1107, 1108, 1138, 1139, 1140, 1141, 1142, 1143, 1144, 1145, 1146, 1147, 1148, 1149, 1150, 1151, 1152, 1116, 1117, 1118] (by decide +kernel) (by decide +kernel)
set_option maxRecDepth 20000 in
theorem gL_law_X6_lightBits : GoodIn wzL_law (wsV RL 248 RX6 yX6_lightBits wsX6_lightBits) := goodIn_app (goodIn_of _ (by decide +kernel)) ggL_law_X6_lightBits
set_option maxRecDepth 20000 in
theorem ggL_law_L_isOpen : GoodIn wzL_law wsL_isOpen := goodIn_ca (goodIn_ca (goodIn_r _ [839, 570, 840, 841, 842, 2, 843, 575, 576, 17, 25, 195, 196, 197, 198, 24, 23, 98, 99, 100, 130, 131, 132, 16, 133, 36, 37, 844, 845, 846, 206, 847, 229, 243, 244, 245, 246, 247, 209, 248, 249, 210, 211, 212, 213, 214, 250, 251, 252, 253, 254, 255, 256, 257, 262, 263, 264, 265, 230, 266, 188, 185, 189, 231, 267, 184, 186, 268, 269, 270, 1088, 1089, 1090, 1091, 1092, 1093, 1094, 1095, 1096, 1097, 1109, 1110, 1111, 1112, 1119, 1120, 1121, 1122, 1123, 1124, 1125, 1126, 1127, 1128, 1129, 1130, 1131, 1132, 1133] (by decide +kernel) (by decide +kernel)) (goodIn_sub (fun _ h => (List.mem_append_left _ (List.mem_append_left _ (List.mem_append_left _ (List.mem_append_left _ (List.mem_append_left _ (List.mem_append_left _ (List.mem_append_right _ h)))))))) (by decide +kernel))) (goodIn_sub (fun _ h => (List.mem_append_left _ (List.mem_append_right _ h))) (by decide +kernel))
set_option maxRecDepth 20000 in
theorem gL_law_L_isOpen : GoodIn wzL_law (va_wsS RL 249 yL_isOpen wsL_isOpen) := goodIn_app (goodIn_of _ (by decide +kernel)) ggL_law_L_isOpen
set_option maxRecDepth 20000 in
theorem ggL_law_X6_isOpen : GoodIn wzL_law wsX6_isOpen := goodIn_ca (goodIn_r _ [851, 60, 281, 750, 751, 752, 5, 753, 513, 514, 515, 59, 516, 517, 111, 112, 113, 114, 115, 116, 117, 118, 614, 615, 616, 617, 618, 619, 620, 621, 622, 623, 624, 625, 626, 627, 628, 629, 65, 852, 853, 854, 323, 855, 327, 331, 354, 355, 356, 357, 358, 35, 334, 335, 336, 337, 338, 339, 359, 360, 361, 362, 363, 364, 365, 366, 367, 368, 369, 370, 140, 141, 142, 52, 856, 640, 641, 642, 375, 376, 377, 378, 379, 188, 185, 189, 332, 184, 186, 1098, 1099, 1100, 1101, 1102, 1103, 1104, 1105, 1106, 1107, 1108, 1116, 1117, 1118, 1138, 1139, 1140, 1141, 1142, 1143, 1144, 1145, 1146, 1147, 1148, 1149, 1150, 1151, 1152] (by decide +kernel) (by decide +kernel)) (goodIn_sub (fun _ h => (List.mem_append_left _ (List.mem_append_left _ (List.mem_append_left _ (List.mem_append_left _ (List.mem_append_left _ (List.mem_append_left _ (List.mem_append_right _ h)))))))) (by decide +kernel))
set_option maxRecDepth 20000 in
theorem gL_law_X6_isOpen : GoodIn wzL_law (wsV RL 251 RX6 yX6_isOpen wsX6_isOpen) := goodIn_app (goodIn_of _ (by decide +kernel)) ggL_law_X6_isOpen
set_option maxRecDepth 20000 in
theorem ggL_law_L_carries : GoodIn wzL_law wzL_carries := goodIn_ca (goodIn_ca (goodIn_r _ [859, 570, 658, 860, 861, 862, 2, 863, 575, 576, 663, 664, 17, 25, 577, 578, 579, 580, 98, 99, 100, 195, 196, 197, 198, 24, 23, 864, 865, 866, 206, 867, 248, 249, 210, 211, 212, 213, 214, 130, 131, 132, 16, 133, 36, 37, 868, 869, 870, 871, 872, 845, 846, 847, 229, 243, 244, 245, 246, 247, 209, 250, 251, 252, 253, 254, 255, 256, 257, 262, 263, 264, 265, 230, 266, 188, 185, 189, 231, 267, 184, 186, 268, 269, 270, 1088, 1089, 1090, 1091, 1092, 1093, 1094, 1095, 1096, 1097, 1119, 1120, 1121, 1122, 1123, 1124, 1125, 1126, 1127, 1128, 1129, 1130, 1131, 1132, 1133, 1109, 1110, 1111, 1112] (by decide +kernel) (by decide +kernel)) (goodIn_sub (fun _ h => (List.mem_append_left _ (List.mem_append_left _ (List.mem_append_left _ (List.mem_append_left _ (List.mem_append_left _ (List.mem_append_left _ (List.mem_append_right _ h)))))))) (by decide +kernel))) (goodIn_sub (fun _ h => (List.mem_append_left _ (List.mem_append_right _ h))) (by decide +kernel))
set_option maxRecDepth 20000 in
theorem gL_law_L_carries : GoodIn wzL_law (va_wsS RL 252 yL_carries wzL_carries) := goodIn_app (goodIn_of _ (by decide +kernel)) ggL_law_L_carries
set_option maxRecDepth 20000 in
theorem ggL_law_X6_carries : GoodIn wzL_law wsX6_carries := goodIn_ca (goodIn_r _ [876, 60, 281, 608, 609, 610, 5, 611, 612, 613, 513, 514, 515, 59, 516, 517, 111, 112, 113, 114, 115, 116, 117, 118, 614, 615, 616, 617, 618, 619, 620, 621, 622, 623, 624, 625, 626, 627, 628, 629, 65, 877, 360, 361, 323, 362, 334, 335, 336, 337, 338, 339, 331, 852, 853, 854, 855, 327, 354, 355, 356, 357, 358, 35, 359, 363, 364, 365, 366, 367, 368, 369, 370, 140, 141, 142, 52, 856, 640, 641, 642, 375, 376, 377, 378, 379, 188, 185, 189, 332, 184, 186, 1098, 1099, 1100, 1101, 1102, 1103, 1104, 1105, 1106, 1107, 1108, 1116, 1117, 1118, 1138, 1139, 1140, 1141, 1142, 1143, 1144, 1145, 1146, 1147, 1148, 1149, 1150, 1151, 1152] (by decide +kernel) (by decide +kernel)) (goodIn_sub (fun _ h => (List.mem_append_left _ (List.mem_append_left _ (List.mem_append_left _ (List.mem_append_left _ (List.mem_append_left _ (List.mem_append_left _ (List.mem_append_right _ h)))))))) (by decide +kernel))
set_option maxRecDepth 20000 in
theorem gL_law_X6_carries : GoodIn wzL_law (wsV RL 254 RX6 yX6_carries wsX6_carries) := goodIn_app (goodIn_of _ (by decide +kernel)) ggL_law_X6_carries
set_option maxRecDepth 20000 in
theorem ggL_law_L_visit : GoodIn wzL_law wsL_visit := goodIn_ca (goodIn_ca (goodIn_ca (goodIn_ca (goodIn_r _ [880, 570, 84, 85, 881, 882, 883, 2, 884, 575, 576, 90, 91, 92, 93, 17, 25, 885, 30, 195, 196, 197, 198, 24, 23, 98, 99, 100, 130, 131, 132, 16, 133, 36, 37, 844, 845, 846, 206, 847, 229, 243, 244, 245, 246, 247, 209, 248, 249, 210, 211, 212, 213, 214, 250, 251, 252, 253, 254, 255, 256, 257, 262, 263, 264, 265, 230, 266, 188, 185, 189, 231, 267, 184, 186, 268, 269, 270, 1088, 1089, 1090, 1091, 1092, 1093, 1094, 1095, 1096, 1097, 1119, 1120, 1121, 1122, 1123, 1124, 1125, 1126, 1127, 1128, 1129, 1130, 1131, 1132, 1133, 1109, 1110, 1111, 1112] (by decide +kernel) (by decide +kernel)) (goodIn_sub (fun _ h => (List.mem_append_left _ (List.mem_append_left _ (List.mem_append_left _ (List.mem_append_left _ (List.mem_append_left _ (List.mem_append_left _ (List.mem_append_right _ h)))))))) (by decide +kernel))) (goodIn_sub (fun _ h => (List.mem_append_left _ (List.mem_append_right _ h))) (by decide +kernel))) (goodIn_sub (fun _ h => (List.mem_append_left _ (List.mem_append_left _ (List.mem_append_left _ (List.mem_append_left _ (List.mem_append_left _ (List.mem_append_right _ h))))))) (by decide +kernel))) (goodIn_sub (fun _ h => (List.mem_append_left _ (List.mem_append_left _ (List.mem_append_left _ (List.mem_append_left _ (List.mem_append_right _ h)))))) (by decide +kernel))
set_option maxRecDepth 20000 in
theorem gL_law_L_visit : GoodIn wzL_law (va_wsS RL 255 yL_visit wsL_visit) := goodIn_app (goodIn_of _ (by decide +kernel)) ggL_law_L_visit
set_option maxRecDepth 20000 in
theorem ggL_law_X6_visit : GoodIn wzL_law wsX6_visit := goodIn_ca (goodIn_r _ [889, 890, 60, 281, 452, 750, 751, 752, 5, 753, 513, 514, 515, 59, 516, 517, 111, 112, 113, 114, 115, 116, 117, 118, 614, 615, 616, 617, 618, 619, 620, 621, 622, 623, 624, 625, 626, 627, 628, 629, 65, 852, 853, 854, 323, 855, 327, 331, 354, 355, 356, 357, 358, 35, 334, 335, 336, 337, 338, 339, 359, 360, 361, 362, 363, 364, 365, 366, 367, 368, 369, 370, 140, 141, 142, 52, 856, 640, 641, 642, 375, 376, 377, 378, 379, 188, 185, 189, 332, 184, 186, 1098, 1099, 1100, 1101, 1102, 1103, 1104, 1105, 1106, 1107, 1108, 1138, 1139, 1140, 1141, 1142, 1143, 1144, 1145, 1146, 1147, 1116, 1117, 1118, 1148, 1149, 1150, 1151, 1152] (by decide +kernel) (by decide +kernel)) (goodIn_sub (fun _ h => (List.mem_append_left _ (List.mem_append_left _ (List.mem_append_left _ (List.mem_append_left _ (List.mem_append_left _ (List.mem_append_left _ (List.mem_append_right _ h)))))))) (by decide +kernel))
set_option maxRecDepth 20000 in
theorem gL_law_X6_visit : GoodIn wzL_law (wsV RL 257 RX6 yX6_visit wsX6_visit) := goodIn_app (goodIn_of _ (by decide +kernel)) ggL_law_X6_visit
set_option maxRecDepth 20000 in
theorem ggL_law_L_squareBits : GoodIn wzL_law wsL_squareBits := goodIn_ca (goodIn_ca (goodIn_r _ [893, 84, 894, 895, 896, 2, 897, 90, 91, 898, 899, 17, 25, 900, 98, 99, 100, 130, 131, 132, 16, 133, 36, 37, 901, 902, 903, 904, 905, 906, 1088, 1089, 1090, 1091, 1092, 1093, 1094, 1095, 1096, 1097, 1109, 1110, 1111, 1112] (by decide +kernel) (by decide +kernel)) (goodIn_sub (fun _ h => (List.mem_append_left _ (List.mem_append_left _ (List.mem_append_left _ (List.mem_append_left _ (List.mem_append_left _ (List.mem_append_left _ (List.mem_append_right _ h)))))))) (by decide +kernel))) (goodIn_sub (fun _ h => (List.mem_append_left _ (List.mem_append_left _ (List.mem_append_left _ (List.mem_append_left _ (List.mem_append_left _ (List.mem_append_right _ h))))))) (by decide +kernel))
set_option maxRecDepth 20000 in
theorem gL_law_L_squareBits : GoodIn wzL_law (va_wsS RL 258 yL_squareBits wsL_squareBits) := goodIn_app (goodIn_of _ (by decide +kernel)) ggL_law_L_squareBits
set_option maxRecDepth 20000 in
theorem ggL_law_X6_squareBits : GoodIn wzL_law wsX6_squareBits := goodIn_ca (goodIn_r _ [910, 105, 613, 911, 912, 913, 110, 914, 111, 112, 5, 113, 114, 115, 116, 117, 118, 139, 140, 141, 142, 52, 915, 916, 917, 918, 919, 920, 921, 922, 923, 924, 925, 926, 1098, 1099, 1100, 1101, 1102, 1103, 1104, 1105, 1106, 1107, 1108] (by decide +kernel) (by decide +kernel)) (goodIn_sub (fun _ h => (List.mem_append_left _ (List.mem_append_left _ (List.mem_append_left _ (List.mem_append_left _ (List.mem_append_left _ (List.mem_append_left _ (List.mem_append_right _ h)))))))) (by decide +kernel))
set_option maxRecDepth 20000 in
theorem gL_law_X6_squareBits : GoodIn wzL_law (wsV RL 261 RX6 yX6_squareBits wsX6_squareBits) := goodIn_app (goodIn_of _ (by decide +kernel)) ggL_law_X6_squareBits
set_option maxRecDepth 20000 in
theorem ggL_law_L_plan : GoodIn wzL_law wsL_plan := goodIn_ca (goodIn_ca (goodIn_r _ [929, 570, 930, 931, 932, 2, 933, 575, 576, 934, 577, 578, 579, 580, 98, 99, 100, 195, 196, 197, 198, 24, 23, 581, 248, 249, 935, 936, 937, 206, 938, 501, 1119, 1120, 1121, 1122, 1123, 1124, 1125, 1126, 1127, 1128, 1129, 1130, 1131, 1132, 1133, 1088, 1089, 1090, 1091, 1092, 1093, 1094, 1095, 1096, 1097] (by decide +kernel) (by decide +kernel)) (goodIn_sub (fun _ h => (List.mem_append_left _ (List.mem_append_left _ (List.mem_append_left _ (List.mem_append_left _ (List.mem_append_left _ (List.mem_append_left _ (List.mem_append_right _ h)))))))) (by decide +kernel))) (goodIn_sub (fun _ h => (List.mem_append_left _ (List.mem_append_right _ h))) (by decide +kernel))
set_option maxRecDepth 20000 in
theorem gL_law_L_plan : GoodIn wzL_law (va_wsS RL 262 yL_plan wsL_plan) := goodIn_app (goodIn_of _ (by decide +kernel)) ggL_law_L_plan
set_option maxRecDepth 20000 in
theorem ggL_law_X6_plan : GoodIn wzL_law wsX6_plan := goodIn_ca (goodIn_r _ [942, 60, 281, 608, 609, 610, 5, 611, 612, 613, 513, 514, 515, 59, 516, 517, 111, 112, 113, 114, 115, 116, 117, 118, 614, 615, 616, 617, 618, 619, 620, 621, 622, 623, 624, 625, 626, 627, 628, 629, 65, 1098, 1099, 1100, 1101, 1102, 1103, 1104, 1105, 1106, 1107, 1108, 1138, 1139, 1140, 1141, 1142, 1143, 1144, 1145, 1146, 1147, 1116, 1117, 1118] (by decide +kernel) (by decide +kernel)) (goodIn_sub (fun _ h => (List.mem_append_left _ (List.mem_append_left _ (List.mem_append_left _ (List.mem_append_left _ (List.mem_append_left _ (List.mem_append_left _ (List.mem_append_right _ h)))))))) (by decide +kernel))
set_option maxRecDepth 20000 in
theorem gL_law_X6_plan : GoodIn wzL_law (wsV RL 264 RX6 yX6_plan wsX6_plan) := goodIn_app (goodIn_of _ (by decide +kernel)) ggL_law_X6_plan
set_option maxRecDepth 20000 in
theorem ggL_law_L_carve : GoodIn wzL_law wzL_carve := goodIn_ca (goodIn_ca (goodIn_ca (goodIn_ca (goodIn_ca (goodIn_r _ [945, 570, 84, 658, 167, 85, 946, 947, 948, 2, 949, 575, 576, 90, 91, 663, 664, 172, 173, 92, 93, 950, 665, 577, 578, 579, 580, 98, 99, 100, 195, 196, 197, 198, 24, 23, 581, 248, 249, 582, 211, 212, 206, 213, 214, 951, 222, 223, 224, 225, 226, 227, 228, 209, 229, 230, 231, 232, 233, 234, 593, 594, 595, 596, 17, 25, 30, 130, 131, 132, 16, 133, 36, 37, 235, 236, 237, 238, 239, 240, 241, 242, 208, 243, 244, 245, 246, 247, 210, 250, 251, 252, 253, 254, 255, 256, 257, 258, 259, 260, 261, 262, 263, 264, 265, 266, 188, 185, 189, 267, 184, 186, 268, 269, 270, 215, 216, 217, 218, 219, 220, 221, 1119, 1120, 1121, 1122, 1123, 1124, 1125, 1126, 1127, 1128, 1129, 1130, 1131, 1132, 1133, 1088, 1089, 1090, 1091, 1092, 1093, 1094, 1095, 1096, 1097, 1109, 1110, 1111, 1112] (by decide +kernel) (by decide +kernel)) (goodIn_sub (fun _ h => (List.mem_append_left _ (List.mem_append_left _ (List.mem_append_left _ (List.mem_append_left _ (List.mem_append_left _ (List.mem_append_left _ (List.mem_append_right _ h)))))))) (by decide +kernel))) (goodIn_sub (fun _ h => (List.mem_append_left _ (List.mem_append_right _ h))) (by decide +kernel))) (goodIn_sub (fun _ h => (List.mem_append_left _ (List.mem_append_left _ (List.mem_append_left _ (List.mem_append_left _ (List.mem_append_left _ (List.mem_append_right _ h))))))) (by decide +kernel))) (goodIn_sub (fun _ h => (List.mem_append_left _ (List.mem_append_left _ (List.mem_append_left _ (List.mem_append_right _ h))))) (by decide +kernel))) (goodIn_sub (fun _ h => (List.mem_append_left _ (List.mem_append_left _ (List.mem_append_left _ (List.mem_append_left _ (List.mem_append_right _ h)))))) (by decide +kernel))
set_option maxRecDepth 20000 in
theorem gL_law_L_carve : GoodIn wzL_law (va_wsS RL 265 yL_carve wzL_carve) := goodIn_app (goodIn_of _ (by decide +kernel)) ggL_law_L_carve
set_option maxRecDepth 20000 in
theorem ggL_law_X6_carve : GoodIn wzL_law wsX6_carve := goodIn_ca (goodIn_r _ [955, 60, 281, 107, 110, 608, 609, 610, 5, 611, 612, 613, 513, 514, 515, 59, 516, 517, 111, 112, 113, 114, 115, 116, 117, 118, 614, 615, 616, 617, 618, 619, 620, 621, 622, 623, 624, 625, 626, 627, 628, 629, 65, 139, 140, 141, 142, 52, 638, 347, 348, 323, 349, 350, 351, 352, 353, 325, 326, 354, 355, 356, 357, 358, 35, 331, 334, 335, 336, 337, 338, 339, 359, 360, 361, 362, 363, 364, 365, 366, 367, 368, 369, 370, 371, 372, 373, 374, 375, 376, 377, 378, 379, 188, 185, 189, 332, 184, 186, 340, 341, 342, 343, 344, 345, 327, 1098, 1099, 1100, 1101, 1102, 1103, 1104, 1105, 1106, 1107, 1108, 1138, 1139, 1140, 1141, 1142, 1143, 1144, 1145, 1146, 1147, 1148, 1149, 1150, 1151, 1152, 1116, 1117, 1118] (by decide +kernel) (by decide +kernel)) (goodIn_sub (fun _ h => (List.mem_append_left _ (List.mem_append_left _ (List.mem_append_left _ (List.mem_append_left _ (List.mem_append_left _ (List.mem_append_left _ (List.mem_append_right _ h)))))))) (by decide +kernel))
set_option maxRecDepth 20000 in
theorem gL_law_X6_carve : GoodIn wzL_law (wsV RL 268 RX6 yX6_carve wsX6_carve) := goodIn_app (goodIn_of _ (by decide +kernel)) ggL_law_X6_carve
set_option maxRecDepth 20000 in
theorem ggL_law_L_hours : GoodIn wzL_law wsL_hours := goodIn_ca (goodIn_ca (goodIn_r _ [958, 570, 959, 960, 961, 2, 962, 575, 576, 950, 195, 196, 197, 198, 24, 23, 98, 99, 100, 1119, 1120, 1121, 1122, 1123, 1124, 1125, 1126, 1127, 1128, 1129, 1130, 1131, 1132, 1133, 1088, 1089, 1090, 1091, 1092, 1093, 1094, 1095, 1096, 1097] (by decide +kernel) (by decide +kernel)) (goodIn_sub (fun _ h => (List.mem_append_left _ (List.mem_append_left _ (List.mem_append_left _ (List.mem_append_left _ (List.mem_append_left _ (List.mem_append_left _ (List.mem_append_right _ h)))))))) (by decide +kernel))) (goodIn_sub (fun _ h => (List.mem_append_left _ (List.mem_append_right _ h))) (by decide +kernel))
set_option maxRecDepth 20000 in
theorem gL_law_L_hours : GoodIn wzL_law (va_wsS RL 269 yL_hours wsL_hours) := goodIn_app (goodIn_of _ (by decide +kernel)) ggL_law_L_hours
set_option maxRecDepth 20000 in
theorem ggL_law_X6_hours : GoodIn wzL_law wsX6_hours := goodIn_r _ [966, 60, 281, 750, 751, 752, 5, 753, 513, 514, 515, 59, 516, 517, 111, 112, 113, 114, 115, 116, 117, 118, 614, 615, 616, 617, 618, 619, 620, 621, 622, 623, 624, 625, 626, 627, 628, 629, 65, 1098, 1099, 1100, 1101, 1102, 1103, 1104, 1105, 1106, 1107, 1108, 1138, 1139, 1140, 1141, 1142, 1143, 1144, 1145, 1146, 1147, 1116, 1117, 1118] (by decide +kernel) (by decide +kernel)
set_option maxRecDepth 20000 in
theorem gL_law_X6_hours : GoodIn wzL_law (wsV RL 271 RX6 yX6_hours wsX6_hours) := goodIn_app (goodIn_of _ (by decide +kernel)) ggL_law_X6_hours
set_option maxRecDepth 20000 in
theorem ggL_law_L_judge : GoodIn wzL_law wsL_judge := goodIn_ca (goodIn_ca (goodIn_r _ [969, 570, 970, 971, 972, 2, 973, 575, 576, 974, 899, 745, 975, 976, 195, 196, 197, 198, 24, 23, 98, 99, 100, 977, 978, 979, 206, 980, 501, 214, 1119, 1120, 1121, 1122, 1123, 1124, 1125, 1126, 1127, 1128, 1129, 1130, 1131, 1132, 1133, 1088, 1089, 1090, 1091, 1092, 1093, 1094, 1095, 1096, 1097] (by decide +kernel) (by decide +kernel)) (goodIn_sub (fun _ h => (List.mem_append_left _ (List.mem_append_left _ (List.mem_append_left _ (List.mem_append_left _ (List.mem_append_left _ (List.mem_append_left _ (List.mem_append_right _ h)))))))) (by decide +kernel))) (goodIn_sub (fun _ h => (List.mem_append_left _ (List.mem_append_right _ h))) (by decide +kernel))
set_option maxRecDepth 20000 in
theorem gL_law_L_judge : GoodIn wzL_law (va_wsS RL 272 yL_judge wsL_judge) := goodIn_app (goodIn_of _ (by decide +kernel)) ggL_law_L_judge
set_option maxRecDepth 20000 in
theorem ggL_law_X6_judge : GoodIn wzL_law wsX6_judge := goodIn_ca (goodIn_r _ [984, 60, 281, 985, 913, 750, 751, 752, 5, 753, 513, 514, 515, 59, 516, 517, 111, 112, 113, 114, 115, 116, 117, 118, 614, 615, 616, 617, 618, 619, 620, 621, 622, 623, 624, 625, 626, 627, 628, 629, 65, 630, 335, 336, 323, 337, 338, 339, 331, 1098, 1099, 1100, 1101, 1102, 1103, 1104, 1105, 1106, 1107, 1108, 1138, 1139, 1140, 1141, 1142, 1143, 1144, 1145, 1146, 1147, 1116, 1117, 1118] (by decide +kernel) (by decide +kernel)) (goodIn_sub (fun _ h => (List.mem_append_left _ (List.mem_append_left _ (List.mem_append_left _ (List.mem_append_left _ (List.mem_append_left _ (List.mem_append_left _ (List.mem_append_right _ h)))))))) (by decide +kernel))
set_option maxRecDepth 20000 in
theorem gL_law_X6_judge : GoodIn wzL_law (wsV RL 275 RX6 yX6_judge wsX6_judge) := goodIn_app (goodIn_of _ (by decide +kernel)) ggL_law_X6_judge
set_option maxRecDepth 20000 in
theorem ggL_law_L_mark : GoodIn wzL_law wzL_mark := goodIn_ca (goodIn_ca (goodIn_r _ [988, 570, 658, 989, 990, 991, 2, 992, 575, 576, 663, 664, 976, 975, 195, 196, 197, 198, 24, 23, 98, 99, 100, 1119, 1120, 1121, 1122, 1123, 1124, 1125, 1126, 1127, 1128, 1129, 1130, 1131, 1132, 1133, 1088, 1089, 1090, 1091, 1092, 1093, 1094, 1095, 1096, 1097] (by decide +kernel) (by decide +kernel)) (goodIn_sub (fun _ h => (List.mem_append_left _ (List.mem_append_left _ (List.mem_append_left _ (List.mem_append_left _ (List.mem_append_left _ (List.mem_append_left _ (List.mem_append_right _ h)))))))) (by decide +kernel))) (goodIn_sub (fun _ h => (List.mem_append_left _ (List.mem_append_right _ h))) (by decide +kernel))
set_option maxRecDepth 20000 in
theorem gL_law_L_mark : GoodIn wzL_law (va_wsS RL 276 yL_mark wzL_mark) := goodIn_app (goodIn_of _ (by decide +kernel)) ggL_law_L_mark
set_option maxRecDepth 20000 in
theorem ggL_law_X6_mark : GoodIn wzL_law wsX6_mark := goodIn_r _ [996, 60, 281, 750, 751, 752, 5, 753, 513, 514, 515, 59, 516, 517, 111, 112, 113, 114, 115, 116, 117, 118, 614, 615, 616, 617, 618, 619, 620, 621, 622, 623, 624, 625, 626, 627, 628, 629, 65, 1098, 1099, 1100, 1101, 1102, 1103, 1104, 1105, 1106, 1107, 1108, 1138, 1139, 1140, 1141, 1142, 1143, 1144, 1145, 1146, 1147, 1116, 1117, 1118] (by decide +kernel) (by decide +kernel)
set_option maxRecDepth 20000 in
theorem gL_law_X6_mark : GoodIn wzL_law (wsV RL 278 RX6 yX6_mark wsX6_mark) := goodIn_app (goodIn_of _ (by decide +kernel)) ggL_law_X6_mark
set_option maxRecDepth 20000 in
theorem ggL_law_L_take : GoodIn wzL_law wzL_take := goodIn_ca (goodIn_ca (goodIn_ca (goodIn_r _ [999, 570, 658, 85, 1000, 1001, 1002, 2, 1003, 575, 576, 663, 664, 92, 93, 17, 25, 665, 577, 578, 579, 580, 98, 99, 100, 195, 196, 197, 198, 24, 23, 581, 248, 249, 582, 211, 212, 206, 213, 214, 130, 131, 132, 16, 133, 36, 37, 1004, 1005, 1006, 1007, 210, 239, 240, 241, 242, 208, 243, 244, 245, 246, 247, 209, 250, 251, 252, 253, 254, 255, 256, 257, 258, 259, 260, 261, 262, 263, 264, 265, 230, 266, 188, 185, 189, 231, 267, 184, 186, 268, 269, 270, 951, 222, 223, 224, 225, 226, 227, 228, 229, 232, 233, 234, 1088, 1089, 1090, 1091, 1092, 1093, 1094, 1095, 1096, 1097, 1119, 1120, 1121, 1122, 1123, 1124, 1125, 1126, 1127, 1128, 1129, 1130, 1131, 1132, 1133, 1109, 1110, 1111, 1112] (by decide +kernel) (by decide +kernel)) (goodIn_sub (fun _ h => (List.mem_append_left _ (List.mem_append_left _ (List.mem_append_left _ (List.mem_append_left _ (List.mem_append_left _ (List.mem_append_left _ (List.mem_append_right _ h)))))))) (by decide +kernel))) (goodIn_sub (fun _ h => (List.mem_append_left _ (List.mem_append_right _ h))) (by decide +kernel))) (goodIn_sub (fun _ h => (List.mem_append_left _ (List.mem_append_left _ (List.mem_append_left _ (List.mem_append_left _ (List.mem_append_right _ h)))))) (by decide +kernel))
set_option maxRecDepth 20000 in
theorem gL_law_L_take : GoodIn wzL_law (va_wsS RL 279 yL_take wzL_take) := goodIn_app (goodIn_of _ (by decide +kernel)) ggL_law_L_take
set_option maxRecDepth 20000 in
theorem ggL_law_X6_take : GoodIn wzL_law wsX6_take := goodIn_ca (goodIn_r _ [1011, 60, 281, 110, 670, 671, 672, 5, 673, 608, 609, 610, 611, 612, 613, 513, 514, 515, 59, 516, 517, 111, 112, 113, 114, 115, 116, 117, 118, 614, 615, 616, 617, 618, 619, 620, 621, 622, 623, 624, 625, 626, 627, 628, 629, 65, 630, 335, 336, 323, 337, 338, 339, 331, 139, 140, 141, 142, 52, 1012, 351, 352, 353, 325, 326, 354, 355, 356, 357, 358, 35, 334, 359, 360, 361, 362, 363, 364, 365, 366, 367, 368, 369, 370, 371, 372, 373, 374, 375, 376, 377, 378, 379, 188, 185, 189, 332, 184, 186, 1098, 1099, 1100, 1101, 1102, 1103, 1104, 1105, 1106, 1107, 1108, 1138, 1139, 1140, 1141, 1142, 1143, 1144, 1145, 1146, 1147, 1148, 1149, 1150, 1151, 1152, 1116, 1117, 1118] (by decide +kernel) (by decide +kernel)) (goodIn_sub (fun _ h => (List.mem_append_left _ (List.mem_append_left _ (List.mem_append_left _ (List.mem_append_left _ (List.mem_append_left _ (List.mem_append_left _ (List.mem_append_right _ h)))))))) (by decide +kernel))
set_option maxRecDepth 20000 in
theorem gL_law_X6_take : GoodIn wzL_law (wsV RL 281 RX6 yX6_take wsX6_take) := goodIn_app (goodIn_of _ (by decide +kernel)) ggL_law_X6_take
set_option maxRecDepth 20000 in
theorem ggL_law_X3_money : GoodIn wzL_law wsX3_money := goodIn_r _ [1016, 30, 1088, 1089, 1090, 1091, 1092, 1093, 1094, 1095, 1096, 1097] (by decide +kernel) (by decide +kernel)
set_option maxRecDepth 20000 in
theorem gL_law_X3_money : GoodIn wzL_law (wsV RL 282 RX3 yX3_money wsX3_money) := goodIn_app (goodIn_of _ (by decide +kernel)) ggL_law_X3_money
set_option maxRecDepth 20000 in
theorem ggL_law_X6_money : GoodIn wzL_law wsX6_money := goodIn_r _ [1020, 118, 452, 1098, 1099, 1100, 1101, 1102, 1103, 1104, 1105, 1106, 1107, 1108] (by decide +kernel) (by decide +kernel)
set_option maxRecDepth 20000 in
theorem gL_law_X6_money : GoodIn wzL_law (wsV RL 285 RX6 yX6_money wsX6_money) := goodIn_app (goodIn_of _ (by decide +kernel)) ggL_law_X6_money
set_option maxRecDepth 20000 in
theorem ggL_law_L_count : GoodIn wzL_law wsL_count := goodIn_ca (goodIn_ca (goodIn_r _ [1023, 570, 1024, 1025, 1026, 2, 1027, 575, 576, 195, 196, 197, 198, 24, 23, 98, 99, 100, 597, 598, 599, 206, 600, 214, 1088, 1089, 1090, 1091, 1092, 1093, 1094, 1095, 1096, 1097, 1119, 1120, 1121, 1122, 1123, 1124, 1125, 1126, 1127, 1128, 1129, 1130, 1131, 1132, 1133] (by decide +kernel) (by decide +kernel)) (goodIn_sub (fun _ h => (List.mem_append_left _ (List.mem_append_left _ (List.mem_append_left _ (List.mem_append_left _ (List.mem_append_left _ (List.mem_append_left _ (List.mem_append_right _ h)))))))) (by decide +kernel))) (goodIn_sub (fun _ h => (List.mem_append_left _ (List.mem_append_right _ h))) (by decide +kernel))
set_option maxRecDepth 20000 in
theorem gL_law_L_count : GoodIn wzL_law (va_wsS RL 286 yL_count wsL_count) := goodIn_app (goodIn_of _ (by decide +kernel)) ggL_law_L_count
set_option maxRecDepth 20000 in
theorem ggL_law_X6_count : GoodIn wzL_law wsX6_count := goodIn_r _ [1031, 60, 281, 750, 751, 752, 5, 753, 513, 514, 515, 59, 516, 517, 111, 112, 113, 114, 115, 116, 117, 118, 614, 615, 616, 617, 618, 619, 620, 621, 622, 623, 624, 625, 626, 627, 628, 629, 65, 639, 640, 641, 323, 642, 331, 1098, 1099, 1100, 1101, 1102, 1103, 1104, 1105, 1106, 1107, 1108, 1116, 1117, 1118, 1138, 1139, 1140, 1141, 1142, 1143, 1144, 1145, 1146, 1147] (by decide +kernel) (by decide +kernel)
set_option maxRecDepth 20000 in
theorem gL_law_X6_count : GoodIn wzL_law (wsV RL 288 RX6 yX6_count wsX6_count) := goodIn_app (goodIn_of _ (by decide +kernel)) ggL_law_X6_count
set_option maxRecDepth 20000 in
theorem ggL_law_L_openShare : GoodIn wzL_law wsL_openShare := goodIn_ca (goodIn_ca (goodIn_r _ [1034, 1035, 1036, 1037, 1038, 2, 1039, 1040, 1041, 24, 17, 25, 195, 196, 197, 198, 23, 98, 99, 100, 130, 131, 132, 16, 133, 36, 37, 844, 845, 846, 206, 847, 229, 243, 244, 245, 246, 247, 209, 248, 249, 210, 211, 212, 213, 214, 250, 251, 252, 253, 254, 255, 256, 257, 262, 263, 264, 265, 230, 266, 188, 185, 189, 231, 267, 184, 186, 268, 269, 270, 1088, 1089, 1090, 1091, 1092, 1093, 1094, 1095, 1096, 1097, 1109, 1110, 1111, 1112, 1119, 1120, 1121, 1122, 1123, 1124, 1125, 1126, 1127, 1128, 1129, 1130, 1131, 1132, 1133] (by decide +kernel) (by decide +kernel)) (goodIn_sub (fun _ h => (List.mem_append_left _ (List.mem_append_left _ (List.mem_append_left _ (List.mem_append_left _ (List.mem_append_left _ (List.mem_append_left _ (List.mem_append_right _ h)))))))) (by decide +kernel))) (goodIn_sub (fun _ h => (List.mem_append_right _ h)) (by decide +kernel))
set_option maxRecDepth 20000 in
theorem gL_law_L_openShare : GoodIn wzL_law (va_wsS RL 289 yL_openShare wsL_openShare) := goodIn_app (goodIn_of _ (by decide +kernel)) ggL_law_L_openShare
set_option maxRecDepth 20000 in
theorem ggL_law_X6_openShare : GoodIn wzL_law wsX6_openShare := goodIn_ca (goodIn_r _ [1045, 60, 281, 290, 291, 292, 59, 293, 294, 295, 296, 297, 298, 299, 300, 301, 12, 13, 302, 303, 304, 305, 306, 307, 308, 309, 310, 311, 312, 313, 314, 315, 316, 317, 318, 319, 852, 853, 854, 323, 855, 327, 331, 354, 355, 356, 357, 358, 35, 334, 335, 336, 337, 338, 339, 112, 5, 113, 359, 360, 361, 362, 363, 364, 365, 366, 367, 368, 369, 370, 140, 141, 142, 52, 856, 640, 641, 642, 375, 376, 377, 378, 379, 188, 185, 189, 332, 184, 186, 1046, 1047, 1048, 1049, 517, 114, 115, 116, 117, 118, 513, 514, 515, 516, 1098, 1099, 1100, 1101, 1102, 1103, 1104, 1105, 1106, 1107, 1108, 1134, 1135, 1136, 1137, 1116, 1117, 1118, 1138, 1139, 1140, 1141, 1142, 1143, 1144, 1145, 1146, 1147, 1148, 1149, 1150, 1151, 1152] (by decide +kernel) (by decide +kernel)) (goodIn_sub (fun _ h => (List.mem_append_left _ (List.mem_append_left _ (List.mem_append_left _ (List.mem_append_left _ (List.mem_append_left _ (List.mem_append_left _ (List.mem_append_right _ h)))))))) (by decide +kernel))
set_option maxRecDepth 20000 in
theorem gL_law_X6_openShare : GoodIn wzL_law (wsV RL 292 RX6 yX6_openShare wsX6_openShare) := goodIn_app (goodIn_of _ (by decide +kernel)) ggL_law_X6_openShare
set_option maxRecDepth 20000 in
theorem ggL_law_L_meanCreep : GoodIn wzL_law wsL_meanCreep := goodIn_ca (goodIn_ca (goodIn_ca (goodIn_r _ [1052, 570, 1035, 1053, 1054, 1055, 2, 1056, 575, 576, 1040, 1041, 195, 196, 197, 198, 24, 23, 98, 99, 100, 597, 598, 599, 206, 600, 214, 1057, 1058, 1059, 1060, 229, 1088, 1089, 1090, 1091, 1092, 1093, 1094, 1095, 1096, 1097, 1119, 1120, 1121, 1122, 1123, 1124, 1125, 1126, 1127, 1128, 1129, 1130, 1131, 1132, 1133] (by decide +kernel) (by decide +kernel)) (goodIn_sub (fun _ h => (List.mem_append_left _ (List.mem_append_left _ (List.mem_append_left _ (List.mem_append_left _ (List.mem_append_left _ (List.mem_append_left _ (List.mem_append_right _ h)))))))) (by decide +kernel))) (goodIn_sub (fun _ h => (List.mem_append_left _ (List.mem_append_right _ h))) (by decide +kernel))) (goodIn_sub (fun _ h => (List.mem_append_right _ h)) (by decide +kernel))
set_option maxRecDepth 20000 in
theorem gL_law_L_meanCreep : GoodIn wzL_law (va_wsS RL 293 yL_meanCreep wsL_meanCreep) := goodIn_app (goodIn_of _ (by decide +kernel)) ggL_law_L_meanCreep
set_option maxRecDepth 20000 in
theorem ggL_law_X6_meanCreep : GoodIn wzL_law wsX6_meanCreep := goodIn_r _ [1064, 60, 281, 750, 751, 752, 5, 753, 513, 514, 515, 59, 516, 517, 111, 112, 113, 114, 115, 116, 117, 118, 614, 615, 616, 617, 618, 619, 620, 621, 622, 623, 624, 625, 626, 627, 628, 629, 65, 639, 640, 641, 323, 642, 331, 1098, 1099, 1100, 1101, 1102, 1103, 1104, 1105, 1106, 1107, 1108, 1138, 1139, 1140, 1141, 1142, 1143, 1144, 1145, 1146, 1147, 1148, 1149, 1150, 1151, 1152, 1116, 1117, 1118] (by decide +kernel) (by decide +kernel)
set_option maxRecDepth 20000 in
theorem gL_law_X6_meanCreep : GoodIn wzL_law (wsV RL 295 RX6 yX6_meanCreep wsX6_meanCreep) := goodIn_app (goodIn_of _ (by decide +kernel)) ggL_law_X6_meanCreep
set_option maxRecDepth 20000 in
theorem ggL_law_X3_checksum : GoodIn wzL_law wsX3_checksum := goodIn_ca (goodIn_r _ [1068, 1069, 24, 1070, 665, 708, 30, 28, 21, 395, 195, 196, 197, 2, 198, 23, 98, 99, 100, 582, 211, 212, 206, 213, 214, 1088, 1089, 1090, 1091, 1092, 1093, 1094, 1095, 1096, 1097, 1119, 1120, 1121, 1122, 1123, 1124, 1125, 1126, 1127, 1128, 1129, 1130, 1131, 1132, 1133, 1113, 1114, 1115] (by decide +kernel) (by decide +kernel)) (goodIn_sub (fun _ h => (List.mem_append_left _ (List.mem_append_left _ (List.mem_append_left _ (List.mem_append_left _ (List.mem_append_left _ (List.mem_append_left _ (List.mem_append_right _ h)))))))) (by decide +kernel))
set_option maxRecDepth 20000 in
theorem gL_law_X3_checksum : GoodIn wzL_law (wsV RL 296 RX3 yX3_checksum wsX3_checksum) := goodIn_app (goodIn_of _ (by decide +kernel)) ggL_law_X3_checksum
set_option maxRecDepth 20000 in
theorem ggL_law_X6_checksum : GoodIn wzL_law wsX6_checksum := goodIn_ca (goodIn_r _ [1074, 118, 612, 60, 281, 1075, 452, 289, 53, 290, 291, 292, 59, 293, 294, 295, 296, 297, 298, 299, 300, 301, 12, 13, 302, 303, 304, 305, 306, 307, 308, 309, 310, 311, 312, 313, 314, 315, 316, 317, 318, 319, 1098, 1099, 1100, 1101, 1102, 1103, 1104, 1105, 1106, 1107, 1108, 1138, 1139, 1140, 1141, 1142, 1143, 1144, 1145, 1146, 1147, 1148, 1149, 1150, 1151, 1152, 1134, 1135, 1136, 1137, 1116, 1117, 1118] (by decide +kernel) (by decide +kernel)) (goodIn_sub (fun _ h => (List.mem_append_left _ (List.mem_append_left _ (List.mem_append_left _ (List.mem_append_left _ (List.mem_append_left _ (List.mem_append_left _ (List.mem_append_right _ h)))))))) (by decide +kernel))
set_option maxRecDepth 20000 in
theorem gL_law_X6_checksum : GoodIn wzL_law (wsV RL 300 RX6 yX6_checksum wsX6_checksum) := goodIn_app (goodIn_of _ (by decide +kernel)) ggL_law_X6_checksum
set_option maxRecDepth 20000 in
theorem ggL_law_X3_isSound : GoodIn wzL_law wsX3_isSound := goodIn_ca (goodIn_r _ [1079, 24, 21, 412, 395, 195, 196, 197, 2, 198, 23, 98, 99, 100, 1080, 1081, 1082, 206, 1083, 209, 243, 244, 245, 246, 247, 248, 249, 210, 211, 212, 213, 214, 250, 251, 252, 253, 254, 255, 256, 257, 258, 259, 260, 261, 1088, 1089, 1090, 1091, 1092, 1093, 1094, 1095, 1096, 1097, 1113, 1114, 1115, 1119, 1120, 1121, 1122, 1123, 1124, 1125, 1126, 1127, 1128, 1129, 1130, 1131, 1132, 1133] (by decide +kernel) (by decide +kernel)) (goodIn_sub (fun _ h => (List.mem_append_left _ (List.mem_append_left _ (List.mem_append_left _ (List.mem_append_left _ (List.mem_append_left _ (List.mem_append_left _ (List.mem_append_right _ h)))))))) (by decide +kernel))
set_option maxRecDepth 20000 in
theorem gL_law_X3_isSound : GoodIn wzL_law (wsV RL 301 RX3 yX3_isSound wsX3_isSound) := goodIn_app (goodIn_of _ (by decide +kernel)) ggL_law_X3_isSound
set_option maxRecDepth 20000 in
theorem ggL_law_X6_isSound : GoodIn wzL_law wsX6_isSound := goodIn_r _ [1087, 118, 1098, 1099, 1100, 1101, 1102, 1103, 1104, 1105, 1106, 1107, 1108] (by decide +kernel) (by decide +kernel)
set_option maxRecDepth 20000 in
theorem gL_law_X6_isSound : GoodIn wzL_law (wsV RL 305 RX6 yX6_isSound wsX6_isSound) := goodIn_app (goodIn_of _ (by decide +kernel)) ggL_law_X6_isSound
