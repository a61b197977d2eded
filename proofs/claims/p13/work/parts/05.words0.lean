set_option maxRecDepth 20000 in
theorem ggX0_bearsLorries_X3_isWithin : GoodIn wsX0_bearsLorries wsX3_isWithin := qgood qself _ [5] [0] (by decide +kernel) (by decide +kernel)
set_option maxRecDepth 20000 in
theorem gX0_bearsLorries_X3_isWithin_n21 : GoodIn wsX0_bearsLorries (wsX3_isWithin) := ggX0_bearsLorries_X3_isWithin
set_option maxRecDepth 20000 in
theorem ggX2_warmthOf_X3_isWithin : GoodIn wsX2_warmthOf wsX3_isWithin := qgood qself _ [5] [0] (by decide +kernel) (by decide +kernel)
set_option maxRecDepth 20000 in
theorem gX2_warmthOf_X3_isWithin_n24 : GoodIn wsX2_warmthOf (wsX3_isWithin) := ggX2_warmthOf_X3_isWithin
set_option maxRecDepth 20000 in
theorem ggX2_wetWarmthOf_X3_isWithin : GoodIn wsX2_wetWarmthOf wsX3_isWithin := qgood qself _ [4] [0] (by decide +kernel) (by decide +kernel)
set_option maxRecDepth 20000 in
theorem gX2_wetWarmthOf_X3_isWithin_n24 : GoodIn wsX2_wetWarmthOf (wsX3_isWithin) := ggX2_wetWarmthOf_X3_isWithin
set_option maxRecDepth 20000 in
theorem ggX2_wetWarmthOf_X2_warmthOf : GoodIn wsX2_wetWarmthOf wsX2_warmthOf := goodIn_ca (qgood qself _ [2, 0, 0, 4, 0, 0, 0, 0, 0, 0] [3, 4, 5, 0, 1, 2, 6, 7, 8, 9] (by decide +kernel) (by decide +kernel)) (goodIn_sub (fun _ h => (List.mem_cons_of_mem _ (List.mem_append_right _ h))) (by decide +kernel))
set_option maxRecDepth 20000 in
theorem gX2_wetWarmthOf_X2_warmthOf : GoodIn wsX2_wetWarmthOf (wsV RX2 28 RX2 yX2_warmthOf wsX2_warmthOf) := goodIn_app (qof qself _ (by decide +kernel)) ggX2_wetWarmthOf_X2_warmthOf
set_option maxRecDepth 20000 in
theorem ggX2_windOf_X3_isWithin : GoodIn wsX2_windOf wsX3_isWithin := qgood qself _ [4] [0] (by decide +kernel) (by decide +kernel)
set_option maxRecDepth 20000 in
theorem gX2_windOf_X3_isWithin_n24 : GoodIn wsX2_windOf (wsX3_isWithin) := ggX2_windOf_X3_isWithin
set_option maxRecDepth 20000 in
theorem ggX3_init_X2_init : GoodIn wsX3_init wsX2_init := goodIn_ca (qgood qself _ [2, 0, 19, 0, 0, 0, 0, 0, 0, 7, 0, 0, 0] [2, 3, 0, 1, 4, 5, 6, 7, 8, 9, 10, 11, 12] (by decide +kernel) (by decide +kernel)) (goodIn_sub (fun _ h => (List.mem_cons_of_mem _ (List.mem_append_right _ h))) (by decide +kernel))
set_option maxRecDepth 20000 in
theorem gX3_init_X2_init : GoodIn wsX3_init (wsX2_init) := ggX3_init_X2_init
set_option maxRecDepth 20000 in
theorem ggX3_init_X0_init : GoodIn wsX3_init wsX0_init := goodIn_ca (qgood qself _ [2, 0, 21, 6, 0, 0, 0, 0, 14, 0, 0] [3, 4, 0, 1, 2, 5, 6, 7, 8, 9, 10] (by decide +kernel) (by decide +kernel)) (goodIn_sub (fun _ h => (List.mem_cons_of_mem _ (List.mem_append_right _ h))) (by decide +kernel))
set_option maxRecDepth 20000 in
theorem gX3_init_X0_init : GoodIn wsX3_init (wsX0_init) := ggX3_init_X0_init
set_option maxRecDepth 20000 in
theorem ggX3_weather_X3_isWithin : GoodIn wsX3_weather wsX3_isWithin := qgood qself _ [14] [0] (by decide +kernel) (by decide +kernel)
set_option maxRecDepth 20000 in
theorem gX3_weather_X3_isWithin : GoodIn wsX3_weather (va_wsS RX3 52 yX3_isWithin wsX3_isWithin) := goodIn_app (qof qself _ (by decide +kernel)) ggX3_weather_X3_isWithin
set_option maxRecDepth 20000 in
theorem ggX3_warmth_X3_isWithin : GoodIn wsX3_warmth wsX3_isWithin := qgood qself _ [7] [0] (by decide +kernel) (by decide +kernel)
set_option maxRecDepth 20000 in
theorem gX3_warmth_X3_isWithin : GoodIn wsX3_warmth (va_wsS RX3 52 yX3_isWithin wsX3_isWithin) := goodIn_app (qof qself _ (by decide +kernel)) ggX3_warmth_X3_isWithin
set_option maxRecDepth 20000 in
theorem ggX3_warmth_X2_warmthOf : GoodIn wsX3_warmth wsX2_warmthOf := goodIn_ca (qgood qself _ [5, 0, 0, 4, 0, 0, 10, 0, 0, 0] [3, 4, 5, 0, 1, 2, 6, 7, 8, 9] (by decide +kernel) (by decide +kernel)) (goodIn_sub (fun _ h => (List.mem_cons_of_mem _ (List.mem_append_right _ h))) (by decide +kernel))
set_option maxRecDepth 20000 in
theorem gX3_warmth_X2_warmthOf : GoodIn wsX3_warmth (wsV RX3 83 RX2 yX2_warmthOf wsX2_warmthOf) := goodIn_app (qof qself _ (by decide +kernel)) ggX3_warmth_X2_warmthOf
set_option maxRecDepth 20000 in
theorem ggX3_wet_X3_isWithin : GoodIn wsX3_wet wsX3_isWithin := qgood qself _ [7] [0] (by decide +kernel) (by decide +kernel)
set_option maxRecDepth 20000 in
theorem gX3_wet_X3_isWithin : GoodIn wsX3_wet (va_wsS RX3 52 yX3_isWithin wsX3_isWithin) := goodIn_app (qof qself _ (by decide +kernel)) ggX3_wet_X3_isWithin
set_option maxRecDepth 20000 in
theorem ggX3_wet_X2_wetWarmthOf : GoodIn wsX3_wet wsX2_wetWarmthOf := goodIn_ca (qgood qself _ [5, 0, 0, 3, 0, 0, 0, 0, 0, 0, 0, 0, 10, 0, 0, 0] [4, 5, 0, 1, 2, 6, 7, 8, 3, 9, 10, 11, 12, 13, 14, 15] (by decide +kernel) (by decide +kernel)) (goodIn_sub (fun _ h => (List.mem_cons_of_mem _ (List.mem_append_right _ h))) (by decide +kernel))
set_option maxRecDepth 20000 in
theorem gX3_wet_X2_wetWarmthOf : GoodIn wsX3_wet (wsV RX3 87 RX2 yX2_wetWarmthOf wsX2_wetWarmthOf) := goodIn_app (qof qself _ (by decide +kernel)) ggX3_wet_X2_wetWarmthOf
set_option maxRecDepth 20000 in
theorem ggX3_go_X3_isWithin : GoodIn wsX3_go wsX3_isWithin := qgood qself _ [9] [0] (by decide +kernel) (by decide +kernel)
set_option maxRecDepth 20000 in
theorem gX3_go_X3_isWithin : GoodIn wsX3_go (va_wsS RX3 52 yX3_isWithin wsX3_isWithin) := goodIn_app (qof qself _ (by decide +kernel)) ggX3_go_X3_isWithin
set_option maxRecDepth 20000 in
theorem ggX3_go_X3_passHour : GoodIn wsX3_go wsX3_passHour := goodIn_ca (goodIn_ca (qgood qself _ [5, 0, 0, 0, 0, 3, 0, 0, 0, 0, 0, 0, 0, 0, 0, 0, 0, 0, 0, 0, 0, 0, 0, 0, 0, 0, 0, 0, 0, 0, 0, 0, 0, 0, 0, 0, 0, 0, 0, 0, 0, 0, 0, 0, 0, 0, 0, 0, 0, 0, 0, 0, 0, 0, 0, 0, 0, 0, 0, 0, 0, 0, 0, 0, 0, 0, 0, 0, 0, 0, 0, 0, 0, 0, 0, 0, 0, 0, 0, 0, 0, 0, 0, 0, 0, 0, 0, 0, 0, 0, 0, 0, 0, 0, 0, 0, 0, 0, 0, 0, 0, 0, 0, 0, 0, 0, 0, 0, 0, 0, 0, 0, 0, 0, 0, 0, 0, 0, 0, 0, 0, 0, 0, 0, 0, 0, 0, 0, 0, 0, 0, 0, 0, 0, 0, 0, 0, 0, 0, 0, 0, 0, 0, 0, 0, 0, 0, 0, 0, 0, 0, 0, 0, 0, 0, 0, 0, 0, 0, 0] [5, 6, 0, 7, 8, 9, 10, 11, 12, 13, 14, 15, 16, 17, 18, 2, 3, 4, 19, 20, 21, 22, 23, 24, 25, 26, 27, 28, 29, 30, 31, 32, 33, 34, 35, 36, 37, 38, 39, 40, 41, 42, 43, 44, 45, 46, 47, 48, 49, 1, 50, 51, 52, 53, 54, 55, 56, 57, 58, 59, 60, 61, 62, 63, 64, 65, 66, 67, 68, 69, 70, 71, 72, 73, 74, 75, 76, 77, 78, 79, 80, 81, 82, 83, 84, 85, 86, 87, 88, 89, 90, 91, 92, 93, 94, 95, 96, 97, 98, 99, 100, 101, 102, 103, 104, 105, 106, 107, 108, 109, 110, 111, 112, 113, 114, 115, 116, 117, 118, 119, 120, 121, 122, 123, 124, 125, 126, 127, 128, 129, 130, 131, 132, 133, 134, 135, 136, 137, 138, 139, 140, 141, 142, 143, 144, 145, 146, 147, 148, 149, 150, 151, 152, 153, 154, 155, 156, 157, 158, 159] (by decide +kernel) (by decide +kernel)) (goodIn_sub (fun _ h => (List.mem_cons_of_mem _ (List.mem_append_left _ (List.mem_append_right _ h)))) (by decide +kernel))) (goodIn_sub (fun _ h => (List.mem_cons_of_mem _ (List.mem_append_right _ h))) (by decide +kernel))
set_option maxRecDepth 20000 in
theorem gX3_go_X3_passHour : GoodIn wsX3_go (wsV RX3 97 RX3 yX3_passHour wsX3_passHour) := goodIn_app (qof qself _ (by decide +kernel)) ggX3_go_X3_passHour
set_option maxRecDepth 20000 in
theorem ggX3_ice_X3_isWithin : GoodIn wsX3_ice wsX3_isWithin := qgood qself _ [8] [0] (by decide +kernel) (by decide +kernel)
set_option maxRecDepth 20000 in
theorem gX3_ice_X3_isWithin : GoodIn wsX3_ice (va_wsS RX3 52 yX3_isWithin wsX3_isWithin) := goodIn_app (qof qself _ (by decide +kernel)) ggX3_ice_X3_isWithin
set_option maxRecDepth 20000 in
theorem ggX3_clear_X3_isWithin : GoodIn wsX3_clear wsX3_isWithin := qgood qself _ [8] [0] (by decide +kernel) (by decide +kernel)
set_option maxRecDepth 20000 in
theorem gX3_clear_X3_isWithin : GoodIn wsX3_clear (va_wsS RX3 52 yX3_isWithin wsX3_isWithin) := goodIn_app (qof qself _ (by decide +kernel)) ggX3_clear_X3_isWithin
set_option maxRecDepth 20000 in
theorem ggX3_bears_X3_isWithin : GoodIn wsX3_bears wsX3_isWithin := qgood qself _ [7] [0] (by decide +kernel) (by decide +kernel)
set_option maxRecDepth 20000 in
theorem gX3_bears_X3_isWithin : GoodIn wsX3_bears (va_wsS RX3 52 yX3_isWithin wsX3_isWithin) := goodIn_app (qof qself _ (by decide +kernel)) ggX3_bears_X3_isWithin
set_option maxRecDepth 20000 in
theorem ggX3_bears_X0_bearsLorries : GoodIn wsX3_bears wsX0_bearsLorries := goodIn_ca (qgood qself _ [5, 0, 0, 4, 0, 0, 10, 0, 0] [3, 4, 5, 0, 1, 2, 6, 7, 8] (by decide +kernel) (by decide +kernel)) (goodIn_sub (fun _ h => (List.mem_cons_of_mem _ (List.mem_append_right _ h))) (by decide +kernel))
set_option maxRecDepth 20000 in
theorem gX3_bears_X0_bearsLorries : GoodIn wsX3_bears (wsV RX3 108 RX0 yX0_bearsLorries wsX0_bearsLorries) := goodIn_app (qof qself _ (by decide +kernel)) ggX3_bears_X0_bearsLorries
set_option maxRecDepth 20000 in
theorem ggX3_cut_X3_isWithin : GoodIn wsX3_cut wsX3_isWithin := qgood qself _ [16] [0] (by decide +kernel) (by decide +kernel)
set_option maxRecDepth 20000 in
theorem gX3_cut_X3_isWithin : GoodIn wsX3_cut (va_wsS RX3 52 yX3_isWithin wsX3_isWithin) := goodIn_app (qof qself _ (by decide +kernel)) ggX3_cut_X3_isWithin
set_option maxRecDepth 20000 in
theorem ggX3_cut_X0_bearsLorries : GoodIn wsX3_cut wsX0_bearsLorries := goodIn_ca (qgood qself _ [14, 0, 0, 4, 0, 0, 15, 0, 0] [3, 4, 5, 0, 1, 2, 6, 7, 8] (by decide +kernel) (by decide +kernel)) (goodIn_sub (fun _ h => (List.mem_cons_of_mem _ (List.mem_append_left _ (List.mem_append_left _ (List.mem_append_right _ h))))) (by decide +kernel))
set_option maxRecDepth 20000 in
theorem gX3_cut_X0_bearsLorries : GoodIn wsX3_cut (wsV RX3 108 RX0 yX0_bearsLorries wsX0_bearsLorries) := goodIn_app (qof qself _ (by decide +kernel)) ggX3_cut_X0_bearsLorries
set_option maxRecDepth 20000 in
theorem ggX3_lorries_X3_isWithin : GoodIn wsX3_lorries wsX3_isWithin := qgood qself _ [8] [0] (by decide +kernel) (by decide +kernel)
set_option maxRecDepth 20000 in
theorem gX3_lorries_X3_isWithin : GoodIn wsX3_lorries (va_wsS RX3 52 yX3_isWithin wsX3_isWithin) := goodIn_app (qof qself _ (by decide +kernel)) ggX3_lorries_X3_isWithin
set_option maxRecDepth 20000 in
theorem ggX3_lorries_X3_storeSnow : GoodIn wsX3_lorries wsX3_storeSnow := qgood qself _ [4, 7, 0, 0, 0, 0, 0, 0, 0, 0, 0, 0, 0, 0, 0, 0] [1, 0, 2, 3, 4, 5, 6, 7, 8, 9, 10, 11, 12, 13, 14, 15] (by decide +kernel) (by decide +kernel)
set_option maxRecDepth 20000 in
theorem gX3_lorries_X3_storeSnow : GoodIn wsX3_lorries (wsV RX3 124 RX3 yX3_storeSnow wsX3_storeSnow) := goodIn_app (qof qself _ (by decide +kernel)) ggX3_lorries_X3_storeSnow
set_option maxRecDepth 20000 in
theorem ggX3_site_X1_init : GoodIn wsX3_site wsX1_init := goodIn_ca (qgood qself _ [10, 0, 0, 0, 0, 0, 0, 0, 0, 0, 0, 0, 0, 0, 0, 0, 0, 0, 0, 0, 0, 0, 10, 0, 0, 0, 0, 0, 0, 0, 0, 0, 0, 0, 0, 0, 0] [0, 1, 2, 3, 4, 5, 6, 7, 8, 9, 10, 11, 12, 13, 14, 15, 16, 17, 18, 19, 20, 21, 22, 23, 24, 25, 26, 27, 28, 29, 30, 31, 32, 33, 34, 35, 36] (by decide +kernel) (by decide +kernel)) (goodIn_sub (fun _ h => (List.mem_cons_of_mem _ (List.mem_append_right _ h))) (by decide +kernel))
set_option maxRecDepth 20000 in
theorem gX3_site_X1_init : GoodIn wsX3_site (wsX1_init) := ggX3_site_X1_init
set_option maxRecDepth 20000 in
theorem ggX3_put_X3_placedSite : GoodIn wsX3_put wsX3_placedSite := qgood qself _ [13, 0, 0, 0, 0, 0, 0, 0, 0, 0, 0, 101, 0, 0, 0, 0, 0, 0, 0, 0, 0] [1, 2, 3, 0, 4, 5, 6, 7, 8, 9, 10, 11, 12, 13, 14, 15, 16, 17, 18, 19, 20] (by decide +kernel) (by decide +kernel)
set_option maxRecDepth 20000 in
theorem gX3_put_X3_placedSite : GoodIn wsX3_put (wsV RX3 131 RX3 yX3_placedSite wsX3_placedSite) := goodIn_app (qof qself _ (by decide +kernel)) ggX3_put_X3_placedSite
set_option maxRecDepth 20000 in
theorem ggX3_put_X3_placeOf : GoodIn wsX3_put wsX3_placeOf := qgood qself _ [26] [0] (by decide +kernel) (by decide +kernel)
set_option maxRecDepth 20000 in
theorem gX3_put_X3_placeOf : GoodIn wsX3_put (va_wsS RX3 142 yX3_placeOf wsX3_placeOf) := goodIn_app (qof qself _ (by decide +kernel)) ggX3_put_X3_placeOf
set_option maxRecDepth 20000 in
theorem ggX3_at_X3_placedSite : GoodIn wsX3_at wsX3_placedSite := qgood qself _ [7, 0, 0, 0, 0, 0, 0, 0, 0, 0, 0, 18, 0, 0, 0, 0, 0, 0, 0, 0, 0] [1, 2, 3, 0, 4, 5, 6, 7, 8, 9, 10, 11, 12, 13, 14, 15, 16, 17, 18, 19, 20] (by decide +kernel) (by decide +kernel)
set_option maxRecDepth 20000 in
theorem gX3_at_X3_placedSite : GoodIn wsX3_at (wsV RX3 131 RX3 yX3_placedSite wsX3_placedSite) := goodIn_app (qof qself _ (by decide +kernel)) ggX3_at_X3_placedSite
set_option maxRecDepth 20000 in
theorem ggX3_at_X3_placeOf : GoodIn wsX3_at wsX3_placeOf := qgood qself _ [20] [0] (by decide +kernel) (by decide +kernel)
set_option maxRecDepth 20000 in
theorem gX3_at_X3_placeOf : GoodIn wsX3_at (va_wsS RX3 142 yX3_placeOf wsX3_placeOf) := goodIn_app (qof qself _ (by decide +kernel)) ggX3_at_X3_placeOf
set_option maxRecDepth 20000 in
theorem ggX3_mass_X3_placedSite : GoodIn wzX3_mass wsX3_placedSite := qgood qself _ [9, 0, 0, 0, 0, 0, 0, 0, 0, 0, 0, 24, 0, 0, 0, 0, 0, 0, 0, 0, 0] [1, 2, 3, 0, 4, 5, 6, 7, 8, 9, 10, 11, 12, 13, 14, 15, 16, 17, 18, 19, 20] (by decide +kernel) (by decide +kernel)
set_option maxRecDepth 20000 in
theorem gX3_mass_X3_placedSite : GoodIn wzX3_mass (wsV RX3 131 RX3 yX3_placedSite wsX3_placedSite) := goodIn_app (qof qself _ (by decide +kernel)) ggX3_mass_X3_placedSite
set_option maxRecDepth 20000 in
theorem ggX3_mass_X3_placeOf : GoodIn wzX3_mass wsX3_placeOf := qgood qself _ [22] [0] (by decide +kernel) (by decide +kernel)
set_option maxRecDepth 20000 in
theorem gX3_mass_X3_placeOf : GoodIn wzX3_mass (va_wsS RX3 142 yX3_placeOf wsX3_placeOf) := goodIn_app (qof qself _ (by decide +kernel)) ggX3_mass_X3_placeOf
set_option maxRecDepth 20000 in
theorem ggX3_load_X3_placedSite : GoodIn wzX3_load wsX3_placedSite := qgood qself _ [9, 0, 0, 0, 0, 0, 0, 0, 0, 0, 0, 39, 0, 0, 0, 0, 0, 0, 0, 0, 0] [1, 2, 3, 0, 4, 5, 6, 7, 8, 9, 10, 11, 12, 13, 14, 15, 16, 17, 18, 19, 20] (by decide +kernel) (by decide +kernel)
set_option maxRecDepth 20000 in
theorem gX3_load_X3_placedSite : GoodIn wzX3_load (wsV RX3 131 RX3 yX3_placedSite wsX3_placedSite) := goodIn_app (qof qself _ (by decide +kernel)) ggX3_load_X3_placedSite
set_option maxRecDepth 20000 in
theorem ggX3_load_X3_placeOf : GoodIn wzX3_load wsX3_placeOf := qgood qself _ [22] [0] (by decide +kernel) (by decide +kernel)
set_option maxRecDepth 20000 in
theorem gX3_load_X3_placeOf : GoodIn wzX3_load (va_wsS RX3 142 yX3_placeOf wsX3_placeOf) := goodIn_app (qof qself _ (by decide +kernel)) ggX3_load_X3_placeOf
set_option maxRecDepth 20000 in
theorem ggX3_strength_X3_placedSite : GoodIn wzX3_strength wsX3_placedSite := qgood qself _ [10, 0, 0, 0, 0, 0, 0, 0, 0, 0, 0, 33, 0, 0, 0, 0, 0, 0, 0, 0, 0] [1, 2, 3, 0, 4, 5, 6, 7, 8, 9, 10, 11, 12, 13, 14, 15, 16, 17, 18, 19, 20] (by decide +kernel) (by decide +kernel)
set_option maxRecDepth 20000 in
theorem gX3_strength_X3_placedSite : GoodIn wzX3_strength (wsV RX3 131 RX3 yX3_placedSite wsX3_placedSite) := goodIn_app (qof qself _ (by decide +kernel)) ggX3_strength_X3_placedSite
set_option maxRecDepth 20000 in
theorem ggX3_strength_X3_placeOf : GoodIn wzX3_strength wsX3_placeOf := qgood qself _ [23] [0] (by decide +kernel) (by decide +kernel)
set_option maxRecDepth 20000 in
theorem gX3_strength_X3_placeOf : GoodIn wzX3_strength (va_wsS RX3 142 yX3_placeOf wsX3_placeOf) := goodIn_app (qof qself _ (by decide +kernel)) ggX3_strength_X3_placeOf
set_option maxRecDepth 20000 in
theorem ggX3_strength_X2_warmthOf : GoodIn wzX3_strength wsX2_warmthOf := goodIn_ca (qgood qself _ [10, 2, 0, 19, 0, 0, 42, 0, 0, 0] [3, 4, 5, 1, 0, 2, 6, 7, 8, 9] (by decide +kernel) (by decide +kernel)) (goodIn_sub (fun _ h => (List.mem_cons_of_mem _ (List.mem_append_right _ h))) (by decide +kernel))
set_option maxRecDepth 20000 in
theorem gX3_strength_X2_warmthOf : GoodIn wzX3_strength (wsV RX3 83 RX2 yX2_warmthOf wsX2_warmthOf) := goodIn_app (qof qself _ (by decide +kernel)) ggX3_strength_X2_warmthOf
set_option maxRecDepth 20000 in
theorem ggX3_creep_X3_placedSite : GoodIn wzX3_creep wsX3_placedSite := qgood qself _ [9, 0, 0, 0, 0, 0, 0, 0, 0, 0, 0, 24, 0, 0, 0, 0, 0, 0, 0, 0, 0] [1, 2, 3, 0, 4, 5, 6, 7, 8, 9, 10, 11, 12, 13, 14, 15, 16, 17, 18, 19, 20] (by decide +kernel) (by decide +kernel)
set_option maxRecDepth 20000 in
theorem gX3_creep_X3_placedSite : GoodIn wzX3_creep (wsV RX3 131 RX3 yX3_placedSite wsX3_placedSite) := goodIn_app (qof qself _ (by decide +kernel)) ggX3_creep_X3_placedSite
set_option maxRecDepth 20000 in
theorem ggX3_creep_X3_placeOf : GoodIn wzX3_creep wsX3_placeOf := qgood qself _ [22] [0] (by decide +kernel) (by decide +kernel)
set_option maxRecDepth 20000 in
theorem gX3_creep_X3_placeOf : GoodIn wzX3_creep (va_wsS RX3 142 yX3_placeOf wsX3_placeOf) := goodIn_app (qof qself _ (by decide +kernel)) ggX3_creep_X3_placeOf
set_option maxRecDepth 20000 in
theorem ggX3_age_X3_placedSite : GoodIn wzX3_age wsX3_placedSite := qgood qself _ [9, 0, 0, 0, 0, 0, 0, 0, 0, 0, 0, 24, 0, 0, 0, 0, 0, 0, 0, 0, 0] [1, 2, 3, 0, 4, 5, 6, 7, 8, 9, 10, 11, 12, 13, 14, 15, 16, 17, 18, 19, 20] (by decide +kernel) (by decide +kernel)
set_option maxRecDepth 20000 in
theorem gX3_age_X3_placedSite : GoodIn wzX3_age (wsV RX3 131 RX3 yX3_placedSite wsX3_placedSite) := goodIn_app (qof qself _ (by decide +kernel)) ggX3_age_X3_placedSite
set_option maxRecDepth 20000 in
theorem ggX3_age_X3_placeOf : GoodIn wzX3_age wsX3_placeOf := qgood qself _ [22] [0] (by decide +kernel) (by decide +kernel)
set_option maxRecDepth 20000 in
theorem gX3_age_X3_placeOf : GoodIn wzX3_age (va_wsS RX3 142 yX3_placeOf wsX3_placeOf) := goodIn_app (qof qself _ (by decide +kernel)) ggX3_age_X3_placeOf
set_option maxRecDepth 20000 in
theorem ggX3_isArch_X3_placedSite : GoodIn wzX3_isArch wsX3_placedSite := qgood qself _ [8, 0, 0, 0, 0, 0, 0, 0, 0, 0, 0, 18, 0, 0, 0, 0, 0, 0, 0, 0, 0] [1, 2, 3, 0, 4, 5, 6, 7, 8, 9, 10, 11, 12, 13, 14, 15, 16, 17, 18, 19, 20] (by decide +kernel) (by decide +kernel)
set_option maxRecDepth 20000 in
theorem gX3_isArch_X3_placedSite : GoodIn wzX3_isArch (wsV RX3 131 RX3 yX3_placedSite wsX3_placedSite) := goodIn_app (qof qself _ (by decide +kernel)) ggX3_isArch_X3_placedSite
set_option maxRecDepth 20000 in
theorem ggX3_isArch_X3_placeOf : GoodIn wzX3_isArch wsX3_placeOf := qgood qself _ [21] [0] (by decide +kernel) (by decide +kernel)
set_option maxRecDepth 20000 in
theorem gX3_isArch_X3_placeOf : GoodIn wzX3_isArch (va_wsS RX3 142 yX3_placeOf wsX3_placeOf) := goodIn_app (qof qself _ (by decide +kernel)) ggX3_isArch_X3_placeOf
set_option maxRecDepth 20000 in
theorem ggX3_fell_X3_numberedSite : GoodIn wsX3_fell wsX3_numberedSite := qgood qself _ [7, 0, 0, 0, 0, 0, 0, 15, 0, 0, 0, 0, 0, 0, 0, 0, 0] [1, 2, 3, 4, 5, 0, 6, 7, 8, 9, 10, 11, 12, 13, 14, 15, 16] (by decide +kernel) (by decide +kernel)
set_option maxRecDepth 20000 in
theorem gX3_fell_X3_numberedSite : GoodIn wsX3_fell (wsV RX3 207 RX3 yX3_numberedSite wsX3_numberedSite) := goodIn_app (qof qself _ (by decide +kernel)) ggX3_fell_X3_numberedSite
set_option maxRecDepth 20000 in
theorem ggX3_lastFell_X3_numberedSite : GoodIn wzX3_lastFell wsX3_numberedSite := qgood qself _ [9, 0, 0, 0, 0, 0, 0, 15, 0, 0, 0, 0, 0, 0, 0, 0, 0] [1, 2, 3, 4, 5, 0, 6, 7, 8, 9, 10, 11, 12, 13, 14, 15, 16] (by decide +kernel) (by decide +kernel)
set_option maxRecDepth 20000 in
theorem gX3_lastFell_X3_numberedSite : GoodIn wzX3_lastFell (wsV RX3 207 RX3 yX3_numberedSite wsX3_numberedSite) := goodIn_app (qof qself _ (by decide +kernel)) ggX3_lastFell_X3_numberedSite
set_option maxRecDepth 20000 in
theorem ggX3_cover_X3_numberedSite : GoodIn wsX3_cover wsX3_numberedSite := qgood qself _ [8, 0, 0, 0, 0, 0, 0, 15, 0, 0, 0, 0, 0, 0, 0, 0, 0] [1, 2, 3, 4, 5, 0, 6, 7, 8, 9, 10, 11, 12, 13, 14, 15, 16] (by decide +kernel) (by decide +kernel)
set_option maxRecDepth 20000 in
theorem gX3_cover_X3_numberedSite : GoodIn wsX3_cover (wsV RX3 207 RX3 yX3_numberedSite wsX3_numberedSite) := goodIn_app (qof qself _ (by decide +kernel)) ggX3_cover_X3_numberedSite
set_option maxRecDepth 20000 in
theorem ggX3_lamp_X3_placedSite : GoodIn wzX3_lamp wsX3_placedSite := qgood qself _ [13, 0, 0, 0, 0, 0, 0, 0, 0, 0, 0, 24, 0, 0, 0, 0, 0, 0, 0, 0, 0] [1, 2, 3, 0, 4, 5, 6, 7, 8, 9, 10, 11, 12, 13, 14, 15, 16, 17, 18, 19, 20] (by decide +kernel) (by decide +kernel)
set_option maxRecDepth 20000 in
theorem gX3_lamp_X3_placedSite : GoodIn wzX3_lamp (wsV RX3 131 RX3 yX3_placedSite wsX3_placedSite) := goodIn_app (qof qself _ (by decide +kernel)) ggX3_lamp_X3_placedSite
set_option maxRecDepth 20000 in
theorem ggX3_lamp_X3_placeOf : GoodIn wzX3_lamp wsX3_placeOf := qgood qself _ [26] [0] (by decide +kernel) (by decide +kernel)
set_option maxRecDepth 20000 in
theorem gX3_lamp_X3_placeOf : GoodIn wzX3_lamp (va_wsS RX3 142 yX3_placeOf wsX3_placeOf) := goodIn_app (qof qself _ (by decide +kernel)) ggX3_lamp_X3_placeOf
set_option maxRecDepth 20000 in
theorem ggX3_lightBits_X3_placedSite : GoodIn wsX3_lightBits wsX3_placedSite := qgood qself _ [6, 0, 0, 0, 0, 0, 0, 0, 0, 0, 0, 27, 0, 0, 0, 0, 0, 0, 0, 0, 0] [1, 2, 3, 0, 4, 5, 6, 7, 8, 9, 10, 11, 12, 13, 14, 15, 16, 17, 18, 19, 20] (by decide +kernel) (by decide +kernel)
set_option maxRecDepth 20000 in
theorem gX3_lightBits_X3_placedSite : GoodIn wsX3_lightBits (wsV RX3 131 RX3 yX3_placedSite wsX3_placedSite) := goodIn_app (qof qself _ (by decide +kernel)) ggX3_lightBits_X3_placedSite
set_option maxRecDepth 20000 in
theorem ggX3_isOpen_X3_numberedSite : GoodIn wsX3_isOpen wsX3_numberedSite := qgood qself _ [8, 0, 0, 0, 0, 0, 0, 50, 0, 0, 0, 0, 0, 0, 0, 0, 0] [1, 2, 3, 4, 5, 0, 6, 7, 8, 9, 10, 11, 12, 13, 14, 15, 16] (by decide +kernel) (by decide +kernel)
set_option maxRecDepth 20000 in
theorem gX3_isOpen_X3_numberedSite : GoodIn wsX3_isOpen (wsV RX3 207 RX3 yX3_numberedSite wsX3_numberedSite) := goodIn_app (qof qself _ (by decide +kernel)) ggX3_isOpen_X3_numberedSite
set_option maxRecDepth 20000 in
theorem ggX3_isOpen_X2_warmthOf : GoodIn wsX3_isOpen wsX2_warmthOf := goodIn_ca (qgood qself _ [8, 4, 0, 4, 0, 0, 53, 0, 0, 0] [3, 4, 5, 1, 0, 2, 6, 7, 8, 9] (by decide +kernel) (by decide +kernel)) (goodIn_sub (fun _ h => (List.mem_cons_of_mem _ (List.mem_append_right _ h))) (by decide +kernel))
set_option maxRecDepth 20000 in
theorem gX3_isOpen_X2_warmthOf : GoodIn wsX3_isOpen (wsV RX3 83 RX2 yX2_warmthOf wsX2_warmthOf) := goodIn_app (qof qself _ (by decide +kernel)) ggX3_isOpen_X2_warmthOf
set_option maxRecDepth 20000 in
theorem ggX3_carries_X3_placedSite : GoodIn wzX3_carries wsX3_placedSite := qgood qself _ [10, 0, 0, 0, 0, 0, 0, 0, 0, 0, 0, 58, 0, 0, 0, 0, 0, 0, 0, 0, 0] [1, 2, 3, 0, 4, 5, 6, 7, 8, 9, 10, 11, 12, 13, 14, 15, 16, 17, 18, 19, 20] (by decide +kernel) (by decide +kernel)
set_option maxRecDepth 20000 in
theorem gX3_carries_X3_placedSite : GoodIn wzX3_carries (wsV RX3 131 RX3 yX3_placedSite wsX3_placedSite) := goodIn_app (qof qself _ (by decide +kernel)) ggX3_carries_X3_placedSite
set_option maxRecDepth 20000 in
theorem ggX3_carries_X2_warmthOf : GoodIn wzX3_carries wsX2_warmthOf := goodIn_ca (qgood qself _ [10, 2, 0, 22, 0, 0, 64, 0, 0, 0] [3, 4, 5, 1, 0, 2, 6, 7, 8, 9] (by decide +kernel) (by decide +kernel)) (goodIn_sub (fun _ h => (List.mem_cons_of_mem _ (List.mem_append_right _ h))) (by decide +kernel))
set_option maxRecDepth 20000 in
theorem gX3_carries_X2_warmthOf : GoodIn wzX3_carries (wsV RX3 83 RX2 yX2_warmthOf wsX2_warmthOf) := goodIn_app (qof qself _ (by decide +kernel)) ggX3_carries_X2_warmthOf
set_option maxRecDepth 20000 in
theorem ggX3_visit_X3_numberedSite : GoodIn wsX3_visit wsX3_numberedSite := qgood qself _ [14, 0, 0, 0, 0, 0, 0, 50, 0, 0, 0, 0, 0, 0, 0, 0, 0] [1, 2, 3, 4, 5, 0, 6, 7, 8, 9, 10, 11, 12, 13, 14, 15, 16] (by decide +kernel) (by decide +kernel)
set_option maxRecDepth 20000 in
theorem gX3_visit_X3_numberedSite : GoodIn wsX3_visit (wsV RX3 207 RX3 yX3_numberedSite wsX3_numberedSite) := goodIn_app (qof qself _ (by decide +kernel)) ggX3_visit_X3_numberedSite
set_option maxRecDepth 20000 in
theorem ggX3_visit_X3_isWithin : GoodIn wsX3_visit wsX3_isWithin := qgood qself _ [20] [0] (by decide +kernel) (by decide +kernel)
set_option maxRecDepth 20000 in
theorem gX3_visit_X3_isWithin : GoodIn wsX3_visit (va_wsS RX3 52 yX3_isWithin wsX3_isWithin) := goodIn_app (qof qself _ (by decide +kernel)) ggX3_visit_X3_isWithin
set_option maxRecDepth 20000 in
theorem ggX3_visit_X2_warmthOf : GoodIn wsX3_visit wsX2_warmthOf := goodIn_ca (qgood qself _ [14, 4, 0, 4, 0, 0, 68, 0, 0, 0] [3, 4, 5, 1, 0, 2, 6, 7, 8, 9] (by decide +kernel) (by decide +kernel)) (goodIn_sub (fun _ h => (List.mem_cons_of_mem _ (List.mem_append_right _ h))) (by decide +kernel))
set_option maxRecDepth 20000 in
theorem gX3_visit_X2_warmthOf : GoodIn wsX3_visit (wsV RX3 83 RX2 yX2_warmthOf wsX2_warmthOf) := goodIn_app (qof qself _ (by decide +kernel)) ggX3_visit_X2_warmthOf
set_option maxRecDepth 20000 in
theorem ggX3_squareBits_X3_isWithin : GoodIn wsX3_squareBits wsX3_isWithin := qgood qself _ [11] [0] (by decide +kernel) (by decide +kernel)
set_option maxRecDepth 20000 in
theorem gX3_squareBits_X3_isWithin : GoodIn wsX3_squareBits (va_wsS RX3 52 yX3_isWithin wsX3_isWithin) := goodIn_app (qof qself _ (by decide +kernel)) ggX3_squareBits_X3_isWithin
set_option maxRecDepth 20000 in
theorem ggX3_squareBits_X2_warmthOf : GoodIn wsX3_squareBits wsX2_warmthOf := goodIn_ca (qgood qself _ [9, 0, 0, 4, 0, 0, 16, 0, 0, 0] [3, 4, 5, 0, 1, 2, 6, 7, 8, 9] (by decide +kernel) (by decide +kernel)) (goodIn_sub (fun _ h => (List.mem_cons_of_mem _ (List.mem_append_right _ h))) (by decide +kernel))
set_option maxRecDepth 20000 in
theorem gX3_squareBits_X2_warmthOf : GoodIn wsX3_squareBits (wsV RX3 83 RX2 yX2_warmthOf wsX2_warmthOf) := goodIn_app (qof qself _ (by decide +kernel)) ggX3_squareBits_X2_warmthOf
set_option maxRecDepth 20000 in
theorem ggX3_squareBits_X3_bitsOfDouble : GoodIn wsX3_squareBits wsX3_bitsOfDouble := qgood qself _ [21, 0, 0, 0] [0, 1, 2, 3] (by decide +kernel) (by decide +kernel)
set_option maxRecDepth 20000 in
theorem gX3_squareBits_X3_bitsOfDouble : GoodIn wsX3_squareBits (va_wsS RX3 262 yX3_bitsOfDouble wsX3_bitsOfDouble) := goodIn_app (qof qself _ (by decide +kernel)) ggX3_squareBits_X3_bitsOfDouble
set_option maxRecDepth 20000 in
theorem ggX3_plan_X3_placedSite : GoodIn wsX3_plan wsX3_placedSite := qgood qself _ [7, 0, 0, 0, 0, 0, 0, 0, 0, 0, 0, 24, 0, 0, 0, 0, 0, 0, 0, 0, 0] [1, 2, 3, 0, 4, 5, 6, 7, 8, 9, 10, 11, 12, 13, 14, 15, 16, 17, 18, 19, 20] (by decide +kernel) (by decide +kernel)
set_option maxRecDepth 20000 in
theorem gX3_plan_X3_placedSite : GoodIn wsX3_plan (wsV RX3 131 RX3 yX3_placedSite wsX3_placedSite) := goodIn_app (qof qself _ (by decide +kernel)) ggX3_plan_X3_placedSite
set_option maxRecDepth 20000 in
theorem ggX3_plan_X3_placeOf : GoodIn wsX3_plan wsX3_placeOf := qgood qself _ [20] [0] (by decide +kernel) (by decide +kernel)
set_option maxRecDepth 20000 in
theorem gX3_plan_X3_placeOf : GoodIn wsX3_plan (va_wsS RX3 142 yX3_placeOf wsX3_placeOf) := goodIn_app (qof qself _ (by decide +kernel)) ggX3_plan_X3_placeOf
set_option maxRecDepth 20000 in
theorem ggX3_carve_X3_placedSite : GoodIn wzX3_carve wsX3_placedSite := qgood qself _ [16, 0, 0, 0, 0, 0, 0, 0, 0, 0, 0, 101, 0, 0, 0, 0, 0, 0, 0, 0, 0] [1, 2, 3, 0, 4, 5, 6, 7, 8, 9, 10, 11, 12, 13, 14, 15, 16, 17, 18, 19, 20] (by decide +kernel) (by decide +kernel)
set_option maxRecDepth 20000 in
theorem gX3_carve_X3_placedSite : GoodIn wzX3_carve (wsV RX3 131 RX3 yX3_placedSite wsX3_placedSite) := goodIn_app (qof qself _ (by decide +kernel)) ggX3_carve_X3_placedSite
set_option maxRecDepth 20000 in
theorem ggX3_carve_X3_isWithin : GoodIn wzX3_carve wsX3_isWithin := qgood qself _ [20] [0] (by decide +kernel) (by decide +kernel)
set_option maxRecDepth 20000 in
theorem gX3_carve_X3_isWithin : GoodIn wzX3_carve (va_wsS RX3 52 yX3_isWithin wsX3_isWithin) := goodIn_app (qof qself _ (by decide +kernel)) ggX3_carve_X3_isWithin
set_option maxRecDepth 20000 in
theorem ggX3_carve_X3_placeOf : GoodIn wzX3_carve wsX3_placeOf := qgood qself _ [29] [0] (by decide +kernel) (by decide +kernel)
set_option maxRecDepth 20000 in
theorem gX3_carve_X3_placeOf : GoodIn wzX3_carve (va_wsS RX3 142 yX3_placeOf wsX3_placeOf) := goodIn_app (qof qself _ (by decide +kernel)) ggX3_carve_X3_placeOf
set_option maxRecDepth 20000 in
theorem ggX3_hours_X3_numberedSite : GoodIn wsX3_hours wsX3_numberedSite := qgood qself _ [7, 0, 0, 0, 0, 0, 0, 15, 0, 0, 0, 0, 0, 0, 0, 0, 0] [1, 2, 3, 4, 5, 0, 6, 7, 8, 9, 10, 11, 12, 13, 14, 15, 16] (by decide +kernel) (by decide +kernel)
set_option maxRecDepth 20000 in
theorem gX3_hours_X3_numberedSite : GoodIn wsX3_hours (wsV RX3 207 RX3 yX3_numberedSite wsX3_numberedSite) := goodIn_app (qof qself _ (by decide +kernel)) ggX3_hours_X3_numberedSite
set_option maxRecDepth 20000 in
theorem ggX3_judge_X3_numberedSite : GoodIn wsX3_judge wsX3_numberedSite := qgood qself _ [11, 0, 0, 0, 0, 0, 0, 22, 0, 0, 0, 0, 0, 0, 0, 0, 0] [1, 2, 3, 4, 5, 0, 6, 7, 8, 9, 10, 11, 12, 13, 14, 15, 16] (by decide +kernel) (by decide +kernel)
set_option maxRecDepth 20000 in
theorem gX3_judge_X3_numberedSite : GoodIn wsX3_judge (wsV RX3 207 RX3 yX3_numberedSite wsX3_numberedSite) := goodIn_app (qof qself _ (by decide +kernel)) ggX3_judge_X3_numberedSite
set_option maxRecDepth 20000 in
theorem ggX3_mark_X3_numberedSite : GoodIn wzX3_mark wsX3_numberedSite := qgood qself _ [10, 0, 0, 0, 0, 0, 0, 15, 0, 0, 0, 0, 0, 0, 0, 0, 0] [1, 2, 3, 4, 5, 0, 6, 7, 8, 9, 10, 11, 12, 13, 14, 15, 16] (by decide +kernel) (by decide +kernel)
set_option maxRecDepth 20000 in
theorem gX3_mark_X3_numberedSite : GoodIn wzX3_mark (wsV RX3 207 RX3 yX3_numberedSite wsX3_numberedSite) := goodIn_app (qof qself _ (by decide +kernel)) ggX3_mark_X3_numberedSite
set_option maxRecDepth 20000 in
theorem ggX3_take_X3_placedSite : GoodIn wzX3_take wsX3_placedSite := qgood qself _ [13, 0, 0, 0, 0, 0, 0, 0, 0, 0, 0, 72, 0, 0, 0, 0, 0, 0, 0, 0, 0] [1, 2, 3, 0, 4, 5, 6, 7, 8, 9, 10, 11, 12, 13, 14, 15, 16, 17, 18, 19, 20] (by decide +kernel) (by decide +kernel)
set_option maxRecDepth 20000 in
theorem gX3_take_X3_placedSite : GoodIn wzX3_take (wsV RX3 131 RX3 yX3_placedSite wsX3_placedSite) := goodIn_app (qof qself _ (by decide +kernel)) ggX3_take_X3_placedSite
set_option maxRecDepth 20000 in
theorem ggX3_take_X3_placeOf : GoodIn wzX3_take wsX3_placeOf := qgood qself _ [26] [0] (by decide +kernel) (by decide +kernel)
set_option maxRecDepth 20000 in
theorem gX3_take_X3_placeOf : GoodIn wzX3_take (va_wsS RX3 142 yX3_placeOf wsX3_placeOf) := goodIn_app (qof qself _ (by decide +kernel)) ggX3_take_X3_placeOf
set_option maxRecDepth 20000 in
theorem ggX3_take_X2_warmthOf : GoodIn wzX3_take wsX2_warmthOf := goodIn_ca (qgood qself _ [13, 2, 0, 19, 0, 0, 81, 0, 0, 0] [3, 4, 5, 1, 0, 2, 6, 7, 8, 9] (by decide +kernel) (by decide +kernel)) (goodIn_sub (fun _ h => (List.mem_cons_of_mem _ (List.mem_append_right _ h))) (by decide +kernel))
set_option maxRecDepth 20000 in
theorem gX3_take_X2_warmthOf : GoodIn wzX3_take (wsV RX3 83 RX2 yX2_warmthOf wsX2_warmthOf) := goodIn_app (qof qself _ (by decide +kernel)) ggX3_take_X2_warmthOf
set_option maxRecDepth 20000 in
theorem ggX3_count_X3_numberedSite : GoodIn wsX3_count wsX3_numberedSite := qgood qself _ [6, 0, 0, 0, 0, 0, 0, 6, 0, 0, 0, 0, 0, 0, 0, 0, 0] [1, 2, 3, 4, 5, 0, 6, 7, 8, 9, 10, 11, 12, 13, 14, 15, 16] (by decide +kernel) (by decide +kernel)
set_option maxRecDepth 20000 in
theorem gX3_count_X3_numberedSite : GoodIn wsX3_count (wsV RX3 207 RX3 yX3_numberedSite wsX3_numberedSite) := goodIn_app (qof qself _ (by decide +kernel)) ggX3_count_X3_numberedSite
set_option maxRecDepth 20000 in
theorem ggX3_openShare_X3_numberedSite : GoodIn wsX3_openShare wsX3_numberedSite := qgood qself _ [3, 5, 0, 0, 0, 0, 0, 50, 0, 0, 0, 0, 0, 0, 0, 0, 0] [2, 0, 3, 4, 5, 1, 6, 7, 8, 9, 10, 11, 12, 13, 14, 15, 16] (by decide +kernel) (by decide +kernel)
set_option maxRecDepth 20000 in
theorem gX3_openShare_X3_numberedSite : GoodIn wsX3_openShare (wsV RX3 207 RX3 yX3_numberedSite wsX3_numberedSite) := goodIn_app (qof qself _ (by decide +kernel)) ggX3_openShare_X3_numberedSite
set_option maxRecDepth 20000 in
theorem ggX3_openShare_X2_warmthOf : GoodIn wsX3_openShare wsX2_warmthOf := goodIn_ca (qgood qself _ [9, 3, 0, 4, 0, 0, 53, 0, 0, 0] [3, 4, 5, 1, 0, 2, 6, 7, 8, 9] (by decide +kernel) (by decide +kernel)) (goodIn_sub (fun _ h => (List.mem_cons_of_mem _ (List.mem_append_right _ h))) (by decide +kernel))
set_option maxRecDepth 20000 in
theorem gX3_openShare_X2_warmthOf : GoodIn wsX3_openShare (wsV RX3 83 RX2 yX2_warmthOf wsX2_warmthOf) := goodIn_app (qof qself _ (by decide +kernel)) ggX3_openShare_X2_warmthOf
set_option maxRecDepth 20000 in
theorem ggX3_meanCreep_X3_numberedSite : GoodIn wsX3_meanCreep wsX3_numberedSite := qgood qself _ [8, 0, 0, 0, 0, 0, 0, 11, 0, 0, 0, 0, 0, 0, 0, 0, 0] [1, 2, 3, 4, 5, 0, 6, 7, 8, 9, 10, 11, 12, 13, 14, 15, 16] (by decide +kernel) (by decide +kernel)
set_option maxRecDepth 20000 in
theorem gX3_meanCreep_X3_numberedSite : GoodIn wsX3_meanCreep (wsV RX3 207 RX3 yX3_numberedSite wsX3_numberedSite) := goodIn_app (qof qself _ (by decide +kernel)) ggX3_meanCreep_X3_numberedSite
set_option maxRecDepth 20000 in
theorem ggX3_checksum_X3_numberedSite : GoodIn wsX3_checksum wsX3_numberedSite := qgood qself _ [2, 10, 0, 0, 0, 0, 0, 6, 0, 0, 0, 0, 0, 0, 0, 0, 0] [2, 0, 3, 4, 5, 1, 6, 7, 8, 9, 10, 11, 12, 13, 14, 15, 16] (by decide +kernel) (by decide +kernel)
set_option maxRecDepth 20000 in
theorem gX3_checksum_X3_numberedSite : GoodIn wsX3_checksum (wsV RX3 207 RX3 yX3_numberedSite wsX3_numberedSite) := goodIn_app (qof qself _ (by decide +kernel)) ggX3_checksum_X3_numberedSite
set_option maxRecDepth 20000 in
theorem ggX3_isSound_X3_numberedSite : GoodIn wsX3_isSound wsX3_numberedSite := qgood qself _ [1, 6, 0, 0, 0, 0, 0, 30, 0, 0, 0, 0, 0, 0, 0, 0, 0] [2, 0, 3, 4, 5, 1, 6, 7, 8, 9, 10, 11, 12, 13, 14, 15, 16] (by decide +kernel) (by decide +kernel)
set_option maxRecDepth 20000 in
theorem gX3_isSound_X3_numberedSite : GoodIn wsX3_isSound (wsV RX3 207 RX3 yX3_numberedSite wsX3_numberedSite) := goodIn_app (qof qself _ (by decide +kernel)) ggX3_isSound_X3_numberedSite
set_option maxRecDepth 20000 in
theorem ggX3_numberedSite_X3_isWithin : GoodIn wsX3_numberedSite wsX3_isWithin := qgood qself _ [6] [0] (by decide +kernel) (by decide +kernel)
set_option maxRecDepth 20000 in
theorem gX3_numberedSite_X3_isWithin : GoodIn wsX3_numberedSite (va_wsS RX3 52 yX3_isWithin wsX3_isWithin) := goodIn_app (qof qself _ (by decide +kernel)) ggX3_numberedSite_X3_isWithin
set_option maxRecDepth 20000 in
theorem ggX3_placedSite_X3_isWithin : GoodIn wsX3_placedSite wsX3_isWithin := qgood qself _ [4] [0] (by decide +kernel) (by decide +kernel)
set_option maxRecDepth 20000 in
theorem gX3_placedSite_X3_isWithin : GoodIn wsX3_placedSite (va_wsS RX3 52 yX3_isWithin wsX3_isWithin) := goodIn_app (qof qself _ (by decide +kernel)) ggX3_placedSite_X3_isWithin
set_option maxRecDepth 20000 in
theorem ggX3_placedSite_X3_numberedSite : GoodIn wsX3_placedSite wsX3_numberedSite := qgood qself _ [1, 0, 0, 0, 3, 0, 0, 0, 0, 0, 0, 0, 0, 0, 0, 0, 0] [4, 5, 6, 0, 1, 2, 3, 7, 8, 9, 10, 11, 12, 13, 14, 15, 16] (by decide +kernel) (by decide +kernel)
set_option maxRecDepth 20000 in
theorem gX3_placedSite_X3_numberedSite : GoodIn wsX3_placedSite (wsV RX3 207 RX3 yX3_numberedSite wsX3_numberedSite) := goodIn_app (qof qself _ (by decide +kernel)) ggX3_placedSite_X3_numberedSite
set_option maxRecDepth 20000 in
theorem ggX3_passHour_X2_warmthOf : GoodIn wsX3_passHour wsX2_warmthOf := goodIn_ca (qgood qself _ [12, 0, 0, 0, 0, 0, 135, 0, 0, 0] [0, 1, 2, 3, 4, 5, 6, 7, 8, 9] (by decide +kernel) (by decide +kernel)) (goodIn_sub (fun _ h => (List.mem_cons_of_mem _ (List.mem_append_left _ (List.mem_append_right _ h)))) (by decide +kernel))
set_option maxRecDepth 20000 in
theorem gX3_passHour_X2_warmthOf : GoodIn wsX3_passHour (wsV RX3 83 RX2 yX2_warmthOf wsX2_warmthOf) := goodIn_app (qof qself _ (by decide +kernel)) ggX3_passHour_X2_warmthOf
set_option maxRecDepth 20000 in
theorem ggX3_passHour_X0_passHour : GoodIn wsX3_passHour wsX0_passHour := goodIn_ca (goodIn_ca (qgood qself _ [22, 0, 0, 0, 0, 0, 0, 0, 0, 0, 125, 0, 0] [0, 1, 2, 3, 4, 5, 6, 7, 8, 9, 10, 11, 12] (by decide +kernel) (by decide +kernel)) (goodIn_sub (fun _ h => (List.mem_cons_of_mem _ (List.mem_append_left _ (List.mem_append_right _ h)))) (by decide +kernel))) (goodIn_sub (fun _ h => (List.mem_cons_of_mem _ (List.mem_append_right _ h))) (by decide +kernel))
set_option maxRecDepth 20000 in
theorem gX3_passHour_X0_passHour : GoodIn wsX3_passHour (wsV RX3 330 RX0 yX0_passHour wsX0_passHour) := goodIn_app (qof qself _ (by decide +kernel)) ggX3_passHour_X0_passHour
set_option maxRecDepth 20000 in
theorem ggX3_passHour_X2_wetWarmthOf : GoodIn wsX3_passHour wsX2_wetWarmthOf := goodIn_ca (qgood qself _ [9, 0, 0, 0, 0, 0, 0, 0, 0, 17, 0, 0, 115, 0, 0, 0] [9, 10, 6, 7, 8, 11, 0, 1, 2, 3, 4, 5, 12, 13, 14, 15] (by decide +kernel) (by decide +kernel)) (goodIn_sub (fun _ h => (List.mem_cons_of_mem _ (List.mem_append_left _ (List.mem_append_right _ h)))) (by decide +kernel))
set_option maxRecDepth 20000 in
theorem gX3_passHour_X2_wetWarmthOf : GoodIn wsX3_passHour (wsV RX3 87 RX2 yX2_wetWarmthOf wsX2_wetWarmthOf) := goodIn_app (qof qself _ (by decide +kernel)) ggX3_passHour_X2_wetWarmthOf
set_option maxRecDepth 20000 in
theorem ggX3_passHour_X3_storeSnow : GoodIn wsX3_passHour wsX3_storeSnow := qgood qself _ [26, 3, 0, 9, 0, 0, 84, 0, 0, 0, 0, 0, 0, 0, 0, 0] [3, 4, 5, 1, 0, 2, 6, 7, 8, 9, 10, 11, 12, 13, 14, 15] (by decide +kernel) (by decide +kernel)
set_option maxRecDepth 20000 in
theorem gX3_passHour_X3_storeSnow : GoodIn wsX3_passHour (wsV RX3 124 RX3 yX3_storeSnow wsX3_storeSnow) := goodIn_app (qof qself _ (by decide +kernel)) ggX3_passHour_X3_storeSnow
set_option maxRecDepth 20000 in
theorem ggX3_passHour_X3_numberedSite : GoodIn wsX3_passHour wsX3_numberedSite := qgood qself _ [5, 9, 0, 0, 29, 0, 0, 78, 0, 0, 0, 0, 0, 0, 0, 0, 0] [4, 0, 5, 6, 1, 2, 3, 7, 8, 9, 10, 11, 12, 13, 14, 15, 16] (by decide +kernel) (by decide +kernel)
set_option maxRecDepth 20000 in
theorem gX3_passHour_X3_numberedSite : GoodIn wsX3_passHour (wsV RX3 207 RX3 yX3_numberedSite wsX3_numberedSite) := goodIn_app (qof qself _ (by decide +kernel)) ggX3_passHour_X3_numberedSite
set_option maxRecDepth 20000 in
theorem ggX3_passHour_X2_windOf : GoodIn wsX3_passHour wsX2_windOf := goodIn_ca (qgood qself _ [15, 0, 0, 35, 0, 98, 0, 0, 0] [3, 4, 0, 1, 2, 5, 6, 7, 8] (by decide +kernel) (by decide +kernel)) (goodIn_sub (fun _ h => (List.mem_cons_of_mem _ (List.mem_append_left _ (List.mem_append_right _ h)))) (by decide +kernel))
set_option maxRecDepth 20000 in
theorem gX3_passHour_X2_windOf : GoodIn wsX3_passHour (wsV RX3 332 RX2 yX2_windOf wsX2_windOf) := goodIn_app (qof qself _ (by decide +kernel)) ggX3_passHour_X2_windOf
set_option maxRecDepth 20000 in
theorem ggX6_init_Jx4a65c_init_da8c8 : GoodIn wsX6_init wsJx4a65c_init_da8c8 := qgood qself _ [2, 0, 13, 0, 0, 0, 0, 0, 0, 0, 0, 0, 0, 0, 0, 15, 0, 0] [2, 3, 4, 5, 6, 7, 8, 9, 10, 11, 12, 13, 14, 0, 1, 15, 16, 17] (by decide +kernel) (by decide +kernel)
set_option maxRecDepth 20000 in
theorem gX6_init_Jx4a65c_init_da8c8 : GoodIn wsX6_init (wsJx4a65c_init_da8c8) := ggX6_init_Jx4a65c_init_da8c8
set_option maxRecDepth 20000 in
theorem ggX6_init_J7_fill_53178 : GoodIn wsX6_init wsJ7_fill_53178 := qgood qself _ [33] [0] (by decide +kernel) (by decide +kernel)
set_option maxRecDepth 20000 in
theorem gX6_init_J7_fill_53178 : GoodIn wsX6_init (va_wsS RX6 38 yJ7_fill_53178 wsJ7_fill_53178) := goodIn_app (qof qself _ (by decide +kernel)) ggX6_init_J7_fill_53178
set_option maxRecDepth 20000 in
theorem ggX6_weather_X6_isBetween : GoodIn wsX6_weather wsX6_isBetween := qgood qself _ [12] [0] (by decide +kernel) (by decide +kernel)
set_option maxRecDepth 20000 in
theorem gX6_weather_X6_isBetween : GoodIn wsX6_weather (va_wsS RX6 46 yX6_isBetween wsX6_isBetween) := goodIn_app (qof qself _ (by decide +kernel)) ggX6_weather_X6_isBetween
set_option maxRecDepth 20000 in
theorem ggX6_weather_X6_isWrong : GoodIn wsX6_weather wsX6_isWrong := qgood qself _ [16, 0, 0, 0, 0, 0, 0, 0, 0, 0, 0, 0, 0] [0, 1, 2, 3, 4, 5, 6, 7, 8, 9, 10, 11, 12] (by decide +kernel) (by decide +kernel)
set_option maxRecDepth 20000 in
theorem gX6_weather_X6_isWrong : GoodIn wsX6_weather (wsV RX6 61 RX6 yX6_isWrong wsX6_isWrong) := goodIn_app (qof qself _ (by decide +kernel)) ggX6_weather_X6_isWrong
set_option maxRecDepth 20000 in
theorem ggX6_warmth_X6_isBetween : GoodIn wsX6_warmth wsX6_isBetween := qgood qself _ [5] [0] (by decide +kernel) (by decide +kernel)
set_option maxRecDepth 20000 in
theorem gX6_warmth_X6_isBetween : GoodIn wsX6_warmth (va_wsS RX6 46 yX6_isBetween wsX6_isBetween) := goodIn_app (qof qself _ (by decide +kernel)) ggX6_warmth_X6_isBetween
set_option maxRecDepth 20000 in
theorem ggX6_warmth_X6_isWrong : GoodIn wsX6_warmth wsX6_isWrong := qgood qself _ [9, 0, 5, 0, 0, 0, 0, 0, 0, 0, 0, 0, 0] [0, 1, 2, 3, 4, 5, 6, 7, 8, 9, 10, 11, 12] (by decide +kernel) (by decide +kernel)
set_option maxRecDepth 20000 in
theorem gX6_warmth_X6_isWrong : GoodIn wsX6_warmth (wsV RX6 61 RX6 yX6_isWrong wsX6_isWrong) := goodIn_app (qof qself _ (by decide +kernel)) ggX6_warmth_X6_isWrong
set_option maxRecDepth 20000 in
theorem ggX6_warmth_X6_warmthOf : GoodIn wsX6_warmth wsX6_warmthOf := goodIn_ca (qgood qself _ [14, 0, 0, 0, 0, 0, 0, 0, 0, 0, 0, 0, 0] [0, 1, 2, 3, 4, 5, 6, 7, 8, 9, 10, 11, 12] (by decide +kernel) (by decide +kernel)) (goodIn_sub (fun _ h => (List.mem_cons_of_mem _ (List.mem_append_right _ h))) (by decide +kernel))
set_option maxRecDepth 20000 in
theorem gX6_warmth_X6_warmthOf : GoodIn wsX6_warmth (wsV RX6 67 RX6 yX6_warmthOf wsX6_warmthOf) := goodIn_app (qof qself _ (by decide +kernel)) ggX6_warmth_X6_warmthOf
set_option maxRecDepth 20000 in
theorem ggX6_wetOf_X6_warmthOf : GoodIn wsX6_wetOf wsX6_warmthOf := goodIn_ca (qgood qself _ [1, 4, 0, 0, 0, 0, 0, 0, 0, 0, 0, 0, 0] [1, 0, 2, 3, 4, 5, 6, 7, 8, 9, 10, 11, 12] (by decide +kernel) (by decide +kernel)) (goodIn_sub (fun _ h => (List.mem_cons_of_mem _ (List.mem_append_right _ h))) (by decide +kernel))
set_option maxRecDepth 20000 in
theorem gX6_wetOf_X6_warmthOf : GoodIn wsX6_wetOf (wsV RX6 67 RX6 yX6_warmthOf wsX6_warmthOf) := goodIn_app (qof qself _ (by decide +kernel)) ggX6_wetOf_X6_warmthOf
set_option maxRecDepth 20000 in
theorem ggX6_wet_X6_isBetween : GoodIn wsX6_wet wsX6_isBetween := qgood qself _ [5] [0] (by decide +kernel) (by decide +kernel)
set_option maxRecDepth 20000 in
theorem gX6_wet_X6_isBetween : GoodIn wsX6_wet (va_wsS RX6 46 yX6_isBetween wsX6_isBetween) := goodIn_app (qof qself _ (by decide +kernel)) ggX6_wet_X6_isBetween
