theorem dX11_refer_24 : decode cX11_refer 24 = .ok (.aload_n 0, 1) := by decide +kernel
theorem dX11_refer_25 : decode cX11_refer 25 = .ok (.invokevirtual 95, 3) := by decide +kernel
theorem dX11_refer_28 : decode cX11_refer 28 = .ok (.aload_n 0, 1) := by decide +kernel
theorem dX11_refer_29 : decode cX11_refer 29 = .ok (.getfield 33, 3) := by decide +kernel
theorem dX11_refer_32 : decode cX11_refer 32 = .ok (.iload_n 3, 1) := by decide +kernel
theorem dX11_refer_33 : decode cX11_refer 33 = .ok (.iload_n 2, 1) := by decide +kernel
theorem dX11_refer_34 : decode cX11_refer 34 = .ok (.invokevirtual 256, 3) := by decide +kernel
theorem dX11_refer_37 : decode cX11_refer 37 = .ok (.ireturn, 1) := by decide +kernel
set_option maxRecDepth 20000 in
theorem ggX11_request_X11_rowOf : GoodIn wsX11_request wsX11_rowOf := goodIn_ca (goodIn_r _ [6, 7, 8, 1, 9, 10, 11, 12, 13, 14, 15, 16, 17, 18, 19, 20, 21, 22, 23, 24, 25, 26, 27, 222, 223, 224, 225, 226, 227, 228, 229, 230, 231, 232, 233, 234, 235, 236, 237, 238, 239, 240, 241, 242, 243, 244, 245, 246, 247, 248, 249, 250, 251, 252, 253, 254, 255, 256, 257, 258, 259, 260, 261, 262, 263] (by decide +kernel) (by decide +kernel)) (goodIn_sub (fun _ h => List.mem_cons_of_mem _ (List.mem_append_left _ (List.mem_append_left _ (List.mem_append_right _ h)))) (by decide +kernel))
set_option maxRecDepth 20000 in
theorem gX11_request_X11_rowOf : GoodIn wsX11_request (wsV RX11 184 RX11 yX11_rowOf wsX11_rowOf) := goodIn_app (goodIn_of _ (by decide +kernel)) ggX11_request_X11_rowOf
set_option maxRecDepth 20000 in
theorem ggX11_request_X11_checkService : GoodIn wsX11_request wsX11_checkService := goodIn_ca (goodIn_r _ [31, 32, 33, 1, 34, 35, 36, 37, 13, 38, 15, 222, 223, 224, 225, 226, 227, 228, 229, 230, 231, 232, 233, 234, 235, 236, 237, 238, 239, 240, 241, 242, 243, 244, 245, 246, 247, 248, 249, 250, 251, 252, 253, 254, 255, 256, 257, 258, 259, 260, 261, 262, 263] (by decide +kernel) (by decide +kernel)) (goodIn_sub (fun _ h => List.mem_cons_of_mem _ (List.mem_append_left _ (List.mem_append_right _ h))) (by decide +kernel))
set_option maxRecDepth 20000 in
theorem gX11_request_X11_checkService : GoodIn wsX11_request (wsV RX11 170 RX11 yX11_checkService wsX11_checkService) := goodIn_app (goodIn_of _ (by decide +kernel)) ggX11_request_X11_checkService
set_option maxRecDepth 20000 in
theorem ggX11_request_X5_whyNoRequest : GoodIn wsX11_request wsX5_whyNoRequest := goodIn_r _ [43, 44, 45, 46, 47, 48, 49, 19, 13, 20, 21, 15, 22, 50, 51, 52, 53, 54, 55, 56, 57, 58, 59, 60, 61, 42, 62, 63, 64, 65, 66, 67, 68, 69, 70, 71, 72, 73, 74, 75, 76, 77, 78, 79, 80, 81, 82, 83, 84, 85, 230, 231, 232, 233, 234, 235, 236, 237, 238, 239, 240, 241, 242, 243, 244, 245, 246, 247, 248, 249, 250, 251, 252, 253, 254, 255, 256, 257, 258, 259, 260, 261, 262, 263] (by decide +kernel) (by decide +kernel)
set_option maxRecDepth 20000 in
theorem gX11_request_X5_whyNoRequest : GoodIn wsX11_request (wsV RX11 207 RX5 yX5_whyNoRequest wsX5_whyNoRequest) := goodIn_app (goodIn_of _ (by decide +kernel)) ggX11_request_X5_whyNoRequest
set_option maxRecDepth 20000 in
theorem ggX11_request_X11_checkAllowed : GoodIn wsX11_request wsX11_checkAllowed := goodIn_ca (goodIn_r _ [89, 90, 91] (by decide +kernel) (by decide +kernel)) (goodIn_sub (fun _ h => List.mem_cons_of_mem _ (List.mem_append_right _ h)) (by decide +kernel))
set_option maxRecDepth 20000 in
theorem gX11_request_X11_checkAllowed : GoodIn wsX11_request (wsV RX11 249 RX11 yX11_checkAllowed wsX11_checkAllowed) := goodIn_app (goodIn_of _ (by decide +kernel)) ggX11_request_X11_checkAllowed
set_option maxRecDepth 20000 in
theorem ggX11_request_X11_remember : GoodIn wsX11_request wsX11_remember := goodIn_r _ [95, 96, 97, 1, 98, 99, 100, 72, 101, 102, 103, 104, 105, 106, 107, 108, 109, 42, 110, 111, 112, 113, 114, 115, 116, 117, 69, 118, 119, 120, 68, 121, 122, 123, 46, 124, 125, 53, 44, 126, 127, 128, 129, 130, 131, 132, 133, 134, 13, 135, 136, 85, 21, 137, 138, 139, 140, 22, 141, 142, 143, 144, 145, 146, 147, 148, 149, 150, 151, 152, 153, 154, 155, 156, 157, 158, 159, 160, 45, 63, 161, 162, 163, 164, 165, 166, 167, 168, 169, 170, 171, 172, 173, 15, 174, 175, 176, 177, 178, 179, 180, 181, 182, 183, 184, 185, 222, 223, 224, 225, 226, 227, 228, 229, 264, 230, 231, 232, 233, 234, 235, 236, 237, 238, 239, 240, 241, 242, 243, 252, 253, 254, 255, 244, 245, 246, 247, 248, 249, 250, 251, 256, 257, 258, 259, 260, 261, 262, 263] (by decide +kernel) (by decide +kernel)
set_option maxRecDepth 20000 in
theorem gX11_request_X11_remember : GoodIn wsX11_request (wsV RX11 95 RX11 yX11_remember wsX11_remember) := goodIn_app (goodIn_of _ (by decide +kernel)) ggX11_request_X11_remember
set_option maxRecDepth 20000 in
theorem ggX11_request_X5_makeRequest : GoodIn wsX11_request wsX5_makeRequest := goodIn_r _ [189, 44, 47, 48, 49, 19, 13, 20, 21, 15, 22, 190, 191, 192, 42, 193, 162, 45, 194, 195, 196, 197, 198, 85, 199, 200, 201, 202, 203, 204, 205, 206, 207, 161, 208, 209, 210, 211, 212, 213, 214, 53, 215, 55, 216, 217, 218, 219, 69, 220, 100, 72, 101, 221, 138, 139, 77, 78, 79, 230, 231, 232, 233, 234, 235, 236, 237, 238, 239, 240, 241, 242, 243, 244, 245, 246, 247, 248, 249, 250, 251, 252, 253, 254, 255, 256, 257, 258, 259, 260, 261, 262, 263] (by decide +kernel) (by decide +kernel)
set_option maxRecDepth 20000 in
theorem gX11_request_X5_makeRequest : GoodIn wsX11_request (wsV RX11 259 RX5 yX5_makeRequest wsX5_makeRequest) := goodIn_app (goodIn_of _ (by decide +kernel)) ggX11_request_X5_makeRequest
theorem dX11_request_0 : decode cX11_request 0 = .ok (.aload_n 0, 1) := by decide +kernel
theorem dX11_request_1 : decode cX11_request 1 = .ok (.iload_n 1, 1) := by decide +kernel
theorem dX11_request_2 : decode cX11_request 2 = .ok (.invokevirtual 184, 3) := by decide +kernel
theorem dX11_request_5 : decode cX11_request 5 = .ok (.istore_n 3, 1) := by decide +kernel
theorem dX11_request_6 : decode cX11_request 6 = .ok (.aload_n 0, 1) := by decide +kernel
theorem dX11_request_7 : decode cX11_request 7 = .ok (.iload_n 2, 1) := by decide +kernel
theorem dX11_request_8 : decode cX11_request 8 = .ok (.invokevirtual 170, 3) := by decide +kernel
theorem dX11_request_11 : decode cX11_request 11 = .ok (.aload_n 0, 1) := by decide +kernel
theorem dX11_request_12 : decode cX11_request 12 = .ok (.aload_n 0, 1) := by decide +kernel
theorem dX11_request_13 : decode cX11_request 13 = .ok (.getfield 33, 3) := by decide +kernel
theorem dX11_request_16 : decode cX11_request 16 = .ok (.iload_n 3, 1) := by decide +kernel
theorem dX11_request_17 : decode cX11_request 17 = .ok (.iload_n 2, 1) := by decide +kernel
theorem dX11_request_18 : decode cX11_request 18 = .ok (.invokevirtual 207, 3) := by decide +kernel
theorem dX11_request_21 : decode cX11_request 21 = .ok (.invokevirtual 249, 3) := by decide +kernel
theorem dX11_request_24 : decode cX11_request 24 = .ok (.aload_n 0, 1) := by decide +kernel
theorem dX11_request_25 : decode cX11_request 25 = .ok (.invokevirtual 95, 3) := by decide +kernel
theorem dX11_request_28 : decode cX11_request 28 = .ok (.aload_n 0, 1) := by decide +kernel
theorem dX11_request_29 : decode cX11_request 29 = .ok (.getfield 33, 3) := by decide +kernel
theorem dX11_request_32 : decode cX11_request 32 = .ok (.iload_n 3, 1) := by decide +kernel
theorem dX11_request_33 : decode cX11_request 33 = .ok (.iload_n 2, 1) := by decide +kernel
theorem dX11_request_34 : decode cX11_request 34 = .ok (.invokevirtual 259, 3) := by decide +kernel
theorem dX11_request_37 : decode cX11_request 37 = .ok (.ireturn, 1) := by decide +kernel
set_option maxRecDepth 20000 in
theorem ggX11_renew_X11_rowOf : GoodIn wsX11_renew wsX11_rowOf := goodIn_ca (goodIn_r _ [6, 7, 8, 1, 9, 10, 11, 12, 13, 14, 15, 16, 17, 18, 19, 20, 21, 22, 23, 24, 25, 26, 27, 175, 176, 177, 178, 179, 180, 181, 182, 183, 184, 185, 186, 187, 188, 189, 190, 191, 192, 193, 194, 195, 196, 197, 198, 199, 200, 201, 202, 203, 204, 205, 206, 207, 208, 209, 210, 211, 212, 213, 214, 215, 216] (by decide +kernel) (by decide +kernel)) (goodIn_sub (fun _ h => List.mem_cons_of_mem _ (List.mem_append_left _ (List.mem_append_right _ h))) (by decide +kernel))
set_option maxRecDepth 20000 in
theorem gX11_renew_X11_rowOf : GoodIn wsX11_renew (wsV RX11 184 RX11 yX11_rowOf wsX11_rowOf) := goodIn_app (goodIn_of _ (by decide +kernel)) ggX11_renew_X11_rowOf
set_option maxRecDepth 20000 in
theorem ggX11_renew_X5_whyNoRenewal : GoodIn wsX11_renew wsX5_whyNoRenewal := goodIn_r _ [32, 33, 34, 35, 36, 37, 38, 39, 40, 41, 42, 19, 13, 20, 21, 15, 22, 43, 44, 45, 46, 47, 48, 49, 31, 50, 51, 52, 53, 54, 55, 56, 57, 58, 59, 183, 184, 185, 186, 187, 188, 189, 190, 191, 192, 193, 194, 195, 196, 197, 198, 199, 200, 201, 202, 203, 204, 205, 206, 207, 208, 209, 210, 211, 212, 213, 214, 215, 216] (by decide +kernel) (by decide +kernel)
set_option maxRecDepth 20000 in
theorem gX11_renew_X5_whyNoRenewal : GoodIn wsX11_renew (wsV RX11 210 RX5 yX5_whyNoRenewal wsX5_whyNoRenewal) := goodIn_app (goodIn_of _ (by decide +kernel)) ggX11_renew_X5_whyNoRenewal
set_option maxRecDepth 20000 in
theorem ggX11_renew_X11_checkAllowed : GoodIn wsX11_renew wsX11_checkAllowed := goodIn_ca (goodIn_r _ [63, 64, 65] (by decide +kernel) (by decide +kernel)) (goodIn_sub (fun _ h => List.mem_cons_of_mem _ (List.mem_append_right _ h)) (by decide +kernel))
set_option maxRecDepth 20000 in
theorem gX11_renew_X11_checkAllowed : GoodIn wsX11_renew (wsV RX11 249 RX11 yX11_checkAllowed wsX11_checkAllowed) := goodIn_app (goodIn_of _ (by decide +kernel)) ggX11_renew_X11_checkAllowed
set_option maxRecDepth 20000 in
theorem ggX11_renew_X11_remember : GoodIn wsX11_renew wsX11_remember := goodIn_r _ [69, 70, 71, 1, 72, 73, 53, 54, 55, 74, 75, 76, 77, 78, 79, 80, 81, 31, 82, 83, 84, 85, 86, 87, 88, 89, 51, 90, 91, 92, 93, 94, 95, 96, 97, 98, 99, 38, 33, 100, 101, 102, 103, 104, 105, 106, 107, 108, 13, 109, 110, 111, 21, 112, 113, 114, 115, 22, 116, 117, 118, 119, 120, 121, 122, 123, 124, 125, 126, 127, 128, 129, 130, 131, 132, 133, 134, 135, 34, 136, 137, 138, 139, 140, 141, 142, 143, 144, 145, 146, 147, 148, 149, 15, 150, 151, 152, 153, 154, 155, 156, 157, 158, 159, 160, 161, 175, 176, 177, 178, 179, 180, 181, 182, 217, 183, 184, 185, 186, 187, 188, 189, 190, 191, 192, 193, 194, 195, 196, 205, 206, 207, 208, 197, 198, 199, 200, 201, 202, 203, 204, 209, 210, 211, 212, 213, 214, 215, 216] (by decide +kernel) (by decide +kernel)
set_option maxRecDepth 20000 in
theorem gX11_renew_X11_remember : GoodIn wsX11_renew (wsV RX11 95 RX11 yX11_remember wsX11_remember) := goodIn_app (goodIn_of _ (by decide +kernel)) ggX11_renew_X11_remember
set_option maxRecDepth 20000 in
theorem ggX11_renew_X5_makeRenewal : GoodIn wsX11_renew wsX5_makeRenewal := goodIn_r _ [165, 33, 47, 48, 49, 31, 50, 34, 51, 52, 53, 54, 55, 56, 41, 42, 19, 13, 20, 21, 15, 22, 57, 58, 59, 166, 167, 168, 169, 170, 171, 172, 173, 174, 137, 183, 184, 185, 186, 187, 188, 189, 190, 191, 192, 193, 194, 195, 196, 197, 198, 199, 200, 201, 202, 203, 204, 205, 206, 207, 208, 209, 210, 211, 212, 213, 214, 215, 216] (by decide +kernel) (by decide +kernel)
set_option maxRecDepth 20000 in
theorem gX11_renew_X5_makeRenewal : GoodIn wsX11_renew (wsV RX11 262 RX5 yX5_makeRenewal wsX5_makeRenewal) := goodIn_app (goodIn_of _ (by decide +kernel)) ggX11_renew_X5_makeRenewal
theorem dX11_renew_0 : decode cX11_renew 0 = .ok (.aload_n 0, 1) := by decide +kernel
theorem dX11_renew_1 : decode cX11_renew 1 = .ok (.iload_n 1, 1) := by decide +kernel
theorem dX11_renew_2 : decode cX11_renew 2 = .ok (.invokevirtual 184, 3) := by decide +kernel
theorem dX11_renew_5 : decode cX11_renew 5 = .ok (.istore_n 2, 1) := by decide +kernel
theorem dX11_renew_6 : decode cX11_renew 6 = .ok (.aload_n 0, 1) := by decide +kernel
theorem dX11_renew_7 : decode cX11_renew 7 = .ok (.aload_n 0, 1) := by decide +kernel
theorem dX11_renew_8 : decode cX11_renew 8 = .ok (.getfield 33, 3) := by decide +kernel
theorem dX11_renew_11 : decode cX11_renew 11 = .ok (.iload_n 2, 1) := by decide +kernel
theorem dX11_renew_12 : decode cX11_renew 12 = .ok (.invokevirtual 210, 3) := by decide +kernel
theorem dX11_renew_15 : decode cX11_renew 15 = .ok (.invokevirtual 249, 3) := by decide +kernel
theorem dX11_renew_18 : decode cX11_renew 18 = .ok (.aload_n 0, 1) := by decide +kernel
theorem dX11_renew_19 : decode cX11_renew 19 = .ok (.invokevirtual 95, 3) := by decide +kernel
theorem dX11_renew_22 : decode cX11_renew 22 = .ok (.aload_n 0, 1) := by decide +kernel
theorem dX11_renew_23 : decode cX11_renew 23 = .ok (.getfield 33, 3) := by decide +kernel
theorem dX11_renew_26 : decode cX11_renew 26 = .ok (.iload_n 2, 1) := by decide +kernel
theorem dX11_renew_27 : decode cX11_renew 27 = .ok (.invokevirtual 262, 3) := by decide +kernel
theorem dX11_renew_30 : decode cX11_renew 30 = .ok (.ireturn, 1) := by decide +kernel
set_option maxRecDepth 20000 in
theorem ggX11_cheese_X11_rowOf : GoodIn wsX11_cheese wsX11_rowOf := goodIn_ca (goodIn_r _ [6, 7, 8, 1, 9, 10, 11, 12, 13, 14, 15, 16, 17, 18, 19, 20, 21, 22, 23, 24, 25, 26, 27, 216, 217, 218, 219, 220, 221, 222, 223, 224, 225, 226, 227, 228, 229, 230, 231, 232, 233, 234, 235, 236, 237, 238, 239, 240, 241, 242, 243, 244, 245, 246, 247, 248, 249, 250, 251, 252, 253, 254, 255, 256, 257] (by decide +kernel) (by decide +kernel)) (goodIn_sub (fun _ h => List.mem_cons_of_mem _ (List.mem_append_left _ (List.mem_append_right _ h))) (by decide +kernel))
set_option maxRecDepth 20000 in
theorem gX11_cheese_X11_rowOf : GoodIn wsX11_cheese (wsV RX11 184 RX11 yX11_rowOf wsX11_rowOf) := goodIn_app (goodIn_of _ (by decide +kernel)) ggX11_cheese_X11_rowOf
set_option maxRecDepth 20000 in
theorem ggX11_cheese_X5_whyNoCheese : GoodIn wsX11_cheese wsX5_whyNoCheese := goodIn_r _ [32, 33, 34, 35, 36, 37, 38, 39, 40, 41, 19, 13, 20, 21, 15, 22, 42, 43, 44, 45, 46, 47, 48, 49, 50, 31, 51, 52, 53, 54, 55, 56, 57, 58, 59, 60, 61, 62, 63, 64, 65, 66, 67, 68, 69, 70, 71, 72, 73, 74, 75, 76, 77, 78, 79, 80, 81, 82, 224, 225, 226, 227, 228, 229, 230, 231, 232, 233, 234, 235, 236, 237, 238, 239, 240, 241, 242, 243, 244, 245, 246, 247, 248, 249, 250, 251, 252, 253, 254, 255, 256, 257] (by decide +kernel) (by decide +kernel)
set_option maxRecDepth 20000 in
theorem gX11_cheese_X5_whyNoCheese : GoodIn wsX11_cheese (wsV RX11 213 RX5 yX5_whyNoCheese wsX5_whyNoCheese) := goodIn_app (goodIn_of _ (by decide +kernel)) ggX11_cheese_X5_whyNoCheese
set_option maxRecDepth 20000 in
theorem ggX11_cheese_X11_checkAllowed : GoodIn wsX11_cheese wsX11_checkAllowed := goodIn_ca (goodIn_r _ [86, 87, 88] (by decide +kernel) (by decide +kernel)) (goodIn_sub (fun _ h => List.mem_cons_of_mem _ (List.mem_append_right _ h)) (by decide +kernel))
set_option maxRecDepth 20000 in
theorem gX11_cheese_X11_checkAllowed : GoodIn wsX11_cheese (wsV RX11 249 RX11 yX11_checkAllowed wsX11_checkAllowed) := goodIn_app (goodIn_of _ (by decide +kernel)) ggX11_cheese_X11_checkAllowed
set_option maxRecDepth 20000 in
theorem ggX11_cheese_X11_remember : GoodIn wsX11_cheese wsX11_remember := goodIn_r _ [92, 93, 94, 1, 95, 96, 97, 59, 98, 99, 100, 101, 102, 103, 104, 105, 106, 31, 107, 108, 109, 110, 111, 112, 113, 114, 56, 115, 116, 117, 36, 118, 119, 120, 38, 121, 122, 45, 34, 123, 124, 70, 35, 125, 126, 127, 128, 129, 13, 130, 131, 132, 21, 133, 134, 135, 136, 22, 137, 138, 139, 140, 141, 142, 143, 144, 145, 146, 147, 148, 149, 150, 151, 152, 153, 154, 155, 156, 33, 37, 157, 158, 159, 160, 161, 162, 163, 164, 165, 166, 167, 168, 169, 15, 170, 171, 172, 173, 174, 175, 176, 177, 178, 179, 180, 181, 216, 217, 218, 219, 220, 221, 222, 223, 258, 224, 225, 226, 227, 228, 229, 230, 231, 232, 233, 234, 235, 236, 237, 246, 247, 248, 249, 238, 239, 240, 241, 242, 243, 244, 245, 250, 251, 252, 253, 254, 255, 256, 257] (by decide +kernel) (by decide +kernel)
set_option maxRecDepth 20000 in
theorem gX11_cheese_X11_remember : GoodIn wsX11_cheese (wsV RX11 95 RX11 yX11_remember wsX11_remember) := goodIn_app (goodIn_of _ (by decide +kernel)) ggX11_cheese_X11_remember
set_option maxRecDepth 20000 in
theorem ggX11_cheese_X5_giveCheese : GoodIn wsX11_cheese wsX5_giveCheese := goodIn_r _ [185, 34, 36, 35, 33, 38, 39, 40, 41, 19, 13, 20, 21, 15, 22, 61, 62, 63, 186, 187, 188, 70, 189, 190, 191, 192, 193, 194, 132, 195, 196, 197, 198, 199, 200, 201, 202, 203, 204, 205, 206, 207, 208, 209, 80, 81, 82, 210, 211, 212, 213, 214, 215, 224, 225, 226, 227, 228, 229, 230, 231, 232, 233, 234, 235, 236, 237, 238, 239, 240, 241, 242, 243, 244, 245, 246, 247, 248, 249, 250, 251, 252, 253, 254, 255, 256, 257] (by decide +kernel) (by decide +kernel)
set_option maxRecDepth 20000 in
theorem gX11_cheese_X5_giveCheese : GoodIn wsX11_cheese (wsV RX11 265 RX5 yX5_giveCheese wsX5_giveCheese) := goodIn_app (goodIn_of _ (by decide +kernel)) ggX11_cheese_X5_giveCheese
theorem dX11_cheese_0 : decode cX11_cheese 0 = .ok (.aload_n 0, 1) := by decide +kernel
theorem dX11_cheese_1 : decode cX11_cheese 1 = .ok (.iload_n 1, 1) := by decide +kernel
theorem dX11_cheese_2 : decode cX11_cheese 2 = .ok (.invokevirtual 184, 3) := by decide +kernel
theorem dX11_cheese_5 : decode cX11_cheese 5 = .ok (.istore_n 2, 1) := by decide +kernel
theorem dX11_cheese_6 : decode cX11_cheese 6 = .ok (.aload_n 0, 1) := by decide +kernel
theorem dX11_cheese_7 : decode cX11_cheese 7 = .ok (.aload_n 0, 1) := by decide +kernel
theorem dX11_cheese_8 : decode cX11_cheese 8 = .ok (.getfield 33, 3) := by decide +kernel
theorem dX11_cheese_11 : decode cX11_cheese 11 = .ok (.iload_n 2, 1) := by decide +kernel
theorem dX11_cheese_12 : decode cX11_cheese 12 = .ok (.iconst 0, 1) := by decide +kernel
theorem dX11_cheese_13 : decode cX11_cheese 13 = .ok (.invokevirtual 213, 3) := by decide +kernel
theorem dX11_cheese_16 : decode cX11_cheese 16 = .ok (.invokevirtual 249, 3) := by decide +kernel
theorem dX11_cheese_19 : decode cX11_cheese 19 = .ok (.aload_n 0, 1) := by decide +kernel
theorem dX11_cheese_20 : decode cX11_cheese 20 = .ok (.invokevirtual 95, 3) := by decide +kernel
theorem dX11_cheese_23 : decode cX11_cheese 23 = .ok (.aload_n 0, 1) := by decide +kernel
theorem dX11_cheese_24 : decode cX11_cheese 24 = .ok (.getfield 33, 3) := by decide +kernel
theorem dX11_cheese_27 : decode cX11_cheese 27 = .ok (.iload_n 2, 1) := by decide +kernel
theorem dX11_cheese_28 : decode cX11_cheese 28 = .ok (.invokevirtual 265, 3) := by decide +kernel
theorem dX11_cheese_31 : decode cX11_cheese 31 = .ok (.ireturn, 1) := by decide +kernel
set_option maxRecDepth 20000 in
theorem ggX11_drop_X11_rowOf : GoodIn wsX11_drop wsX11_rowOf := goodIn_ca (goodIn_r _ [6, 7, 8, 1, 9, 10, 11, 12, 13, 14, 15, 16, 17, 18, 19, 20, 21, 22, 23, 24, 25, 26, 27, 142, 143, 144, 145, 146, 147, 148, 149, 150, 151, 152, 153, 154, 155, 156, 157, 158, 159, 160, 161, 162, 163, 164, 165, 166, 167, 168, 169, 170, 171, 172, 173, 174, 175, 176, 177, 178, 179, 180, 181, 182, 183] (by decide +kernel) (by decide +kernel)) (goodIn_sub (fun _ h => List.mem_cons_of_mem _ (List.mem_append_right _ h)) (by decide +kernel))
set_option maxRecDepth 20000 in
theorem gX11_drop_X11_rowOf : GoodIn wsX11_drop (wsV RX11 184 RX11 yX11_rowOf wsX11_rowOf) := goodIn_app (goodIn_of _ (by decide +kernel)) ggX11_drop_X11_rowOf
set_option maxRecDepth 20000 in
theorem ggX11_drop_X11_remember : GoodIn wsX11_drop wsX11_remember := goodIn_r _ [31, 32, 33, 1, 34, 35, 36, 37, 38, 39, 40, 41, 42, 43, 44, 45, 46, 47, 48, 49, 50, 51, 52, 53, 54, 55, 56, 57, 58, 59, 60, 61, 62, 63, 64, 65, 66, 67, 68, 69, 70, 71, 72, 73, 74, 75, 76, 77, 13, 78, 79, 80, 21, 81, 82, 83, 84, 22, 85, 86, 87, 88, 89, 90, 91, 92, 93, 94, 95, 96, 97, 98, 99, 100, 101, 102, 103, 104, 105, 106, 107, 108, 109, 110, 111, 112, 113, 114, 115, 116, 117, 118, 119, 15, 120, 121, 122, 123, 124, 125, 126, 127, 128, 129, 130, 131, 142, 143, 144, 145, 146, 147, 148, 149, 184, 150, 151, 152, 153, 154, 155, 156, 157, 158, 159, 160, 161, 162, 163, 172, 173, 174, 175, 164, 165, 166, 167, 168, 169, 170, 171, 176, 177, 178, 179, 180, 181, 182, 183] (by decide +kernel) (by decide +kernel)
set_option maxRecDepth 20000 in
theorem gX11_drop_X11_remember : GoodIn wsX11_drop (wsV RX11 95 RX11 yX11_remember wsX11_remember) := goodIn_app (goodIn_of _ (by decide +kernel)) ggX11_drop_X11_remember
set_option maxRecDepth 20000 in
theorem ggX11_drop_X6_removeRow : GoodIn wsX11_drop wsX6_removeRow := goodIn_r _ [136, 15, 21, 22, 160, 161, 162, 163, 164, 165, 166, 167, 168, 169, 170, 171, 172, 173, 174, 175, 176, 177, 178, 179, 180, 181, 182, 183] (by decide +kernel) (by decide +kernel)
set_option maxRecDepth 20000 in
theorem gX11_drop_X6_removeRow_u268X7 : GoodIn wsX11_drop (va_wsU RX11 268 RX7 "TicketGate$Table" ⟨"TicketGate$Tickets", "removeRow", "(I)V"⟩ yX6_removeRow wsX6_removeRow) := goodIn_app (goodIn_of _ (by decide +kernel)) ggX11_drop_X6_removeRow
set_option maxRecDepth 20000 in
theorem ggX11_drop_X6_size : GoodIn wsX11_drop wsX6_size := goodIn_r _ [141, 15, 160, 161, 162, 163, 164, 165, 166, 167, 168, 169, 170, 171, 172, 173, 174, 175, 176, 177, 178, 179, 180, 181, 182, 183] (by decide +kernel) (by decide +kernel)
set_option maxRecDepth 20000 in
theorem gX11_drop_X6_size_u102X7 : GoodIn wsX11_drop (va_wsU RX11 102 RX7 "TicketGate$Table" ⟨"TicketGate$Tickets", "size", "()I"⟩ yX6_size wsX6_size) := goodIn_app (goodIn_of _ (by decide +kernel)) ggX11_drop_X6_size
theorem dX11_drop_0 : decode cX11_drop 0 = .ok (.aload_n 0, 1) := by decide +kernel
theorem dX11_drop_1 : decode cX11_drop 1 = .ok (.iload_n 1, 1) := by decide +kernel
theorem dX11_drop_2 : decode cX11_drop 2 = .ok (.invokevirtual 184, 3) := by decide +kernel
theorem dX11_drop_5 : decode cX11_drop 5 = .ok (.istore_n 2, 1) := by decide +kernel
theorem dX11_drop_6 : decode cX11_drop 6 = .ok (.aload_n 0, 1) := by decide +kernel
theorem dX11_drop_7 : decode cX11_drop 7 = .ok (.invokevirtual 95, 3) := by decide +kernel
theorem dX11_drop_10 : decode cX11_drop 10 = .ok (.aload_n 0, 1) := by decide +kernel
theorem dX11_drop_11 : decode cX11_drop 11 = .ok (.getfield 33, 3) := by decide +kernel
theorem dX11_drop_14 : decode cX11_drop 14 = .ok (.getfield 98, 3) := by decide +kernel
theorem dX11_drop_17 : decode cX11_drop 17 = .ok (.iload_n 2, 1) := by decide +kernel
theorem dX11_drop_18 : decode cX11_drop 18 = .ok (.invokevirtual 268, 3) := by decide +kernel
theorem dX11_drop_21 : decode cX11_drop 21 = .ok (.aload_n 0, 1) := by decide +kernel
theorem dX11_drop_22 : decode cX11_drop 22 = .ok (.getfield 33, 3) := by decide +kernel
theorem dX11_drop_25 : decode cX11_drop 25 = .ok (.getfield 98, 3) := by decide +kernel
theorem dX11_drop_28 : decode cX11_drop 28 = .ok (.invokevirtual 102, 3) := by decide +kernel
theorem dX11_drop_31 : decode cX11_drop 31 = .ok (.ireturn, 1) := by decide +kernel
set_option maxRecDepth 20000 in
theorem ggX11_sweep_X11_remember : GoodIn wsX11_sweep wsX11_remember := goodIn_r _ [6, 7, 8, 1, 9, 10, 11, 12, 13, 14, 15, 16, 17, 18, 19, 20, 21, 22, 23, 24, 25, 26, 27, 28, 29, 30, 31, 32, 33, 34, 35, 36, 37, 38, 39, 40, 41, 42, 43, 44, 45, 46, 47, 48, 49, 50, 51, 52, 53, 54, 55, 56, 57, 58, 59, 60, 61, 62, 63, 64, 65, 66, 67, 68, 69, 70, 71, 72, 73, 74, 75, 76, 77, 78, 79, 80, 81, 82, 83, 84, 85, 86, 87, 88, 89, 90, 91, 92, 93, 94, 95, 96, 97, 98, 99, 100, 101, 102, 103, 104, 105, 106, 107, 108, 109, 110, 134, 135, 136, 137, 138, 139, 140, 141, 152, 142, 143, 144, 145, 146, 147, 148, 149, 150, 151, 153, 154, 155, 156, 157, 158, 159, 160, 161, 162, 163, 164, 165, 166, 167, 168, 169, 170, 171, 172, 173, 174, 175, 176] (by decide +kernel) (by decide +kernel)
set_option maxRecDepth 20000 in
theorem gX11_sweep_X11_remember : GoodIn wsX11_sweep (wsV RX11 95 RX11 yX11_remember wsX11_remember) := goodIn_app (goodIn_of _ (by decide +kernel)) ggX11_sweep_X11_remember
set_option maxRecDepth 20000 in
theorem ggX11_sweep_X7_removeDead : GoodIn wsX11_sweep wsX7_removeDead := goodIn_r _ [114, 115, 116, 117, 118, 53, 119, 98, 120, 121, 122, 42, 123, 124, 125, 126, 127, 128, 57, 62, 129, 130, 131, 132, 133, 153, 154, 155, 156, 161, 162, 163, 164, 165, 166, 167, 168, 157, 158, 159, 160, 169, 170, 171, 172, 173, 174, 175, 176] (by decide +kernel) (by decide +kernel)
set_option maxRecDepth 20000 in
theorem gX11_sweep_X7_removeDead : GoodIn wsX11_sweep (wsV RX11 271 RX7 yX7_removeDead wsX7_removeDead) := goodIn_app (goodIn_of _ (by decide +kernel)) ggX11_sweep_X7_removeDead
theorem dX11_sweep_0 : decode cX11_sweep 0 = .ok (.aload_n 0, 1) := by decide +kernel
theorem dX11_sweep_1 : decode cX11_sweep 1 = .ok (.invokevirtual 95, 3) := by decide +kernel
theorem dX11_sweep_4 : decode cX11_sweep 4 = .ok (.aload_n 0, 1) := by decide +kernel
theorem dX11_sweep_5 : decode cX11_sweep 5 = .ok (.getfield 33, 3) := by decide +kernel
theorem dX11_sweep_8 : decode cX11_sweep 8 = .ok (.getfield 98, 3) := by decide +kernel
theorem dX11_sweep_11 : decode cX11_sweep 11 = .ok (.aload_n 0, 1) := by decide +kernel
theorem dX11_sweep_12 : decode cX11_sweep 12 = .ok (.getfield 33, 3) := by decide +kernel
theorem dX11_sweep_15 : decode cX11_sweep 15 = .ok (.getfield 112, 3) := by decide +kernel
theorem dX11_sweep_18 : decode cX11_sweep 18 = .ok (.invokevirtual 271, 3) := by decide +kernel
theorem dX11_sweep_21 : decode cX11_sweep 21 = .ok (.ireturn, 1) := by decide +kernel
set_option maxRecDepth 20000 in
theorem ggX11_setPassword_X11_checkUser : GoodIn wsX11_setPassword wsX11_checkUser := goodIn_ca (goodIn_r _ [6, 7, 8, 1, 9, 10, 11, 12, 13, 14, 15, 138, 139, 140, 141, 142, 143, 144, 145, 146, 147, 148, 149, 150, 151, 152, 153, 154, 155, 156, 157, 158, 159, 160, 161, 162, 163, 164, 165, 166, 167, 168, 169, 170, 171, 172, 173, 174, 175, 176, 177, 178, 179] (by decide +kernel) (by decide +kernel)) (goodIn_sub (fun _ h => List.mem_cons_of_mem _ (List.mem_append_left _ (List.mem_append_right _ h))) (by decide +kernel))
set_option maxRecDepth 20000 in
theorem gX11_setPassword_X11_checkUser : GoodIn wsX11_setPassword (wsV RX11 163 RX11 yX11_checkUser wsX11_checkUser) := goodIn_app (goodIn_of _ (by decide +kernel)) ggX11_setPassword_X11_checkUser
set_option maxRecDepth 20000 in
theorem ggX11_setPassword_X11_checkPassword : GoodIn wsX11_setPassword wsX11_checkPassword := goodIn_ca (goodIn_r _ [19, 20, 21] (by decide +kernel) (by decide +kernel)) (goodIn_sub (fun _ h => List.mem_cons_of_mem _ (List.mem_append_right _ h)) (by decide +kernel))
set_option maxRecDepth 20000 in
theorem gX11_setPassword_X11_checkPassword : GoodIn wsX11_setPassword (wsV RX11 198 RX11 yX11_checkPassword wsX11_checkPassword) := goodIn_app (goodIn_of _ (by decide +kernel)) ggX11_setPassword_X11_checkPassword
set_option maxRecDepth 20000 in
theorem ggX11_setPassword_X11_remember : GoodIn wsX11_setPassword wsX11_remember := goodIn_r _ [25, 26, 27, 1, 28, 29, 30, 31, 32, 33, 34, 35, 36, 37, 38, 39, 40, 41, 42, 43, 44, 45, 46, 47, 48, 49, 50, 51, 52, 53, 54, 55, 56, 57, 58, 59, 60, 61, 62, 63, 64, 65, 66, 67, 68, 69, 70, 71, 13, 72, 73, 74, 75, 76, 77, 78, 79, 80, 81, 82, 83, 84, 85, 86, 87, 88, 89, 90, 91, 92, 93, 94, 95, 96, 97, 98, 99, 100, 101, 102, 103, 104, 105, 106, 107, 108, 109, 110, 111, 112, 113, 114, 115, 15, 116, 117, 118, 119, 120, 121, 122, 123, 124, 125, 126, 127, 138, 139, 140, 141, 142, 143, 144, 145, 180, 146, 147, 148, 149, 150, 151, 152, 153, 154, 155, 156, 157, 158, 159, 168, 169, 170, 171, 160, 161, 162, 163, 164, 165, 166, 167, 172, 173, 174, 175, 176, 177, 178, 179] (by decide +kernel) (by decide +kernel)
set_option maxRecDepth 20000 in
theorem gX11_setPassword_X11_remember : GoodIn wsX11_setPassword (wsV RX11 95 RX11 yX11_remember wsX11_remember) := goodIn_app (goodIn_of _ (by decide +kernel)) ggX11_setPassword_X11_remember
set_option maxRecDepth 20000 in
theorem ggX11_setPassword_X6_get : GoodIn wsX11_setPassword wsX6_get := goodIn_r _ [132, 75, 15, 80, 156, 157, 158, 159, 160, 161, 162, 163, 164, 165, 166, 167, 168, 169, 170, 171, 172, 173, 174, 175, 176, 177, 178, 179] (by decide +kernel) (by decide +kernel)
set_option maxRecDepth 20000 in
theorem gX11_setPassword_X6_get_u166X8 : GoodIn wsX11_setPassword (va_wsU RX11 166 RX8 "TicketGate$Table" ⟨"TicketGate$Users", "get", "(II)I"⟩ yX6_get wsX6_get) := goodIn_app (goodIn_of _ (by decide +kernel)) ggX11_setPassword_X6_get
set_option maxRecDepth 20000 in
theorem ggX11_setPassword_X6_set : GoodIn wsX11_setPassword wsX6_set := goodIn_r _ [137, 75, 15, 80, 156, 157, 158, 159, 160, 161, 162, 163, 164, 165, 166, 167, 168, 169, 170, 171, 172, 173, 174, 175, 176, 177, 178, 179] (by decide +kernel) (by decide +kernel)
set_option maxRecDepth 20000 in
theorem gX11_setPassword_X6_set_u274X8 : GoodIn wsX11_setPassword (va_wsU RX11 274 RX8 "TicketGate$Table" ⟨"TicketGate$Users", "set", "(III)V"⟩ yX6_set wsX6_set) := goodIn_app (goodIn_of _ (by decide +kernel)) ggX11_setPassword_X6_set
theorem dX11_setPassword_0 : decode cX11_setPassword 0 = .ok (.aload_n 0, 1) := by decide +kernel
theorem dX11_setPassword_1 : decode cX11_setPassword 1 = .ok (.iload_n 1, 1) := by decide +kernel
theorem dX11_setPassword_2 : decode cX11_setPassword 2 = .ok (.invokevirtual 163, 3) := by decide +kernel
theorem dX11_setPassword_5 : decode cX11_setPassword 5 = .ok (.aload_n 0, 1) := by decide +kernel
theorem dX11_setPassword_6 : decode cX11_setPassword 6 = .ok (.iload_n 2, 1) := by decide +kernel
theorem dX11_setPassword_7 : decode cX11_setPassword 7 = .ok (.invokevirtual 198, 3) := by decide +kernel
theorem dX11_setPassword_10 : decode cX11_setPassword 10 = .ok (.aload_n 0, 1) := by decide +kernel
theorem dX11_setPassword_11 : decode cX11_setPassword 11 = .ok (.invokevirtual 95, 3) := by decide +kernel
theorem dX11_setPassword_14 : decode cX11_setPassword 14 = .ok (.aload_n 0, 1) := by decide +kernel
theorem dX11_setPassword_15 : decode cX11_setPassword 15 = .ok (.getfield 33, 3) := by decide +kernel
theorem dX11_setPassword_18 : decode cX11_setPassword 18 = .ok (.getfield 125, 3) := by decide +kernel
theorem dX11_setPassword_21 : decode cX11_setPassword 21 = .ok (.iload_n 1, 1) := by decide +kernel
theorem dX11_setPassword_22 : decode cX11_setPassword 22 = .ok (.iconst 2, 1) := by decide +kernel
theorem dX11_setPassword_23 : decode cX11_setPassword 23 = .ok (.invokevirtual 166, 3) := by decide +kernel
theorem dX11_setPassword_26 : decode cX11_setPassword 26 = .ok (.istore_n 3, 1) := by decide +kernel
theorem dX11_setPassword_27 : decode cX11_setPassword 27 = .ok (.aload_n 0, 1) := by decide +kernel
theorem dX11_setPassword_28 : decode cX11_setPassword 28 = .ok (.getfield 33, 3) := by decide +kernel
theorem dX11_setPassword_31 : decode cX11_setPassword 31 = .ok (.getfield 125, 3) := by decide +kernel
theorem dX11_setPassword_34 : decode cX11_setPassword 34 = .ok (.iload_n 1, 1) := by decide +kernel
theorem dX11_setPassword_35 : decode cX11_setPassword 35 = .ok (.iconst 2, 1) := by decide +kernel
theorem dX11_setPassword_36 : decode cX11_setPassword 36 = .ok (.iload_n 2, 1) := by decide +kernel
theorem dX11_setPassword_37 : decode cX11_setPassword 37 = .ok (.invokevirtual 274, 3) := by decide +kernel
theorem dX11_setPassword_40 : decode cX11_setPassword 40 = .ok (.iload_n 3, 1) := by decide +kernel
theorem dX11_setPassword_41 : decode cX11_setPassword 41 = .ok (.ireturn, 1) := by decide +kernel
set_option maxRecDepth 20000 in
theorem ggX11_setClock_X11_checkUser : GoodIn wsX11_setClock wsX11_checkUser := goodIn_ca (goodIn_r _ [8, 9, 10, 3, 11, 12, 13, 14, 15, 16, 17, 134, 135, 136, 137, 138, 139, 140, 141, 142, 143, 144, 145, 146, 147, 148, 149, 150, 151, 152, 153, 154, 155, 156, 157, 158, 159, 160, 161, 162, 163, 164, 165, 166, 167, 168, 169, 170, 171, 172, 173, 174, 175] (by decide +kernel) (by decide +kernel)) (goodIn_sub (fun _ h => List.mem_cons_of_mem _ (List.mem_append_right _ h)) (by decide +kernel))
set_option maxRecDepth 20000 in
theorem gX11_setClock_X11_checkUser : GoodIn wsX11_setClock (wsV RX11 163 RX11 yX11_checkUser wsX11_checkUser) := goodIn_app (goodIn_of _ (by decide +kernel)) ggX11_setClock_X11_checkUser
set_option maxRecDepth 20000 in
theorem ggX11_setClock_X11_remember : GoodIn wsX11_setClock wsX11_remember := goodIn_r _ [21, 22, 23, 3, 24, 25, 26, 27, 28, 29, 30, 31, 32, 33, 34, 35, 36, 37, 38, 39, 40, 41, 42, 43, 44, 45, 46, 47, 48, 49, 50, 51, 52, 53, 54, 55, 56, 57, 58, 59, 60, 61, 62, 63, 64, 65, 66, 67, 15, 68, 69, 70, 71, 72, 73, 74, 75, 76, 77, 78, 79, 80, 81, 82, 83, 84, 85, 86, 87, 88, 89, 90, 91, 92, 93, 94, 95, 96, 97, 98, 99, 100, 101, 102, 103, 104, 105, 106, 107, 108, 109, 110, 111, 17, 112, 113, 114, 115, 116, 117, 118, 119, 120, 121, 122, 123, 134, 135, 136, 137, 138, 139, 140, 141, 176, 142, 143, 144, 145, 146, 147, 148, 149, 150, 151, 152, 153, 154, 155, 164, 165, 166, 167, 156, 157, 158, 159, 160, 161, 162, 163, 168, 169, 170, 171, 172, 173, 174, 175] (by decide +kernel) (by decide +kernel)
set_option maxRecDepth 20000 in
theorem gX11_setClock_X11_remember : GoodIn wsX11_setClock (wsV RX11 95 RX11 yX11_remember wsX11_remember) := goodIn_app (goodIn_of _ (by decide +kernel)) ggX11_setClock_X11_remember
set_option maxRecDepth 20000 in
theorem ggX11_setClock_X6_get : GoodIn wsX11_setClock wsX6_get := goodIn_r _ [128, 71, 17, 76, 152, 153, 154, 155, 156, 157, 158, 159, 160, 161, 162, 163, 164, 165, 166, 167, 168, 169, 170, 171, 172, 173, 174, 175] (by decide +kernel) (by decide +kernel)
set_option maxRecDepth 20000 in
theorem gX11_setClock_X6_get_u166X8 : GoodIn wsX11_setClock (va_wsU RX11 166 RX8 "TicketGate$Table" ⟨"TicketGate$Users", "get", "(II)I"⟩ yX6_get wsX6_get) := goodIn_app (goodIn_of _ (by decide +kernel)) ggX11_setClock_X6_get
set_option maxRecDepth 20000 in
theorem ggX11_setClock_X6_set : GoodIn wsX11_setClock wsX6_set := goodIn_r _ [133, 71, 17, 76, 152, 153, 154, 155, 156, 157, 158, 159, 160, 161, 162, 163, 164, 165, 166, 167, 168, 169, 170, 171, 172, 173, 174, 175] (by decide +kernel) (by decide +kernel)
set_option maxRecDepth 20000 in
theorem gX11_setClock_X6_set_u274X8 : GoodIn wsX11_setClock (va_wsU RX11 274 RX8 "TicketGate$Table" ⟨"TicketGate$Users", "set", "(III)V"⟩ yX6_set wsX6_set) := goodIn_app (goodIn_of _ (by decide +kernel)) ggX11_setClock_X6_set
theorem dX11_setClock_0 : decode cX11_setClock 0 = .ok (.aload_n 0, 1) := by decide +kernel
theorem dX11_setClock_1 : decode cX11_setClock 1 = .ok (.iload_n 1, 1) := by decide +kernel
theorem dX11_setClock_2 : decode cX11_setClock 2 = .ok (.invokevirtual 163, 3) := by decide +kernel
theorem dX11_setClock_5 : decode cX11_setClock 5 = .ok (.iload_n 2, 1) := by decide +kernel
theorem dX11_setClock_6 : decode cX11_setClock 6 = .ok (.bipush (-9), 2) := by decide +kernel
theorem dX11_setClock_8 : decode cX11_setClock 8 = .ok (.if_icmp .lt 9, 3) := by decide +kernel
theorem dX11_setClock_11 : decode cX11_setClock 11 = .ok (.iload_n 2, 1) := by decide +kernel
theorem dX11_setClock_12 : decode cX11_setClock 12 = .ok (.bipush 9, 2) := by decide +kernel
theorem dX11_setClock_14 : decode cX11_setClock 14 = .ok (.if_icmp .le 14, 3) := by decide +kernel
theorem dX11_setClock_17 : decode cX11_setClock 17 = .ok (.new 88, 3) := by decide +kernel
theorem dX11_setClock_20 : decode cX11_setClock 20 = .ok (.dup, 1) := by decide +kernel
theorem dX11_setClock_21 : decode cX11_setClock 21 = .ok (.ldc_w 278, 3) := by decide +kernel
theorem dX11_setClock_24 : decode cX11_setClock 24 = .ok (.invokespecial 92, 3) := by decide +kernel
theorem dX11_setClock_27 : decode cX11_setClock 27 = .ok (.athrow, 1) := by decide +kernel
theorem dX11_setClock_28 : decode cX11_setClock 28 = .ok (.aload_n 0, 1) := by decide +kernel
theorem dX11_setClock_29 : decode cX11_setClock 29 = .ok (.invokevirtual 95, 3) := by decide +kernel
theorem dX11_setClock_32 : decode cX11_setClock 32 = .ok (.aload_n 0, 1) := by decide +kernel
theorem dX11_setClock_33 : decode cX11_setClock 33 = .ok (.getfield 33, 3) := by decide +kernel
theorem dX11_setClock_36 : decode cX11_setClock 36 = .ok (.getfield 125, 3) := by decide +kernel
theorem dX11_setClock_39 : decode cX11_setClock 39 = .ok (.iload_n 1, 1) := by decide +kernel
theorem dX11_setClock_40 : decode cX11_setClock 40 = .ok (.iconst 3, 1) := by decide +kernel
theorem dX11_setClock_41 : decode cX11_setClock 41 = .ok (.invokevirtual 166, 3) := by decide +kernel
theorem dX11_setClock_44 : decode cX11_setClock 44 = .ok (.istore_n 3, 1) := by decide +kernel
theorem dX11_setClock_45 : decode cX11_setClock 45 = .ok (.aload_n 0, 1) := by decide +kernel
theorem dX11_setClock_46 : decode cX11_setClock 46 = .ok (.getfield 33, 3) := by decide +kernel
theorem dX11_setClock_49 : decode cX11_setClock 49 = .ok (.getfield 125, 3) := by decide +kernel
theorem dX11_setClock_52 : decode cX11_setClock 52 = .ok (.iload_n 1, 1) := by decide +kernel
theorem dX11_setClock_53 : decode cX11_setClock 53 = .ok (.iconst 3, 1) := by decide +kernel
theorem dX11_setClock_54 : decode cX11_setClock 54 = .ok (.iload_n 2, 1) := by decide +kernel
theorem dX11_setClock_55 : decode cX11_setClock 55 = .ok (.invokevirtual 274, 3) := by decide +kernel
theorem dX11_setClock_58 : decode cX11_setClock 58 = .ok (.iload_n 3, 1) := by decide +kernel
theorem dX11_setClock_59 : decode cX11_setClock 59 = .ok (.ireturn, 1) := by decide +kernel
set_option maxRecDepth 20000 in
theorem ggX11_pass_X11_remember : GoodIn wsX11_pass wsX11_remember := goodIn_r _ [8, 9, 10, 3, 11, 12, 13, 14, 15, 16, 17, 18, 19, 20, 21, 22, 23, 24, 25, 26, 27, 28, 29, 30, 31, 32, 33, 34, 35, 36, 37, 38, 39, 40, 41, 42, 43, 44, 45, 46, 47, 48, 49, 50, 51, 52, 53, 54, 55, 56, 57, 58, 59, 60, 61, 62, 63, 64, 65, 66, 67, 68, 69, 70, 71, 72, 73, 74, 75, 76, 77, 78, 79, 80, 81, 82, 83, 84, 85, 86, 87, 88, 89, 90, 91, 92, 93, 94, 95, 96, 97, 98, 99, 100, 101, 102, 103, 104, 105, 106, 107, 108, 109, 110, 111, 112, 154, 155, 156, 157, 158, 159, 160, 161, 162, 163, 164, 165, 166, 167, 168, 169, 170, 171, 172, 173, 174, 175, 176, 177, 178, 179, 180, 181, 182, 183, 184, 185, 186, 187, 188, 189, 190, 191, 192, 193, 194, 195, 196] (by decide +kernel) (by decide +kernel)
set_option maxRecDepth 20000 in
theorem gX11_pass_X11_remember : GoodIn wsX11_pass (wsV RX11 95 RX11 yX11_remember wsX11_remember) := goodIn_app (goodIn_of _ (by decide +kernel)) ggX11_pass_X11_remember
set_option maxRecDepth 20000 in
theorem ggX11_pass_X11_validTickets : GoodIn wsX11_pass wsX11_validTickets := goodIn_r _ [116, 3, 117, 118, 119, 44, 120, 121, 122, 123, 124, 55, 125, 100, 126, 127, 128, 129, 130, 131, 132, 133, 134, 59, 64, 154, 155, 156, 157, 158, 159, 160, 161, 163, 164, 165, 166, 167, 168, 169, 170, 171, 172, 173, 174, 175, 176, 181, 182, 183, 184, 185, 186, 187, 188, 177, 178, 179, 180, 189, 190, 191, 192, 193, 194, 195, 196] (by decide +kernel) (by decide +kernel)
set_option maxRecDepth 20000 in
theorem gX11_pass_X11_validTickets : GoodIn wsX11_pass (wsV RX11 245 RX11 yX11_validTickets wsX11_validTickets) := goodIn_app (goodIn_of _ (by decide +kernel)) ggX11_pass_X11_validTickets
set_option maxRecDepth 20000 in
theorem ggX11_pass_X5_letPass : GoodIn wsX11_pass wsX5_letPass := goodIn_r _ [138, 85, 49, 86, 139, 140, 141, 48, 142, 143, 144, 145, 124, 55, 125, 100, 146, 147, 148, 133, 134, 59, 64, 149, 150, 151, 152, 153, 163, 164, 165, 166, 167, 168, 169, 170, 171, 172, 173, 174, 175, 176, 181, 182, 183, 184, 185, 186, 187, 188, 177, 178, 179, 180, 189, 190, 191, 192, 193, 194, 195, 196] (by decide +kernel) (by decide +kernel)
set_option maxRecDepth 20000 in
theorem gX11_pass_X5_letPass : GoodIn wsX11_pass (wsV RX11 280 RX5 yX5_letPass wsX5_letPass) := goodIn_app (goodIn_of _ (by decide +kernel)) ggX11_pass_X5_letPass
theorem dX11_pass_0 : decode cX11_pass 0 = .ok (.iload_n 1, 1) := by decide +kernel
theorem dX11_pass_1 : decode cX11_pass 1 = .ok (.iconst 1, 1) := by decide +kernel
theorem dX11_pass_2 : decode cX11_pass 2 = .ok (.if_icmp .lt 10, 3) := by decide +kernel
theorem dX11_pass_5 : decode cX11_pass 5 = .ok (.iload_n 1, 1) := by decide +kernel
theorem dX11_pass_6 : decode cX11_pass 6 = .ok (.sipush 999, 3) := by decide +kernel
theorem dX11_pass_9 : decode cX11_pass 9 = .ok (.if_icmp .le 13, 3) := by decide +kernel
theorem dX11_pass_12 : decode cX11_pass 12 = .ok (.new 88, 3) := by decide +kernel
theorem dX11_pass_15 : decode cX11_pass 15 = .ok (.dup, 1) := by decide +kernel
theorem dX11_pass_16 : decode cX11_pass 16 = .ok (.ldc 219, 2) := by decide +kernel
theorem dX11_pass_18 : decode cX11_pass 18 = .ok (.invokespecial 92, 3) := by decide +kernel
theorem dX11_pass_21 : decode cX11_pass 21 = .ok (.athrow, 1) := by decide +kernel
theorem dX11_pass_22 : decode cX11_pass 22 = .ok (.aload_n 0, 1) := by decide +kernel
theorem dX11_pass_23 : decode cX11_pass 23 = .ok (.invokevirtual 95, 3) := by decide +kernel
theorem dX11_pass_26 : decode cX11_pass 26 = .ok (.aload_n 0, 1) := by decide +kernel
theorem dX11_pass_27 : decode cX11_pass 27 = .ok (.invokevirtual 245, 3) := by decide +kernel
theorem dX11_pass_30 : decode cX11_pass 30 = .ok (.istore_n 2, 1) := by decide +kernel
theorem dX11_pass_31 : decode cX11_pass 31 = .ok (.aload_n 0, 1) := by decide +kernel
theorem dX11_pass_32 : decode cX11_pass 32 = .ok (.getfield 33, 3) := by decide +kernel
theorem dX11_pass_35 : decode cX11_pass 35 = .ok (.iload_n 1, 1) := by decide +kernel
theorem dX11_pass_36 : decode cX11_pass 36 = .ok (.invokevirtual 280, 3) := by decide +kernel
theorem dX11_pass_39 : decode cX11_pass 39 = .ok (.iload_n 2, 1) := by decide +kernel
theorem dX11_pass_40 : decode cX11_pass 40 = .ok (.aload_n 0, 1) := by decide +kernel
theorem dX11_pass_41 : decode cX11_pass 41 = .ok (.invokevirtual 245, 3) := by decide +kernel
theorem dX11_pass_44 : decode cX11_pass 44 = .ok (.isub, 1) := by decide +kernel
theorem dX11_pass_45 : decode cX11_pass 45 = .ok (.ireturn, 1) := by decide +kernel
set_option maxRecDepth 20000 in
theorem ggX11_writeTicket_X11_rowOf : GoodIn wsX11_writeTicket wsX11_rowOf := goodIn_ca (goodIn_r _ [7, 8, 9, 1, 10, 11, 12, 13, 14, 15, 16, 17, 18, 19, 20, 21, 22, 23, 24, 25, 26, 27, 28, 72, 73, 74, 75, 76, 77, 78, 79, 80, 81, 82, 83, 84, 85, 86, 87, 88, 89, 90, 91, 92, 93, 94, 95, 96, 97, 98, 99, 100, 101, 102, 103, 104, 105, 106, 107, 108, 109, 110, 111, 112, 113] (by decide +kernel) (by decide +kernel)) (goodIn_sub (fun _ h => List.mem_cons_of_mem _ (List.mem_append_right _ h)) (by decide +kernel))
set_option maxRecDepth 20000 in
theorem gX11_writeTicket_X11_rowOf : GoodIn wsX11_writeTicket (wsV RX11 184 RX11 yX11_rowOf wsX11_rowOf) := goodIn_app (goodIn_of _ (by decide +kernel)) ggX11_writeTicket_X11_rowOf
set_option maxRecDepth 20000 in
theorem ggX11_writeTicket_X0_cut : GoodIn wsX11_writeTicket wsX0_cut := goodIn_r _ [33, 34, 114, 115] (by decide +kernel) (by decide +kernel)
set_option maxRecDepth 20000 in
theorem gX11_writeTicket_X0_cut : GoodIn wsX11_writeTicket (wsV RX11 72 RX0 yX0_cut wsX0_cut) := goodIn_app (goodIn_of _ (by decide +kernel)) ggX11_writeTicket_X0_cut
set_option maxRecDepth 20000 in
theorem ggX11_writeTicket_X0_addNumber : GoodIn wsX11_writeTicket wsX0_addNumber := goodIn_r _ [38, 39, 40, 41, 42, 32, 43, 34, 44, 114, 115] (by decide +kernel) (by decide +kernel)
set_option maxRecDepth 20000 in
theorem gX11_writeTicket_X0_addNumber : GoodIn wsX11_writeTicket (wsV RX11 283 RX0 yX0_addNumber wsX0_addNumber) := goodIn_app (goodIn_of _ (by decide +kernel)) ggX11_writeTicket_X0_addNumber
set_option maxRecDepth 20000 in
theorem ggX11_writeTicket_X0_add : GoodIn wsX11_writeTicket wsX0_add := goodIn_r _ [43, 34, 44, 114, 115] (by decide +kernel) (by decide +kernel)
set_option maxRecDepth 20000 in
theorem gX11_writeTicket_X0_add : GoodIn wsX11_writeTicket (wsV RX11 286 RX0 yX0_add wsX0_add) := goodIn_app (goodIn_of _ (by decide +kernel)) ggX11_writeTicket_X0_add
set_option maxRecDepth 20000 in
theorem ggX11_writeTicket_X6_get : GoodIn wsX11_writeTicket wsX6_get := goodIn_r _ [21, 22, 16, 23, 90, 91, 92, 93, 94, 95, 96, 97, 98, 99, 100, 101, 102, 103, 104, 105, 106, 107, 108, 109, 110, 111, 112, 113] (by decide +kernel) (by decide +kernel)
set_option maxRecDepth 20000 in
theorem gX11_writeTicket_X6_get_u183X7 : GoodIn wsX11_writeTicket (va_wsU RX11 183 RX7 "TicketGate$Table" ⟨"TicketGate$Tickets", "get", "(II)I"⟩ yX6_get wsX6_get) := goodIn_app (goodIn_of _ (by decide +kernel)) ggX11_writeTicket_X6_get
set_option maxRecDepth 20000 in
theorem gX11_writeTicket_X6_get_u166X8 : GoodIn wsX11_writeTicket (va_wsU RX11 166 RX8 "TicketGate$Table" ⟨"TicketGate$Users", "get", "(II)I"⟩ yX6_get wsX6_get) := goodIn_app (goodIn_of _ (by decide +kernel)) ggX11_writeTicket_X6_get
set_option maxRecDepth 20000 in
theorem ggX11_writeTicket_X0_addName : GoodIn wsX11_writeTicket wsX0_addName := goodIn_r _ [55, 40, 41, 42, 32, 43, 34, 44, 114, 115] (by decide +kernel) (by decide +kernel)
set_option maxRecDepth 20000 in
theorem gX11_writeTicket_X0_addName : GoodIn wsX11_writeTicket (wsV RX11 289 RX0 yX0_addName wsX0_addName) := goodIn_app (goodIn_of _ (by decide +kernel)) ggX11_writeTicket_X0_addName
set_option maxRecDepth 20000 in
theorem gX11_writeTicket_X6_get_u150X2 : GoodIn wsX11_writeTicket (va_wsU RX11 150 RX2 "TicketGate$Table" ⟨"TicketGate$Realms", "get", "(II)I"⟩ yX6_get wsX6_get) := goodIn_app (goodIn_of _ (by decide +kernel)) ggX11_writeTicket_X6_get
set_option maxRecDepth 20000 in
theorem gX11_writeTicket_X6_get_u173X3 : GoodIn wsX11_writeTicket (va_wsU RX11 173 RX3 "TicketGate$Table" ⟨"TicketGate$Services", "get", "(II)I"⟩ yX6_get wsX6_get) := goodIn_app (goodIn_of _ (by decide +kernel)) ggX11_writeTicket_X6_get
set_option maxRecDepth 20000 in
theorem ggX11_writeTicket_X7_canBeRenewed : GoodIn wsX11_writeTicket wsX7_canBeRenewed := goodIn_r _ [66, 67, 47, 48, 20, 14, 21, 22, 16, 23, 90, 91, 92, 93, 94, 95, 96, 97, 98, 99, 100, 101, 102, 103, 104, 105, 106, 107, 108, 109, 110, 111, 112, 113] (by decide +kernel) (by decide +kernel)
set_option maxRecDepth 20000 in
theorem gX11_writeTicket_X7_canBeRenewed : GoodIn wsX11_writeTicket (wsV RX11 187 RX7 yX7_canBeRenewed wsX7_canBeRenewed) := goodIn_app (goodIn_of _ (by decide +kernel)) ggX11_writeTicket_X7_canBeRenewed
set_option maxRecDepth 20000 in
theorem ggX11_writeTicket_X0_size : GoodIn wsX11_writeTicket wsX0_size := goodIn_r _ [71, 34, 114, 115] (by decide +kernel) (by decide +kernel)
set_option maxRecDepth 20000 in
theorem gX11_writeTicket_X0_size : GoodIn wsX11_writeTicket (wsV RX11 75 RX0 yX0_size wsX0_size) := goodIn_app (goodIn_of _ (by decide +kernel)) ggX11_writeTicket_X0_size
theorem dX11_writeTicket_0 : decode cX11_writeTicket 0 = .ok (.aload_n 0, 1) := by decide +kernel
theorem dX11_writeTicket_1 : decode cX11_writeTicket 1 = .ok (.iload_n 1, 1) := by decide +kernel
theorem dX11_writeTicket_2 : decode cX11_writeTicket 2 = .ok (.invokevirtual 184, 3) := by decide +kernel
theorem dX11_writeTicket_5 : decode cX11_writeTicket 5 = .ok (.istore_n 2, 1) := by decide +kernel
theorem dX11_writeTicket_6 : decode cX11_writeTicket 6 = .ok (.aload_n 0, 1) := by decide +kernel
theorem dX11_writeTicket_7 : decode cX11_writeTicket 7 = .ok (.getfield 33, 3) := by decide +kernel
theorem dX11_writeTicket_10 : decode cX11_writeTicket 10 = .ok (.getfield 98, 3) := by decide +kernel
theorem dX11_writeTicket_13 : decode cX11_writeTicket 13 = .ok (.astore_n 3, 1) := by decide +kernel
theorem dX11_writeTicket_14 : decode cX11_writeTicket 14 = .ok (.aload_n 0, 1) := by decide +kernel
theorem dX11_writeTicket_15 : decode cX11_writeTicket 15 = .ok (.getfield 18, 3) := by decide +kernel
theorem dX11_writeTicket_18 : decode cX11_writeTicket 18 = .ok (.iconst 0, 1) := by decide +kernel
theorem dX11_writeTicket_19 : decode cX11_writeTicket 19 = .ok (.invokevirtual 72, 3) := by decide +kernel
theorem dX11_writeTicket_22 : decode cX11_writeTicket 22 = .ok (.aload_n 0, 1) := by decide +kernel
theorem dX11_writeTicket_23 : decode cX11_writeTicket 23 = .ok (.getfield 18, 3) := by decide +kernel
theorem dX11_writeTicket_26 : decode cX11_writeTicket 26 = .ok (.iload_n 1, 1) := by decide +kernel
theorem dX11_writeTicket_27 : decode cX11_writeTicket 27 = .ok (.invokevirtual 283, 3) := by decide +kernel
theorem dX11_writeTicket_30 : decode cX11_writeTicket 30 = .ok (.aload_n 0, 1) := by decide +kernel
theorem dX11_writeTicket_31 : decode cX11_writeTicket 31 = .ok (.getfield 18, 3) := by decide +kernel
theorem dX11_writeTicket_34 : decode cX11_writeTicket 34 = .ok (.bipush 58, 2) := by decide +kernel
theorem dX11_writeTicket_36 : decode cX11_writeTicket 36 = .ok (.invokevirtual 286, 3) := by decide +kernel
theorem dX11_writeTicket_39 : decode cX11_writeTicket 39 = .ok (.aload_n 0, 1) := by decide +kernel
theorem dX11_writeTicket_40 : decode cX11_writeTicket 40 = .ok (.getfield 18, 3) := by decide +kernel
theorem dX11_writeTicket_43 : decode cX11_writeTicket 43 = .ok (.aload_n 0, 1) := by decide +kernel
theorem dX11_writeTicket_44 : decode cX11_writeTicket 44 = .ok (.getfield 33, 3) := by decide +kernel
theorem dX11_writeTicket_47 : decode cX11_writeTicket 47 = .ok (.getfield 125, 3) := by decide +kernel
theorem dX11_writeTicket_50 : decode cX11_writeTicket 50 = .ok (.aload_n 3, 1) := by decide +kernel
theorem dX11_writeTicket_51 : decode cX11_writeTicket 51 = .ok (.iload_n 2, 1) := by decide +kernel
theorem dX11_writeTicket_52 : decode cX11_writeTicket 52 = .ok (.iconst 2, 1) := by decide +kernel
theorem dX11_writeTicket_53 : decode cX11_writeTicket 53 = .ok (.invokevirtual 183, 3) := by decide +kernel
theorem dX11_writeTicket_56 : decode cX11_writeTicket 56 = .ok (.iconst 0, 1) := by decide +kernel
theorem dX11_writeTicket_57 : decode cX11_writeTicket 57 = .ok (.invokevirtual 166, 3) := by decide +kernel
theorem dX11_writeTicket_60 : decode cX11_writeTicket 60 = .ok (.invokevirtual 289, 3) := by decide +kernel
theorem dX11_writeTicket_63 : decode cX11_writeTicket 63 = .ok (.aload_n 0, 1) := by decide +kernel
theorem dX11_writeTicket_64 : decode cX11_writeTicket 64 = .ok (.getfield 18, 3) := by decide +kernel
theorem dX11_writeTicket_67 : decode cX11_writeTicket 67 = .ok (.bipush 64, 2) := by decide +kernel
theorem dX11_writeTicket_69 : decode cX11_writeTicket 69 = .ok (.invokevirtual 286, 3) := by decide +kernel
theorem dX11_writeTicket_72 : decode cX11_writeTicket 72 = .ok (.aload_n 0, 1) := by decide +kernel
theorem dX11_writeTicket_73 : decode cX11_writeTicket 73 = .ok (.getfield 18, 3) := by decide +kernel
theorem dX11_writeTicket_76 : decode cX11_writeTicket 76 = .ok (.aload_n 0, 1) := by decide +kernel
theorem dX11_writeTicket_77 : decode cX11_writeTicket 77 = .ok (.getfield 33, 3) := by decide +kernel
theorem dX11_writeTicket_80 : decode cX11_writeTicket 80 = .ok (.getfield 118, 3) := by decide +kernel
theorem dX11_writeTicket_83 : decode cX11_writeTicket 83 = .ok (.aload_n 3, 1) := by decide +kernel
theorem dX11_writeTicket_84 : decode cX11_writeTicket 84 = .ok (.iload_n 2, 1) := by decide +kernel
theorem dX11_writeTicket_85 : decode cX11_writeTicket 85 = .ok (.iconst 3, 1) := by decide +kernel
theorem dX11_writeTicket_86 : decode cX11_writeTicket 86 = .ok (.invokevirtual 183, 3) := by decide +kernel
theorem dX11_writeTicket_89 : decode cX11_writeTicket 89 = .ok (.iconst 0, 1) := by decide +kernel
theorem dX11_writeTicket_90 : decode cX11_writeTicket 90 = .ok (.invokevirtual 150, 3) := by decide +kernel
theorem dX11_writeTicket_93 : decode cX11_writeTicket 93 = .ok (.invokevirtual 289, 3) := by decide +kernel
theorem dX11_writeTicket_96 : decode cX11_writeTicket 96 = .ok (.aload_n 3, 1) := by decide +kernel
theorem dX11_writeTicket_97 : decode cX11_writeTicket 97 = .ok (.iload_n 2, 1) := by decide +kernel
theorem dX11_writeTicket_98 : decode cX11_writeTicket 98 = .ok (.iconst 1, 1) := by decide +kernel
theorem dX11_writeTicket_99 : decode cX11_writeTicket 99 = .ok (.invokevirtual 183, 3) := by decide +kernel
theorem dX11_writeTicket_102 : decode cX11_writeTicket 102 = .ok (.iconst 1, 1) := by decide +kernel
theorem dX11_writeTicket_103 : decode cX11_writeTicket 103 = .ok (.if_icmp .ne 36, 3) := by decide +kernel
theorem dX11_writeTicket_106 : decode cX11_writeTicket 106 = .ok (.aload_n 0, 1) := by decide +kernel
theorem dX11_writeTicket_107 : decode cX11_writeTicket 107 = .ok (.getfield 18, 3) := by decide +kernel
theorem dX11_writeTicket_110 : decode cX11_writeTicket 110 = .ok (.bipush 47, 2) := by decide +kernel
theorem dX11_writeTicket_112 : decode cX11_writeTicket 112 = .ok (.invokevirtual 286, 3) := by decide +kernel
theorem dX11_writeTicket_115 : decode cX11_writeTicket 115 = .ok (.aload_n 0, 1) := by decide +kernel
theorem dX11_writeTicket_116 : decode cX11_writeTicket 116 = .ok (.getfield 18, 3) := by decide +kernel
theorem dX11_writeTicket_119 : decode cX11_writeTicket 119 = .ok (.aload_n 0, 1) := by decide +kernel
theorem dX11_writeTicket_120 : decode cX11_writeTicket 120 = .ok (.getfield 33, 3) := by decide +kernel
theorem dX11_writeTicket_123 : decode cX11_writeTicket 123 = .ok (.getfield 132, 3) := by decide +kernel
theorem dX11_writeTicket_126 : decode cX11_writeTicket 126 = .ok (.aload_n 3, 1) := by decide +kernel
theorem dX11_writeTicket_127 : decode cX11_writeTicket 127 = .ok (.iload_n 2, 1) := by decide +kernel
theorem dX11_writeTicket_128 : decode cX11_writeTicket 128 = .ok (.iconst 4, 1) := by decide +kernel
theorem dX11_writeTicket_129 : decode cX11_writeTicket 129 = .ok (.invokevirtual 183, 3) := by decide +kernel
theorem dX11_writeTicket_132 : decode cX11_writeTicket 132 = .ok (.iconst 0, 1) := by decide +kernel
theorem dX11_writeTicket_133 : decode cX11_writeTicket 133 = .ok (.invokevirtual 173, 3) := by decide +kernel
theorem dX11_writeTicket_136 : decode cX11_writeTicket 136 = .ok (.invokevirtual 289, 3) := by decide +kernel
theorem dX11_writeTicket_139 : decode cX11_writeTicket 139 = .ok (.aload_n 0, 1) := by decide +kernel
theorem dX11_writeTicket_140 : decode cX11_writeTicket 140 = .ok (.getfield 18, 3) := by decide +kernel
theorem dX11_writeTicket_143 : decode cX11_writeTicket 143 = .ok (.bipush 32, 2) := by decide +kernel
theorem dX11_writeTicket_145 : decode cX11_writeTicket 145 = .ok (.invokevirtual 286, 3) := by decide +kernel
theorem dX11_writeTicket_148 : decode cX11_writeTicket 148 = .ok (.aload_n 0, 1) := by decide +kernel
theorem dX11_writeTicket_149 : decode cX11_writeTicket 149 = .ok (.getfield 18, 3) := by decide +kernel
theorem dX11_writeTicket_152 : decode cX11_writeTicket 152 = .ok (.aload_n 3, 1) := by decide +kernel
theorem dX11_writeTicket_153 : decode cX11_writeTicket 153 = .ok (.iload_n 2, 1) := by decide +kernel
theorem dX11_writeTicket_154 : decode cX11_writeTicket 154 = .ok (.bipush 6, 2) := by decide +kernel
theorem dX11_writeTicket_156 : decode cX11_writeTicket 156 = .ok (.invokevirtual 183, 3) := by decide +kernel
theorem dX11_writeTicket_159 : decode cX11_writeTicket 159 = .ok (.invokevirtual 283, 3) := by decide +kernel
theorem dX11_writeTicket_162 : decode cX11_writeTicket 162 = .ok (.aload_n 3, 1) := by decide +kernel
theorem dX11_writeTicket_163 : decode cX11_writeTicket 163 = .ok (.iload_n 2, 1) := by decide +kernel
theorem dX11_writeTicket_164 : decode cX11_writeTicket 164 = .ok (.invokevirtual 187, 3) := by decide +kernel
theorem dX11_writeTicket_167 : decode cX11_writeTicket 167 = .ok (.ifCond .eq 12, 3) := by decide +kernel
theorem dX11_writeTicket_170 : decode cX11_writeTicket 170 = .ok (.aload_n 0, 1) := by decide +kernel
theorem dX11_writeTicket_171 : decode cX11_writeTicket 171 = .ok (.getfield 18, 3) := by decide +kernel
theorem dX11_writeTicket_174 : decode cX11_writeTicket 174 = .ok (.bipush 43, 2) := by decide +kernel
theorem dX11_writeTicket_176 : decode cX11_writeTicket 176 = .ok (.invokevirtual 286, 3) := by decide +kernel
theorem dX11_writeTicket_179 : decode cX11_writeTicket 179 = .ok (.aload_n 0, 1) := by decide +kernel
theorem dX11_writeTicket_180 : decode cX11_writeTicket 180 = .ok (.getfield 18, 3) := by decide +kernel
theorem dX11_writeTicket_183 : decode cX11_writeTicket 183 = .ok (.invokevirtual 75, 3) := by decide +kernel
theorem dX11_writeTicket_186 : decode cX11_writeTicket 186 = .ok (.ireturn, 1) := by decide +kernel
set_option maxRecDepth 20000 in
theorem ggX11_outputByte_X0_size : GoodIn wsX11_outputByte wsX0_size := goodIn_r _ [8, 9, 23, 24] (by decide +kernel) (by decide +kernel)
set_option maxRecDepth 20000 in
theorem gX11_outputByte_X0_size : GoodIn wsX11_outputByte (wsV RX11 75 RX0 yX0_size wsX0_size) := goodIn_app (goodIn_of _ (by decide +kernel)) ggX11_outputByte_X0_size
set_option maxRecDepth 20000 in
theorem ggX11_outputByte_X0_at : GoodIn wsX11_outputByte wsX0_at := goodIn_r _ [13, 9, 14, 23, 24] (by decide +kernel) (by decide +kernel)
set_option maxRecDepth 20000 in
theorem gX11_outputByte_X0_at : GoodIn wsX11_outputByte (wsV RX11 297 RX0 yX0_at wsX0_at) := goodIn_app (goodIn_of _ (by decide +kernel)) ggX11_outputByte_X0_at
theorem dX11_outputByte_0 : decode cX11_outputByte 0 = .ok (.iload_n 1, 1) := by decide +kernel
theorem dX11_outputByte_1 : decode cX11_outputByte 1 = .ok (.ifCond .lt 14, 3) := by decide +kernel
theorem dX11_outputByte_4 : decode cX11_outputByte 4 = .ok (.iload_n 1, 1) := by decide +kernel
theorem dX11_outputByte_5 : decode cX11_outputByte 5 = .ok (.aload_n 0, 1) := by decide +kernel
theorem dX11_outputByte_6 : decode cX11_outputByte 6 = .ok (.getfield 18, 3) := by decide +kernel
theorem dX11_outputByte_9 : decode cX11_outputByte 9 = .ok (.invokevirtual 75, 3) := by decide +kernel
theorem dX11_outputByte_12 : decode cX11_outputByte 12 = .ok (.if_icmp .lt 14, 3) := by decide +kernel
theorem dX11_outputByte_15 : decode cX11_outputByte 15 = .ok (.new 292, 3) := by decide +kernel
theorem dX11_outputByte_18 : decode cX11_outputByte 18 = .ok (.dup, 1) := by decide +kernel
theorem dX11_outputByte_19 : decode cX11_outputByte 19 = .ok (.ldc_w 294, 3) := by decide +kernel
theorem dX11_outputByte_22 : decode cX11_outputByte 22 = .ok (.invokespecial 296, 3) := by decide +kernel
theorem dX11_outputByte_25 : decode cX11_outputByte 25 = .ok (.athrow, 1) := by decide +kernel
theorem dX11_outputByte_26 : decode cX11_outputByte 26 = .ok (.aload_n 0, 1) := by decide +kernel
theorem dX11_outputByte_27 : decode cX11_outputByte 27 = .ok (.getfield 18, 3) := by decide +kernel
theorem dX11_outputByte_30 : decode cX11_outputByte 30 = .ok (.iload_n 1, 1) := by decide +kernel
theorem dX11_outputByte_31 : decode cX11_outputByte 31 = .ok (.invokevirtual 297, 3) := by decide +kernel
theorem dX11_outputByte_34 : decode cX11_outputByte 34 = .ok (.ireturn, 1) := by decide +kernel
set_option maxRecDepth 20000 in
theorem ggX11_save_X11_checkSlot : GoodIn wsX11_save wsX11_checkSlot := goodIn_ca (goodIn_r _ [7, 8, 9] (by decide +kernel) (by decide +kernel)) (goodIn_sub (fun _ h => List.mem_cons_of_mem _ (List.mem_append_right _ h)) (by decide +kernel))
set_option maxRecDepth 20000 in
theorem gX11_save_X11_checkSlot : GoodIn wsX11_save (wsV RX11 300 RX11 yX11_checkSlot wsX11_checkSlot) := goodIn_app (goodIn_of _ (by decide +kernel)) ggX11_save_X11_checkSlot
set_option maxRecDepth 20000 in
theorem ggX11_save_X4_put : GoodIn wsX11_save wsX4_put := goodIn_r _ [14, 15, 16, 17, 18, 19, 20, 21, 22, 23, 24, 25, 26, 27, 28, 29, 30, 31, 32, 33, 34, 35, 36, 37, 38, 39, 40, 41, 42, 43, 44, 45, 46, 47, 48, 49, 50, 51, 52, 53, 54, 55, 56, 57, 58, 59, 60, 61, 62, 63, 64, 65, 66, 67, 68, 69, 70, 71, 72, 73, 74, 75, 76, 77, 78, 79, 80, 81, 82, 83, 84, 85, 86, 87, 88, 89, 90, 91, 92, 93, 94, 95, 96, 97, 98, 99, 100, 101, 102, 103, 104, 105, 106, 107, 108, 109, 128, 118, 119, 120, 121, 122, 123, 124, 125, 126, 127, 129, 130, 131, 132, 133, 134, 135, 136, 137, 138, 139, 140, 141, 142, 143, 144, 145, 146, 147, 148, 149, 150, 151, 152] (by decide +kernel) (by decide +kernel)
set_option maxRecDepth 20000 in
theorem gX11_save_X4_put : GoodIn wsX11_save (wsV RX11 303 RX4 yX4_put wsX4_put) := goodIn_app (goodIn_of _ (by decide +kernel)) ggX11_save_X4_put
theorem dX11_save_0 : decode cX11_save 0 = .ok (.aload_n 0, 1) := by decide +kernel
theorem dX11_save_1 : decode cX11_save 1 = .ok (.iload_n 1, 1) := by decide +kernel
theorem dX11_save_2 : decode cX11_save 2 = .ok (.invokevirtual 300, 3) := by decide +kernel
theorem dX11_save_5 : decode cX11_save 5 = .ok (.aload_n 0, 1) := by decide +kernel
theorem dX11_save_6 : decode cX11_save 6 = .ok (.getfield 40, 3) := by decide +kernel
theorem dX11_save_9 : decode cX11_save 9 = .ok (.iload_n 1, 1) := by decide +kernel
theorem dX11_save_10 : decode cX11_save 10 = .ok (.aload_n 0, 1) := by decide +kernel
theorem dX11_save_11 : decode cX11_save 11 = .ok (.getfield 33, 3) := by decide +kernel
theorem dX11_save_14 : decode cX11_save 14 = .ok (.invokevirtual 303, 3) := by decide +kernel
theorem dX11_save_17 : decode cX11_save 17 = .ok (.aload_n 0, 1) := by decide +kernel
theorem dX11_save_18 : decode cX11_save 18 = .ok (.getfield 33, 3) := by decide +kernel
theorem dX11_save_21 : decode cX11_save 21 = .ok (.getfield 112, 3) := by decide +kernel
theorem dX11_save_24 : decode cX11_save 24 = .ok (.ireturn, 1) := by decide +kernel
set_option maxRecDepth 20000 in
theorem ggX11_restore_X11_checkSlot : GoodIn wsX11_restore wsX11_checkSlot := goodIn_ca (goodIn_r _ [9, 10, 11] (by decide +kernel) (by decide +kernel)) (goodIn_sub (fun _ h => List.mem_cons_of_mem _ (List.mem_append_right _ h)) (by decide +kernel))
set_option maxRecDepth 20000 in
theorem gX11_restore_X11_checkSlot : GoodIn wsX11_restore (wsV RX11 300 RX11 yX11_checkSlot wsX11_checkSlot) := goodIn_app (goodIn_of _ (by decide +kernel)) ggX11_restore_X11_checkSlot
set_option maxRecDepth 20000 in
theorem ggX11_restore_X4_isEmpty : GoodIn wsX11_restore wsX4_isEmpty := goodIn_r _ [16, 17, 146] (by decide +kernel) (by decide +kernel)
set_option maxRecDepth 20000 in
theorem gX11_restore_X4_isEmpty : GoodIn wsX11_restore (wsV RX11 307 RX4 yX4_isEmpty wsX4_isEmpty) := goodIn_app (goodIn_of _ (by decide +kernel)) ggX11_restore_X4_isEmpty
set_option maxRecDepth 20000 in
theorem ggX11_restore_X11_remember : GoodIn wsX11_restore wsX11_remember := goodIn_r _ [21, 22, 23, 4, 24, 25, 26, 27, 28, 29, 30, 31, 15, 32, 17, 33, 34, 35, 36, 37, 38, 39, 40, 41, 42, 43, 44, 45, 46, 47, 48, 49, 50, 51, 52, 53, 54, 55, 56, 57, 58, 59, 60, 61, 62, 63, 64, 65, 66, 67, 68, 69, 70, 71, 72, 73, 74, 75, 76, 77, 78, 79, 80, 81, 82, 83, 84, 85, 86, 87, 88, 89, 90, 91, 92, 93, 94, 95, 96, 97, 98, 99, 100, 101, 102, 103, 104, 105, 106, 107, 108, 109, 110, 111, 112, 113, 114, 115, 116, 117, 118, 119, 120, 121, 122, 123, 128, 129, 130, 131, 132, 133, 134, 135, 146, 136, 137, 138, 139, 140, 141, 142, 143, 144, 145, 147, 148, 149, 150, 151, 152, 153, 154, 155, 156, 157, 158, 159, 160, 161, 162, 163, 164, 165, 166, 167, 168, 169, 170] (by decide +kernel) (by decide +kernel)
set_option maxRecDepth 20000 in
theorem gX11_restore_X11_remember : GoodIn wsX11_restore (wsV RX11 95 RX11 yX11_remember wsX11_remember) := goodIn_app (goodIn_of _ (by decide +kernel)) ggX11_restore_X11_remember
set_option maxRecDepth 20000 in
theorem ggX11_restore_X4_copyInto : GoodIn wsX11_restore wsX4_copyInto := goodIn_r _ [127, 17, 92, 93, 94, 35, 95, 44, 48, 52, 56, 60, 96, 97, 98, 99, 100, 101, 102, 103, 104, 66, 105, 75, 106, 26, 27, 28, 107, 108, 109, 110, 111, 112, 113, 114, 115, 116, 117, 118, 119, 120, 121, 122, 123, 146, 136, 137, 138, 139, 140, 141, 142, 143, 144, 145, 147, 148, 149, 150, 155, 156, 157, 158, 159, 160, 161, 162, 151, 152, 153, 154, 163, 164, 165, 166, 167, 168, 169, 170] (by decide +kernel) (by decide +kernel)
set_option maxRecDepth 20000 in
theorem gX11_restore_X4_copyInto : GoodIn wsX11_restore (wsV RX11 312 RX4 yX4_copyInto wsX4_copyInto) := goodIn_app (goodIn_of _ (by decide +kernel)) ggX11_restore_X4_copyInto
theorem dX11_restore_0 : decode cX11_restore 0 = .ok (.aload_n 0, 1) := by decide +kernel
theorem dX11_restore_1 : decode cX11_restore 1 = .ok (.iload_n 1, 1) := by decide +kernel
theorem dX11_restore_2 : decode cX11_restore 2 = .ok (.invokevirtual 300, 3) := by decide +kernel
theorem dX11_restore_5 : decode cX11_restore 5 = .ok (.aload_n 0, 1) := by decide +kernel
theorem dX11_restore_6 : decode cX11_restore 6 = .ok (.getfield 40, 3) := by decide +kernel
theorem dX11_restore_9 : decode cX11_restore 9 = .ok (.iload_n 1, 1) := by decide +kernel
theorem dX11_restore_10 : decode cX11_restore 10 = .ok (.invokevirtual 307, 3) := by decide +kernel
theorem dX11_restore_13 : decode cX11_restore 13 = .ok (.ifCond .eq 14, 3) := by decide +kernel
theorem dX11_restore_16 : decode cX11_restore 16 = .ok (.new 79, 3) := by decide +kernel
theorem dX11_restore_19 : decode cX11_restore 19 = .ok (.dup, 1) := by decide +kernel
theorem dX11_restore_20 : decode cX11_restore 20 = .ok (.ldc_w 310, 3) := by decide +kernel
theorem dX11_restore_23 : decode cX11_restore 23 = .ok (.invokespecial 83, 3) := by decide +kernel
theorem dX11_restore_26 : decode cX11_restore 26 = .ok (.athrow, 1) := by decide +kernel
theorem dX11_restore_27 : decode cX11_restore 27 = .ok (.aload_n 0, 1) := by decide +kernel
theorem dX11_restore_28 : decode cX11_restore 28 = .ok (.invokevirtual 95, 3) := by decide +kernel
theorem dX11_restore_31 : decode cX11_restore 31 = .ok (.aload_n 0, 1) := by decide +kernel
theorem dX11_restore_32 : decode cX11_restore 32 = .ok (.getfield 40, 3) := by decide +kernel
theorem dX11_restore_35 : decode cX11_restore 35 = .ok (.aload_n 0, 1) := by decide +kernel
theorem dX11_restore_36 : decode cX11_restore 36 = .ok (.getfield 33, 3) := by decide +kernel
theorem dX11_restore_39 : decode cX11_restore 39 = .ok (.iload_n 1, 1) := by decide +kernel
theorem dX11_restore_40 : decode cX11_restore 40 = .ok (.invokevirtual 312, 3) := by decide +kernel
theorem dX11_restore_43 : decode cX11_restore 43 = .ok (.aload_n 0, 1) := by decide +kernel
theorem dX11_restore_44 : decode cX11_restore 44 = .ok (.getfield 33, 3) := by decide +kernel
theorem dX11_restore_47 : decode cX11_restore 47 = .ok (.getfield 112, 3) := by decide +kernel
theorem dX11_restore_50 : decode cX11_restore 50 = .ok (.ireturn, 1) := by decide +kernel
set_option maxRecDepth 20000 in
theorem ggX11_undo_X4_copyInto : GoodIn wsX11_undo wsX4_copyInto := goodIn_r _ [11, 12, 13, 14, 15, 16, 17, 18, 19, 20, 21, 22, 23, 24, 25, 26, 27, 28, 29, 30, 31, 32, 33, 34, 35, 36, 37, 38, 39, 40, 41, 42, 43, 44, 45, 46, 47, 48, 49, 50, 51, 52, 53, 54, 55, 64, 65, 66, 67, 68, 69, 70, 71, 72, 73, 74, 75, 76, 77, 78, 79, 80, 81, 82, 83, 84, 85, 86, 87, 88, 89, 90, 91, 92, 93, 94, 95, 96, 97, 98] (by decide +kernel) (by decide +kernel)
set_option maxRecDepth 20000 in
theorem gX11_undo_X4_copyInto : GoodIn wsX11_undo (wsV RX11 312 RX4 yX4_copyInto wsX4_copyInto) := goodIn_app (goodIn_of _ (by decide +kernel)) ggX11_undo_X4_copyInto
theorem dX11_undo_0 : decode cX11_undo 0 = .ok (.aload_n 0, 1) := by decide +kernel
theorem dX11_undo_1 : decode cX11_undo 1 = .ok (.getfield 316, 3) := by decide +kernel
theorem dX11_undo_4 : decode cX11_undo 4 = .ok (.ifCond .ne 14, 3) := by decide +kernel
theorem dX11_undo_7 : decode cX11_undo 7 = .ok (.new 79, 3) := by decide +kernel
theorem dX11_undo_10 : decode cX11_undo 10 = .ok (.dup, 1) := by decide +kernel
theorem dX11_undo_11 : decode cX11_undo 11 = .ok (.ldc_w 319, 3) := by decide +kernel
theorem dX11_undo_14 : decode cX11_undo 14 = .ok (.invokespecial 83, 3) := by decide +kernel
theorem dX11_undo_17 : decode cX11_undo 17 = .ok (.athrow, 1) := by decide +kernel
theorem dX11_undo_18 : decode cX11_undo 18 = .ok (.aload_n 0, 1) := by decide +kernel
theorem dX11_undo_19 : decode cX11_undo 19 = .ok (.aload_n 0, 1) := by decide +kernel
theorem dX11_undo_20 : decode cX11_undo 20 = .ok (.getfield 321, 3) := by decide +kernel
theorem dX11_undo_23 : decode cX11_undo 23 = .ok (.bipush 8, 2) := by decide +kernel
theorem dX11_undo_25 : decode cX11_undo 25 = .ok (.iadd, 1) := by decide +kernel
theorem dX11_undo_26 : decode cX11_undo 26 = .ok (.iconst 1, 1) := by decide +kernel
theorem dX11_undo_27 : decode cX11_undo 27 = .ok (.isub, 1) := by decide +kernel
theorem dX11_undo_28 : decode cX11_undo 28 = .ok (.bipush 8, 2) := by decide +kernel
theorem dX11_undo_30 : decode cX11_undo 30 = .ok (.irem, 1) := by decide +kernel
theorem dX11_undo_31 : decode cX11_undo 31 = .ok (.putfield 321, 3) := by decide +kernel
theorem dX11_undo_34 : decode cX11_undo 34 = .ok (.aload_n 0, 1) := by decide +kernel
theorem dX11_undo_35 : decode cX11_undo 35 = .ok (.getfield 44, 3) := by decide +kernel
theorem dX11_undo_38 : decode cX11_undo 38 = .ok (.aload_n 0, 1) := by decide +kernel
theorem dX11_undo_39 : decode cX11_undo 39 = .ok (.getfield 33, 3) := by decide +kernel
theorem dX11_undo_42 : decode cX11_undo 42 = .ok (.aload_n 0, 1) := by decide +kernel
theorem dX11_undo_43 : decode cX11_undo 43 = .ok (.getfield 321, 3) := by decide +kernel
theorem dX11_undo_46 : decode cX11_undo 46 = .ok (.invokevirtual 312, 3) := by decide +kernel
theorem dX11_undo_49 : decode cX11_undo 49 = .ok (.aload_n 0, 1) := by decide +kernel
theorem dX11_undo_50 : decode cX11_undo 50 = .ok (.dup, 1) := by decide +kernel
theorem dX11_undo_51 : decode cX11_undo 51 = .ok (.getfield 316, 3) := by decide +kernel
theorem dX11_undo_54 : decode cX11_undo 54 = .ok (.iconst 1, 1) := by decide +kernel
theorem dX11_undo_55 : decode cX11_undo 55 = .ok (.isub, 1) := by decide +kernel
theorem dX11_undo_56 : decode cX11_undo 56 = .ok (.putfield 316, 3) := by decide +kernel
theorem dX11_undo_59 : decode cX11_undo 59 = .ok (.aload_n 0, 1) := by decide +kernel
theorem dX11_undo_60 : decode cX11_undo 60 = .ok (.getfield 316, 3) := by decide +kernel
theorem dX11_undo_63 : decode cX11_undo 63 = .ok (.ireturn, 1) := by decide +kernel
set_option maxRecDepth 20000 in
theorem ggX11_remember_X4_put : GoodIn wsX11_remember wsX4_put := goodIn_r _ [13, 14, 15, 16, 17, 18, 19, 20, 21, 22, 23, 24, 25, 26, 27, 28, 29, 30, 31, 32, 33, 34, 35, 36, 37, 38, 39, 40, 41, 42, 43, 44, 45, 46, 47, 48, 49, 50, 51, 52, 53, 54, 7, 55, 56, 57, 58, 59, 60, 61, 62, 63, 64, 65, 66, 67, 68, 69, 70, 71, 72, 73, 74, 75, 76, 77, 78, 79, 80, 81, 82, 83, 84, 85, 86, 87, 88, 6, 8, 89, 90, 91, 92, 93, 94, 95, 96, 97, 98, 99, 100, 101, 102, 103, 104, 105, 114, 115, 116, 117, 118, 119, 120, 121, 122, 123, 124, 125, 126, 127, 128, 129, 130, 131, 132, 133, 134, 135, 136, 137, 138, 139, 140, 141, 142, 143, 144, 145, 146, 147, 148] (by decide +kernel) (by decide +kernel)
set_option maxRecDepth 20000 in
theorem gX11_remember_X4_put : GoodIn wsX11_remember (wsV RX11 303 RX4 yX4_put wsX4_put) := goodIn_app (goodIn_of _ (by decide +kernel)) ggX11_remember_X4_put
theorem dX11_remember_0 : decode cX11_remember 0 = .ok (.aload_n 0, 1) := by decide +kernel
theorem dX11_remember_1 : decode cX11_remember 1 = .ok (.getfield 44, 3) := by decide +kernel
theorem dX11_remember_4 : decode cX11_remember 4 = .ok (.aload_n 0, 1) := by decide +kernel
theorem dX11_remember_5 : decode cX11_remember 5 = .ok (.getfield 321, 3) := by decide +kernel
theorem dX11_remember_8 : decode cX11_remember 8 = .ok (.aload_n 0, 1) := by decide +kernel
theorem dX11_remember_9 : decode cX11_remember 9 = .ok (.getfield 33, 3) := by decide +kernel
theorem dX11_remember_12 : decode cX11_remember 12 = .ok (.invokevirtual 303, 3) := by decide +kernel
theorem dX11_remember_15 : decode cX11_remember 15 = .ok (.aload_n 0, 1) := by decide +kernel
theorem dX11_remember_16 : decode cX11_remember 16 = .ok (.aload_n 0, 1) := by decide +kernel
theorem dX11_remember_17 : decode cX11_remember 17 = .ok (.getfield 321, 3) := by decide +kernel
theorem dX11_remember_20 : decode cX11_remember 20 = .ok (.iconst 1, 1) := by decide +kernel
theorem dX11_remember_21 : decode cX11_remember 21 = .ok (.iadd, 1) := by decide +kernel
theorem dX11_remember_22 : decode cX11_remember 22 = .ok (.bipush 8, 2) := by decide +kernel
theorem dX11_remember_24 : decode cX11_remember 24 = .ok (.irem, 1) := by decide +kernel
theorem dX11_remember_25 : decode cX11_remember 25 = .ok (.putfield 321, 3) := by decide +kernel
theorem dX11_remember_28 : decode cX11_remember 28 = .ok (.aload_n 0, 1) := by decide +kernel
theorem dX11_remember_29 : decode cX11_remember 29 = .ok (.bipush 8, 2) := by decide +kernel
theorem dX11_remember_31 : decode cX11_remember 31 = .ok (.aload_n 0, 1) := by decide +kernel
theorem dX11_remember_32 : decode cX11_remember 32 = .ok (.getfield 316, 3) := by decide +kernel
theorem dX11_remember_35 : decode cX11_remember 35 = .ok (.iconst 1, 1) := by decide +kernel
theorem dX11_remember_36 : decode cX11_remember 36 = .ok (.iadd, 1) := by decide +kernel
theorem dX11_remember_37 : decode cX11_remember 37 = .ok (.invokestatic 324, 3) := by decide +kernel
theorem dX11_remember_40 : decode cX11_remember 40 = .ok (.putfield 316, 3) := by decide +kernel
theorem dX11_remember_43 : decode cX11_remember 43 = .ok (.return_, 1) := by decide +kernel
set_option maxRecDepth 20000 in
theorem ggX11_rowOf_X6_rowWith : GoodIn wsX11_rowOf wsX6_rowWith := goodIn_r _ [9, 10, 11, 12, 13, 14, 8, 15, 16, 17, 18, 19, 20, 21, 22, 41, 42, 43, 44, 45, 46, 47, 48, 49, 50, 51, 52, 53, 54, 55, 56, 57, 58, 59, 60, 61, 62, 63, 64] (by decide +kernel) (by decide +kernel)
set_option maxRecDepth 20000 in
theorem gX11_rowOf_X6_rowWith_u327X7 : GoodIn wsX11_rowOf (va_wsU RX11 327 RX7 "TicketGate$Table" ⟨"TicketGate$Tickets", "rowWith", "(II)I"⟩ yX6_rowWith wsX6_rowWith) := goodIn_app (goodIn_of _ (by decide +kernel)) ggX11_rowOf_X6_rowWith
theorem dX11_rowOf_0 : decode cX11_rowOf 0 = .ok (.aload_n 0, 1) := by decide +kernel
theorem dX11_rowOf_1 : decode cX11_rowOf 1 = .ok (.getfield 33, 3) := by decide +kernel
theorem dX11_rowOf_4 : decode cX11_rowOf 4 = .ok (.getfield 98, 3) := by decide +kernel
theorem dX11_rowOf_7 : decode cX11_rowOf 7 = .ok (.iconst 0, 1) := by decide +kernel
theorem dX11_rowOf_8 : decode cX11_rowOf 8 = .ok (.iload_n 1, 1) := by decide +kernel
theorem dX11_rowOf_9 : decode cX11_rowOf 9 = .ok (.invokevirtual 327, 3) := by decide +kernel
theorem dX11_rowOf_12 : decode cX11_rowOf 12 = .ok (.istore_n 2, 1) := by decide +kernel
theorem dX11_rowOf_13 : decode cX11_rowOf 13 = .ok (.iload_n 2, 1) := by decide +kernel
theorem dX11_rowOf_14 : decode cX11_rowOf 14 = .ok (.iconst (-1), 1) := by decide +kernel
theorem dX11_rowOf_15 : decode cX11_rowOf 15 = .ok (.if_icmp .ne 14, 3) := by decide +kernel
theorem dX11_rowOf_18 : decode cX11_rowOf 18 = .ok (.new 292, 3) := by decide +kernel
theorem dX11_rowOf_21 : decode cX11_rowOf 21 = .ok (.dup, 1) := by decide +kernel
theorem dX11_rowOf_22 : decode cX11_rowOf 22 = .ok (.ldc_w 330, 3) := by decide +kernel
theorem dX11_rowOf_25 : decode cX11_rowOf 25 = .ok (.invokespecial 296, 3) := by decide +kernel
theorem dX11_rowOf_28 : decode cX11_rowOf 28 = .ok (.athrow, 1) := by decide +kernel
theorem dX11_rowOf_29 : decode cX11_rowOf 29 = .ok (.iload_n 2, 1) := by decide +kernel
theorem dX11_rowOf_30 : decode cX11_rowOf 30 = .ok (.ireturn, 1) := by decide +kernel
set_option maxRecDepth 20000 in
theorem ggX11_checkRealm_X6_has : GoodIn wsX11_checkRealm wsX6_has := goodIn_r _ [9, 10, 29, 30, 31, 32, 33, 34, 35, 36, 37, 38, 39, 40, 41, 42, 43, 44, 45, 46, 47, 48, 49, 50, 51, 52] (by decide +kernel) (by decide +kernel)
set_option maxRecDepth 20000 in
theorem gX11_checkRealm_X6_has_u332X2 : GoodIn wsX11_checkRealm (va_wsU RX11 332 RX2 "TicketGate$Table" ⟨"TicketGate$Realms", "has", "(I)Z"⟩ yX6_has wsX6_has) := goodIn_app (goodIn_of _ (by decide +kernel)) ggX11_checkRealm_X6_has
theorem dX11_checkRealm_0 : decode cX11_checkRealm 0 = .ok (.aload_n 0, 1) := by decide +kernel
theorem dX11_checkRealm_1 : decode cX11_checkRealm 1 = .ok (.getfield 33, 3) := by decide +kernel
theorem dX11_checkRealm_4 : decode cX11_checkRealm 4 = .ok (.getfield 118, 3) := by decide +kernel
theorem dX11_checkRealm_7 : decode cX11_checkRealm 7 = .ok (.iload_n 1, 1) := by decide +kernel
theorem dX11_checkRealm_8 : decode cX11_checkRealm 8 = .ok (.invokevirtual 332, 3) := by decide +kernel
theorem dX11_checkRealm_11 : decode cX11_checkRealm 11 = .ok (.ifCond .ne 14, 3) := by decide +kernel
theorem dX11_checkRealm_14 : decode cX11_checkRealm 14 = .ok (.new 178, 3) := by decide +kernel
theorem dX11_checkRealm_17 : decode cX11_checkRealm 17 = .ok (.dup, 1) := by decide +kernel
theorem dX11_checkRealm_18 : decode cX11_checkRealm 18 = .ok (.ldc_w 333, 3) := by decide +kernel
theorem dX11_checkRealm_21 : decode cX11_checkRealm 21 = .ok (.invokespecial 182, 3) := by decide +kernel
theorem dX11_checkRealm_24 : decode cX11_checkRealm 24 = .ok (.athrow, 1) := by decide +kernel
theorem dX11_checkRealm_25 : decode cX11_checkRealm 25 = .ok (.return_, 1) := by decide +kernel
set_option maxRecDepth 20000 in
theorem ggX11_checkUser_X6_has : GoodIn wsX11_checkUser wsX6_has := goodIn_r _ [9, 10, 29, 30, 31, 32, 33, 34, 35, 36, 37, 38, 39, 40, 41, 42, 43, 44, 45, 46, 47, 48, 49, 50, 51, 52] (by decide +kernel) (by decide +kernel)
set_option maxRecDepth 20000 in
theorem gX11_checkUser_X6_has_u335X8 : GoodIn wsX11_checkUser (va_wsU RX11 335 RX8 "TicketGate$Table" ⟨"TicketGate$Users", "has", "(I)Z"⟩ yX6_has wsX6_has) := goodIn_app (goodIn_of _ (by decide +kernel)) ggX11_checkUser_X6_has
theorem dX11_checkUser_0 : decode cX11_checkUser 0 = .ok (.aload_n 0, 1) := by decide +kernel
theorem dX11_checkUser_1 : decode cX11_checkUser 1 = .ok (.getfield 33, 3) := by decide +kernel
theorem dX11_checkUser_4 : decode cX11_checkUser 4 = .ok (.getfield 125, 3) := by decide +kernel
theorem dX11_checkUser_7 : decode cX11_checkUser 7 = .ok (.iload_n 1, 1) := by decide +kernel
theorem dX11_checkUser_8 : decode cX11_checkUser 8 = .ok (.invokevirtual 335, 3) := by decide +kernel
theorem dX11_checkUser_11 : decode cX11_checkUser 11 = .ok (.ifCond .ne 14, 3) := by decide +kernel
theorem dX11_checkUser_14 : decode cX11_checkUser 14 = .ok (.new 178, 3) := by decide +kernel
theorem dX11_checkUser_17 : decode cX11_checkUser 17 = .ok (.dup, 1) := by decide +kernel
theorem dX11_checkUser_18 : decode cX11_checkUser 18 = .ok (.ldc_w 336, 3) := by decide +kernel
theorem dX11_checkUser_21 : decode cX11_checkUser 21 = .ok (.invokespecial 182, 3) := by decide +kernel
theorem dX11_checkUser_24 : decode cX11_checkUser 24 = .ok (.athrow, 1) := by decide +kernel
theorem dX11_checkUser_25 : decode cX11_checkUser 25 = .ok (.return_, 1) := by decide +kernel
set_option maxRecDepth 20000 in
theorem ggX11_checkService_X6_has : GoodIn wsX11_checkService wsX6_has := goodIn_r _ [9, 10, 29, 30, 31, 32, 33, 34, 35, 36, 37, 38, 39, 40, 41, 42, 43, 44, 45, 46, 47, 48, 49, 50, 51, 52] (by decide +kernel) (by decide +kernel)
set_option maxRecDepth 20000 in
theorem gX11_checkService_X6_has_u338X3 : GoodIn wsX11_checkService (va_wsU RX11 338 RX3 "TicketGate$Table" ⟨"TicketGate$Services", "has", "(I)Z"⟩ yX6_has wsX6_has) := goodIn_app (goodIn_of _ (by decide +kernel)) ggX11_checkService_X6_has
theorem dX11_checkService_0 : decode cX11_checkService 0 = .ok (.aload_n 0, 1) := by decide +kernel
theorem dX11_checkService_1 : decode cX11_checkService 1 = .ok (.getfield 33, 3) := by decide +kernel
theorem dX11_checkService_4 : decode cX11_checkService 4 = .ok (.getfield 132, 3) := by decide +kernel
theorem dX11_checkService_7 : decode cX11_checkService 7 = .ok (.iload_n 1, 1) := by decide +kernel
theorem dX11_checkService_8 : decode cX11_checkService 8 = .ok (.invokevirtual 338, 3) := by decide +kernel
theorem dX11_checkService_11 : decode cX11_checkService 11 = .ok (.ifCond .ne 14, 3) := by decide +kernel
theorem dX11_checkService_14 : decode cX11_checkService 14 = .ok (.new 178, 3) := by decide +kernel
theorem dX11_checkService_17 : decode cX11_checkService 17 = .ok (.dup, 1) := by decide +kernel
theorem dX11_checkService_18 : decode cX11_checkService 18 = .ok (.ldc_w 339, 3) := by decide +kernel
theorem dX11_checkService_21 : decode cX11_checkService 21 = .ok (.invokespecial 182, 3) := by decide +kernel
theorem dX11_checkService_24 : decode cX11_checkService 24 = .ok (.athrow, 1) := by decide +kernel
theorem dX11_checkService_25 : decode cX11_checkService 25 = .ok (.return_, 1) := by decide +kernel
theorem dX11_checkSlot_0 : decode cX11_checkSlot 0 = .ok (.iload_n 1, 1) := by decide +kernel
theorem dX11_checkSlot_1 : decode cX11_checkSlot 1 = .ok (.ifCond .lt 8, 3) := by decide +kernel
theorem dX11_checkSlot_4 : decode cX11_checkSlot 4 = .ok (.iload_n 1, 1) := by decide +kernel
theorem dX11_checkSlot_5 : decode cX11_checkSlot 5 = .ok (.iconst 2, 1) := by decide +kernel
theorem dX11_checkSlot_6 : decode cX11_checkSlot 6 = .ok (.if_icmp .lt 14, 3) := by decide +kernel
theorem dX11_checkSlot_9 : decode cX11_checkSlot 9 = .ok (.new 178, 3) := by decide +kernel
theorem dX11_checkSlot_12 : decode cX11_checkSlot 12 = .ok (.dup, 1) := by decide +kernel
theorem dX11_checkSlot_13 : decode cX11_checkSlot 13 = .ok (.ldc_w 341, 3) := by decide +kernel
theorem dX11_checkSlot_16 : decode cX11_checkSlot 16 = .ok (.invokespecial 182, 3) := by decide +kernel
theorem dX11_checkSlot_19 : decode cX11_checkSlot 19 = .ok (.athrow, 1) := by decide +kernel
theorem dX11_checkSlot_20 : decode cX11_checkSlot 20 = .ok (.return_, 1) := by decide +kernel
theorem dX11_checkPassword_0 : decode cX11_checkPassword 0 = .ok (.iload_n 1, 1) := by decide +kernel
theorem dX11_checkPassword_1 : decode cX11_checkPassword 1 = .ok (.ifCond .lt 10, 3) := by decide +kernel
theorem dX11_checkPassword_4 : decode cX11_checkPassword 4 = .ok (.iload_n 1, 1) := by decide +kernel
theorem dX11_checkPassword_5 : decode cX11_checkPassword 5 = .ok (.sipush 9999, 3) := by decide +kernel
theorem dX11_checkPassword_8 : decode cX11_checkPassword 8 = .ok (.if_icmp .le 14, 3) := by decide +kernel
theorem dX11_checkPassword_11 : decode cX11_checkPassword 11 = .ok (.new 88, 3) := by decide +kernel
theorem dX11_checkPassword_14 : decode cX11_checkPassword 14 = .ok (.dup, 1) := by decide +kernel
theorem dX11_checkPassword_15 : decode cX11_checkPassword 15 = .ok (.ldc_w 343, 3) := by decide +kernel
theorem dX11_checkPassword_18 : decode cX11_checkPassword 18 = .ok (.invokespecial 92, 3) := by decide +kernel
theorem dX11_checkPassword_21 : decode cX11_checkPassword 21 = .ok (.athrow, 1) := by decide +kernel
theorem dX11_checkPassword_22 : decode cX11_checkPassword 22 = .ok (.return_, 1) := by decide +kernel
theorem dX11_checkAllowed_0 : decode cX11_checkAllowed 0 = .ok (.iload_n 1, 1) := by decide +kernel
theorem dX11_checkAllowed_1 : decode cX11_checkAllowed 1 = .ok (.ifCond .eq 14, 3) := by decide +kernel
theorem dX11_checkAllowed_4 : decode cX11_checkAllowed 4 = .ok (.new 79, 3) := by decide +kernel
theorem dX11_checkAllowed_7 : decode cX11_checkAllowed 7 = .ok (.dup, 1) := by decide +kernel
theorem dX11_checkAllowed_8 : decode cX11_checkAllowed 8 = .ok (.ldc_w 345, 3) := by decide +kernel
theorem dX11_checkAllowed_11 : decode cX11_checkAllowed 11 = .ok (.invokespecial 83, 3) := by decide +kernel
theorem dX11_checkAllowed_14 : decode cX11_checkAllowed 14 = .ok (.athrow, 1) := by decide +kernel
theorem dX11_checkAllowed_15 : decode cX11_checkAllowed 15 = .ok (.return_, 1) := by decide +kernel
set_option maxRecDepth 20000 in
theorem ggX12_init_X12_layInput : GoodIn wsX12_init wsX12_layInput := goodIn_r _ [23, 13, 18, 24, 25, 26, 27, 28, 29, 30, 31, 32, 33, 34, 35, 36, 37, 38, 39, 40, 41, 42, 43, 44, 45, 46, 47, 48, 49, 50, 51, 52, 53, 54, 55, 56, 57, 58, 59, 60, 61, 62, 63, 64, 65, 66, 67, 68, 69, 70, 71, 72, 328, 329, 330, 331, 332, 333, 334, 335, 336, 337, 338, 339, 340, 341, 342, 343, 344, 345, 346, 347, 348, 349] (by decide +kernel) (by decide +kernel)
set_option maxRecDepth 20000 in
theorem gX12_init_X12_layInput : GoodIn wsX12_init (wsV RX12 48 RX12 yX12_layInput wsX12_layInput) := goodIn_app (goodIn_of _ (by decide +kernel)) ggX12_init_X12_layInput
set_option maxRecDepth 20000 in
theorem ggX12_init_X12_read : GoodIn wsX12_init wsX12_read := goodIn_r _ [76, 77, 14, 78, 6, 79, 80, 81, 82, 22, 83, 84, 85, 86, 87, 88, 89, 90, 91, 18, 13, 92, 93, 94, 95, 96, 97, 98, 99, 100, 101, 24, 25, 26, 27, 28, 29, 30, 31, 32, 33, 34, 35, 36, 37, 38, 39, 40, 41, 42, 43, 44, 45, 46, 47, 48, 49, 50, 51, 52, 53, 54, 55, 56, 57, 58, 59, 60, 61, 62, 63, 64, 65, 66, 67, 68, 69, 70, 71, 72, 102, 103, 104, 105, 106, 107, 108, 109, 110, 111, 112, 113, 114, 115, 116, 117, 118, 119, 120, 121, 122, 123, 124, 125, 126, 127, 128, 129, 130, 131, 132, 133, 134, 135, 136, 137, 138, 139, 140, 141, 142, 143, 144, 145, 146, 147, 148, 149, 150, 151, 152, 153, 154, 155, 156, 157, 158, 159, 160, 161, 162, 163, 164, 165, 166, 167, 168, 169, 170, 171, 172, 173, 174, 175, 176, 177, 178, 179, 180, 181, 182, 183, 184, 185, 186, 187, 188, 189, 190, 191, 192, 193, 194, 195, 196, 197, 198, 199, 200, 201, 202, 203, 204, 205, 206, 207, 208, 209, 210, 211, 212, 213, 214, 215, 216, 217, 218, 219, 220, 221, 222, 223, 224, 225, 226, 227, 228, 229, 230, 231, 232, 233, 234, 235, 236, 237, 238, 239, 240, 241, 242, 243, 244, 245, 246, 247, 248, 249, 250, 251, 252, 253, 254, 255, 256, 257, 258, 259, 260, 261, 262, 263, 264, 265, 266, 267, 268, 269, 270, 271, 272, 273, 274, 275, 276, 277, 278, 279, 280, 281, 282, 283, 284, 285, 286, 287, 288, 289, 290, 291, 292, 293, 294, 295, 296, 297, 298, 299, 300, 301, 302, 303, 304, 305, 306, 307, 308, 309, 310, 311, 312, 313, 314, 315, 316, 317, 318, 319, 320, 321, 322, 323, 324, 328, 329, 330, 331, 332, 333, 334, 335, 336, 337, 338, 339, 340, 341, 342, 343, 344, 345, 346, 347, 348, 349] (by decide +kernel) (by decide +kernel)
set_option maxRecDepth 20000 in
theorem gX12_init_X12_read : GoodIn wsX12_init (wsV RX12 52 RX12 yX12_read wsX12_read) := goodIn_app (goodIn_of _ (by decide +kernel)) ggX12_init_X12_read
set_option maxRecDepth 20000 in
theorem ggX12_init_X12_copyRow : GoodIn wsX12_init wsX12_copyRow := goodIn_r _ [327] (by decide +kernel) (by decide +kernel)
set_option maxRecDepth 20000 in
theorem gX12_init_X12_copyRow : GoodIn wsX12_init (va_wsS RX12 58 yX12_copyRow wsX12_copyRow) := goodIn_app (goodIn_of _ (by decide +kernel)) ggX12_init_X12_copyRow
theorem dX12_init_0 : decode cX12_init 0 = .ok (.aload_n 0, 1) := by decide +kernel
theorem dX12_init_1 : decode cX12_init 1 = .ok (.invokespecial 1, 3) := by decide +kernel
theorem dX12_init_4 : decode cX12_init 4 = .ok (.aload_n 0, 1) := by decide +kernel
theorem dX12_init_5 : decode cX12_init 5 = .ok (.sipush 463, 3) := by decide +kernel
theorem dX12_init_8 : decode cX12_init 8 = .ok (.newarray .int, 2) := by decide +kernel
theorem dX12_init_10 : decode cX12_init 10 = .ok (.putfield 7, 3) := by decide +kernel
theorem dX12_init_13 : decode cX12_init 13 = .ok (.aload_n 0, 1) := by decide +kernel
theorem dX12_init_14 : decode cX12_init 14 = .ok (.sipush 463, 3) := by decide +kernel
theorem dX12_init_17 : decode cX12_init 17 = .ok (.newarray .int, 2) := by decide +kernel
theorem dX12_init_19 : decode cX12_init 19 = .ok (.putfield 13, 3) := by decide +kernel
theorem dX12_init_22 : decode cX12_init 22 = .ok (.aload_n 0, 1) := by decide +kernel
theorem dX12_init_23 : decode cX12_init 23 = .ok (.sipush 463, 3) := by decide +kernel
theorem dX12_init_26 : decode cX12_init 26 = .ok (.newarray .int, 2) := by decide +kernel
theorem dX12_init_28 : decode cX12_init 28 = .ok (.putfield 16, 3) := by decide +kernel
theorem dX12_init_31 : decode cX12_init 31 = .ok (.aload_n 0, 1) := by decide +kernel
theorem dX12_init_32 : decode cX12_init 32 = .ok (.sipush 3704, 3) := by decide +kernel
theorem dX12_init_35 : decode cX12_init 35 = .ok (.newarray .int, 2) := by decide +kernel
theorem dX12_init_37 : decode cX12_init 37 = .ok (.putfield 19, 3) := by decide +kernel
theorem dX12_init_40 : decode cX12_init 40 = .ok (.aload_n 0, 1) := by decide +kernel
theorem dX12_init_41 : decode cX12_init 41 = .ok (.sipush 926, 3) := by decide +kernel
theorem dX12_init_44 : decode cX12_init 44 = .ok (.newarray .int, 2) := by decide +kernel
theorem dX12_init_46 : decode cX12_init 46 = .ok (.putfield 22, 3) := by decide +kernel
theorem dX12_init_49 : decode cX12_init 49 = .ok (.aload_n 0, 1) := by decide +kernel
theorem dX12_init_50 : decode cX12_init 50 = .ok (.iconst 2, 1) := by decide +kernel
theorem dX12_init_51 : decode cX12_init 51 = .ok (.newarray .boolean, 2) := by decide +kernel
theorem dX12_init_53 : decode cX12_init 53 = .ok (.putfield 25, 3) := by decide +kernel
theorem dX12_init_56 : decode cX12_init 56 = .ok (.aload_n 0, 1) := by decide +kernel
theorem dX12_init_57 : decode cX12_init 57 = .ok (.iconst 5, 1) := by decide +kernel
theorem dX12_init_58 : decode cX12_init 58 = .ok (.newarray .int, 2) := by decide +kernel
theorem dX12_init_60 : decode cX12_init 60 = .ok (.putfield 29, 3) := by decide +kernel
theorem dX12_init_63 : decode cX12_init 63 = .ok (.aload_n 0, 1) := by decide +kernel
theorem dX12_init_64 : decode cX12_init 64 = .ok (.sipush 600, 3) := by decide +kernel
theorem dX12_init_67 : decode cX12_init 67 = .ok (.newarray .int, 2) := by decide +kernel
theorem dX12_init_69 : decode cX12_init 69 = .ok (.putfield 32, 3) := by decide +kernel
theorem dX12_init_72 : decode cX12_init 72 = .ok (.aload_n 0, 1) := by decide +kernel
theorem dX12_init_73 : decode cX12_init 73 = .ok (.iconst (-1), 1) := by decide +kernel
theorem dX12_init_74 : decode cX12_init 74 = .ok (.putfield 35, 3) := by decide +kernel
theorem dX12_init_77 : decode cX12_init 77 = .ok (.aload_n 0, 1) := by decide +kernel
theorem dX12_init_78 : decode cX12_init 78 = .ok (.bipush 25, 2) := by decide +kernel
theorem dX12_init_80 : decode cX12_init 80 = .ok (.newarray .int, 2) := by decide +kernel
theorem dX12_init_82 : decode cX12_init 82 = .ok (.putfield 39, 3) := by decide +kernel
theorem dX12_init_85 : decode cX12_init 85 = .ok (.aload_n 0, 1) := by decide +kernel
theorem dX12_init_86 : decode cX12_init 86 = .ok (.bipush 60, 2) := by decide +kernel
theorem dX12_init_88 : decode cX12_init 88 = .ok (.newarray .byte, 2) := by decide +kernel
theorem dX12_init_90 : decode cX12_init 90 = .ok (.putfield 42, 3) := by decide +kernel
theorem dX12_init_93 : decode cX12_init 93 = .ok (.aload_n 0, 1) := by decide +kernel
theorem dX12_init_94 : decode cX12_init 94 = .ok (.ldc 46, 2) := by decide +kernel
theorem dX12_init_96 : decode cX12_init 96 = .ok (.invokevirtual 48, 3) := by decide +kernel
theorem dX12_init_99 : decode cX12_init 99 = .ok (.aload_n 0, 1) := by decide +kernel
theorem dX12_init_100 : decode cX12_init 100 = .ok (.invokevirtual 52, 3) := by decide +kernel
theorem dX12_init_103 : decode cX12_init 103 = .ok (.aload_n 0, 1) := by decide +kernel
theorem dX12_init_104 : decode cX12_init 104 = .ok (.iconst 0, 1) := by decide +kernel
theorem dX12_init_105 : decode cX12_init 105 = .ok (.putfield 55, 3) := by decide +kernel
theorem dX12_init_108 : decode cX12_init 108 = .ok (.aload_n 0, 1) := by decide +kernel
theorem dX12_init_109 : decode cX12_init 109 = .ok (.getfield 13, 3) := by decide +kernel
theorem dX12_init_112 : decode cX12_init 112 = .ok (.iconst 0, 1) := by decide +kernel
theorem dX12_init_113 : decode cX12_init 113 = .ok (.aload_n 0, 1) := by decide +kernel
theorem dX12_init_114 : decode cX12_init 114 = .ok (.getfield 7, 3) := by decide +kernel
theorem dX12_init_117 : decode cX12_init 117 = .ok (.iconst 0, 1) := by decide +kernel
theorem dX12_init_118 : decode cX12_init 118 = .ok (.invokestatic 58, 3) := by decide +kernel
theorem dX12_init_121 : decode cX12_init 121 = .ok (.return_, 1) := by decide +kernel
set_option maxRecDepth 20000 in
theorem ggX12_layInput_J0_length_8abf5 : GoodIn wsX12_layInput wsJ0_length_8abf5 := goodIn_r _ [7, 8, 9, 10, 11, 6, 12, 13, 14] (by decide +kernel) (by decide +kernel)
set_option maxRecDepth 20000 in
theorem gX12_layInput_J0_length_8abf5 : GoodIn wsX12_layInput (wsV RX12 62 RJ0 yJ0_length_8abf5 wsJ0_length_8abf5) := goodIn_app (goodIn_of _ (by decide +kernel)) ggX12_layInput_J0_length_8abf5
set_option maxRecDepth 20000 in
theorem ggX12_layInput_J0_charAt_5068e : GoodIn wsX12_layInput wsJ0_charAt_5068e := goodIn_r _ [18, 8, 19, 20, 21, 6, 22, 13, 14, 23, 24, 25, 26, 27, 28, 29, 30, 31, 32, 33, 34, 35, 36, 37, 38, 39, 40, 41, 42, 43, 44, 45, 46, 47, 48, 49, 50, 51] (by decide +kernel) (by decide +kernel)
set_option maxRecDepth 20000 in
theorem gX12_layInput_J0_charAt_5068e : GoodIn wsX12_layInput (wsV RX12 68 RJ0 yJ0_charAt_5068e wsJ0_charAt_5068e) := goodIn_app (goodIn_of _ (by decide +kernel)) ggX12_layInput_J0_charAt_5068e
theorem dX12_layInput_0 : decode cX12_layInput 0 = .ok (.iconst 0, 1) := by decide +kernel
theorem dX12_layInput_1 : decode cX12_layInput 1 = .ok (.istore_n 2, 1) := by decide +kernel
theorem dX12_layInput_2 : decode cX12_layInput 2 = .ok (.iload_n 2, 1) := by decide +kernel
theorem dX12_layInput_3 : decode cX12_layInput 3 = .ok (.aload_n 1, 1) := by decide +kernel
theorem dX12_layInput_4 : decode cX12_layInput 4 = .ok (.invokevirtual 62, 3) := by decide +kernel
theorem dX12_layInput_7 : decode cX12_layInput 7 = .ok (.if_icmp .ge 20, 3) := by decide +kernel
theorem dX12_layInput_10 : decode cX12_layInput 10 = .ok (.aload_n 0, 1) := by decide +kernel
theorem dX12_layInput_11 : decode cX12_layInput 11 = .ok (.getfield 32, 3) := by decide +kernel
theorem dX12_layInput_14 : decode cX12_layInput 14 = .ok (.iload_n 2, 1) := by decide +kernel
theorem dX12_layInput_15 : decode cX12_layInput 15 = .ok (.aload_n 1, 1) := by decide +kernel
theorem dX12_layInput_16 : decode cX12_layInput 16 = .ok (.iload_n 2, 1) := by decide +kernel
theorem dX12_layInput_17 : decode cX12_layInput 17 = .ok (.invokevirtual 68, 3) := by decide +kernel
theorem dX12_layInput_20 : decode cX12_layInput 20 = .ok (.iastore, 1) := by decide +kernel
theorem dX12_layInput_21 : decode cX12_layInput 21 = .ok (.iinc 2 1, 3) := by decide +kernel
theorem dX12_layInput_24 : decode cX12_layInput 24 = .ok (.goto (-22), 3) := by decide +kernel
theorem dX12_layInput_27 : decode cX12_layInput 27 = .ok (.aload_n 0, 1) := by decide +kernel
theorem dX12_layInput_28 : decode cX12_layInput 28 = .ok (.aload_n 1, 1) := by decide +kernel
theorem dX12_layInput_29 : decode cX12_layInput 29 = .ok (.invokevirtual 62, 3) := by decide +kernel
theorem dX12_layInput_32 : decode cX12_layInput 32 = .ok (.putfield 55, 3) := by decide +kernel
theorem dX12_layInput_35 : decode cX12_layInput 35 = .ok (.return_, 1) := by decide +kernel
theorem dX12_thrown_0 : decode cX12_thrown 0 = .ok (.aload_n 0, 1) := by decide +kernel
theorem dX12_thrown_1 : decode cX12_thrown 1 = .ok (.getfield 72, 3) := by decide +kernel
theorem dX12_thrown_4 : decode cX12_thrown 4 = .ok (.ireturn, 1) := by decide +kernel
theorem dX12_refuses_0 : decode cX12_refuses 0 = .ok (.iload_n 1, 1) := by decide +kernel
theorem dX12_refuses_1 : decode cX12_refuses 1 = .ok (.ifCond .eq 15, 3) := by decide +kernel
theorem dX12_refuses_4 : decode cX12_refuses 4 = .ok (.aload_n 0, 1) := by decide +kernel
theorem dX12_refuses_5 : decode cX12_refuses 5 = .ok (.getfield 72, 3) := by decide +kernel
theorem dX12_refuses_8 : decode cX12_refuses 8 = .ok (.ifCond .ne 8, 3) := by decide +kernel
theorem dX12_refuses_11 : decode cX12_refuses 11 = .ok (.aload_n 0, 1) := by decide +kernel
theorem dX12_refuses_12 : decode cX12_refuses 12 = .ok (.iload_n 2, 1) := by decide +kernel
theorem dX12_refuses_13 : decode cX12_refuses 13 = .ok (.putfield 72, 3) := by decide +kernel
theorem dX12_refuses_16 : decode cX12_refuses 16 = .ok (.aload_n 0, 1) := by decide +kernel
theorem dX12_refuses_17 : decode cX12_refuses 17 = .ok (.getfield 72, 3) := by decide +kernel
theorem dX12_refuses_20 : decode cX12_refuses 20 = .ok (.ifCond .eq 7, 3) := by decide +kernel
theorem dX12_refuses_23 : decode cX12_refuses 23 = .ok (.iconst 1, 1) := by decide +kernel
theorem dX12_refuses_24 : decode cX12_refuses 24 = .ok (.goto 4, 3) := by decide +kernel
theorem dX12_refuses_27 : decode cX12_refuses 27 = .ok (.iconst 0, 1) := by decide +kernel
theorem dX12_refuses_28 : decode cX12_refuses 28 = .ok (.ireturn, 1) := by decide +kernel
theorem dX12_isBetween_0 : decode cX12_isBetween 0 = .ok (.iload_n 0, 1) := by decide +kernel
theorem dX12_isBetween_1 : decode cX12_isBetween 1 = .ok (.iload_n 1, 1) := by decide +kernel
theorem dX12_isBetween_2 : decode cX12_isBetween 2 = .ok (.if_icmp .lt 12, 3) := by decide +kernel
theorem dX12_isBetween_5 : decode cX12_isBetween 5 = .ok (.iload_n 0, 1) := by decide +kernel
theorem dX12_isBetween_6 : decode cX12_isBetween 6 = .ok (.iload_n 2, 1) := by decide +kernel
theorem dX12_isBetween_7 : decode cX12_isBetween 7 = .ok (.if_icmp .gt 7, 3) := by decide +kernel
theorem dX12_isBetween_10 : decode cX12_isBetween 10 = .ok (.iconst 1, 1) := by decide +kernel
theorem dX12_isBetween_11 : decode cX12_isBetween 11 = .ok (.goto 4, 3) := by decide +kernel
theorem dX12_isBetween_14 : decode cX12_isBetween 14 = .ok (.iconst 0, 1) := by decide +kernel
theorem dX12_isBetween_15 : decode cX12_isBetween 15 = .ok (.ireturn, 1) := by decide +kernel
theorem dX12_copyRow_0 : decode cX12_copyRow 0 = .ok (.iconst 0, 1) := by decide +kernel
theorem dX12_copyRow_1 : decode cX12_copyRow 1 = .ok (.istore 4, 2) := by decide +kernel
theorem dX12_copyRow_3 : decode cX12_copyRow 3 = .ok (.iload 4, 2) := by decide +kernel
theorem dX12_copyRow_5 : decode cX12_copyRow 5 = .ok (.sipush 463, 3) := by decide +kernel
theorem dX12_copyRow_8 : decode cX12_copyRow 8 = .ok (.if_icmp .ge 21, 3) := by decide +kernel
theorem dX12_copyRow_11 : decode cX12_copyRow 11 = .ok (.aload_n 2, 1) := by decide +kernel
theorem dX12_copyRow_12 : decode cX12_copyRow 12 = .ok (.iload_n 3, 1) := by decide +kernel
theorem dX12_copyRow_13 : decode cX12_copyRow 13 = .ok (.iload 4, 2) := by decide +kernel
theorem dX12_copyRow_15 : decode cX12_copyRow 15 = .ok (.iadd, 1) := by decide +kernel
theorem dX12_copyRow_16 : decode cX12_copyRow 16 = .ok (.aload_n 0, 1) := by decide +kernel
theorem dX12_copyRow_17 : decode cX12_copyRow 17 = .ok (.iload_n 1, 1) := by decide +kernel
theorem dX12_copyRow_18 : decode cX12_copyRow 18 = .ok (.iload 4, 2) := by decide +kernel
theorem dX12_copyRow_20 : decode cX12_copyRow 20 = .ok (.iadd, 1) := by decide +kernel
theorem dX12_copyRow_21 : decode cX12_copyRow 21 = .ok (.iaload, 1) := by decide +kernel
theorem dX12_copyRow_22 : decode cX12_copyRow 22 = .ok (.iastore, 1) := by decide +kernel
theorem dX12_copyRow_23 : decode cX12_copyRow 23 = .ok (.iinc 4 1, 3) := by decide +kernel
theorem dX12_copyRow_26 : decode cX12_copyRow 26 = .ok (.goto (-23), 3) := by decide +kernel
theorem dX12_copyRow_29 : decode cX12_copyRow 29 = .ok (.return_, 1) := by decide +kernel
theorem dX12_lesser_0 : decode cX12_lesser 0 = .ok (.iload_n 0, 1) := by decide +kernel
theorem dX12_lesser_1 : decode cX12_lesser 1 = .ok (.iload_n 1, 1) := by decide +kernel
theorem dX12_lesser_2 : decode cX12_lesser 2 = .ok (.if_icmp .ge 7, 3) := by decide +kernel
theorem dX12_lesser_5 : decode cX12_lesser 5 = .ok (.iload_n 0, 1) := by decide +kernel
theorem dX12_lesser_6 : decode cX12_lesser 6 = .ok (.goto 4, 3) := by decide +kernel
theorem dX12_lesser_9 : decode cX12_lesser 9 = .ok (.iload_n 1, 1) := by decide +kernel
theorem dX12_lesser_10 : decode cX12_lesser 10 = .ok (.ireturn, 1) := by decide +kernel
theorem dX12_greater_0 : decode cX12_greater 0 = .ok (.iload_n 0, 1) := by decide +kernel
theorem dX12_greater_1 : decode cX12_greater 1 = .ok (.iload_n 1, 1) := by decide +kernel
theorem dX12_greater_2 : decode cX12_greater 2 = .ok (.if_icmp .le 7, 3) := by decide +kernel
theorem dX12_greater_5 : decode cX12_greater 5 = .ok (.iload_n 0, 1) := by decide +kernel
theorem dX12_greater_6 : decode cX12_greater 6 = .ok (.goto 4, 3) := by decide +kernel
theorem dX12_greater_9 : decode cX12_greater 9 = .ok (.iload_n 1, 1) := by decide +kernel
theorem dX12_greater_10 : decode cX12_greater 10 = .ok (.ireturn, 1) := by decide +kernel
theorem dX12_ofRealm_0 : decode cX12_ofRealm 0 = .ok (.bipush 10, 2) := by decide +kernel
theorem dX12_ofRealm_2 : decode cX12_ofRealm 2 = .ok (.iconst 4, 1) := by decide +kernel
theorem dX12_ofRealm_3 : decode cX12_ofRealm 3 = .ok (.iload_n 0, 1) := by decide +kernel
theorem dX12_ofRealm_4 : decode cX12_ofRealm 4 = .ok (.imul, 1) := by decide +kernel
theorem dX12_ofRealm_5 : decode cX12_ofRealm 5 = .ok (.iadd, 1) := by decide +kernel
theorem dX12_ofRealm_6 : decode cX12_ofRealm 6 = .ok (.ireturn, 1) := by decide +kernel
theorem dX12_ofUser_0 : decode cX12_ofUser 0 = .ok (.bipush 55, 2) := by decide +kernel
theorem dX12_ofUser_2 : decode cX12_ofUser 2 = .ok (.iconst 5, 1) := by decide +kernel
theorem dX12_ofUser_3 : decode cX12_ofUser 3 = .ok (.iload_n 0, 1) := by decide +kernel
theorem dX12_ofUser_4 : decode cX12_ofUser 4 = .ok (.imul, 1) := by decide +kernel
theorem dX12_ofUser_5 : decode cX12_ofUser 5 = .ok (.iadd, 1) := by decide +kernel
theorem dX12_ofUser_6 : decode cX12_ofUser 6 = .ok (.ireturn, 1) := by decide +kernel
theorem dX12_ofService_0 : decode cX12_ofService 0 = .ok (.bipush 85, 2) := by decide +kernel
theorem dX12_ofService_2 : decode cX12_ofService 2 = .ok (.iconst 3, 1) := by decide +kernel
theorem dX12_ofService_3 : decode cX12_ofService 3 = .ok (.iload_n 0, 1) := by decide +kernel
theorem dX12_ofService_4 : decode cX12_ofService 4 = .ok (.imul, 1) := by decide +kernel
theorem dX12_ofService_5 : decode cX12_ofService 5 = .ok (.iadd, 1) := by decide +kernel
theorem dX12_ofService_6 : decode cX12_ofService 6 = .ok (.ireturn, 1) := by decide +kernel
theorem dX12_ofTicket_0 : decode cX12_ofTicket 0 = .ok (.bipush 103, 2) := by decide +kernel
theorem dX12_ofTicket_2 : decode cX12_ofTicket 2 = .ok (.bipush 10, 2) := by decide +kernel
theorem dX12_ofTicket_4 : decode cX12_ofTicket 4 = .ok (.iload_n 0, 1) := by decide +kernel
theorem dX12_ofTicket_5 : decode cX12_ofTicket 5 = .ok (.imul, 1) := by decide +kernel
theorem dX12_ofTicket_6 : decode cX12_ofTicket 6 = .ok (.iadd, 1) := by decide +kernel
theorem dX12_ofTicket_7 : decode cX12_ofTicket 7 = .ok (.ireturn, 1) := by decide +kernel
theorem dX12_ofUse_0 : decode cX12_ofUse 0 = .ok (.sipush 343, 3) := by decide +kernel
theorem dX12_ofUse_3 : decode cX12_ofUse 3 = .ok (.iconst 4, 1) := by decide +kernel
theorem dX12_ofUse_4 : decode cX12_ofUse 4 = .ok (.iload_n 0, 1) := by decide +kernel
theorem dX12_ofUse_5 : decode cX12_ofUse 5 = .ok (.imul, 1) := by decide +kernel
theorem dX12_ofUse_6 : decode cX12_ofUse 6 = .ok (.iadd, 1) := by decide +kernel
theorem dX12_ofUse_7 : decode cX12_ofUse 7 = .ok (.ireturn, 1) := by decide +kernel
theorem dX12_trusted_0 : decode cX12_trusted 0 = .ok (.aload_n 0, 1) := by decide +kernel
theorem dX12_trusted_1 : decode cX12_trusted 1 = .ok (.bipush 30, 2) := by decide +kernel
theorem dX12_trusted_3 : decode cX12_trusted 3 = .ok (.iconst 5, 1) := by decide +kernel
theorem dX12_trusted_4 : decode cX12_trusted 4 = .ok (.iload_n 1, 1) := by decide +kernel
theorem dX12_trusted_5 : decode cX12_trusted 5 = .ok (.imul, 1) := by decide +kernel
theorem dX12_trusted_6 : decode cX12_trusted 6 = .ok (.iadd, 1) := by decide +kernel
theorem dX12_trusted_7 : decode cX12_trusted 7 = .ok (.iload_n 2, 1) := by decide +kernel
theorem dX12_trusted_8 : decode cX12_trusted 8 = .ok (.iadd, 1) := by decide +kernel
theorem dX12_trusted_9 : decode cX12_trusted 9 = .ok (.iaload, 1) := by decide +kernel
theorem dX12_trusted_10 : decode cX12_trusted 10 = .ok (.iconst 1, 1) := by decide +kernel
theorem dX12_trusted_11 : decode cX12_trusted 11 = .ok (.if_icmp .ne 7, 3) := by decide +kernel
theorem dX12_trusted_14 : decode cX12_trusted 14 = .ok (.iconst 1, 1) := by decide +kernel
theorem dX12_trusted_15 : decode cX12_trusted 15 = .ok (.goto 4, 3) := by decide +kernel
theorem dX12_trusted_18 : decode cX12_trusted 18 = .ok (.iconst 0, 1) := by decide +kernel
theorem dX12_trusted_19 : decode cX12_trusted 19 = .ok (.ireturn, 1) := by decide +kernel
set_option maxRecDepth 20000 in
theorem ggX12_spread_X12_trusted : GoodIn wsX12_spread wsX12_trusted := goodIn_r _ [5] (by decide +kernel) (by decide +kernel)
set_option maxRecDepth 20000 in
theorem gX12_spread_X12_trusted : GoodIn wsX12_spread (va_wsS RX12 75 yX12_trusted wsX12_trusted) := goodIn_app (goodIn_of _ (by decide +kernel)) ggX12_spread_X12_trusted
set_option maxRecDepth 20000 in
theorem ggX12_spread_X12_lesser : GoodIn wsX12_spread wsX12_lesser := goodIn_r _ [8] (by decide +kernel) (by decide +kernel)
set_option maxRecDepth 20000 in
theorem gX12_spread_X12_lesser : GoodIn wsX12_spread (va_wsS RX12 79 yX12_lesser wsX12_lesser) := goodIn_app (goodIn_of _ (by decide +kernel)) ggX12_spread_X12_lesser
theorem dX12_spread_0 : decode cX12_spread 0 = .ok (.iconst 0, 1) := by decide +kernel
theorem dX12_spread_1 : decode cX12_spread 1 = .ok (.istore_n 3, 1) := by decide +kernel
theorem dX12_spread_2 : decode cX12_spread 2 = .ok (.iload_n 3, 1) := by decide +kernel
theorem dX12_spread_3 : decode cX12_spread 3 = .ok (.aload_n 1, 1) := by decide +kernel
theorem dX12_spread_4 : decode cX12_spread 4 = .ok (.iconst 3, 1) := by decide +kernel
theorem dX12_spread_5 : decode cX12_spread 5 = .ok (.iaload, 1) := by decide +kernel
theorem dX12_spread_6 : decode cX12_spread 6 = .ok (.if_icmp .ge 26, 3) := by decide +kernel
theorem dX12_spread_9 : decode cX12_spread 9 = .ok (.aload_n 0, 1) := by decide +kernel
theorem dX12_spread_10 : decode cX12_spread 10 = .ok (.getfield 29, 3) := by decide +kernel
theorem dX12_spread_13 : decode cX12_spread 13 = .ok (.iload_n 3, 1) := by decide +kernel
theorem dX12_spread_14 : decode cX12_spread 14 = .ok (.iload_n 3, 1) := by decide +kernel
theorem dX12_spread_15 : decode cX12_spread 15 = .ok (.iload_n 2, 1) := by decide +kernel
theorem dX12_spread_16 : decode cX12_spread 16 = .ok (.if_icmp .ne 7, 3) := by decide +kernel
theorem dX12_spread_19 : decode cX12_spread 19 = .ok (.iconst 0, 1) := by decide +kernel
theorem dX12_spread_20 : decode cX12_spread 20 = .ok (.goto 5, 3) := by decide +kernel
theorem dX12_spread_23 : decode cX12_spread 23 = .ok (.bipush 99, 2) := by decide +kernel
theorem dX12_spread_25 : decode cX12_spread 25 = .ok (.iastore, 1) := by decide +kernel
theorem dX12_spread_26 : decode cX12_spread 26 = .ok (.iinc 3 1, 3) := by decide +kernel
theorem dX12_spread_29 : decode cX12_spread 29 = .ok (.goto (-27), 3) := by decide +kernel
theorem dX12_spread_32 : decode cX12_spread 32 = .ok (.iconst 0, 1) := by decide +kernel
theorem dX12_spread_33 : decode cX12_spread 33 = .ok (.istore_n 3, 1) := by decide +kernel
theorem dX12_spread_34 : decode cX12_spread 34 = .ok (.iload_n 3, 1) := by decide +kernel
theorem dX12_spread_35 : decode cX12_spread 35 = .ok (.aload_n 1, 1) := by decide +kernel
theorem dX12_spread_36 : decode cX12_spread 36 = .ok (.iconst 3, 1) := by decide +kernel
theorem dX12_spread_37 : decode cX12_spread 37 = .ok (.iaload, 1) := by decide +kernel
theorem dX12_spread_38 : decode cX12_spread 38 = .ok (.if_icmp .ge 90, 3) := by decide +kernel
theorem dX12_spread_41 : decode cX12_spread 41 = .ok (.iconst 0, 1) := by decide +kernel
theorem dX12_spread_42 : decode cX12_spread 42 = .ok (.istore 4, 2) := by decide +kernel
theorem dX12_spread_44 : decode cX12_spread 44 = .ok (.iload 4, 2) := by decide +kernel
theorem dX12_spread_46 : decode cX12_spread 46 = .ok (.aload_n 1, 1) := by decide +kernel
theorem dX12_spread_47 : decode cX12_spread 47 = .ok (.iconst 3, 1) := by decide +kernel
theorem dX12_spread_48 : decode cX12_spread 48 = .ok (.iaload, 1) := by decide +kernel
theorem dX12_spread_49 : decode cX12_spread 49 = .ok (.if_icmp .ge 73, 3) := by decide +kernel
theorem dX12_spread_52 : decode cX12_spread 52 = .ok (.iconst 0, 1) := by decide +kernel
theorem dX12_spread_53 : decode cX12_spread 53 = .ok (.istore 5, 2) := by decide +kernel
theorem dX12_spread_55 : decode cX12_spread 55 = .ok (.iload 5, 2) := by decide +kernel
theorem dX12_spread_57 : decode cX12_spread 57 = .ok (.aload_n 1, 1) := by decide +kernel
theorem dX12_spread_58 : decode cX12_spread 58 = .ok (.iconst 3, 1) := by decide +kernel
theorem dX12_spread_59 : decode cX12_spread 59 = .ok (.iaload, 1) := by decide +kernel
theorem dX12_spread_60 : decode cX12_spread 60 = .ok (.if_icmp .ge 56, 3) := by decide +kernel
theorem dX12_spread_63 : decode cX12_spread 63 = .ok (.aload_n 0, 1) := by decide +kernel
theorem dX12_spread_64 : decode cX12_spread 64 = .ok (.getfield 29, 3) := by decide +kernel
theorem dX12_spread_67 : decode cX12_spread 67 = .ok (.iload 5, 2) := by decide +kernel
theorem dX12_spread_69 : decode cX12_spread 69 = .ok (.aload_n 1, 1) := by decide +kernel
theorem dX12_spread_70 : decode cX12_spread 70 = .ok (.iload 4, 2) := by decide +kernel
theorem dX12_spread_72 : decode cX12_spread 72 = .ok (.iload 5, 2) := by decide +kernel
theorem dX12_spread_74 : decode cX12_spread 74 = .ok (.invokestatic 75, 3) := by decide +kernel
theorem dX12_spread_77 : decode cX12_spread 77 = .ok (.ifCond .eq 25, 3) := by decide +kernel
theorem dX12_spread_80 : decode cX12_spread 80 = .ok (.aload_n 0, 1) := by decide +kernel
theorem dX12_spread_81 : decode cX12_spread 81 = .ok (.getfield 29, 3) := by decide +kernel
theorem dX12_spread_84 : decode cX12_spread 84 = .ok (.iload 5, 2) := by decide +kernel
theorem dX12_spread_86 : decode cX12_spread 86 = .ok (.iaload, 1) := by decide +kernel
theorem dX12_spread_87 : decode cX12_spread 87 = .ok (.aload_n 0, 1) := by decide +kernel
theorem dX12_spread_88 : decode cX12_spread 88 = .ok (.getfield 29, 3) := by decide +kernel
theorem dX12_spread_91 : decode cX12_spread 91 = .ok (.iload 4, 2) := by decide +kernel
theorem dX12_spread_93 : decode cX12_spread 93 = .ok (.iaload, 1) := by decide +kernel
theorem dX12_spread_94 : decode cX12_spread 94 = .ok (.iconst 1, 1) := by decide +kernel
theorem dX12_spread_95 : decode cX12_spread 95 = .ok (.iadd, 1) := by decide +kernel
theorem dX12_spread_96 : decode cX12_spread 96 = .ok (.invokestatic 79, 3) := by decide +kernel
theorem dX12_spread_99 : decode cX12_spread 99 = .ok (.goto 10, 3) := by decide +kernel
theorem dX12_spread_102 : decode cX12_spread 102 = .ok (.aload_n 0, 1) := by decide +kernel
theorem dX12_spread_103 : decode cX12_spread 103 = .ok (.getfield 29, 3) := by decide +kernel
theorem dX12_spread_106 : decode cX12_spread 106 = .ok (.iload 5, 2) := by decide +kernel
theorem dX12_spread_108 : decode cX12_spread 108 = .ok (.iaload, 1) := by decide +kernel
theorem dX12_spread_109 : decode cX12_spread 109 = .ok (.iastore, 1) := by decide +kernel
theorem dX12_spread_110 : decode cX12_spread 110 = .ok (.iinc 5 1, 3) := by decide +kernel
theorem dX12_spread_113 : decode cX12_spread 113 = .ok (.goto (-58), 3) := by decide +kernel
theorem dX12_spread_116 : decode cX12_spread 116 = .ok (.iinc 4 1, 3) := by decide +kernel
theorem dX12_spread_119 : decode cX12_spread 119 = .ok (.goto (-75), 3) := by decide +kernel
theorem dX12_spread_122 : decode cX12_spread 122 = .ok (.iinc 3 1, 3) := by decide +kernel
theorem dX12_spread_125 : decode cX12_spread 125 = .ok (.goto (-91), 3) := by decide +kernel
theorem dX12_spread_128 : decode cX12_spread 128 = .ok (.return_, 1) := by decide +kernel
set_option maxRecDepth 20000 in
theorem ggX12_far_X12_spread : GoodIn wsX12_far wsX12_spread := goodIn_r _ [6, 1, 7, 8, 5, 9, 10, 11, 12, 13, 14, 15, 16, 17, 18, 19, 20, 21, 22, 23, 24, 25, 26, 27, 28, 29, 30, 31, 32, 33, 34] (by decide +kernel) (by decide +kernel)
set_option maxRecDepth 20000 in
theorem gX12_far_X12_spread : GoodIn wsX12_far (wsV RX12 83 RX12 yX12_spread wsX12_spread) := goodIn_app (goodIn_of _ (by decide +kernel)) ggX12_far_X12_spread
theorem dX12_far_0 : decode cX12_far 0 = .ok (.aload_n 0, 1) := by decide +kernel
theorem dX12_far_1 : decode cX12_far 1 = .ok (.aload_n 1, 1) := by decide +kernel
theorem dX12_far_2 : decode cX12_far 2 = .ok (.iload_n 2, 1) := by decide +kernel
theorem dX12_far_3 : decode cX12_far 3 = .ok (.invokevirtual 83, 3) := by decide +kernel
theorem dX12_far_6 : decode cX12_far 6 = .ok (.aload_n 0, 1) := by decide +kernel
theorem dX12_far_7 : decode cX12_far 7 = .ok (.getfield 29, 3) := by decide +kernel
theorem dX12_far_10 : decode cX12_far 10 = .ok (.iload_n 3, 1) := by decide +kernel
theorem dX12_far_11 : decode cX12_far 11 = .ok (.iaload, 1) := by decide +kernel
theorem dX12_far_12 : decode cX12_far 12 = .ok (.bipush 99, 2) := by decide +kernel
theorem dX12_far_14 : decode cX12_far 14 = .ok (.if_icmp .lt 7, 3) := by decide +kernel
theorem dX12_far_17 : decode cX12_far 17 = .ok (.iconst (-1), 1) := by decide +kernel
theorem dX12_far_18 : decode cX12_far 18 = .ok (.goto 9, 3) := by decide +kernel
theorem dX12_far_21 : decode cX12_far 21 = .ok (.aload_n 0, 1) := by decide +kernel
theorem dX12_far_22 : decode cX12_far 22 = .ok (.getfield 29, 3) := by decide +kernel
theorem dX12_far_25 : decode cX12_far 25 = .ok (.iload_n 3, 1) := by decide +kernel
theorem dX12_far_26 : decode cX12_far 26 = .ok (.iaload, 1) := by decide +kernel
theorem dX12_far_27 : decode cX12_far 27 = .ok (.ireturn, 1) := by decide +kernel
set_option maxRecDepth 20000 in
theorem ggX12_skewOf_X12_ofUser : GoodIn wsX12_skewOf wsX12_ofUser := goodIn_r _ [4] (by decide +kernel) (by decide +kernel)
set_option maxRecDepth 20000 in
theorem gX12_skewOf_X12_ofUser : GoodIn wsX12_skewOf (va_wsS RX12 87 yX12_ofUser wsX12_ofUser) := goodIn_app (goodIn_of _ (by decide +kernel)) ggX12_skewOf_X12_ofUser
set_option maxRecDepth 20000 in
theorem ggX12_skewOf_X12_ofRealm : GoodIn wsX12_skewOf wsX12_ofRealm := goodIn_r _ [7] (by decide +kernel) (by decide +kernel)
set_option maxRecDepth 20000 in
theorem gX12_skewOf_X12_ofRealm : GoodIn wsX12_skewOf (va_wsS RX12 91 yX12_ofRealm wsX12_ofRealm) := goodIn_app (goodIn_of _ (by decide +kernel)) ggX12_skewOf_X12_ofRealm
theorem dX12_skewOf_0 : decode cX12_skewOf 0 = .ok (.aload_n 0, 1) := by decide +kernel
theorem dX12_skewOf_1 : decode cX12_skewOf 1 = .ok (.iload_n 1, 1) := by decide +kernel
theorem dX12_skewOf_2 : decode cX12_skewOf 2 = .ok (.invokestatic 87, 3) := by decide +kernel
theorem dX12_skewOf_5 : decode cX12_skewOf 5 = .ok (.iconst 3, 1) := by decide +kernel
theorem dX12_skewOf_6 : decode cX12_skewOf 6 = .ok (.iadd, 1) := by decide +kernel
theorem dX12_skewOf_7 : decode cX12_skewOf 7 = .ok (.iaload, 1) := by decide +kernel
theorem dX12_skewOf_8 : decode cX12_skewOf 8 = .ok (.aload_n 0, 1) := by decide +kernel
theorem dX12_skewOf_9 : decode cX12_skewOf 9 = .ok (.iload_n 2, 1) := by decide +kernel
theorem dX12_skewOf_10 : decode cX12_skewOf 10 = .ok (.invokestatic 91, 3) := by decide +kernel
theorem dX12_skewOf_13 : decode cX12_skewOf 13 = .ok (.iconst 3, 1) := by decide +kernel
theorem dX12_skewOf_14 : decode cX12_skewOf 14 = .ok (.iadd, 1) := by decide +kernel
theorem dX12_skewOf_15 : decode cX12_skewOf 15 = .ok (.iaload, 1) := by decide +kernel
theorem dX12_skewOf_16 : decode cX12_skewOf 16 = .ok (.isub, 1) := by decide +kernel
theorem dX12_skewOf_17 : decode cX12_skewOf 17 = .ok (.istore_n 3, 1) := by decide +kernel
theorem dX12_skewOf_18 : decode cX12_skewOf 18 = .ok (.iload_n 3, 1) := by decide +kernel
theorem dX12_skewOf_19 : decode cX12_skewOf 19 = .ok (.ifCond .ge 8, 3) := by decide +kernel
theorem dX12_skewOf_22 : decode cX12_skewOf 22 = .ok (.iload_n 3, 1) := by decide +kernel
theorem dX12_skewOf_23 : decode cX12_skewOf 23 = .ok (.ineg, 1) := by decide +kernel
theorem dX12_skewOf_24 : decode cX12_skewOf 24 = .ok (.goto 4, 3) := by decide +kernel
theorem dX12_skewOf_27 : decode cX12_skewOf 27 = .ok (.iload_n 3, 1) := by decide +kernel
theorem dX12_skewOf_28 : decode cX12_skewOf 28 = .ok (.ireturn, 1) := by decide +kernel
set_option maxRecDepth 20000 in
theorem ggX12_isSkewed_X12_skewOf : GoodIn wsX12_isSkewed wsX12_skewOf := goodIn_r _ [4, 5, 6, 3, 7, 8, 9, 10] (by decide +kernel) (by decide +kernel)
set_option maxRecDepth 20000 in
theorem gX12_isSkewed_X12_skewOf : GoodIn wsX12_isSkewed (va_wsS RX12 94 yX12_skewOf wsX12_skewOf) := goodIn_app (goodIn_of _ (by decide +kernel)) ggX12_isSkewed_X12_skewOf
theorem dX12_isSkewed_0 : decode cX12_isSkewed 0 = .ok (.aload_n 0, 1) := by decide +kernel
theorem dX12_isSkewed_1 : decode cX12_isSkewed 1 = .ok (.iload_n 1, 1) := by decide +kernel
theorem dX12_isSkewed_2 : decode cX12_isSkewed 2 = .ok (.iload_n 2, 1) := by decide +kernel
theorem dX12_isSkewed_3 : decode cX12_isSkewed 3 = .ok (.invokestatic 94, 3) := by decide +kernel
theorem dX12_isSkewed_6 : decode cX12_isSkewed 6 = .ok (.aload_n 0, 1) := by decide +kernel
theorem dX12_isSkewed_7 : decode cX12_isSkewed 7 = .ok (.iconst 1, 1) := by decide +kernel
theorem dX12_isSkewed_8 : decode cX12_isSkewed 8 = .ok (.iaload, 1) := by decide +kernel
theorem dX12_isSkewed_9 : decode cX12_isSkewed 9 = .ok (.if_icmp .le 7, 3) := by decide +kernel
theorem dX12_isSkewed_12 : decode cX12_isSkewed 12 = .ok (.iconst 1, 1) := by decide +kernel
theorem dX12_isSkewed_13 : decode cX12_isSkewed 13 = .ok (.goto 4, 3) := by decide +kernel
theorem dX12_isSkewed_16 : decode cX12_isSkewed 16 = .ok (.iconst 0, 1) := by decide +kernel
theorem dX12_isSkewed_17 : decode cX12_isSkewed 17 = .ok (.ireturn, 1) := by decide +kernel
set_option maxRecDepth 20000 in
theorem ggX12_find_X12_ofTicket : GoodIn wsX12_find wsX12_ofTicket := goodIn_r _ [4] (by decide +kernel) (by decide +kernel)
set_option maxRecDepth 20000 in
theorem gX12_find_X12_ofTicket : GoodIn wsX12_find (va_wsS RX12 98 yX12_ofTicket wsX12_ofTicket) := goodIn_app (goodIn_of _ (by decide +kernel)) ggX12_find_X12_ofTicket
theorem dX12_find_0 : decode cX12_find 0 = .ok (.iconst 0, 1) := by decide +kernel
theorem dX12_find_1 : decode cX12_find 1 = .ok (.istore_n 2, 1) := by decide +kernel
theorem dX12_find_2 : decode cX12_find 2 = .ok (.iload_n 2, 1) := by decide +kernel
theorem dX12_find_3 : decode cX12_find 3 = .ok (.aload_n 0, 1) := by decide +kernel
theorem dX12_find_4 : decode cX12_find 4 = .ok (.bipush 6, 2) := by decide +kernel
theorem dX12_find_6 : decode cX12_find 6 = .ok (.iaload, 1) := by decide +kernel
theorem dX12_find_7 : decode cX12_find 7 = .ok (.if_icmp .ge 23, 3) := by decide +kernel
theorem dX12_find_10 : decode cX12_find 10 = .ok (.aload_n 0, 1) := by decide +kernel
theorem dX12_find_11 : decode cX12_find 11 = .ok (.iload_n 2, 1) := by decide +kernel
theorem dX12_find_12 : decode cX12_find 12 = .ok (.invokestatic 98, 3) := by decide +kernel
theorem dX12_find_15 : decode cX12_find 15 = .ok (.iconst 0, 1) := by decide +kernel
theorem dX12_find_16 : decode cX12_find 16 = .ok (.iadd, 1) := by decide +kernel
theorem dX12_find_17 : decode cX12_find 17 = .ok (.iaload, 1) := by decide +kernel
theorem dX12_find_18 : decode cX12_find 18 = .ok (.iload_n 1, 1) := by decide +kernel
theorem dX12_find_19 : decode cX12_find 19 = .ok (.if_icmp .ne 5, 3) := by decide +kernel
theorem dX12_find_22 : decode cX12_find 22 = .ok (.iload_n 2, 1) := by decide +kernel
theorem dX12_find_23 : decode cX12_find 23 = .ok (.ireturn, 1) := by decide +kernel
theorem dX12_find_24 : decode cX12_find 24 = .ok (.iinc 2 1, 3) := by decide +kernel
theorem dX12_find_27 : decode cX12_find 27 = .ok (.goto (-25), 3) := by decide +kernel
theorem dX12_find_30 : decode cX12_find 30 = .ok (.iconst (-1), 1) := by decide +kernel
theorem dX12_find_31 : decode cX12_find 31 = .ok (.ireturn, 1) := by decide +kernel
set_option maxRecDepth 20000 in
theorem ggX12_lives_X12_ofTicket : GoodIn wsX12_lives wsX12_ofTicket := goodIn_r _ [4] (by decide +kernel) (by decide +kernel)
set_option maxRecDepth 20000 in
theorem gX12_lives_X12_ofTicket : GoodIn wsX12_lives (va_wsS RX12 98 yX12_ofTicket wsX12_ofTicket) := goodIn_app (goodIn_of _ (by decide +kernel)) ggX12_lives_X12_ofTicket
theorem dX12_lives_0 : decode cX12_lives 0 = .ok (.aload_n 0, 1) := by decide +kernel
theorem dX12_lives_1 : decode cX12_lives 1 = .ok (.iconst 0, 1) := by decide +kernel
theorem dX12_lives_2 : decode cX12_lives 2 = .ok (.iaload, 1) := by decide +kernel
theorem dX12_lives_3 : decode cX12_lives 3 = .ok (.aload_n 0, 1) := by decide +kernel
theorem dX12_lives_4 : decode cX12_lives 4 = .ok (.iload_n 1, 1) := by decide +kernel
theorem dX12_lives_5 : decode cX12_lives 5 = .ok (.invokestatic 98, 3) := by decide +kernel
theorem dX12_lives_8 : decode cX12_lives 8 = .ok (.bipush 6, 2) := by decide +kernel
theorem dX12_lives_10 : decode cX12_lives 10 = .ok (.iadd, 1) := by decide +kernel
theorem dX12_lives_11 : decode cX12_lives 11 = .ok (.iaload, 1) := by decide +kernel
theorem dX12_lives_12 : decode cX12_lives 12 = .ok (.if_icmp .ge 7, 3) := by decide +kernel
theorem dX12_lives_15 : decode cX12_lives 15 = .ok (.iconst 1, 1) := by decide +kernel
theorem dX12_lives_16 : decode cX12_lives 16 = .ok (.goto 4, 3) := by decide +kernel
theorem dX12_lives_19 : decode cX12_lives 19 = .ok (.iconst 0, 1) := by decide +kernel
theorem dX12_lives_20 : decode cX12_lives 20 = .ok (.ireturn, 1) := by decide +kernel
set_option maxRecDepth 20000 in
theorem ggX12_living_X12_lives : GoodIn wsX12_living wsX12_lives := goodIn_r _ [4, 5, 6, 3, 7] (by decide +kernel) (by decide +kernel)
set_option maxRecDepth 20000 in
theorem gX12_living_X12_lives : GoodIn wsX12_living (va_wsS RX12 101 yX12_lives wsX12_lives) := goodIn_app (goodIn_of _ (by decide +kernel)) ggX12_living_X12_lives
theorem dX12_living_0 : decode cX12_living 0 = .ok (.iconst 0, 1) := by decide +kernel
theorem dX12_living_1 : decode cX12_living 1 = .ok (.istore_n 1, 1) := by decide +kernel
theorem dX12_living_2 : decode cX12_living 2 = .ok (.iconst 0, 1) := by decide +kernel
theorem dX12_living_3 : decode cX12_living 3 = .ok (.istore_n 2, 1) := by decide +kernel
theorem dX12_living_4 : decode cX12_living 4 = .ok (.iload_n 2, 1) := by decide +kernel
theorem dX12_living_5 : decode cX12_living 5 = .ok (.aload_n 0, 1) := by decide +kernel
theorem dX12_living_6 : decode cX12_living 6 = .ok (.bipush 6, 2) := by decide +kernel
theorem dX12_living_8 : decode cX12_living 8 = .ok (.iaload, 1) := by decide +kernel
theorem dX12_living_9 : decode cX12_living 9 = .ok (.if_icmp .ge 25, 3) := by decide +kernel
theorem dX12_living_12 : decode cX12_living 12 = .ok (.iload_n 1, 1) := by decide +kernel
theorem dX12_living_13 : decode cX12_living 13 = .ok (.aload_n 0, 1) := by decide +kernel
theorem dX12_living_14 : decode cX12_living 14 = .ok (.iload_n 2, 1) := by decide +kernel
theorem dX12_living_15 : decode cX12_living 15 = .ok (.invokestatic 101, 3) := by decide +kernel
theorem dX12_living_18 : decode cX12_living 18 = .ok (.ifCond .eq 7, 3) := by decide +kernel
theorem dX12_living_21 : decode cX12_living 21 = .ok (.iconst 1, 1) := by decide +kernel
theorem dX12_living_22 : decode cX12_living 22 = .ok (.goto 4, 3) := by decide +kernel
theorem dX12_living_25 : decode cX12_living 25 = .ok (.iconst 0, 1) := by decide +kernel
theorem dX12_living_26 : decode cX12_living 26 = .ok (.iadd, 1) := by decide +kernel
theorem dX12_living_27 : decode cX12_living 27 = .ok (.istore_n 1, 1) := by decide +kernel
theorem dX12_living_28 : decode cX12_living 28 = .ok (.iinc 2 1, 3) := by decide +kernel
theorem dX12_living_31 : decode cX12_living 31 = .ok (.goto (-27), 3) := by decide +kernel
theorem dX12_living_34 : decode cX12_living 34 = .ok (.iload_n 1, 1) := by decide +kernel
theorem dX12_living_35 : decode cX12_living 35 = .ok (.ireturn, 1) := by decide +kernel
theorem dX12_drawKey_0 : decode cX12_drawKey 0 = .ok (.aload_n 0, 1) := by decide +kernel
theorem dX12_drawKey_1 : decode cX12_drawKey 1 = .ok (.iconst 2, 1) := by decide +kernel
theorem dX12_drawKey_2 : decode cX12_drawKey 2 = .ok (.bipush 21, 2) := by decide +kernel
theorem dX12_drawKey_4 : decode cX12_drawKey 4 = .ok (.aload_n 0, 1) := by decide +kernel
theorem dX12_drawKey_5 : decode cX12_drawKey 5 = .ok (.iconst 2, 1) := by decide +kernel
theorem dX12_drawKey_6 : decode cX12_drawKey 6 = .ok (.iaload, 1) := by decide +kernel
theorem dX12_drawKey_7 : decode cX12_drawKey 7 = .ok (.imul, 1) := by decide +kernel
theorem dX12_drawKey_8 : decode cX12_drawKey 8 = .ok (.bipush 7, 2) := by decide +kernel
theorem dX12_drawKey_10 : decode cX12_drawKey 10 = .ok (.iadd, 1) := by decide +kernel
theorem dX12_drawKey_11 : decode cX12_drawKey 11 = .ok (.sipush 1024, 3) := by decide +kernel
theorem dX12_drawKey_14 : decode cX12_drawKey 14 = .ok (.irem, 1) := by decide +kernel
theorem dX12_drawKey_15 : decode cX12_drawKey 15 = .ok (.iastore, 1) := by decide +kernel
theorem dX12_drawKey_16 : decode cX12_drawKey 16 = .ok (.aload_n 0, 1) := by decide +kernel
theorem dX12_drawKey_17 : decode cX12_drawKey 17 = .ok (.iconst 2, 1) := by decide +kernel
theorem dX12_drawKey_18 : decode cX12_drawKey 18 = .ok (.iaload, 1) := by decide +kernel
theorem dX12_drawKey_19 : decode cX12_drawKey 19 = .ok (.ireturn, 1) := by decide +kernel
set_option maxRecDepth 20000 in
theorem ggX12_make_X12_ofTicket : GoodIn wsX12_make wsX12_ofTicket := goodIn_r _ [4] (by decide +kernel) (by decide +kernel)
set_option maxRecDepth 20000 in
theorem gX12_make_X12_ofTicket : GoodIn wsX12_make (va_wsS RX12 98 yX12_ofTicket wsX12_ofTicket) := goodIn_app (goodIn_of _ (by decide +kernel)) ggX12_make_X12_ofTicket
set_option maxRecDepth 20000 in
theorem ggX12_make_X12_greater : GoodIn wsX12_make wsX12_greater := goodIn_r _ [7] (by decide +kernel) (by decide +kernel)
set_option maxRecDepth 20000 in
theorem gX12_make_X12_greater : GoodIn wsX12_make (va_wsS RX12 105 yX12_greater wsX12_greater) := goodIn_app (goodIn_of _ (by decide +kernel)) ggX12_make_X12_greater
set_option maxRecDepth 20000 in
theorem ggX12_make_X12_drawKey : GoodIn wsX12_make wsX12_drawKey := goodIn_r _ [10] (by decide +kernel) (by decide +kernel)
set_option maxRecDepth 20000 in
theorem gX12_make_X12_drawKey : GoodIn wsX12_make (va_wsS RX12 108 yX12_drawKey wsX12_drawKey) := goodIn_app (goodIn_of _ (by decide +kernel)) ggX12_make_X12_drawKey
theorem dX12_make_0 : decode cX12_make 0 = .ok (.aload_n 0, 1) := by decide +kernel
theorem dX12_make_1 : decode cX12_make 1 = .ok (.bipush 6, 2) := by decide +kernel
theorem dX12_make_3 : decode cX12_make 3 = .ok (.iaload, 1) := by decide +kernel
theorem dX12_make_4 : decode cX12_make 4 = .ok (.invokestatic 98, 3) := by decide +kernel
theorem dX12_make_7 : decode cX12_make 7 = .ok (.istore 7, 2) := by decide +kernel
theorem dX12_make_9 : decode cX12_make 9 = .ok (.aload_n 0, 1) := by decide +kernel
theorem dX12_make_10 : decode cX12_make 10 = .ok (.iload 7, 2) := by decide +kernel
theorem dX12_make_12 : decode cX12_make 12 = .ok (.iconst 0, 1) := by decide +kernel
theorem dX12_make_13 : decode cX12_make 13 = .ok (.iadd, 1) := by decide +kernel
theorem dX12_make_14 : decode cX12_make 14 = .ok (.aload_n 0, 1) := by decide +kernel
theorem dX12_make_15 : decode cX12_make 15 = .ok (.bipush 7, 2) := by decide +kernel
theorem dX12_make_17 : decode cX12_make 17 = .ok (.iaload, 1) := by decide +kernel
theorem dX12_make_18 : decode cX12_make 18 = .ok (.iastore, 1) := by decide +kernel
theorem dX12_make_19 : decode cX12_make 19 = .ok (.aload_n 0, 1) := by decide +kernel
theorem dX12_make_20 : decode cX12_make 20 = .ok (.iload 7, 2) := by decide +kernel
theorem dX12_make_22 : decode cX12_make 22 = .ok (.iconst 1, 1) := by decide +kernel
theorem dX12_make_23 : decode cX12_make 23 = .ok (.iadd, 1) := by decide +kernel
theorem dX12_make_24 : decode cX12_make 24 = .ok (.iload_n 3, 1) := by decide +kernel
theorem dX12_make_25 : decode cX12_make 25 = .ok (.iconst (-1), 1) := by decide +kernel
theorem dX12_make_26 : decode cX12_make 26 = .ok (.if_icmp .ne 7, 3) := by decide +kernel
theorem dX12_make_29 : decode cX12_make 29 = .ok (.iconst 0, 1) := by decide +kernel
theorem dX12_make_30 : decode cX12_make 30 = .ok (.goto 4, 3) := by decide +kernel
theorem dX12_make_33 : decode cX12_make 33 = .ok (.iconst 1, 1) := by decide +kernel
theorem dX12_make_34 : decode cX12_make 34 = .ok (.iastore, 1) := by decide +kernel
theorem dX12_make_35 : decode cX12_make 35 = .ok (.aload_n 0, 1) := by decide +kernel
theorem dX12_make_36 : decode cX12_make 36 = .ok (.iload 7, 2) := by decide +kernel
theorem dX12_make_38 : decode cX12_make 38 = .ok (.iconst 2, 1) := by decide +kernel
theorem dX12_make_39 : decode cX12_make 39 = .ok (.iadd, 1) := by decide +kernel
theorem dX12_make_40 : decode cX12_make 40 = .ok (.iload_n 1, 1) := by decide +kernel
theorem dX12_make_41 : decode cX12_make 41 = .ok (.iastore, 1) := by decide +kernel
theorem dX12_make_42 : decode cX12_make 42 = .ok (.aload_n 0, 1) := by decide +kernel
theorem dX12_make_43 : decode cX12_make 43 = .ok (.iload 7, 2) := by decide +kernel
theorem dX12_make_45 : decode cX12_make 45 = .ok (.iconst 3, 1) := by decide +kernel
theorem dX12_make_46 : decode cX12_make 46 = .ok (.iadd, 1) := by decide +kernel
theorem dX12_make_47 : decode cX12_make 47 = .ok (.iload_n 2, 1) := by decide +kernel
theorem dX12_make_48 : decode cX12_make 48 = .ok (.iastore, 1) := by decide +kernel
theorem dX12_make_49 : decode cX12_make 49 = .ok (.aload_n 0, 1) := by decide +kernel
theorem dX12_make_50 : decode cX12_make 50 = .ok (.iload 7, 2) := by decide +kernel
theorem dX12_make_52 : decode cX12_make 52 = .ok (.iconst 4, 1) := by decide +kernel
theorem dX12_make_53 : decode cX12_make 53 = .ok (.iadd, 1) := by decide +kernel
theorem dX12_make_54 : decode cX12_make 54 = .ok (.iload_n 3, 1) := by decide +kernel
theorem dX12_make_55 : decode cX12_make 55 = .ok (.iastore, 1) := by decide +kernel
theorem dX12_make_56 : decode cX12_make 56 = .ok (.aload_n 0, 1) := by decide +kernel
theorem dX12_make_57 : decode cX12_make 57 = .ok (.iload 7, 2) := by decide +kernel
theorem dX12_make_59 : decode cX12_make 59 = .ok (.iconst 5, 1) := by decide +kernel
theorem dX12_make_60 : decode cX12_make 60 = .ok (.iadd, 1) := by decide +kernel
theorem dX12_make_61 : decode cX12_make 61 = .ok (.aload_n 0, 1) := by decide +kernel
theorem dX12_make_62 : decode cX12_make 62 = .ok (.iconst 0, 1) := by decide +kernel
theorem dX12_make_63 : decode cX12_make 63 = .ok (.iaload, 1) := by decide +kernel
theorem dX12_make_64 : decode cX12_make 64 = .ok (.iastore, 1) := by decide +kernel
theorem dX12_make_65 : decode cX12_make 65 = .ok (.aload_n 0, 1) := by decide +kernel
theorem dX12_make_66 : decode cX12_make 66 = .ok (.iload 7, 2) := by decide +kernel
theorem dX12_make_68 : decode cX12_make 68 = .ok (.bipush 6, 2) := by decide +kernel
theorem dX12_make_70 : decode cX12_make 70 = .ok (.iadd, 1) := by decide +kernel
theorem dX12_make_71 : decode cX12_make 71 = .ok (.iload 4, 2) := by decide +kernel
theorem dX12_make_73 : decode cX12_make 73 = .ok (.iastore, 1) := by decide +kernel
theorem dX12_make_74 : decode cX12_make 74 = .ok (.aload_n 0, 1) := by decide +kernel
theorem dX12_make_75 : decode cX12_make 75 = .ok (.iload 7, 2) := by decide +kernel
theorem dX12_make_77 : decode cX12_make 77 = .ok (.bipush 7, 2) := by decide +kernel
theorem dX12_make_79 : decode cX12_make 79 = .ok (.iadd, 1) := by decide +kernel
theorem dX12_make_80 : decode cX12_make 80 = .ok (.iload 6, 2) := by decide +kernel
theorem dX12_make_82 : decode cX12_make 82 = .ok (.iconst 1, 1) := by decide +kernel
theorem dX12_make_83 : decode cX12_make 83 = .ok (.if_icmp .ne 13, 3) := by decide +kernel
theorem dX12_make_86 : decode cX12_make 86 = .ok (.iload 5, 2) := by decide +kernel
theorem dX12_make_88 : decode cX12_make 88 = .ok (.iload 4, 2) := by decide +kernel
theorem dX12_make_90 : decode cX12_make 90 = .ok (.invokestatic 105, 3) := by decide +kernel
theorem dX12_make_93 : decode cX12_make 93 = .ok (.goto 5, 3) := by decide +kernel
theorem dX12_make_96 : decode cX12_make 96 = .ok (.iload 4, 2) := by decide +kernel
theorem dX12_make_98 : decode cX12_make 98 = .ok (.iastore, 1) := by decide +kernel
theorem dX12_make_99 : decode cX12_make 99 = .ok (.aload_n 0, 1) := by decide +kernel
theorem dX12_make_100 : decode cX12_make 100 = .ok (.iload 7, 2) := by decide +kernel
theorem dX12_make_102 : decode cX12_make 102 = .ok (.bipush 8, 2) := by decide +kernel
theorem dX12_make_104 : decode cX12_make 104 = .ok (.iadd, 1) := by decide +kernel
theorem dX12_make_105 : decode cX12_make 105 = .ok (.aload_n 0, 1) := by decide +kernel
theorem dX12_make_106 : decode cX12_make 106 = .ok (.invokestatic 108, 3) := by decide +kernel
theorem dX12_make_109 : decode cX12_make 109 = .ok (.iastore, 1) := by decide +kernel
theorem dX12_make_110 : decode cX12_make 110 = .ok (.aload_n 0, 1) := by decide +kernel
theorem dX12_make_111 : decode cX12_make 111 = .ok (.iload 7, 2) := by decide +kernel
theorem dX12_make_113 : decode cX12_make 113 = .ok (.bipush 9, 2) := by decide +kernel
theorem dX12_make_115 : decode cX12_make 115 = .ok (.iadd, 1) := by decide +kernel
theorem dX12_make_116 : decode cX12_make 116 = .ok (.iload 6, 2) := by decide +kernel
theorem dX12_make_118 : decode cX12_make 118 = .ok (.iastore, 1) := by decide +kernel
theorem dX12_make_119 : decode cX12_make 119 = .ok (.aload_n 0, 1) := by decide +kernel
theorem dX12_make_120 : decode cX12_make 120 = .ok (.bipush 6, 2) := by decide +kernel
theorem dX12_make_122 : decode cX12_make 122 = .ok (.dup2, 1) := by decide +kernel
theorem dX12_make_123 : decode cX12_make 123 = .ok (.iaload, 1) := by decide +kernel
theorem dX12_make_124 : decode cX12_make 124 = .ok (.iconst 1, 1) := by decide +kernel
theorem dX12_make_125 : decode cX12_make 125 = .ok (.iadd, 1) := by decide +kernel
theorem dX12_make_126 : decode cX12_make 126 = .ok (.iastore, 1) := by decide +kernel
theorem dX12_make_127 : decode cX12_make 127 = .ok (.aload_n 0, 1) := by decide +kernel
theorem dX12_make_128 : decode cX12_make 128 = .ok (.bipush 7, 2) := by decide +kernel
theorem dX12_make_130 : decode cX12_make 130 = .ok (.dup2, 1) := by decide +kernel
theorem dX12_make_131 : decode cX12_make 131 = .ok (.iaload, 1) := by decide +kernel
theorem dX12_make_132 : decode cX12_make 132 = .ok (.iconst 1, 1) := by decide +kernel
theorem dX12_make_133 : decode cX12_make 133 = .ok (.iadd, 1) := by decide +kernel
theorem dX12_make_134 : decode cX12_make 134 = .ok (.iastore, 1) := by decide +kernel
theorem dX12_make_135 : decode cX12_make 135 = .ok (.aload_n 0, 1) := by decide +kernel
theorem dX12_make_136 : decode cX12_make 136 = .ok (.bipush 7, 2) := by decide +kernel
theorem dX12_make_138 : decode cX12_make 138 = .ok (.iaload, 1) := by decide +kernel
theorem dX12_make_139 : decode cX12_make 139 = .ok (.iconst 1, 1) := by decide +kernel
theorem dX12_make_140 : decode cX12_make 140 = .ok (.isub, 1) := by decide +kernel
theorem dX12_make_141 : decode cX12_make 141 = .ok (.ireturn, 1) := by decide +kernel
set_option maxRecDepth 20000 in
theorem ggX12_whyNotLogin_X12_ofUser : GoodIn wsX12_whyNotLogin wsX12_ofUser := goodIn_r _ [4] (by decide +kernel) (by decide +kernel)
set_option maxRecDepth 20000 in
theorem gX12_whyNotLogin_X12_ofUser : GoodIn wsX12_whyNotLogin (va_wsS RX12 87 yX12_ofUser wsX12_ofUser) := goodIn_app (goodIn_of _ (by decide +kernel)) ggX12_whyNotLogin_X12_ofUser
set_option maxRecDepth 20000 in
theorem ggX12_whyNotLogin_X12_isSkewed : GoodIn wsX12_whyNotLogin wsX12_isSkewed := goodIn_r _ [7, 8, 9, 3, 10, 1, 2, 4, 11, 12, 13] (by decide +kernel) (by decide +kernel)
set_option maxRecDepth 20000 in
theorem gX12_whyNotLogin_X12_isSkewed : GoodIn wsX12_whyNotLogin (va_wsS RX12 112 yX12_isSkewed wsX12_isSkewed) := goodIn_app (goodIn_of _ (by decide +kernel)) ggX12_whyNotLogin_X12_isSkewed
theorem dX12_whyNotLogin_0 : decode cX12_whyNotLogin 0 = .ok (.aload_n 0, 1) := by decide +kernel
theorem dX12_whyNotLogin_1 : decode cX12_whyNotLogin 1 = .ok (.iload_n 1, 1) := by decide +kernel
theorem dX12_whyNotLogin_2 : decode cX12_whyNotLogin 2 = .ok (.invokestatic 87, 3) := by decide +kernel
theorem dX12_whyNotLogin_5 : decode cX12_whyNotLogin 5 = .ok (.iconst 2, 1) := by decide +kernel
theorem dX12_whyNotLogin_6 : decode cX12_whyNotLogin 6 = .ok (.iadd, 1) := by decide +kernel
theorem dX12_whyNotLogin_7 : decode cX12_whyNotLogin 7 = .ok (.iaload, 1) := by decide +kernel
theorem dX12_whyNotLogin_8 : decode cX12_whyNotLogin 8 = .ok (.iload_n 2, 1) := by decide +kernel
theorem dX12_whyNotLogin_9 : decode cX12_whyNotLogin 9 = .ok (.if_icmp .eq 5, 3) := by decide +kernel
theorem dX12_whyNotLogin_12 : decode cX12_whyNotLogin 12 = .ok (.iconst 1, 1) := by decide +kernel
theorem dX12_whyNotLogin_13 : decode cX12_whyNotLogin 13 = .ok (.ireturn, 1) := by decide +kernel
theorem dX12_whyNotLogin_14 : decode cX12_whyNotLogin 14 = .ok (.aload_n 0, 1) := by decide +kernel
theorem dX12_whyNotLogin_15 : decode cX12_whyNotLogin 15 = .ok (.iload_n 1, 1) := by decide +kernel
theorem dX12_whyNotLogin_16 : decode cX12_whyNotLogin 16 = .ok (.aload_n 0, 1) := by decide +kernel
theorem dX12_whyNotLogin_17 : decode cX12_whyNotLogin 17 = .ok (.iload_n 1, 1) := by decide +kernel
theorem dX12_whyNotLogin_18 : decode cX12_whyNotLogin 18 = .ok (.invokestatic 87, 3) := by decide +kernel
theorem dX12_whyNotLogin_21 : decode cX12_whyNotLogin 21 = .ok (.iconst 1, 1) := by decide +kernel
theorem dX12_whyNotLogin_22 : decode cX12_whyNotLogin 22 = .ok (.iadd, 1) := by decide +kernel
theorem dX12_whyNotLogin_23 : decode cX12_whyNotLogin 23 = .ok (.iaload, 1) := by decide +kernel
theorem dX12_whyNotLogin_24 : decode cX12_whyNotLogin 24 = .ok (.invokestatic 112, 3) := by decide +kernel
theorem dX12_whyNotLogin_27 : decode cX12_whyNotLogin 27 = .ok (.ifCond .eq 5, 3) := by decide +kernel
theorem dX12_whyNotLogin_30 : decode cX12_whyNotLogin 30 = .ok (.iconst 2, 1) := by decide +kernel
theorem dX12_whyNotLogin_31 : decode cX12_whyNotLogin 31 = .ok (.ireturn, 1) := by decide +kernel
theorem dX12_whyNotLogin_32 : decode cX12_whyNotLogin 32 = .ok (.aload_n 0, 1) := by decide +kernel
theorem dX12_whyNotLogin_33 : decode cX12_whyNotLogin 33 = .ok (.bipush 6, 2) := by decide +kernel
theorem dX12_whyNotLogin_35 : decode cX12_whyNotLogin 35 = .ok (.iaload, 1) := by decide +kernel
theorem dX12_whyNotLogin_36 : decode cX12_whyNotLogin 36 = .ok (.bipush 24, 2) := by decide +kernel
theorem dX12_whyNotLogin_38 : decode cX12_whyNotLogin 38 = .ok (.if_icmp .ne 7, 3) := by decide +kernel
theorem dX12_whyNotLogin_41 : decode cX12_whyNotLogin 41 = .ok (.iconst 3, 1) := by decide +kernel
theorem dX12_whyNotLogin_42 : decode cX12_whyNotLogin 42 = .ok (.goto 4, 3) := by decide +kernel
theorem dX12_whyNotLogin_45 : decode cX12_whyNotLogin 45 = .ok (.iconst 0, 1) := by decide +kernel
theorem dX12_whyNotLogin_46 : decode cX12_whyNotLogin 46 = .ok (.ireturn, 1) := by decide +kernel
set_option maxRecDepth 20000 in
theorem ggX12_whyNotGate_X12_ofTicket : GoodIn wsX12_whyNotGate wsX12_ofTicket := goodIn_r _ [4] (by decide +kernel) (by decide +kernel)
set_option maxRecDepth 20000 in
theorem gX12_whyNotGate_X12_ofTicket : GoodIn wsX12_whyNotGate (va_wsS RX12 98 yX12_ofTicket wsX12_ofTicket) := goodIn_app (goodIn_of _ (by decide +kernel)) ggX12_whyNotGate_X12_ofTicket
set_option maxRecDepth 20000 in
theorem ggX12_whyNotGate_X12_lives : GoodIn wsX12_whyNotGate wsX12_lives := goodIn_r _ [7, 1, 2, 3, 4] (by decide +kernel) (by decide +kernel)
set_option maxRecDepth 20000 in
theorem gX12_whyNotGate_X12_lives : GoodIn wsX12_whyNotGate (va_wsS RX12 101 yX12_lives wsX12_lives) := goodIn_app (goodIn_of _ (by decide +kernel)) ggX12_whyNotGate_X12_lives
theorem dX12_whyNotGate_0 : decode cX12_whyNotGate 0 = .ok (.aload_n 0, 1) := by decide +kernel
theorem dX12_whyNotGate_1 : decode cX12_whyNotGate 1 = .ok (.iload_n 1, 1) := by decide +kernel
theorem dX12_whyNotGate_2 : decode cX12_whyNotGate 2 = .ok (.invokestatic 98, 3) := by decide +kernel
theorem dX12_whyNotGate_5 : decode cX12_whyNotGate 5 = .ok (.iconst 1, 1) := by decide +kernel
theorem dX12_whyNotGate_6 : decode cX12_whyNotGate 6 = .ok (.iadd, 1) := by decide +kernel
theorem dX12_whyNotGate_7 : decode cX12_whyNotGate 7 = .ok (.iaload, 1) := by decide +kernel
theorem dX12_whyNotGate_8 : decode cX12_whyNotGate 8 = .ok (.ifCond .eq 5, 3) := by decide +kernel
theorem dX12_whyNotGate_11 : decode cX12_whyNotGate 11 = .ok (.iconst 1, 1) := by decide +kernel
theorem dX12_whyNotGate_12 : decode cX12_whyNotGate 12 = .ok (.ireturn, 1) := by decide +kernel
theorem dX12_whyNotGate_13 : decode cX12_whyNotGate 13 = .ok (.aload_n 0, 1) := by decide +kernel
theorem dX12_whyNotGate_14 : decode cX12_whyNotGate 14 = .ok (.iload_n 1, 1) := by decide +kernel
theorem dX12_whyNotGate_15 : decode cX12_whyNotGate 15 = .ok (.invokestatic 101, 3) := by decide +kernel
theorem dX12_whyNotGate_18 : decode cX12_whyNotGate 18 = .ok (.ifCond .eq 7, 3) := by decide +kernel
theorem dX12_whyNotGate_21 : decode cX12_whyNotGate 21 = .ok (.iconst 0, 1) := by decide +kernel
theorem dX12_whyNotGate_22 : decode cX12_whyNotGate 22 = .ok (.goto 4, 3) := by decide +kernel
theorem dX12_whyNotGate_25 : decode cX12_whyNotGate 25 = .ok (.iconst 2, 1) := by decide +kernel
theorem dX12_whyNotGate_26 : decode cX12_whyNotGate 26 = .ok (.ireturn, 1) := by decide +kernel
set_option maxRecDepth 20000 in
theorem ggX12_whyNotNew_X12_ofTicket : GoodIn wsX12_whyNotNew wsX12_ofTicket := goodIn_r _ [4] (by decide +kernel) (by decide +kernel)
set_option maxRecDepth 20000 in
theorem gX12_whyNotNew_X12_ofTicket : GoodIn wsX12_whyNotNew (va_wsS RX12 98 yX12_ofTicket wsX12_ofTicket) := goodIn_app (goodIn_of _ (by decide +kernel)) ggX12_whyNotNew_X12_ofTicket
set_option maxRecDepth 20000 in
theorem ggX12_whyNotNew_X12_isSkewed : GoodIn wsX12_whyNotNew wsX12_isSkewed := goodIn_r _ [7, 8, 9, 3, 10, 11, 12, 13, 14, 15, 16] (by decide +kernel) (by decide +kernel)
set_option maxRecDepth 20000 in
theorem gX12_whyNotNew_X12_isSkewed : GoodIn wsX12_whyNotNew (va_wsS RX12 112 yX12_isSkewed wsX12_isSkewed) := goodIn_app (goodIn_of _ (by decide +kernel)) ggX12_whyNotNew_X12_isSkewed
theorem dX12_whyNotNew_0 : decode cX12_whyNotNew 0 = .ok (.iload_n 1, 1) := by decide +kernel
theorem dX12_whyNotNew_1 : decode cX12_whyNotNew 1 = .ok (.invokestatic 98, 3) := by decide +kernel
theorem dX12_whyNotNew_4 : decode cX12_whyNotNew 4 = .ok (.istore_n 2, 1) := by decide +kernel
theorem dX12_whyNotNew_5 : decode cX12_whyNotNew 5 = .ok (.aload_n 0, 1) := by decide +kernel
theorem dX12_whyNotNew_6 : decode cX12_whyNotNew 6 = .ok (.aload_n 0, 1) := by decide +kernel
theorem dX12_whyNotNew_7 : decode cX12_whyNotNew 7 = .ok (.iload_n 2, 1) := by decide +kernel
theorem dX12_whyNotNew_8 : decode cX12_whyNotNew 8 = .ok (.iconst 2, 1) := by decide +kernel
theorem dX12_whyNotNew_9 : decode cX12_whyNotNew 9 = .ok (.iadd, 1) := by decide +kernel
theorem dX12_whyNotNew_10 : decode cX12_whyNotNew 10 = .ok (.iaload, 1) := by decide +kernel
theorem dX12_whyNotNew_11 : decode cX12_whyNotNew 11 = .ok (.aload_n 0, 1) := by decide +kernel
theorem dX12_whyNotNew_12 : decode cX12_whyNotNew 12 = .ok (.iload_n 2, 1) := by decide +kernel
theorem dX12_whyNotNew_13 : decode cX12_whyNotNew 13 = .ok (.iconst 3, 1) := by decide +kernel
theorem dX12_whyNotNew_14 : decode cX12_whyNotNew 14 = .ok (.iadd, 1) := by decide +kernel
theorem dX12_whyNotNew_15 : decode cX12_whyNotNew 15 = .ok (.iaload, 1) := by decide +kernel
theorem dX12_whyNotNew_16 : decode cX12_whyNotNew 16 = .ok (.invokestatic 112, 3) := by decide +kernel
theorem dX12_whyNotNew_19 : decode cX12_whyNotNew 19 = .ok (.ifCond .eq 5, 3) := by decide +kernel
theorem dX12_whyNotNew_22 : decode cX12_whyNotNew 22 = .ok (.iconst 4, 1) := by decide +kernel
theorem dX12_whyNotNew_23 : decode cX12_whyNotNew 23 = .ok (.ireturn, 1) := by decide +kernel
theorem dX12_whyNotNew_24 : decode cX12_whyNotNew 24 = .ok (.aload_n 0, 1) := by decide +kernel
theorem dX12_whyNotNew_25 : decode cX12_whyNotNew 25 = .ok (.bipush 6, 2) := by decide +kernel
theorem dX12_whyNotNew_27 : decode cX12_whyNotNew 27 = .ok (.iaload, 1) := by decide +kernel
theorem dX12_whyNotNew_28 : decode cX12_whyNotNew 28 = .ok (.bipush 24, 2) := by decide +kernel
theorem dX12_whyNotNew_30 : decode cX12_whyNotNew 30 = .ok (.if_icmp .ne 7, 3) := by decide +kernel
theorem dX12_whyNotNew_33 : decode cX12_whyNotNew 33 = .ok (.iconst 5, 1) := by decide +kernel
theorem dX12_whyNotNew_34 : decode cX12_whyNotNew 34 = .ok (.goto 4, 3) := by decide +kernel
theorem dX12_whyNotNew_37 : decode cX12_whyNotNew 37 = .ok (.iconst 0, 1) := by decide +kernel
theorem dX12_whyNotNew_38 : decode cX12_whyNotNew 38 = .ok (.ireturn, 1) := by decide +kernel
set_option maxRecDepth 20000 in
theorem ggX12_whyNotRefer_X12_whyNotGate : GoodIn wsX12_whyNotRefer wsX12_whyNotGate := goodIn_r _ [4, 5, 6, 3, 7, 8, 9, 10] (by decide +kernel) (by decide +kernel)
set_option maxRecDepth 20000 in
theorem gX12_whyNotRefer_X12_whyNotGate : GoodIn wsX12_whyNotRefer (va_wsS RX12 115 yX12_whyNotGate wsX12_whyNotGate) := goodIn_app (goodIn_of _ (by decide +kernel)) ggX12_whyNotRefer_X12_whyNotGate
set_option maxRecDepth 20000 in
theorem ggX12_whyNotRefer_X12_ofTicket : GoodIn wsX12_whyNotRefer wsX12_ofTicket := goodIn_r _ [7] (by decide +kernel) (by decide +kernel)
set_option maxRecDepth 20000 in
theorem gX12_whyNotRefer_X12_ofTicket : GoodIn wsX12_whyNotRefer (va_wsS RX12 98 yX12_ofTicket wsX12_ofTicket) := goodIn_app (goodIn_of _ (by decide +kernel)) ggX12_whyNotRefer_X12_ofTicket
set_option maxRecDepth 20000 in
theorem ggX12_whyNotRefer_X12_trusted : GoodIn wsX12_whyNotRefer wsX12_trusted := goodIn_r _ [13] (by decide +kernel) (by decide +kernel)
set_option maxRecDepth 20000 in
theorem gX12_whyNotRefer_X12_trusted : GoodIn wsX12_whyNotRefer (va_wsS RX12 75 yX12_trusted wsX12_trusted) := goodIn_app (goodIn_of _ (by decide +kernel)) ggX12_whyNotRefer_X12_trusted
set_option maxRecDepth 20000 in
theorem ggX12_whyNotRefer_X12_whyNotNew : GoodIn wsX12_whyNotRefer wsX12_whyNotNew := goodIn_r _ [16, 5, 6, 3, 7, 17, 18, 19, 20, 21, 22, 23, 24, 25, 26, 27, 28] (by decide +kernel) (by decide +kernel)
set_option maxRecDepth 20000 in
theorem gX12_whyNotRefer_X12_whyNotNew : GoodIn wsX12_whyNotRefer (va_wsS RX12 119 yX12_whyNotNew wsX12_whyNotNew) := goodIn_app (goodIn_of _ (by decide +kernel)) ggX12_whyNotRefer_X12_whyNotNew
theorem dX12_whyNotRefer_0 : decode cX12_whyNotRefer 0 = .ok (.aload_n 0, 1) := by decide +kernel
theorem dX12_whyNotRefer_1 : decode cX12_whyNotRefer 1 = .ok (.iload_n 1, 1) := by decide +kernel
theorem dX12_whyNotRefer_2 : decode cX12_whyNotRefer 2 = .ok (.invokestatic 115, 3) := by decide +kernel
theorem dX12_whyNotRefer_5 : decode cX12_whyNotRefer 5 = .ok (.istore_n 3, 1) := by decide +kernel
theorem dX12_whyNotRefer_6 : decode cX12_whyNotRefer 6 = .ok (.iload_n 3, 1) := by decide +kernel
theorem dX12_whyNotRefer_7 : decode cX12_whyNotRefer 7 = .ok (.ifCond .eq 5, 3) := by decide +kernel
theorem dX12_whyNotRefer_10 : decode cX12_whyNotRefer 10 = .ok (.iload_n 3, 1) := by decide +kernel
theorem dX12_whyNotRefer_11 : decode cX12_whyNotRefer 11 = .ok (.ireturn, 1) := by decide +kernel
theorem dX12_whyNotRefer_12 : decode cX12_whyNotRefer 12 = .ok (.aload_n 0, 1) := by decide +kernel
theorem dX12_whyNotRefer_13 : decode cX12_whyNotRefer 13 = .ok (.aload_n 0, 1) := by decide +kernel
theorem dX12_whyNotRefer_14 : decode cX12_whyNotRefer 14 = .ok (.iload_n 1, 1) := by decide +kernel
theorem dX12_whyNotRefer_15 : decode cX12_whyNotRefer 15 = .ok (.invokestatic 98, 3) := by decide +kernel
theorem dX12_whyNotRefer_18 : decode cX12_whyNotRefer 18 = .ok (.iconst 3, 1) := by decide +kernel
theorem dX12_whyNotRefer_19 : decode cX12_whyNotRefer 19 = .ok (.iadd, 1) := by decide +kernel
theorem dX12_whyNotRefer_20 : decode cX12_whyNotRefer 20 = .ok (.iaload, 1) := by decide +kernel
theorem dX12_whyNotRefer_21 : decode cX12_whyNotRefer 21 = .ok (.iload_n 2, 1) := by decide +kernel
theorem dX12_whyNotRefer_22 : decode cX12_whyNotRefer 22 = .ok (.invokestatic 75, 3) := by decide +kernel
theorem dX12_whyNotRefer_25 : decode cX12_whyNotRefer 25 = .ok (.ifCond .eq 11, 3) := by decide +kernel
theorem dX12_whyNotRefer_28 : decode cX12_whyNotRefer 28 = .ok (.aload_n 0, 1) := by decide +kernel
theorem dX12_whyNotRefer_29 : decode cX12_whyNotRefer 29 = .ok (.iload_n 1, 1) := by decide +kernel
theorem dX12_whyNotRefer_30 : decode cX12_whyNotRefer 30 = .ok (.invokestatic 119, 3) := by decide +kernel
theorem dX12_whyNotRefer_33 : decode cX12_whyNotRefer 33 = .ok (.goto 4, 3) := by decide +kernel
theorem dX12_whyNotRefer_36 : decode cX12_whyNotRefer 36 = .ok (.iconst 3, 1) := by decide +kernel
theorem dX12_whyNotRefer_37 : decode cX12_whyNotRefer 37 = .ok (.ireturn, 1) := by decide +kernel
set_option maxRecDepth 20000 in
theorem ggX12_whyNotRequest_X12_whyNotGate : GoodIn wsX12_whyNotRequest wsX12_whyNotGate := goodIn_r _ [4, 5, 6, 3, 7, 8, 9, 10] (by decide +kernel) (by decide +kernel)
set_option maxRecDepth 20000 in
theorem gX12_whyNotRequest_X12_whyNotGate : GoodIn wsX12_whyNotRequest (va_wsS RX12 115 yX12_whyNotGate wsX12_whyNotGate) := goodIn_app (goodIn_of _ (by decide +kernel)) ggX12_whyNotRequest_X12_whyNotGate
set_option maxRecDepth 20000 in
theorem ggX12_whyNotRequest_X12_ofTicket : GoodIn wsX12_whyNotRequest wsX12_ofTicket := goodIn_r _ [7] (by decide +kernel) (by decide +kernel)
set_option maxRecDepth 20000 in
theorem gX12_whyNotRequest_X12_ofTicket : GoodIn wsX12_whyNotRequest (va_wsS RX12 98 yX12_ofTicket wsX12_ofTicket) := goodIn_app (goodIn_of _ (by decide +kernel)) ggX12_whyNotRequest_X12_ofTicket
set_option maxRecDepth 20000 in
theorem ggX12_whyNotRequest_X12_ofService : GoodIn wsX12_whyNotRequest wsX12_ofService := goodIn_r _ [13] (by decide +kernel) (by decide +kernel)
set_option maxRecDepth 20000 in
theorem gX12_whyNotRequest_X12_ofService : GoodIn wsX12_whyNotRequest (va_wsS RX12 122 yX12_ofService wsX12_ofService) := goodIn_app (goodIn_of _ (by decide +kernel)) ggX12_whyNotRequest_X12_ofService
set_option maxRecDepth 20000 in
theorem ggX12_whyNotRequest_X12_whyNotNew : GoodIn wsX12_whyNotRequest wsX12_whyNotNew := goodIn_r _ [16, 5, 6, 3, 7, 17, 18, 19, 20, 21, 22, 23, 24, 25, 26, 27, 28] (by decide +kernel) (by decide +kernel)
set_option maxRecDepth 20000 in
theorem gX12_whyNotRequest_X12_whyNotNew : GoodIn wsX12_whyNotRequest (va_wsS RX12 119 yX12_whyNotNew wsX12_whyNotNew) := goodIn_app (goodIn_of _ (by decide +kernel)) ggX12_whyNotRequest_X12_whyNotNew
theorem dX12_whyNotRequest_0 : decode cX12_whyNotRequest 0 = .ok (.aload_n 0, 1) := by decide +kernel
theorem dX12_whyNotRequest_1 : decode cX12_whyNotRequest 1 = .ok (.iload_n 1, 1) := by decide +kernel
theorem dX12_whyNotRequest_2 : decode cX12_whyNotRequest 2 = .ok (.invokestatic 115, 3) := by decide +kernel
theorem dX12_whyNotRequest_5 : decode cX12_whyNotRequest 5 = .ok (.istore_n 3, 1) := by decide +kernel
theorem dX12_whyNotRequest_6 : decode cX12_whyNotRequest 6 = .ok (.iload_n 3, 1) := by decide +kernel
theorem dX12_whyNotRequest_7 : decode cX12_whyNotRequest 7 = .ok (.ifCond .eq 5, 3) := by decide +kernel
theorem dX12_whyNotRequest_10 : decode cX12_whyNotRequest 10 = .ok (.iload_n 3, 1) := by decide +kernel
theorem dX12_whyNotRequest_11 : decode cX12_whyNotRequest 11 = .ok (.ireturn, 1) := by decide +kernel
theorem dX12_whyNotRequest_12 : decode cX12_whyNotRequest 12 = .ok (.aload_n 0, 1) := by decide +kernel
theorem dX12_whyNotRequest_13 : decode cX12_whyNotRequest 13 = .ok (.iload_n 1, 1) := by decide +kernel
theorem dX12_whyNotRequest_14 : decode cX12_whyNotRequest 14 = .ok (.invokestatic 98, 3) := by decide +kernel
theorem dX12_whyNotRequest_17 : decode cX12_whyNotRequest 17 = .ok (.iconst 3, 1) := by decide +kernel
theorem dX12_whyNotRequest_18 : decode cX12_whyNotRequest 18 = .ok (.iadd, 1) := by decide +kernel
theorem dX12_whyNotRequest_19 : decode cX12_whyNotRequest 19 = .ok (.iaload, 1) := by decide +kernel
theorem dX12_whyNotRequest_20 : decode cX12_whyNotRequest 20 = .ok (.aload_n 0, 1) := by decide +kernel
theorem dX12_whyNotRequest_21 : decode cX12_whyNotRequest 21 = .ok (.iload_n 2, 1) := by decide +kernel
theorem dX12_whyNotRequest_22 : decode cX12_whyNotRequest 22 = .ok (.invokestatic 122, 3) := by decide +kernel
theorem dX12_whyNotRequest_25 : decode cX12_whyNotRequest 25 = .ok (.iconst 1, 1) := by decide +kernel
theorem dX12_whyNotRequest_26 : decode cX12_whyNotRequest 26 = .ok (.iadd, 1) := by decide +kernel
theorem dX12_whyNotRequest_27 : decode cX12_whyNotRequest 27 = .ok (.iaload, 1) := by decide +kernel
theorem dX12_whyNotRequest_28 : decode cX12_whyNotRequest 28 = .ok (.if_icmp .ne 11, 3) := by decide +kernel
theorem dX12_whyNotRequest_31 : decode cX12_whyNotRequest 31 = .ok (.aload_n 0, 1) := by decide +kernel
theorem dX12_whyNotRequest_32 : decode cX12_whyNotRequest 32 = .ok (.iload_n 1, 1) := by decide +kernel
theorem dX12_whyNotRequest_33 : decode cX12_whyNotRequest 33 = .ok (.invokestatic 119, 3) := by decide +kernel
theorem dX12_whyNotRequest_36 : decode cX12_whyNotRequest 36 = .ok (.goto 4, 3) := by decide +kernel
theorem dX12_whyNotRequest_39 : decode cX12_whyNotRequest 39 = .ok (.iconst 3, 1) := by decide +kernel
theorem dX12_whyNotRequest_40 : decode cX12_whyNotRequest 40 = .ok (.ireturn, 1) := by decide +kernel
set_option maxRecDepth 20000 in
theorem ggX12_newEnd_X12_ofTicket : GoodIn wsX12_newEnd wsX12_ofTicket := goodIn_r _ [4] (by decide +kernel) (by decide +kernel)
set_option maxRecDepth 20000 in
theorem gX12_newEnd_X12_ofTicket : GoodIn wsX12_newEnd (va_wsS RX12 98 yX12_ofTicket wsX12_ofTicket) := goodIn_app (goodIn_of _ (by decide +kernel)) ggX12_newEnd_X12_ofTicket
set_option maxRecDepth 20000 in
theorem ggX12_newEnd_X12_ofRealm : GoodIn wsX12_newEnd wsX12_ofRealm := goodIn_r _ [7] (by decide +kernel) (by decide +kernel)
set_option maxRecDepth 20000 in
theorem gX12_newEnd_X12_ofRealm : GoodIn wsX12_newEnd (va_wsS RX12 91 yX12_ofRealm wsX12_ofRealm) := goodIn_app (goodIn_of _ (by decide +kernel)) ggX12_newEnd_X12_ofRealm
set_option maxRecDepth 20000 in
theorem ggX12_newEnd_X12_lesser : GoodIn wsX12_newEnd wsX12_lesser := goodIn_r _ [10] (by decide +kernel) (by decide +kernel)
set_option maxRecDepth 20000 in
theorem gX12_newEnd_X12_lesser : GoodIn wsX12_newEnd (va_wsS RX12 79 yX12_lesser wsX12_lesser) := goodIn_app (goodIn_of _ (by decide +kernel)) ggX12_newEnd_X12_lesser
theorem dX12_newEnd_0 : decode cX12_newEnd 0 = .ok (.iload_n 1, 1) := by decide +kernel
theorem dX12_newEnd_1 : decode cX12_newEnd 1 = .ok (.invokestatic 98, 3) := by decide +kernel
theorem dX12_newEnd_4 : decode cX12_newEnd 4 = .ok (.istore_n 2, 1) := by decide +kernel
theorem dX12_newEnd_5 : decode cX12_newEnd 5 = .ok (.aload_n 0, 1) := by decide +kernel
theorem dX12_newEnd_6 : decode cX12_newEnd 6 = .ok (.iconst 0, 1) := by decide +kernel
theorem dX12_newEnd_7 : decode cX12_newEnd 7 = .ok (.iaload, 1) := by decide +kernel
theorem dX12_newEnd_8 : decode cX12_newEnd 8 = .ok (.aload_n 0, 1) := by decide +kernel
theorem dX12_newEnd_9 : decode cX12_newEnd 9 = .ok (.aload_n 0, 1) := by decide +kernel
theorem dX12_newEnd_10 : decode cX12_newEnd 10 = .ok (.iload_n 2, 1) := by decide +kernel
theorem dX12_newEnd_11 : decode cX12_newEnd 11 = .ok (.iconst 3, 1) := by decide +kernel
theorem dX12_newEnd_12 : decode cX12_newEnd 12 = .ok (.iadd, 1) := by decide +kernel
theorem dX12_newEnd_13 : decode cX12_newEnd 13 = .ok (.iaload, 1) := by decide +kernel
theorem dX12_newEnd_14 : decode cX12_newEnd 14 = .ok (.invokestatic 91, 3) := by decide +kernel
theorem dX12_newEnd_17 : decode cX12_newEnd 17 = .ok (.iconst 1, 1) := by decide +kernel
theorem dX12_newEnd_18 : decode cX12_newEnd 18 = .ok (.iadd, 1) := by decide +kernel
theorem dX12_newEnd_19 : decode cX12_newEnd 19 = .ok (.iaload, 1) := by decide +kernel
theorem dX12_newEnd_20 : decode cX12_newEnd 20 = .ok (.iadd, 1) := by decide +kernel
theorem dX12_newEnd_21 : decode cX12_newEnd 21 = .ok (.aload_n 0, 1) := by decide +kernel
theorem dX12_newEnd_22 : decode cX12_newEnd 22 = .ok (.iload_n 2, 1) := by decide +kernel
theorem dX12_newEnd_23 : decode cX12_newEnd 23 = .ok (.bipush 7, 2) := by decide +kernel
theorem dX12_newEnd_25 : decode cX12_newEnd 25 = .ok (.iadd, 1) := by decide +kernel
theorem dX12_newEnd_26 : decode cX12_newEnd 26 = .ok (.iaload, 1) := by decide +kernel
theorem dX12_newEnd_27 : decode cX12_newEnd 27 = .ok (.invokestatic 79, 3) := by decide +kernel
theorem dX12_newEnd_30 : decode cX12_newEnd 30 = .ok (.ireturn, 1) := by decide +kernel
set_option maxRecDepth 20000 in
theorem ggX12_whyNotRenew_X12_ofTicket : GoodIn wsX12_whyNotRenew wsX12_ofTicket := goodIn_r _ [4] (by decide +kernel) (by decide +kernel)
set_option maxRecDepth 20000 in
theorem gX12_whyNotRenew_X12_ofTicket : GoodIn wsX12_whyNotRenew (va_wsS RX12 98 yX12_ofTicket wsX12_ofTicket) := goodIn_app (goodIn_of _ (by decide +kernel)) ggX12_whyNotRenew_X12_ofTicket
set_option maxRecDepth 20000 in
theorem ggX12_whyNotRenew_X12_lives : GoodIn wsX12_whyNotRenew wsX12_lives := goodIn_r _ [7, 1, 2, 3, 4] (by decide +kernel) (by decide +kernel)
set_option maxRecDepth 20000 in
theorem gX12_whyNotRenew_X12_lives : GoodIn wsX12_whyNotRenew (va_wsS RX12 101 yX12_lives wsX12_lives) := goodIn_app (goodIn_of _ (by decide +kernel)) ggX12_whyNotRenew_X12_lives
set_option maxRecDepth 20000 in
theorem ggX12_whyNotRenew_X12_newEnd : GoodIn wsX12_whyNotRenew wsX12_newEnd := goodIn_r _ [10, 1, 2, 3, 4, 11, 12, 13, 14, 15, 16] (by decide +kernel) (by decide +kernel)
set_option maxRecDepth 20000 in
theorem gX12_whyNotRenew_X12_newEnd : GoodIn wsX12_whyNotRenew (va_wsS RX12 125 yX12_newEnd wsX12_newEnd) := goodIn_app (goodIn_of _ (by decide +kernel)) ggX12_whyNotRenew_X12_newEnd
theorem dX12_whyNotRenew_0 : decode cX12_whyNotRenew 0 = .ok (.iload_n 1, 1) := by decide +kernel
theorem dX12_whyNotRenew_1 : decode cX12_whyNotRenew 1 = .ok (.invokestatic 98, 3) := by decide +kernel
theorem dX12_whyNotRenew_4 : decode cX12_whyNotRenew 4 = .ok (.istore_n 2, 1) := by decide +kernel
theorem dX12_whyNotRenew_5 : decode cX12_whyNotRenew 5 = .ok (.aload_n 0, 1) := by decide +kernel
theorem dX12_whyNotRenew_6 : decode cX12_whyNotRenew 6 = .ok (.iload_n 2, 1) := by decide +kernel
theorem dX12_whyNotRenew_7 : decode cX12_whyNotRenew 7 = .ok (.bipush 9, 2) := by decide +kernel
theorem dX12_whyNotRenew_9 : decode cX12_whyNotRenew 9 = .ok (.iadd, 1) := by decide +kernel
theorem dX12_whyNotRenew_10 : decode cX12_whyNotRenew 10 = .ok (.iaload, 1) := by decide +kernel
theorem dX12_whyNotRenew_11 : decode cX12_whyNotRenew 11 = .ok (.iconst 1, 1) := by decide +kernel
theorem dX12_whyNotRenew_12 : decode cX12_whyNotRenew 12 = .ok (.if_icmp .eq 5, 3) := by decide +kernel
theorem dX12_whyNotRenew_15 : decode cX12_whyNotRenew 15 = .ok (.iconst 1, 1) := by decide +kernel
theorem dX12_whyNotRenew_16 : decode cX12_whyNotRenew 16 = .ok (.ireturn, 1) := by decide +kernel
theorem dX12_whyNotRenew_17 : decode cX12_whyNotRenew 17 = .ok (.aload_n 0, 1) := by decide +kernel
theorem dX12_whyNotRenew_18 : decode cX12_whyNotRenew 18 = .ok (.iload_n 1, 1) := by decide +kernel
theorem dX12_whyNotRenew_19 : decode cX12_whyNotRenew 19 = .ok (.invokestatic 101, 3) := by decide +kernel
theorem dX12_whyNotRenew_22 : decode cX12_whyNotRenew 22 = .ok (.ifCond .ne 5, 3) := by decide +kernel
theorem dX12_whyNotRenew_25 : decode cX12_whyNotRenew 25 = .ok (.iconst 2, 1) := by decide +kernel
theorem dX12_whyNotRenew_26 : decode cX12_whyNotRenew 26 = .ok (.ireturn, 1) := by decide +kernel
theorem dX12_whyNotRenew_27 : decode cX12_whyNotRenew 27 = .ok (.aload_n 0, 1) := by decide +kernel
theorem dX12_whyNotRenew_28 : decode cX12_whyNotRenew 28 = .ok (.iload_n 1, 1) := by decide +kernel
theorem dX12_whyNotRenew_29 : decode cX12_whyNotRenew 29 = .ok (.invokestatic 125, 3) := by decide +kernel
theorem dX12_whyNotRenew_32 : decode cX12_whyNotRenew 32 = .ok (.aload_n 0, 1) := by decide +kernel
theorem dX12_whyNotRenew_33 : decode cX12_whyNotRenew 33 = .ok (.iload_n 2, 1) := by decide +kernel
theorem dX12_whyNotRenew_34 : decode cX12_whyNotRenew 34 = .ok (.bipush 6, 2) := by decide +kernel
theorem dX12_whyNotRenew_36 : decode cX12_whyNotRenew 36 = .ok (.iadd, 1) := by decide +kernel
theorem dX12_whyNotRenew_37 : decode cX12_whyNotRenew 37 = .ok (.iaload, 1) := by decide +kernel
theorem dX12_whyNotRenew_38 : decode cX12_whyNotRenew 38 = .ok (.if_icmp .gt 7, 3) := by decide +kernel
theorem dX12_whyNotRenew_41 : decode cX12_whyNotRenew 41 = .ok (.iconst 3, 1) := by decide +kernel
theorem dX12_whyNotRenew_42 : decode cX12_whyNotRenew 42 = .ok (.goto 4, 3) := by decide +kernel
theorem dX12_whyNotRenew_45 : decode cX12_whyNotRenew 45 = .ok (.iconst 0, 1) := by decide +kernel
theorem dX12_whyNotRenew_46 : decode cX12_whyNotRenew 46 = .ok (.ireturn, 1) := by decide +kernel
set_option maxRecDepth 20000 in
theorem ggX12_isUsed_X12_ofUser : GoodIn wsX12_isUsed wsX12_ofUser := goodIn_r _ [4] (by decide +kernel) (by decide +kernel)
set_option maxRecDepth 20000 in
theorem gX12_isUsed_X12_ofUser : GoodIn wsX12_isUsed (va_wsS RX12 87 yX12_ofUser wsX12_ofUser) := goodIn_app (goodIn_of _ (by decide +kernel)) ggX12_isUsed_X12_ofUser
set_option maxRecDepth 20000 in
theorem ggX12_isUsed_X12_ofUse : GoodIn wsX12_isUsed wsX12_ofUse := goodIn_r _ [7] (by decide +kernel) (by decide +kernel)
set_option maxRecDepth 20000 in
theorem gX12_isUsed_X12_ofUse : GoodIn wsX12_isUsed (va_wsS RX12 128 yX12_ofUse wsX12_ofUse) := goodIn_app (goodIn_of _ (by decide +kernel)) ggX12_isUsed_X12_ofUse
theorem dX12_isUsed_0 : decode cX12_isUsed 0 = .ok (.aload_n 0, 1) := by decide +kernel
theorem dX12_isUsed_1 : decode cX12_isUsed 1 = .ok (.iconst 0, 1) := by decide +kernel
theorem dX12_isUsed_2 : decode cX12_isUsed 2 = .ok (.iaload, 1) := by decide +kernel
theorem dX12_isUsed_3 : decode cX12_isUsed 3 = .ok (.aload_n 0, 1) := by decide +kernel
theorem dX12_isUsed_4 : decode cX12_isUsed 4 = .ok (.iload_n 1, 1) := by decide +kernel
theorem dX12_isUsed_5 : decode cX12_isUsed 5 = .ok (.invokestatic 87, 3) := by decide +kernel
theorem dX12_isUsed_8 : decode cX12_isUsed 8 = .ok (.iconst 3, 1) := by decide +kernel
theorem dX12_isUsed_9 : decode cX12_isUsed 9 = .ok (.iadd, 1) := by decide +kernel
theorem dX12_isUsed_10 : decode cX12_isUsed 10 = .ok (.iaload, 1) := by decide +kernel
theorem dX12_isUsed_11 : decode cX12_isUsed 11 = .ok (.iadd, 1) := by decide +kernel
theorem dX12_isUsed_12 : decode cX12_isUsed 12 = .ok (.istore_n 3, 1) := by decide +kernel
theorem dX12_isUsed_13 : decode cX12_isUsed 13 = .ok (.iconst 0, 1) := by decide +kernel
theorem dX12_isUsed_14 : decode cX12_isUsed 14 = .ok (.istore 4, 2) := by decide +kernel
theorem dX12_isUsed_16 : decode cX12_isUsed 16 = .ok (.iload 4, 2) := by decide +kernel
theorem dX12_isUsed_18 : decode cX12_isUsed 18 = .ok (.aload_n 0, 1) := by decide +kernel
theorem dX12_isUsed_19 : decode cX12_isUsed 19 = .ok (.bipush 8, 2) := by decide +kernel
theorem dX12_isUsed_21 : decode cX12_isUsed 21 = .ok (.iaload, 1) := by decide +kernel
theorem dX12_isUsed_22 : decode cX12_isUsed 22 = .ok (.if_icmp .ge 48, 3) := by decide +kernel
theorem dX12_isUsed_25 : decode cX12_isUsed 25 = .ok (.iload 4, 2) := by decide +kernel
theorem dX12_isUsed_27 : decode cX12_isUsed 27 = .ok (.invokestatic 128, 3) := by decide +kernel
theorem dX12_isUsed_30 : decode cX12_isUsed 30 = .ok (.istore 5, 2) := by decide +kernel
theorem dX12_isUsed_32 : decode cX12_isUsed 32 = .ok (.aload_n 0, 1) := by decide +kernel
theorem dX12_isUsed_33 : decode cX12_isUsed 33 = .ok (.iload 5, 2) := by decide +kernel
theorem dX12_isUsed_35 : decode cX12_isUsed 35 = .ok (.iconst 0, 1) := by decide +kernel
theorem dX12_isUsed_36 : decode cX12_isUsed 36 = .ok (.iadd, 1) := by decide +kernel
theorem dX12_isUsed_37 : decode cX12_isUsed 37 = .ok (.iaload, 1) := by decide +kernel
theorem dX12_isUsed_38 : decode cX12_isUsed 38 = .ok (.iload_n 1, 1) := by decide +kernel
theorem dX12_isUsed_39 : decode cX12_isUsed 39 = .ok (.if_icmp .ne 25, 3) := by decide +kernel
theorem dX12_isUsed_42 : decode cX12_isUsed 42 = .ok (.aload_n 0, 1) := by decide +kernel
theorem dX12_isUsed_43 : decode cX12_isUsed 43 = .ok (.iload 5, 2) := by decide +kernel
theorem dX12_isUsed_45 : decode cX12_isUsed 45 = .ok (.iconst 1, 1) := by decide +kernel
theorem dX12_isUsed_46 : decode cX12_isUsed 46 = .ok (.iadd, 1) := by decide +kernel
theorem dX12_isUsed_47 : decode cX12_isUsed 47 = .ok (.iaload, 1) := by decide +kernel
theorem dX12_isUsed_48 : decode cX12_isUsed 48 = .ok (.iload_n 2, 1) := by decide +kernel
theorem dX12_isUsed_49 : decode cX12_isUsed 49 = .ok (.if_icmp .ne 15, 3) := by decide +kernel
theorem dX12_isUsed_52 : decode cX12_isUsed 52 = .ok (.aload_n 0, 1) := by decide +kernel
theorem dX12_isUsed_53 : decode cX12_isUsed 53 = .ok (.iload 5, 2) := by decide +kernel
theorem dX12_isUsed_55 : decode cX12_isUsed 55 = .ok (.iconst 2, 1) := by decide +kernel
theorem dX12_isUsed_56 : decode cX12_isUsed 56 = .ok (.iadd, 1) := by decide +kernel
theorem dX12_isUsed_57 : decode cX12_isUsed 57 = .ok (.iaload, 1) := by decide +kernel
theorem dX12_isUsed_58 : decode cX12_isUsed 58 = .ok (.iload_n 3, 1) := by decide +kernel
theorem dX12_isUsed_59 : decode cX12_isUsed 59 = .ok (.if_icmp .ne 5, 3) := by decide +kernel
theorem dX12_isUsed_62 : decode cX12_isUsed 62 = .ok (.iconst 1, 1) := by decide +kernel
theorem dX12_isUsed_63 : decode cX12_isUsed 63 = .ok (.ireturn, 1) := by decide +kernel
theorem dX12_isUsed_64 : decode cX12_isUsed 64 = .ok (.iinc 4 1, 3) := by decide +kernel
theorem dX12_isUsed_67 : decode cX12_isUsed 67 = .ok (.goto (-51), 3) := by decide +kernel
theorem dX12_isUsed_70 : decode cX12_isUsed 70 = .ok (.iconst 0, 1) := by decide +kernel
theorem dX12_isUsed_71 : decode cX12_isUsed 71 = .ok (.ireturn, 1) := by decide +kernel
set_option maxRecDepth 20000 in
theorem ggX12_whyNotCheese_X12_ofTicket : GoodIn wsX12_whyNotCheese wsX12_ofTicket := goodIn_r _ [4] (by decide +kernel) (by decide +kernel)
set_option maxRecDepth 20000 in
theorem gX12_whyNotCheese_X12_ofTicket : GoodIn wsX12_whyNotCheese (va_wsS RX12 98 yX12_ofTicket wsX12_ofTicket) := goodIn_app (goodIn_of _ (by decide +kernel)) ggX12_whyNotCheese_X12_ofTicket
set_option maxRecDepth 20000 in
theorem ggX12_whyNotCheese_X12_lives : GoodIn wsX12_whyNotCheese wsX12_lives := goodIn_r _ [7, 1, 2, 3, 4] (by decide +kernel) (by decide +kernel)
set_option maxRecDepth 20000 in
theorem gX12_whyNotCheese_X12_lives : GoodIn wsX12_whyNotCheese (va_wsS RX12 101 yX12_lives wsX12_lives) := goodIn_app (goodIn_of _ (by decide +kernel)) ggX12_whyNotCheese_X12_lives
set_option maxRecDepth 20000 in
theorem ggX12_whyNotCheese_X12_isSkewed : GoodIn wsX12_whyNotCheese wsX12_isSkewed := goodIn_r _ [10, 11, 12, 3, 13, 14, 15, 16, 17, 18, 19] (by decide +kernel) (by decide +kernel)
set_option maxRecDepth 20000 in
theorem gX12_whyNotCheese_X12_isSkewed : GoodIn wsX12_whyNotCheese (va_wsS RX12 112 yX12_isSkewed wsX12_isSkewed) := goodIn_app (goodIn_of _ (by decide +kernel)) ggX12_whyNotCheese_X12_isSkewed
set_option maxRecDepth 20000 in
theorem ggX12_whyNotCheese_X12_isUsed : GoodIn wsX12_whyNotCheese wsX12_isUsed := goodIn_r _ [22, 14, 15, 3, 16, 23, 24, 25] (by decide +kernel) (by decide +kernel)
set_option maxRecDepth 20000 in
theorem gX12_whyNotCheese_X12_isUsed : GoodIn wsX12_whyNotCheese (va_wsS RX12 131 yX12_isUsed wsX12_isUsed) := goodIn_app (goodIn_of _ (by decide +kernel)) ggX12_whyNotCheese_X12_isUsed
set_option maxRecDepth 20000 in
theorem ggX12_whyNotCheese_X12_ofService : GoodIn wsX12_whyNotCheese wsX12_ofService := goodIn_r _ [28] (by decide +kernel) (by decide +kernel)
set_option maxRecDepth 20000 in
theorem gX12_whyNotCheese_X12_ofService : GoodIn wsX12_whyNotCheese (va_wsS RX12 122 yX12_ofService wsX12_ofService) := goodIn_app (goodIn_of _ (by decide +kernel)) ggX12_whyNotCheese_X12_ofService
theorem dX12_whyNotCheese_0 : decode cX12_whyNotCheese 0 = .ok (.iload_n 1, 1) := by decide +kernel
theorem dX12_whyNotCheese_1 : decode cX12_whyNotCheese 1 = .ok (.invokestatic 98, 3) := by decide +kernel
theorem dX12_whyNotCheese_4 : decode cX12_whyNotCheese 4 = .ok (.istore_n 2, 1) := by decide +kernel
theorem dX12_whyNotCheese_5 : decode cX12_whyNotCheese 5 = .ok (.aload_n 0, 1) := by decide +kernel
theorem dX12_whyNotCheese_6 : decode cX12_whyNotCheese 6 = .ok (.iload_n 2, 1) := by decide +kernel
theorem dX12_whyNotCheese_7 : decode cX12_whyNotCheese 7 = .ok (.iconst 1, 1) := by decide +kernel
theorem dX12_whyNotCheese_8 : decode cX12_whyNotCheese 8 = .ok (.iadd, 1) := by decide +kernel
theorem dX12_whyNotCheese_9 : decode cX12_whyNotCheese 9 = .ok (.iaload, 1) := by decide +kernel
theorem dX12_whyNotCheese_10 : decode cX12_whyNotCheese 10 = .ok (.iconst 1, 1) := by decide +kernel
theorem dX12_whyNotCheese_11 : decode cX12_whyNotCheese 11 = .ok (.if_icmp .eq 5, 3) := by decide +kernel
theorem dX12_whyNotCheese_14 : decode cX12_whyNotCheese 14 = .ok (.iconst 1, 1) := by decide +kernel
theorem dX12_whyNotCheese_15 : decode cX12_whyNotCheese 15 = .ok (.ireturn, 1) := by decide +kernel
theorem dX12_whyNotCheese_16 : decode cX12_whyNotCheese 16 = .ok (.aload_n 0, 1) := by decide +kernel
theorem dX12_whyNotCheese_17 : decode cX12_whyNotCheese 17 = .ok (.iload_n 1, 1) := by decide +kernel
theorem dX12_whyNotCheese_18 : decode cX12_whyNotCheese 18 = .ok (.invokestatic 101, 3) := by decide +kernel
theorem dX12_whyNotCheese_21 : decode cX12_whyNotCheese 21 = .ok (.ifCond .ne 5, 3) := by decide +kernel
theorem dX12_whyNotCheese_24 : decode cX12_whyNotCheese 24 = .ok (.iconst 2, 1) := by decide +kernel
theorem dX12_whyNotCheese_25 : decode cX12_whyNotCheese 25 = .ok (.ireturn, 1) := by decide +kernel
theorem dX12_whyNotCheese_26 : decode cX12_whyNotCheese 26 = .ok (.aload_n 0, 1) := by decide +kernel
theorem dX12_whyNotCheese_27 : decode cX12_whyNotCheese 27 = .ok (.aload_n 0, 1) := by decide +kernel
theorem dX12_whyNotCheese_28 : decode cX12_whyNotCheese 28 = .ok (.iload_n 2, 1) := by decide +kernel
theorem dX12_whyNotCheese_29 : decode cX12_whyNotCheese 29 = .ok (.iconst 2, 1) := by decide +kernel
theorem dX12_whyNotCheese_30 : decode cX12_whyNotCheese 30 = .ok (.iadd, 1) := by decide +kernel
theorem dX12_whyNotCheese_31 : decode cX12_whyNotCheese 31 = .ok (.iaload, 1) := by decide +kernel
theorem dX12_whyNotCheese_32 : decode cX12_whyNotCheese 32 = .ok (.aload_n 0, 1) := by decide +kernel
theorem dX12_whyNotCheese_33 : decode cX12_whyNotCheese 33 = .ok (.iload_n 2, 1) := by decide +kernel
theorem dX12_whyNotCheese_34 : decode cX12_whyNotCheese 34 = .ok (.iconst 3, 1) := by decide +kernel
theorem dX12_whyNotCheese_35 : decode cX12_whyNotCheese 35 = .ok (.iadd, 1) := by decide +kernel
theorem dX12_whyNotCheese_36 : decode cX12_whyNotCheese 36 = .ok (.iaload, 1) := by decide +kernel
theorem dX12_whyNotCheese_37 : decode cX12_whyNotCheese 37 = .ok (.invokestatic 112, 3) := by decide +kernel
theorem dX12_whyNotCheese_40 : decode cX12_whyNotCheese 40 = .ok (.ifCond .eq 5, 3) := by decide +kernel
theorem dX12_whyNotCheese_43 : decode cX12_whyNotCheese 43 = .ok (.iconst 3, 1) := by decide +kernel
theorem dX12_whyNotCheese_44 : decode cX12_whyNotCheese 44 = .ok (.ireturn, 1) := by decide +kernel
theorem dX12_whyNotCheese_45 : decode cX12_whyNotCheese 45 = .ok (.aload_n 0, 1) := by decide +kernel
theorem dX12_whyNotCheese_46 : decode cX12_whyNotCheese 46 = .ok (.aload_n 0, 1) := by decide +kernel
theorem dX12_whyNotCheese_47 : decode cX12_whyNotCheese 47 = .ok (.iload_n 2, 1) := by decide +kernel
theorem dX12_whyNotCheese_48 : decode cX12_whyNotCheese 48 = .ok (.iconst 2, 1) := by decide +kernel
theorem dX12_whyNotCheese_49 : decode cX12_whyNotCheese 49 = .ok (.iadd, 1) := by decide +kernel
theorem dX12_whyNotCheese_50 : decode cX12_whyNotCheese 50 = .ok (.iaload, 1) := by decide +kernel
theorem dX12_whyNotCheese_51 : decode cX12_whyNotCheese 51 = .ok (.aload_n 0, 1) := by decide +kernel
theorem dX12_whyNotCheese_52 : decode cX12_whyNotCheese 52 = .ok (.iload_n 2, 1) := by decide +kernel
theorem dX12_whyNotCheese_53 : decode cX12_whyNotCheese 53 = .ok (.iconst 4, 1) := by decide +kernel
theorem dX12_whyNotCheese_54 : decode cX12_whyNotCheese 54 = .ok (.iadd, 1) := by decide +kernel
theorem dX12_whyNotCheese_55 : decode cX12_whyNotCheese 55 = .ok (.iaload, 1) := by decide +kernel
theorem dX12_whyNotCheese_56 : decode cX12_whyNotCheese 56 = .ok (.invokestatic 131, 3) := by decide +kernel
theorem dX12_whyNotCheese_59 : decode cX12_whyNotCheese 59 = .ok (.ifCond .eq 5, 3) := by decide +kernel
theorem dX12_whyNotCheese_62 : decode cX12_whyNotCheese 62 = .ok (.iconst 4, 1) := by decide +kernel
theorem dX12_whyNotCheese_63 : decode cX12_whyNotCheese 63 = .ok (.ireturn, 1) := by decide +kernel
theorem dX12_whyNotCheese_64 : decode cX12_whyNotCheese 64 = .ok (.aload_n 0, 1) := by decide +kernel
theorem dX12_whyNotCheese_65 : decode cX12_whyNotCheese 65 = .ok (.aload_n 0, 1) := by decide +kernel
theorem dX12_whyNotCheese_66 : decode cX12_whyNotCheese 66 = .ok (.iload_n 2, 1) := by decide +kernel
theorem dX12_whyNotCheese_67 : decode cX12_whyNotCheese 67 = .ok (.iconst 4, 1) := by decide +kernel
theorem dX12_whyNotCheese_68 : decode cX12_whyNotCheese 68 = .ok (.iadd, 1) := by decide +kernel
theorem dX12_whyNotCheese_69 : decode cX12_whyNotCheese 69 = .ok (.iaload, 1) := by decide +kernel
theorem dX12_whyNotCheese_70 : decode cX12_whyNotCheese 70 = .ok (.invokestatic 122, 3) := by decide +kernel
theorem dX12_whyNotCheese_73 : decode cX12_whyNotCheese 73 = .ok (.iconst 2, 1) := by decide +kernel
theorem dX12_whyNotCheese_74 : decode cX12_whyNotCheese 74 = .ok (.iadd, 1) := by decide +kernel
theorem dX12_whyNotCheese_75 : decode cX12_whyNotCheese 75 = .ok (.iaload, 1) := by decide +kernel
theorem dX12_whyNotCheese_76 : decode cX12_whyNotCheese 76 = .ok (.ifCond .ne 7, 3) := by decide +kernel
theorem dX12_whyNotCheese_79 : decode cX12_whyNotCheese 79 = .ok (.iconst 5, 1) := by decide +kernel
theorem dX12_whyNotCheese_80 : decode cX12_whyNotCheese 80 = .ok (.goto 4, 3) := by decide +kernel
theorem dX12_whyNotCheese_83 : decode cX12_whyNotCheese 83 = .ok (.iconst 0, 1) := by decide +kernel
theorem dX12_whyNotCheese_84 : decode cX12_whyNotCheese 84 = .ok (.ireturn, 1) := by decide +kernel
set_option maxRecDepth 20000 in
theorem ggX12_enters_X12_ofUser : GoodIn wsX12_enters wsX12_ofUser := goodIn_r _ [4] (by decide +kernel) (by decide +kernel)
set_option maxRecDepth 20000 in
theorem gX12_enters_X12_ofUser : GoodIn wsX12_enters (va_wsS RX12 87 yX12_ofUser wsX12_ofUser) := goodIn_app (goodIn_of _ (by decide +kernel)) ggX12_enters_X12_ofUser
set_option maxRecDepth 20000 in
theorem ggX12_enters_X12_ofRealm : GoodIn wsX12_enters wsX12_ofRealm := goodIn_r _ [7] (by decide +kernel) (by decide +kernel)
set_option maxRecDepth 20000 in
theorem gX12_enters_X12_ofRealm : GoodIn wsX12_enters (va_wsS RX12 91 yX12_ofRealm wsX12_ofRealm) := goodIn_app (goodIn_of _ (by decide +kernel)) ggX12_enters_X12_ofRealm
set_option maxRecDepth 20000 in
theorem ggX12_enters_X12_make : GoodIn wsX12_enters wsX12_make := goodIn_r _ [10, 11, 12, 3, 13, 14, 15, 16, 17, 18, 19] (by decide +kernel) (by decide +kernel)
set_option maxRecDepth 20000 in
theorem gX12_enters_X12_make : GoodIn wsX12_enters (va_wsS RX12 134 yX12_make wsX12_make) := goodIn_app (goodIn_of _ (by decide +kernel)) ggX12_enters_X12_make
theorem dX12_enters_0 : decode cX12_enters 0 = .ok (.aload_n 0, 1) := by decide +kernel
theorem dX12_enters_1 : decode cX12_enters 1 = .ok (.iload_n 1, 1) := by decide +kernel
theorem dX12_enters_2 : decode cX12_enters 2 = .ok (.invokestatic 87, 3) := by decide +kernel
theorem dX12_enters_5 : decode cX12_enters 5 = .ok (.iconst 1, 1) := by decide +kernel
theorem dX12_enters_6 : decode cX12_enters 6 = .ok (.iadd, 1) := by decide +kernel
theorem dX12_enters_7 : decode cX12_enters 7 = .ok (.iaload, 1) := by decide +kernel
theorem dX12_enters_8 : decode cX12_enters 8 = .ok (.invokestatic 91, 3) := by decide +kernel
theorem dX12_enters_11 : decode cX12_enters 11 = .ok (.istore_n 3, 1) := by decide +kernel
theorem dX12_enters_12 : decode cX12_enters 12 = .ok (.aload_n 0, 1) := by decide +kernel
theorem dX12_enters_13 : decode cX12_enters 13 = .ok (.iload_n 1, 1) := by decide +kernel
theorem dX12_enters_14 : decode cX12_enters 14 = .ok (.aload_n 0, 1) := by decide +kernel
theorem dX12_enters_15 : decode cX12_enters 15 = .ok (.iload_n 1, 1) := by decide +kernel
theorem dX12_enters_16 : decode cX12_enters 16 = .ok (.invokestatic 87, 3) := by decide +kernel
theorem dX12_enters_19 : decode cX12_enters 19 = .ok (.iconst 1, 1) := by decide +kernel
theorem dX12_enters_20 : decode cX12_enters 20 = .ok (.iadd, 1) := by decide +kernel
theorem dX12_enters_21 : decode cX12_enters 21 = .ok (.iaload, 1) := by decide +kernel
theorem dX12_enters_22 : decode cX12_enters 22 = .ok (.iconst (-1), 1) := by decide +kernel
theorem dX12_enters_23 : decode cX12_enters 23 = .ok (.aload_n 0, 1) := by decide +kernel
theorem dX12_enters_24 : decode cX12_enters 24 = .ok (.iconst 0, 1) := by decide +kernel
theorem dX12_enters_25 : decode cX12_enters 25 = .ok (.iaload, 1) := by decide +kernel
theorem dX12_enters_26 : decode cX12_enters 26 = .ok (.aload_n 0, 1) := by decide +kernel
theorem dX12_enters_27 : decode cX12_enters 27 = .ok (.iload_n 3, 1) := by decide +kernel
theorem dX12_enters_28 : decode cX12_enters 28 = .ok (.iconst 1, 1) := by decide +kernel
theorem dX12_enters_29 : decode cX12_enters 29 = .ok (.iadd, 1) := by decide +kernel
theorem dX12_enters_30 : decode cX12_enters 30 = .ok (.iaload, 1) := by decide +kernel
theorem dX12_enters_31 : decode cX12_enters 31 = .ok (.iadd, 1) := by decide +kernel
theorem dX12_enters_32 : decode cX12_enters 32 = .ok (.aload_n 0, 1) := by decide +kernel
theorem dX12_enters_33 : decode cX12_enters 33 = .ok (.iconst 0, 1) := by decide +kernel
theorem dX12_enters_34 : decode cX12_enters 34 = .ok (.iaload, 1) := by decide +kernel
theorem dX12_enters_35 : decode cX12_enters 35 = .ok (.aload_n 0, 1) := by decide +kernel
theorem dX12_enters_36 : decode cX12_enters 36 = .ok (.iload_n 3, 1) := by decide +kernel
theorem dX12_enters_37 : decode cX12_enters 37 = .ok (.iconst 2, 1) := by decide +kernel
theorem dX12_enters_38 : decode cX12_enters 38 = .ok (.iadd, 1) := by decide +kernel
theorem dX12_enters_39 : decode cX12_enters 39 = .ok (.iaload, 1) := by decide +kernel
theorem dX12_enters_40 : decode cX12_enters 40 = .ok (.iadd, 1) := by decide +kernel
theorem dX12_enters_41 : decode cX12_enters 41 = .ok (.iload_n 2, 1) := by decide +kernel
theorem dX12_enters_42 : decode cX12_enters 42 = .ok (.ifCond .eq 7, 3) := by decide +kernel
theorem dX12_enters_45 : decode cX12_enters 45 = .ok (.iconst 1, 1) := by decide +kernel
theorem dX12_enters_46 : decode cX12_enters 46 = .ok (.goto 4, 3) := by decide +kernel
theorem dX12_enters_49 : decode cX12_enters 49 = .ok (.iconst 0, 1) := by decide +kernel
theorem dX12_enters_50 : decode cX12_enters 50 = .ok (.invokestatic 134, 3) := by decide +kernel
theorem dX12_enters_53 : decode cX12_enters 53 = .ok (.ireturn, 1) := by decide +kernel
set_option maxRecDepth 20000 in
theorem ggX12_derive_X12_ofTicket : GoodIn wsX12_derive wsX12_ofTicket := goodIn_r _ [4] (by decide +kernel) (by decide +kernel)
set_option maxRecDepth 20000 in
theorem gX12_derive_X12_ofTicket : GoodIn wsX12_derive (va_wsS RX12 98 yX12_ofTicket wsX12_ofTicket) := goodIn_app (goodIn_of _ (by decide +kernel)) ggX12_derive_X12_ofTicket
set_option maxRecDepth 20000 in
theorem ggX12_derive_X12_ofRealm : GoodIn wsX12_derive wsX12_ofRealm := goodIn_r _ [7] (by decide +kernel) (by decide +kernel)
set_option maxRecDepth 20000 in
theorem gX12_derive_X12_ofRealm : GoodIn wsX12_derive (va_wsS RX12 91 yX12_ofRealm wsX12_ofRealm) := goodIn_app (goodIn_of _ (by decide +kernel)) ggX12_derive_X12_ofRealm
set_option maxRecDepth 20000 in
theorem ggX12_derive_X12_lesser : GoodIn wsX12_derive wsX12_lesser := goodIn_r _ [10] (by decide +kernel) (by decide +kernel)
set_option maxRecDepth 20000 in
theorem gX12_derive_X12_lesser : GoodIn wsX12_derive (va_wsS RX12 79 yX12_lesser wsX12_lesser) := goodIn_app (goodIn_of _ (by decide +kernel)) ggX12_derive_X12_lesser
set_option maxRecDepth 20000 in
theorem ggX12_derive_X12_make : GoodIn wsX12_derive wsX12_make := goodIn_r _ [13, 1, 2, 3, 4, 14, 15, 16, 17, 18, 19] (by decide +kernel) (by decide +kernel)
set_option maxRecDepth 20000 in
theorem gX12_derive_X12_make : GoodIn wsX12_derive (va_wsS RX12 134 yX12_make wsX12_make) := goodIn_app (goodIn_of _ (by decide +kernel)) ggX12_derive_X12_make
theorem dX12_derive_0 : decode cX12_derive 0 = .ok (.iload_n 1, 1) := by decide +kernel
theorem dX12_derive_1 : decode cX12_derive 1 = .ok (.invokestatic 98, 3) := by decide +kernel
theorem dX12_derive_4 : decode cX12_derive 4 = .ok (.istore 4, 2) := by decide +kernel
theorem dX12_derive_6 : decode cX12_derive 6 = .ok (.aload_n 0, 1) := by decide +kernel
theorem dX12_derive_7 : decode cX12_derive 7 = .ok (.iconst 0, 1) := by decide +kernel
theorem dX12_derive_8 : decode cX12_derive 8 = .ok (.iaload, 1) := by decide +kernel
theorem dX12_derive_9 : decode cX12_derive 9 = .ok (.aload_n 0, 1) := by decide +kernel
theorem dX12_derive_10 : decode cX12_derive 10 = .ok (.iload_n 2, 1) := by decide +kernel
theorem dX12_derive_11 : decode cX12_derive 11 = .ok (.invokestatic 91, 3) := by decide +kernel
theorem dX12_derive_14 : decode cX12_derive 14 = .ok (.iconst 1, 1) := by decide +kernel
theorem dX12_derive_15 : decode cX12_derive 15 = .ok (.iadd, 1) := by decide +kernel
theorem dX12_derive_16 : decode cX12_derive 16 = .ok (.iaload, 1) := by decide +kernel
theorem dX12_derive_17 : decode cX12_derive 17 = .ok (.iadd, 1) := by decide +kernel
theorem dX12_derive_18 : decode cX12_derive 18 = .ok (.aload_n 0, 1) := by decide +kernel
theorem dX12_derive_19 : decode cX12_derive 19 = .ok (.iload 4, 2) := by decide +kernel
theorem dX12_derive_21 : decode cX12_derive 21 = .ok (.bipush 6, 2) := by decide +kernel
theorem dX12_derive_23 : decode cX12_derive 23 = .ok (.iadd, 1) := by decide +kernel
theorem dX12_derive_24 : decode cX12_derive 24 = .ok (.iaload, 1) := by decide +kernel
theorem dX12_derive_25 : decode cX12_derive 25 = .ok (.invokestatic 79, 3) := by decide +kernel
theorem dX12_derive_28 : decode cX12_derive 28 = .ok (.istore 5, 2) := by decide +kernel
theorem dX12_derive_30 : decode cX12_derive 30 = .ok (.aload_n 0, 1) := by decide +kernel
theorem dX12_derive_31 : decode cX12_derive 31 = .ok (.iconst 0, 1) := by decide +kernel
theorem dX12_derive_32 : decode cX12_derive 32 = .ok (.iaload, 1) := by decide +kernel
theorem dX12_derive_33 : decode cX12_derive 33 = .ok (.aload_n 0, 1) := by decide +kernel
theorem dX12_derive_34 : decode cX12_derive 34 = .ok (.iload_n 2, 1) := by decide +kernel
theorem dX12_derive_35 : decode cX12_derive 35 = .ok (.invokestatic 91, 3) := by decide +kernel
theorem dX12_derive_38 : decode cX12_derive 38 = .ok (.iconst 2, 1) := by decide +kernel
theorem dX12_derive_39 : decode cX12_derive 39 = .ok (.iadd, 1) := by decide +kernel
theorem dX12_derive_40 : decode cX12_derive 40 = .ok (.iaload, 1) := by decide +kernel
theorem dX12_derive_41 : decode cX12_derive 41 = .ok (.iadd, 1) := by decide +kernel
theorem dX12_derive_42 : decode cX12_derive 42 = .ok (.aload_n 0, 1) := by decide +kernel
theorem dX12_derive_43 : decode cX12_derive 43 = .ok (.iload 4, 2) := by decide +kernel
theorem dX12_derive_45 : decode cX12_derive 45 = .ok (.bipush 7, 2) := by decide +kernel
theorem dX12_derive_47 : decode cX12_derive 47 = .ok (.iadd, 1) := by decide +kernel
theorem dX12_derive_48 : decode cX12_derive 48 = .ok (.iaload, 1) := by decide +kernel
theorem dX12_derive_49 : decode cX12_derive 49 = .ok (.invokestatic 79, 3) := by decide +kernel
theorem dX12_derive_52 : decode cX12_derive 52 = .ok (.istore 6, 2) := by decide +kernel
theorem dX12_derive_54 : decode cX12_derive 54 = .ok (.aload_n 0, 1) := by decide +kernel
theorem dX12_derive_55 : decode cX12_derive 55 = .ok (.aload_n 0, 1) := by decide +kernel
theorem dX12_derive_56 : decode cX12_derive 56 = .ok (.iload 4, 2) := by decide +kernel
theorem dX12_derive_58 : decode cX12_derive 58 = .ok (.iconst 2, 1) := by decide +kernel
theorem dX12_derive_59 : decode cX12_derive 59 = .ok (.iadd, 1) := by decide +kernel
theorem dX12_derive_60 : decode cX12_derive 60 = .ok (.iaload, 1) := by decide +kernel
theorem dX12_derive_61 : decode cX12_derive 61 = .ok (.iload_n 2, 1) := by decide +kernel
theorem dX12_derive_62 : decode cX12_derive 62 = .ok (.iload_n 3, 1) := by decide +kernel
theorem dX12_derive_63 : decode cX12_derive 63 = .ok (.iload 5, 2) := by decide +kernel
theorem dX12_derive_65 : decode cX12_derive 65 = .ok (.iload 6, 2) := by decide +kernel
theorem dX12_derive_67 : decode cX12_derive 67 = .ok (.aload_n 0, 1) := by decide +kernel
theorem dX12_derive_68 : decode cX12_derive 68 = .ok (.iload 4, 2) := by decide +kernel
theorem dX12_derive_70 : decode cX12_derive 70 = .ok (.bipush 9, 2) := by decide +kernel
theorem dX12_derive_72 : decode cX12_derive 72 = .ok (.iadd, 1) := by decide +kernel
theorem dX12_derive_73 : decode cX12_derive 73 = .ok (.iaload, 1) := by decide +kernel
theorem dX12_derive_74 : decode cX12_derive 74 = .ok (.invokestatic 134, 3) := by decide +kernel
theorem dX12_derive_77 : decode cX12_derive 77 = .ok (.ireturn, 1) := by decide +kernel
set_option maxRecDepth 20000 in
theorem ggX12_renews_X12_ofTicket : GoodIn wsX12_renews wsX12_ofTicket := goodIn_r _ [4] (by decide +kernel) (by decide +kernel)
set_option maxRecDepth 20000 in
theorem gX12_renews_X12_ofTicket : GoodIn wsX12_renews (va_wsS RX12 98 yX12_ofTicket wsX12_ofTicket) := goodIn_app (goodIn_of _ (by decide +kernel)) ggX12_renews_X12_ofTicket
set_option maxRecDepth 20000 in
theorem ggX12_renews_X12_newEnd : GoodIn wsX12_renews wsX12_newEnd := goodIn_r _ [7, 1, 2, 3, 4, 8, 9, 10, 11, 12, 13] (by decide +kernel) (by decide +kernel)
set_option maxRecDepth 20000 in
theorem gX12_renews_X12_newEnd : GoodIn wsX12_renews (va_wsS RX12 125 yX12_newEnd wsX12_newEnd) := goodIn_app (goodIn_of _ (by decide +kernel)) ggX12_renews_X12_newEnd
set_option maxRecDepth 20000 in
theorem ggX12_renews_X12_drawKey : GoodIn wsX12_renews wsX12_drawKey := goodIn_r _ [16] (by decide +kernel) (by decide +kernel)
set_option maxRecDepth 20000 in
theorem gX12_renews_X12_drawKey : GoodIn wsX12_renews (va_wsS RX12 108 yX12_drawKey wsX12_drawKey) := goodIn_app (goodIn_of _ (by decide +kernel)) ggX12_renews_X12_drawKey
theorem dX12_renews_0 : decode cX12_renews 0 = .ok (.iload_n 1, 1) := by decide +kernel
theorem dX12_renews_1 : decode cX12_renews 1 = .ok (.invokestatic 98, 3) := by decide +kernel
theorem dX12_renews_4 : decode cX12_renews 4 = .ok (.istore_n 2, 1) := by decide +kernel
theorem dX12_renews_5 : decode cX12_renews 5 = .ok (.aload_n 0, 1) := by decide +kernel
theorem dX12_renews_6 : decode cX12_renews 6 = .ok (.iload_n 2, 1) := by decide +kernel
theorem dX12_renews_7 : decode cX12_renews 7 = .ok (.bipush 6, 2) := by decide +kernel
theorem dX12_renews_9 : decode cX12_renews 9 = .ok (.iadd, 1) := by decide +kernel
theorem dX12_renews_10 : decode cX12_renews 10 = .ok (.aload_n 0, 1) := by decide +kernel
theorem dX12_renews_11 : decode cX12_renews 11 = .ok (.iload_n 1, 1) := by decide +kernel
theorem dX12_renews_12 : decode cX12_renews 12 = .ok (.invokestatic 125, 3) := by decide +kernel
theorem dX12_renews_15 : decode cX12_renews 15 = .ok (.iastore, 1) := by decide +kernel
theorem dX12_renews_16 : decode cX12_renews 16 = .ok (.aload_n 0, 1) := by decide +kernel
theorem dX12_renews_17 : decode cX12_renews 17 = .ok (.iload_n 2, 1) := by decide +kernel
theorem dX12_renews_18 : decode cX12_renews 18 = .ok (.bipush 8, 2) := by decide +kernel
theorem dX12_renews_20 : decode cX12_renews 20 = .ok (.iadd, 1) := by decide +kernel
theorem dX12_renews_21 : decode cX12_renews 21 = .ok (.aload_n 0, 1) := by decide +kernel
theorem dX12_renews_22 : decode cX12_renews 22 = .ok (.invokestatic 108, 3) := by decide +kernel
theorem dX12_renews_25 : decode cX12_renews 25 = .ok (.iastore, 1) := by decide +kernel
theorem dX12_renews_26 : decode cX12_renews 26 = .ok (.aload_n 0, 1) := by decide +kernel
theorem dX12_renews_27 : decode cX12_renews 27 = .ok (.iload_n 2, 1) := by decide +kernel
theorem dX12_renews_28 : decode cX12_renews 28 = .ok (.bipush 6, 2) := by decide +kernel
theorem dX12_renews_30 : decode cX12_renews 30 = .ok (.iadd, 1) := by decide +kernel
theorem dX12_renews_31 : decode cX12_renews 31 = .ok (.iaload, 1) := by decide +kernel
theorem dX12_renews_32 : decode cX12_renews 32 = .ok (.ireturn, 1) := by decide +kernel
set_option maxRecDepth 20000 in
theorem ggX12_remindUse_X12_ofUse : GoodIn wsX12_remindUse wsX12_ofUse := goodIn_r _ [4] (by decide +kernel) (by decide +kernel)
set_option maxRecDepth 20000 in
theorem gX12_remindUse_X12_ofUse : GoodIn wsX12_remindUse (va_wsS RX12 128 yX12_ofUse wsX12_ofUse) := goodIn_app (goodIn_of _ (by decide +kernel)) ggX12_remindUse_X12_ofUse
set_option maxRecDepth 20000 in
theorem ggX12_remindUse_X12_ofUser : GoodIn wsX12_remindUse wsX12_ofUser := goodIn_r _ [7] (by decide +kernel) (by decide +kernel)
set_option maxRecDepth 20000 in
theorem gX12_remindUse_X12_ofUser : GoodIn wsX12_remindUse (va_wsS RX12 87 yX12_ofUser wsX12_ofUser) := goodIn_app (goodIn_of _ (by decide +kernel)) ggX12_remindUse_X12_ofUser
theorem dX12_remindUse_0 : decode cX12_remindUse 0 = .ok (.aload_n 0, 1) := by decide +kernel
theorem dX12_remindUse_1 : decode cX12_remindUse 1 = .ok (.bipush 8, 2) := by decide +kernel
theorem dX12_remindUse_3 : decode cX12_remindUse 3 = .ok (.iaload, 1) := by decide +kernel
theorem dX12_remindUse_4 : decode cX12_remindUse 4 = .ok (.bipush 30, 2) := by decide +kernel
theorem dX12_remindUse_6 : decode cX12_remindUse 6 = .ok (.if_icmp .ne 40, 3) := by decide +kernel
theorem dX12_remindUse_9 : decode cX12_remindUse 9 = .ok (.aload_n 0, 1) := by decide +kernel
theorem dX12_remindUse_10 : decode cX12_remindUse 10 = .ok (.bipush 8, 2) := by decide +kernel
theorem dX12_remindUse_12 : decode cX12_remindUse 12 = .ok (.dup2, 1) := by decide +kernel
theorem dX12_remindUse_13 : decode cX12_remindUse 13 = .ok (.iaload, 1) := by decide +kernel
theorem dX12_remindUse_14 : decode cX12_remindUse 14 = .ok (.iconst 1, 1) := by decide +kernel
theorem dX12_remindUse_15 : decode cX12_remindUse 15 = .ok (.isub, 1) := by decide +kernel
theorem dX12_remindUse_16 : decode cX12_remindUse 16 = .ok (.iastore, 1) := by decide +kernel
theorem dX12_remindUse_17 : decode cX12_remindUse 17 = .ok (.sipush 343, 3) := by decide +kernel
theorem dX12_remindUse_20 : decode cX12_remindUse 20 = .ok (.istore_n 3, 1) := by decide +kernel
theorem dX12_remindUse_21 : decode cX12_remindUse 21 = .ok (.iload_n 3, 1) := by decide +kernel
theorem dX12_remindUse_22 : decode cX12_remindUse 22 = .ok (.aload_n 0, 1) := by decide +kernel
theorem dX12_remindUse_23 : decode cX12_remindUse 23 = .ok (.bipush 8, 2) := by decide +kernel
theorem dX12_remindUse_25 : decode cX12_remindUse 25 = .ok (.iaload, 1) := by decide +kernel
theorem dX12_remindUse_26 : decode cX12_remindUse 26 = .ok (.invokestatic 128, 3) := by decide +kernel
theorem dX12_remindUse_29 : decode cX12_remindUse 29 = .ok (.if_icmp .ge 17, 3) := by decide +kernel
theorem dX12_remindUse_32 : decode cX12_remindUse 32 = .ok (.aload_n 0, 1) := by decide +kernel
theorem dX12_remindUse_33 : decode cX12_remindUse 33 = .ok (.iload_n 3, 1) := by decide +kernel
theorem dX12_remindUse_34 : decode cX12_remindUse 34 = .ok (.aload_n 0, 1) := by decide +kernel
theorem dX12_remindUse_35 : decode cX12_remindUse 35 = .ok (.iload_n 3, 1) := by decide +kernel
theorem dX12_remindUse_36 : decode cX12_remindUse 36 = .ok (.iconst 4, 1) := by decide +kernel
theorem dX12_remindUse_37 : decode cX12_remindUse 37 = .ok (.iadd, 1) := by decide +kernel
theorem dX12_remindUse_38 : decode cX12_remindUse 38 = .ok (.iaload, 1) := by decide +kernel
theorem dX12_remindUse_39 : decode cX12_remindUse 39 = .ok (.iastore, 1) := by decide +kernel
theorem dX12_remindUse_40 : decode cX12_remindUse 40 = .ok (.iinc 3 1, 3) := by decide +kernel
theorem dX12_remindUse_43 : decode cX12_remindUse 43 = .ok (.goto (-22), 3) := by decide +kernel
theorem dX12_remindUse_46 : decode cX12_remindUse 46 = .ok (.aload_n 0, 1) := by decide +kernel
theorem dX12_remindUse_47 : decode cX12_remindUse 47 = .ok (.bipush 8, 2) := by decide +kernel
theorem dX12_remindUse_49 : decode cX12_remindUse 49 = .ok (.iaload, 1) := by decide +kernel
theorem dX12_remindUse_50 : decode cX12_remindUse 50 = .ok (.invokestatic 128, 3) := by decide +kernel
theorem dX12_remindUse_53 : decode cX12_remindUse 53 = .ok (.istore_n 3, 1) := by decide +kernel
theorem dX12_remindUse_54 : decode cX12_remindUse 54 = .ok (.aload_n 0, 1) := by decide +kernel
theorem dX12_remindUse_55 : decode cX12_remindUse 55 = .ok (.iload_n 3, 1) := by decide +kernel
theorem dX12_remindUse_56 : decode cX12_remindUse 56 = .ok (.iconst 0, 1) := by decide +kernel
theorem dX12_remindUse_57 : decode cX12_remindUse 57 = .ok (.iadd, 1) := by decide +kernel
theorem dX12_remindUse_58 : decode cX12_remindUse 58 = .ok (.iload_n 1, 1) := by decide +kernel
theorem dX12_remindUse_59 : decode cX12_remindUse 59 = .ok (.iastore, 1) := by decide +kernel
theorem dX12_remindUse_60 : decode cX12_remindUse 60 = .ok (.aload_n 0, 1) := by decide +kernel
theorem dX12_remindUse_61 : decode cX12_remindUse 61 = .ok (.iload_n 3, 1) := by decide +kernel
theorem dX12_remindUse_62 : decode cX12_remindUse 62 = .ok (.iconst 1, 1) := by decide +kernel
theorem dX12_remindUse_63 : decode cX12_remindUse 63 = .ok (.iadd, 1) := by decide +kernel
theorem dX12_remindUse_64 : decode cX12_remindUse 64 = .ok (.iload_n 2, 1) := by decide +kernel
theorem dX12_remindUse_65 : decode cX12_remindUse 65 = .ok (.iastore, 1) := by decide +kernel
theorem dX12_remindUse_66 : decode cX12_remindUse 66 = .ok (.aload_n 0, 1) := by decide +kernel
theorem dX12_remindUse_67 : decode cX12_remindUse 67 = .ok (.iload_n 3, 1) := by decide +kernel
theorem dX12_remindUse_68 : decode cX12_remindUse 68 = .ok (.iconst 2, 1) := by decide +kernel
theorem dX12_remindUse_69 : decode cX12_remindUse 69 = .ok (.iadd, 1) := by decide +kernel
theorem dX12_remindUse_70 : decode cX12_remindUse 70 = .ok (.aload_n 0, 1) := by decide +kernel
theorem dX12_remindUse_71 : decode cX12_remindUse 71 = .ok (.iconst 0, 1) := by decide +kernel
theorem dX12_remindUse_72 : decode cX12_remindUse 72 = .ok (.iaload, 1) := by decide +kernel
theorem dX12_remindUse_73 : decode cX12_remindUse 73 = .ok (.aload_n 0, 1) := by decide +kernel
theorem dX12_remindUse_74 : decode cX12_remindUse 74 = .ok (.iload_n 1, 1) := by decide +kernel
theorem dX12_remindUse_75 : decode cX12_remindUse 75 = .ok (.invokestatic 87, 3) := by decide +kernel
theorem dX12_remindUse_78 : decode cX12_remindUse 78 = .ok (.iconst 3, 1) := by decide +kernel
theorem dX12_remindUse_79 : decode cX12_remindUse 79 = .ok (.iadd, 1) := by decide +kernel
theorem dX12_remindUse_80 : decode cX12_remindUse 80 = .ok (.iaload, 1) := by decide +kernel
theorem dX12_remindUse_81 : decode cX12_remindUse 81 = .ok (.iadd, 1) := by decide +kernel
theorem dX12_remindUse_82 : decode cX12_remindUse 82 = .ok (.iastore, 1) := by decide +kernel
theorem dX12_remindUse_83 : decode cX12_remindUse 83 = .ok (.aload_n 0, 1) := by decide +kernel
theorem dX12_remindUse_84 : decode cX12_remindUse 84 = .ok (.iload_n 3, 1) := by decide +kernel
theorem dX12_remindUse_85 : decode cX12_remindUse 85 = .ok (.iconst 3, 1) := by decide +kernel
theorem dX12_remindUse_86 : decode cX12_remindUse 86 = .ok (.iadd, 1) := by decide +kernel
theorem dX12_remindUse_87 : decode cX12_remindUse 87 = .ok (.aload_n 0, 1) := by decide +kernel
theorem dX12_remindUse_88 : decode cX12_remindUse 88 = .ok (.iconst 0, 1) := by decide +kernel
theorem dX12_remindUse_89 : decode cX12_remindUse 89 = .ok (.iaload, 1) := by decide +kernel
theorem dX12_remindUse_90 : decode cX12_remindUse 90 = .ok (.iastore, 1) := by decide +kernel
theorem dX12_remindUse_91 : decode cX12_remindUse 91 = .ok (.aload_n 0, 1) := by decide +kernel
theorem dX12_remindUse_92 : decode cX12_remindUse 92 = .ok (.bipush 8, 2) := by decide +kernel
theorem dX12_remindUse_94 : decode cX12_remindUse 94 = .ok (.dup2, 1) := by decide +kernel
theorem dX12_remindUse_95 : decode cX12_remindUse 95 = .ok (.iaload, 1) := by decide +kernel
theorem dX12_remindUse_96 : decode cX12_remindUse 96 = .ok (.iconst 1, 1) := by decide +kernel
theorem dX12_remindUse_97 : decode cX12_remindUse 97 = .ok (.iadd, 1) := by decide +kernel
theorem dX12_remindUse_98 : decode cX12_remindUse 98 = .ok (.iastore, 1) := by decide +kernel
theorem dX12_remindUse_99 : decode cX12_remindUse 99 = .ok (.return_, 1) := by decide +kernel
set_option maxRecDepth 20000 in
theorem ggX12_gives_X12_ofTicket : GoodIn wsX12_gives wsX12_ofTicket := goodIn_r _ [4] (by decide +kernel) (by decide +kernel)
set_option maxRecDepth 20000 in
theorem gX12_gives_X12_ofTicket : GoodIn wsX12_gives (va_wsS RX12 98 yX12_ofTicket wsX12_ofTicket) := goodIn_app (goodIn_of _ (by decide +kernel)) ggX12_gives_X12_ofTicket
set_option maxRecDepth 20000 in
theorem ggX12_gives_X12_ofService : GoodIn wsX12_gives wsX12_ofService := goodIn_r _ [7] (by decide +kernel) (by decide +kernel)
set_option maxRecDepth 20000 in
theorem gX12_gives_X12_ofService : GoodIn wsX12_gives (va_wsS RX12 122 yX12_ofService wsX12_ofService) := goodIn_app (goodIn_of _ (by decide +kernel)) ggX12_gives_X12_ofService
set_option maxRecDepth 20000 in
theorem ggX12_gives_X12_ofUser : GoodIn wsX12_gives wsX12_ofUser := goodIn_r _ [10] (by decide +kernel) (by decide +kernel)
set_option maxRecDepth 20000 in
theorem gX12_gives_X12_ofUser : GoodIn wsX12_gives (va_wsS RX12 87 yX12_ofUser wsX12_ofUser) := goodIn_app (goodIn_of _ (by decide +kernel)) ggX12_gives_X12_ofUser
set_option maxRecDepth 20000 in
theorem ggX12_gives_X12_remindUse : GoodIn wsX12_gives wsX12_remindUse := goodIn_r _ [13, 14, 15, 3, 16, 8, 9, 10] (by decide +kernel) (by decide +kernel)
set_option maxRecDepth 20000 in
theorem gX12_gives_X12_remindUse : GoodIn wsX12_gives (va_wsS RX12 138 yX12_remindUse wsX12_remindUse) := goodIn_app (goodIn_of _ (by decide +kernel)) ggX12_gives_X12_remindUse
theorem dX12_gives_0 : decode cX12_gives 0 = .ok (.aload_n 0, 1) := by decide +kernel
theorem dX12_gives_1 : decode cX12_gives 1 = .ok (.iload_n 1, 1) := by decide +kernel
theorem dX12_gives_2 : decode cX12_gives 2 = .ok (.invokestatic 98, 3) := by decide +kernel
theorem dX12_gives_5 : decode cX12_gives 5 = .ok (.iconst 2, 1) := by decide +kernel
theorem dX12_gives_6 : decode cX12_gives 6 = .ok (.iadd, 1) := by decide +kernel
theorem dX12_gives_7 : decode cX12_gives 7 = .ok (.iaload, 1) := by decide +kernel
theorem dX12_gives_8 : decode cX12_gives 8 = .ok (.istore_n 2, 1) := by decide +kernel
theorem dX12_gives_9 : decode cX12_gives 9 = .ok (.aload_n 0, 1) := by decide +kernel
theorem dX12_gives_10 : decode cX12_gives 10 = .ok (.iload_n 1, 1) := by decide +kernel
theorem dX12_gives_11 : decode cX12_gives 11 = .ok (.invokestatic 98, 3) := by decide +kernel
theorem dX12_gives_14 : decode cX12_gives 14 = .ok (.iconst 4, 1) := by decide +kernel
theorem dX12_gives_15 : decode cX12_gives 15 = .ok (.iadd, 1) := by decide +kernel
theorem dX12_gives_16 : decode cX12_gives 16 = .ok (.iaload, 1) := by decide +kernel
theorem dX12_gives_17 : decode cX12_gives 17 = .ok (.istore_n 3, 1) := by decide +kernel
theorem dX12_gives_18 : decode cX12_gives 18 = .ok (.aload_n 0, 1) := by decide +kernel
theorem dX12_gives_19 : decode cX12_gives 19 = .ok (.iload_n 3, 1) := by decide +kernel
theorem dX12_gives_20 : decode cX12_gives 20 = .ok (.invokestatic 122, 3) := by decide +kernel
theorem dX12_gives_23 : decode cX12_gives 23 = .ok (.iconst 2, 1) := by decide +kernel
theorem dX12_gives_24 : decode cX12_gives 24 = .ok (.iadd, 1) := by decide +kernel
theorem dX12_gives_25 : decode cX12_gives 25 = .ok (.dup2, 1) := by decide +kernel
theorem dX12_gives_26 : decode cX12_gives 26 = .ok (.iaload, 1) := by decide +kernel
theorem dX12_gives_27 : decode cX12_gives 27 = .ok (.iconst 1, 1) := by decide +kernel
theorem dX12_gives_28 : decode cX12_gives 28 = .ok (.isub, 1) := by decide +kernel
theorem dX12_gives_29 : decode cX12_gives 29 = .ok (.iastore, 1) := by decide +kernel
theorem dX12_gives_30 : decode cX12_gives 30 = .ok (.aload_n 0, 1) := by decide +kernel
theorem dX12_gives_31 : decode cX12_gives 31 = .ok (.iload_n 2, 1) := by decide +kernel
theorem dX12_gives_32 : decode cX12_gives 32 = .ok (.invokestatic 87, 3) := by decide +kernel
theorem dX12_gives_35 : decode cX12_gives 35 = .ok (.iconst 4, 1) := by decide +kernel
theorem dX12_gives_36 : decode cX12_gives 36 = .ok (.iadd, 1) := by decide +kernel
theorem dX12_gives_37 : decode cX12_gives 37 = .ok (.dup2, 1) := by decide +kernel
theorem dX12_gives_38 : decode cX12_gives 38 = .ok (.iaload, 1) := by decide +kernel
theorem dX12_gives_39 : decode cX12_gives 39 = .ok (.iconst 1, 1) := by decide +kernel
theorem dX12_gives_40 : decode cX12_gives 40 = .ok (.iadd, 1) := by decide +kernel
theorem dX12_gives_41 : decode cX12_gives 41 = .ok (.iastore, 1) := by decide +kernel
theorem dX12_gives_42 : decode cX12_gives 42 = .ok (.aload_n 0, 1) := by decide +kernel
theorem dX12_gives_43 : decode cX12_gives 43 = .ok (.iload_n 2, 1) := by decide +kernel
theorem dX12_gives_44 : decode cX12_gives 44 = .ok (.iload_n 3, 1) := by decide +kernel
theorem dX12_gives_45 : decode cX12_gives 45 = .ok (.invokestatic 138, 3) := by decide +kernel
theorem dX12_gives_48 : decode cX12_gives 48 = .ok (.aload_n 0, 1) := by decide +kernel
theorem dX12_gives_49 : decode cX12_gives 49 = .ok (.iload_n 2, 1) := by decide +kernel
theorem dX12_gives_50 : decode cX12_gives 50 = .ok (.invokestatic 87, 3) := by decide +kernel
theorem dX12_gives_53 : decode cX12_gives 53 = .ok (.iconst 4, 1) := by decide +kernel
theorem dX12_gives_54 : decode cX12_gives 54 = .ok (.iadd, 1) := by decide +kernel
theorem dX12_gives_55 : decode cX12_gives 55 = .ok (.iaload, 1) := by decide +kernel
theorem dX12_gives_56 : decode cX12_gives 56 = .ok (.ireturn, 1) := by decide +kernel
set_option maxRecDepth 20000 in
theorem ggX12_drops_X12_ofTicket : GoodIn wsX12_drops wsX12_ofTicket := goodIn_r _ [4] (by decide +kernel) (by decide +kernel)
set_option maxRecDepth 20000 in
theorem gX12_drops_X12_ofTicket : GoodIn wsX12_drops (va_wsS RX12 98 yX12_ofTicket wsX12_ofTicket) := goodIn_app (goodIn_of _ (by decide +kernel)) ggX12_drops_X12_ofTicket
theorem dX12_drops_0 : decode cX12_drops 0 = .ok (.aload_n 0, 1) := by decide +kernel
theorem dX12_drops_1 : decode cX12_drops 1 = .ok (.bipush 6, 2) := by decide +kernel
theorem dX12_drops_3 : decode cX12_drops 3 = .ok (.dup2, 1) := by decide +kernel
theorem dX12_drops_4 : decode cX12_drops 4 = .ok (.iaload, 1) := by decide +kernel
theorem dX12_drops_5 : decode cX12_drops 5 = .ok (.iconst 1, 1) := by decide +kernel
theorem dX12_drops_6 : decode cX12_drops 6 = .ok (.isub, 1) := by decide +kernel
theorem dX12_drops_7 : decode cX12_drops 7 = .ok (.iastore, 1) := by decide +kernel
theorem dX12_drops_8 : decode cX12_drops 8 = .ok (.iload_n 1, 1) := by decide +kernel
theorem dX12_drops_9 : decode cX12_drops 9 = .ok (.invokestatic 98, 3) := by decide +kernel
theorem dX12_drops_12 : decode cX12_drops 12 = .ok (.istore_n 2, 1) := by decide +kernel
theorem dX12_drops_13 : decode cX12_drops 13 = .ok (.iload_n 2, 1) := by decide +kernel
theorem dX12_drops_14 : decode cX12_drops 14 = .ok (.aload_n 0, 1) := by decide +kernel
theorem dX12_drops_15 : decode cX12_drops 15 = .ok (.bipush 6, 2) := by decide +kernel
theorem dX12_drops_17 : decode cX12_drops 17 = .ok (.iaload, 1) := by decide +kernel
theorem dX12_drops_18 : decode cX12_drops 18 = .ok (.invokestatic 98, 3) := by decide +kernel
theorem dX12_drops_21 : decode cX12_drops 21 = .ok (.if_icmp .ge 18, 3) := by decide +kernel
theorem dX12_drops_24 : decode cX12_drops 24 = .ok (.aload_n 0, 1) := by decide +kernel
theorem dX12_drops_25 : decode cX12_drops 25 = .ok (.iload_n 2, 1) := by decide +kernel
theorem dX12_drops_26 : decode cX12_drops 26 = .ok (.aload_n 0, 1) := by decide +kernel
theorem dX12_drops_27 : decode cX12_drops 27 = .ok (.iload_n 2, 1) := by decide +kernel
theorem dX12_drops_28 : decode cX12_drops 28 = .ok (.bipush 10, 2) := by decide +kernel
theorem dX12_drops_30 : decode cX12_drops 30 = .ok (.iadd, 1) := by decide +kernel
theorem dX12_drops_31 : decode cX12_drops 31 = .ok (.iaload, 1) := by decide +kernel
theorem dX12_drops_32 : decode cX12_drops 32 = .ok (.iastore, 1) := by decide +kernel
theorem dX12_drops_33 : decode cX12_drops 33 = .ok (.iinc 2 1, 3) := by decide +kernel
theorem dX12_drops_36 : decode cX12_drops 36 = .ok (.goto (-23), 3) := by decide +kernel
theorem dX12_drops_39 : decode cX12_drops 39 = .ok (.aload_n 0, 1) := by decide +kernel
theorem dX12_drops_40 : decode cX12_drops 40 = .ok (.bipush 6, 2) := by decide +kernel
theorem dX12_drops_42 : decode cX12_drops 42 = .ok (.iaload, 1) := by decide +kernel
theorem dX12_drops_43 : decode cX12_drops 43 = .ok (.ireturn, 1) := by decide +kernel
set_option maxRecDepth 20000 in
theorem ggX12_sweeps_X12_lives : GoodIn wsX12_sweeps wsX12_lives := goodIn_r _ [4, 5, 6, 3, 7] (by decide +kernel) (by decide +kernel)
set_option maxRecDepth 20000 in
theorem gX12_sweeps_X12_lives : GoodIn wsX12_sweeps (va_wsS RX12 101 yX12_lives wsX12_lives) := goodIn_app (goodIn_of _ (by decide +kernel)) ggX12_sweeps_X12_lives
set_option maxRecDepth 20000 in
theorem ggX12_sweeps_X12_drops : GoodIn wsX12_sweeps wsX12_drops := goodIn_r _ [10, 5, 6, 3, 7] (by decide +kernel) (by decide +kernel)
set_option maxRecDepth 20000 in
theorem gX12_sweeps_X12_drops : GoodIn wsX12_sweeps (va_wsS RX12 142 yX12_drops wsX12_drops) := goodIn_app (goodIn_of _ (by decide +kernel)) ggX12_sweeps_X12_drops
theorem dX12_sweeps_0 : decode cX12_sweeps 0 = .ok (.aload_n 0, 1) := by decide +kernel
theorem dX12_sweeps_1 : decode cX12_sweeps 1 = .ok (.bipush 6, 2) := by decide +kernel
theorem dX12_sweeps_3 : decode cX12_sweeps 3 = .ok (.iaload, 1) := by decide +kernel
theorem dX12_sweeps_4 : decode cX12_sweeps 4 = .ok (.istore_n 1, 1) := by decide +kernel
theorem dX12_sweeps_5 : decode cX12_sweeps 5 = .ok (.iload_n 1, 1) := by decide +kernel
theorem dX12_sweeps_6 : decode cX12_sweeps 6 = .ok (.iconst 1, 1) := by decide +kernel
theorem dX12_sweeps_7 : decode cX12_sweeps 7 = .ok (.isub, 1) := by decide +kernel
theorem dX12_sweeps_8 : decode cX12_sweeps 8 = .ok (.istore_n 2, 1) := by decide +kernel
theorem dX12_sweeps_9 : decode cX12_sweeps 9 = .ok (.iload_n 2, 1) := by decide +kernel
theorem dX12_sweeps_10 : decode cX12_sweeps 10 = .ok (.ifCond .lt 27, 3) := by decide +kernel
theorem dX12_sweeps_13 : decode cX12_sweeps 13 = .ok (.aload_n 0, 1) := by decide +kernel
theorem dX12_sweeps_14 : decode cX12_sweeps 14 = .ok (.iload_n 2, 1) := by decide +kernel
theorem dX12_sweeps_15 : decode cX12_sweeps 15 = .ok (.invokestatic 101, 3) := by decide +kernel
theorem dX12_sweeps_18 : decode cX12_sweeps 18 = .ok (.ifCond .ne 13, 3) := by decide +kernel
theorem dX12_sweeps_21 : decode cX12_sweeps 21 = .ok (.aload_n 0, 1) := by decide +kernel
theorem dX12_sweeps_22 : decode cX12_sweeps 22 = .ok (.iload_n 2, 1) := by decide +kernel
theorem dX12_sweeps_23 : decode cX12_sweeps 23 = .ok (.invokestatic 142, 3) := by decide +kernel
theorem dX12_sweeps_26 : decode cX12_sweeps 26 = .ok (.ifCond .ge 5, 3) := by decide +kernel
theorem dX12_sweeps_29 : decode cX12_sweeps 29 = .ok (.iconst (-1), 1) := by decide +kernel
theorem dX12_sweeps_30 : decode cX12_sweeps 30 = .ok (.ireturn, 1) := by decide +kernel
theorem dX12_sweeps_31 : decode cX12_sweeps 31 = .ok (.iinc 2 (-1), 3) := by decide +kernel
theorem dX12_sweeps_34 : decode cX12_sweeps 34 = .ok (.goto (-25), 3) := by decide +kernel
theorem dX12_sweeps_37 : decode cX12_sweeps 37 = .ok (.iload_n 1, 1) := by decide +kernel
theorem dX12_sweeps_38 : decode cX12_sweeps 38 = .ok (.aload_n 0, 1) := by decide +kernel
theorem dX12_sweeps_39 : decode cX12_sweeps 39 = .ok (.bipush 6, 2) := by decide +kernel
theorem dX12_sweeps_41 : decode cX12_sweeps 41 = .ok (.iaload, 1) := by decide +kernel
theorem dX12_sweeps_42 : decode cX12_sweeps 42 = .ok (.isub, 1) := by decide +kernel
theorem dX12_sweeps_43 : decode cX12_sweeps 43 = .ok (.ireturn, 1) := by decide +kernel
set_option maxRecDepth 20000 in
theorem ggX12_forget_X12_ofUse : GoodIn wsX12_forget wsX12_ofUse := goodIn_r _ [4] (by decide +kernel) (by decide +kernel)
set_option maxRecDepth 20000 in
theorem gX12_forget_X12_ofUse : GoodIn wsX12_forget (va_wsS RX12 128 yX12_ofUse wsX12_ofUse) := goodIn_app (goodIn_of _ (by decide +kernel)) ggX12_forget_X12_ofUse
theorem dX12_forget_0 : decode cX12_forget 0 = .ok (.iconst 0, 1) := by decide +kernel
theorem dX12_forget_1 : decode cX12_forget 1 = .ok (.istore_n 1, 1) := by decide +kernel
theorem dX12_forget_2 : decode cX12_forget 2 = .ok (.iconst 0, 1) := by decide +kernel
theorem dX12_forget_3 : decode cX12_forget 3 = .ok (.istore_n 2, 1) := by decide +kernel
theorem dX12_forget_4 : decode cX12_forget 4 = .ok (.iload_n 2, 1) := by decide +kernel
theorem dX12_forget_5 : decode cX12_forget 5 = .ok (.aload_n 0, 1) := by decide +kernel
theorem dX12_forget_6 : decode cX12_forget 6 = .ok (.bipush 8, 2) := by decide +kernel
theorem dX12_forget_8 : decode cX12_forget 8 = .ok (.iaload, 1) := by decide +kernel
theorem dX12_forget_9 : decode cX12_forget 9 = .ok (.if_icmp .ge 82, 3) := by decide +kernel
theorem dX12_forget_12 : decode cX12_forget 12 = .ok (.aload_n 0, 1) := by decide +kernel
theorem dX12_forget_13 : decode cX12_forget 13 = .ok (.iconst 0, 1) := by decide +kernel
theorem dX12_forget_14 : decode cX12_forget 14 = .ok (.iaload, 1) := by decide +kernel
theorem dX12_forget_15 : decode cX12_forget 15 = .ok (.aload_n 0, 1) := by decide +kernel
theorem dX12_forget_16 : decode cX12_forget 16 = .ok (.iload_n 2, 1) := by decide +kernel
theorem dX12_forget_17 : decode cX12_forget 17 = .ok (.invokestatic 128, 3) := by decide +kernel
theorem dX12_forget_20 : decode cX12_forget 20 = .ok (.iconst 3, 1) := by decide +kernel
theorem dX12_forget_21 : decode cX12_forget 21 = .ok (.iadd, 1) := by decide +kernel
theorem dX12_forget_22 : decode cX12_forget 22 = .ok (.iaload, 1) := by decide +kernel
theorem dX12_forget_23 : decode cX12_forget 23 = .ok (.isub, 1) := by decide +kernel
theorem dX12_forget_24 : decode cX12_forget 24 = .ok (.aload_n 0, 1) := by decide +kernel
theorem dX12_forget_25 : decode cX12_forget 25 = .ok (.iconst 1, 1) := by decide +kernel
theorem dX12_forget_26 : decode cX12_forget 26 = .ok (.iaload, 1) := by decide +kernel
theorem dX12_forget_27 : decode cX12_forget 27 = .ok (.if_icmp .gt 7, 3) := by decide +kernel
theorem dX12_forget_30 : decode cX12_forget 30 = .ok (.iconst 1, 1) := by decide +kernel
theorem dX12_forget_31 : decode cX12_forget 31 = .ok (.goto 4, 3) := by decide +kernel
theorem dX12_forget_34 : decode cX12_forget 34 = .ok (.iconst 0, 1) := by decide +kernel
theorem dX12_forget_35 : decode cX12_forget 35 = .ok (.istore_n 3, 1) := by decide +kernel
theorem dX12_forget_36 : decode cX12_forget 36 = .ok (.iconst 0, 1) := by decide +kernel
theorem dX12_forget_37 : decode cX12_forget 37 = .ok (.istore 4, 2) := by decide +kernel
theorem dX12_forget_39 : decode cX12_forget 39 = .ok (.iload 4, 2) := by decide +kernel
theorem dX12_forget_41 : decode cX12_forget 41 = .ok (.iconst 4, 1) := by decide +kernel
theorem dX12_forget_42 : decode cX12_forget 42 = .ok (.if_icmp .ge 31, 3) := by decide +kernel
theorem dX12_forget_45 : decode cX12_forget 45 = .ok (.iload_n 3, 1) := by decide +kernel
theorem dX12_forget_46 : decode cX12_forget 46 = .ok (.ifCond .eq 27, 3) := by decide +kernel
theorem dX12_forget_49 : decode cX12_forget 49 = .ok (.aload_n 0, 1) := by decide +kernel
theorem dX12_forget_50 : decode cX12_forget 50 = .ok (.iload_n 1, 1) := by decide +kernel
theorem dX12_forget_51 : decode cX12_forget 51 = .ok (.invokestatic 128, 3) := by decide +kernel
theorem dX12_forget_54 : decode cX12_forget 54 = .ok (.iload 4, 2) := by decide +kernel
theorem dX12_forget_56 : decode cX12_forget 56 = .ok (.iadd, 1) := by decide +kernel
theorem dX12_forget_57 : decode cX12_forget 57 = .ok (.aload_n 0, 1) := by decide +kernel
theorem dX12_forget_58 : decode cX12_forget 58 = .ok (.iload_n 2, 1) := by decide +kernel
theorem dX12_forget_59 : decode cX12_forget 59 = .ok (.invokestatic 128, 3) := by decide +kernel
theorem dX12_forget_62 : decode cX12_forget 62 = .ok (.iload 4, 2) := by decide +kernel
theorem dX12_forget_64 : decode cX12_forget 64 = .ok (.iadd, 1) := by decide +kernel
theorem dX12_forget_65 : decode cX12_forget 65 = .ok (.iaload, 1) := by decide +kernel
theorem dX12_forget_66 : decode cX12_forget 66 = .ok (.iastore, 1) := by decide +kernel
theorem dX12_forget_67 : decode cX12_forget 67 = .ok (.iinc 4 1, 3) := by decide +kernel
theorem dX12_forget_70 : decode cX12_forget 70 = .ok (.goto (-31), 3) := by decide +kernel
theorem dX12_forget_73 : decode cX12_forget 73 = .ok (.iload_n 1, 1) := by decide +kernel
theorem dX12_forget_74 : decode cX12_forget 74 = .ok (.iload_n 3, 1) := by decide +kernel
theorem dX12_forget_75 : decode cX12_forget 75 = .ok (.ifCond .eq 7, 3) := by decide +kernel
theorem dX12_forget_78 : decode cX12_forget 78 = .ok (.iconst 1, 1) := by decide +kernel
theorem dX12_forget_79 : decode cX12_forget 79 = .ok (.goto 4, 3) := by decide +kernel
theorem dX12_forget_82 : decode cX12_forget 82 = .ok (.iconst 0, 1) := by decide +kernel
theorem dX12_forget_83 : decode cX12_forget 83 = .ok (.iadd, 1) := by decide +kernel
theorem dX12_forget_84 : decode cX12_forget 84 = .ok (.istore_n 1, 1) := by decide +kernel
theorem dX12_forget_85 : decode cX12_forget 85 = .ok (.iinc 2 1, 3) := by decide +kernel
theorem dX12_forget_88 : decode cX12_forget 88 = .ok (.goto (-84), 3) := by decide +kernel
theorem dX12_forget_91 : decode cX12_forget 91 = .ok (.aload_n 0, 1) := by decide +kernel
theorem dX12_forget_92 : decode cX12_forget 92 = .ok (.bipush 8, 2) := by decide +kernel
theorem dX12_forget_94 : decode cX12_forget 94 = .ok (.iload_n 1, 1) := by decide +kernel
theorem dX12_forget_95 : decode cX12_forget 95 = .ok (.iastore, 1) := by decide +kernel
theorem dX12_forget_96 : decode cX12_forget 96 = .ok (.return_, 1) := by decide +kernel
set_option maxRecDepth 20000 in
theorem ggX12_passes_X12_living : GoodIn wsX12_passes wsX12_living := goodIn_r _ [4, 5, 6, 3, 7, 8, 9, 10] (by decide +kernel) (by decide +kernel)
set_option maxRecDepth 20000 in
theorem gX12_passes_X12_living : GoodIn wsX12_passes (va_wsS RX12 145 yX12_living wsX12_living) := goodIn_app (goodIn_of _ (by decide +kernel)) ggX12_passes_X12_living
set_option maxRecDepth 20000 in
theorem ggX12_passes_X12_forget : GoodIn wsX12_passes wsX12_forget := goodIn_r _ [13, 14, 15, 3, 16] (by decide +kernel) (by decide +kernel)
set_option maxRecDepth 20000 in
theorem gX12_passes_X12_forget : GoodIn wsX12_passes (va_wsS RX12 148 yX12_forget wsX12_forget) := goodIn_app (goodIn_of _ (by decide +kernel)) ggX12_passes_X12_forget
theorem dX12_passes_0 : decode cX12_passes 0 = .ok (.aload_n 0, 1) := by decide +kernel
theorem dX12_passes_1 : decode cX12_passes 1 = .ok (.invokestatic 145, 3) := by decide +kernel
theorem dX12_passes_4 : decode cX12_passes 4 = .ok (.istore_n 2, 1) := by decide +kernel
theorem dX12_passes_5 : decode cX12_passes 5 = .ok (.aload_n 0, 1) := by decide +kernel
theorem dX12_passes_6 : decode cX12_passes 6 = .ok (.iconst 0, 1) := by decide +kernel
theorem dX12_passes_7 : decode cX12_passes 7 = .ok (.dup2, 1) := by decide +kernel
theorem dX12_passes_8 : decode cX12_passes 8 = .ok (.iaload, 1) := by decide +kernel
theorem dX12_passes_9 : decode cX12_passes 9 = .ok (.iload_n 1, 1) := by decide +kernel
theorem dX12_passes_10 : decode cX12_passes 10 = .ok (.iadd, 1) := by decide +kernel
theorem dX12_passes_11 : decode cX12_passes 11 = .ok (.iastore, 1) := by decide +kernel
theorem dX12_passes_12 : decode cX12_passes 12 = .ok (.aload_n 0, 1) := by decide +kernel
theorem dX12_passes_13 : decode cX12_passes 13 = .ok (.invokestatic 148, 3) := by decide +kernel
theorem dX12_passes_16 : decode cX12_passes 16 = .ok (.iload_n 2, 1) := by decide +kernel
theorem dX12_passes_17 : decode cX12_passes 17 = .ok (.aload_n 0, 1) := by decide +kernel
theorem dX12_passes_18 : decode cX12_passes 18 = .ok (.invokestatic 145, 3) := by decide +kernel
theorem dX12_passes_21 : decode cX12_passes 21 = .ok (.isub, 1) := by decide +kernel
theorem dX12_passes_22 : decode cX12_passes 22 = .ok (.ireturn, 1) := by decide +kernel
theorem dX12_appendWord_0 : decode cX12_appendWord 0 = .ok (.bipush 24, 2) := by decide +kernel
theorem dX12_appendWord_2 : decode cX12_appendWord 2 = .ok (.istore_n 2, 1) := by decide +kernel
theorem dX12_appendWord_3 : decode cX12_appendWord 3 = .ok (.iload_n 2, 1) := by decide +kernel
theorem dX12_appendWord_4 : decode cX12_appendWord 4 = .ok (.ifCond .lt 35, 3) := by decide +kernel
theorem dX12_appendWord_7 : decode cX12_appendWord 7 = .ok (.aload_n 0, 1) := by decide +kernel
theorem dX12_appendWord_8 : decode cX12_appendWord 8 = .ok (.getfield 32, 3) := by decide +kernel
theorem dX12_appendWord_11 : decode cX12_appendWord 11 = .ok (.aload_n 0, 1) := by decide +kernel
theorem dX12_appendWord_12 : decode cX12_appendWord 12 = .ok (.getfield 55, 3) := by decide +kernel
theorem dX12_appendWord_15 : decode cX12_appendWord 15 = .ok (.iload_n 1, 1) := by decide +kernel
theorem dX12_appendWord_16 : decode cX12_appendWord 16 = .ok (.iload_n 2, 1) := by decide +kernel
theorem dX12_appendWord_17 : decode cX12_appendWord 17 = .ok (.ishr, 1) := by decide +kernel
theorem dX12_appendWord_18 : decode cX12_appendWord 18 = .ok (.sipush 255, 3) := by decide +kernel
theorem dX12_appendWord_21 : decode cX12_appendWord 21 = .ok (.iand, 1) := by decide +kernel
theorem dX12_appendWord_22 : decode cX12_appendWord 22 = .ok (.iastore, 1) := by decide +kernel
theorem dX12_appendWord_23 : decode cX12_appendWord 23 = .ok (.aload_n 0, 1) := by decide +kernel
theorem dX12_appendWord_24 : decode cX12_appendWord 24 = .ok (.dup, 1) := by decide +kernel
theorem dX12_appendWord_25 : decode cX12_appendWord 25 = .ok (.getfield 55, 3) := by decide +kernel
theorem dX12_appendWord_28 : decode cX12_appendWord 28 = .ok (.iconst 1, 1) := by decide +kernel
theorem dX12_appendWord_29 : decode cX12_appendWord 29 = .ok (.iadd, 1) := by decide +kernel
theorem dX12_appendWord_30 : decode cX12_appendWord 30 = .ok (.putfield 55, 3) := by decide +kernel
theorem dX12_appendWord_33 : decode cX12_appendWord 33 = .ok (.iinc 2 (-8), 3) := by decide +kernel
theorem dX12_appendWord_36 : decode cX12_appendWord 36 = .ok (.goto (-33), 3) := by decide +kernel
theorem dX12_appendWord_39 : decode cX12_appendWord 39 = .ok (.return_, 1) := by decide +kernel
set_option maxRecDepth 20000 in
theorem ggX12_appendInput_X12_refuses : GoodIn wsX12_appendInput wsX12_refuses := goodIn_r _ [7, 1, 13, 14, 15, 16, 17, 18, 19, 20, 21, 22, 23, 24, 25, 26, 27, 28, 29, 30, 31, 32, 33, 34] (by decide +kernel) (by decide +kernel)
set_option maxRecDepth 20000 in
theorem gX12_appendInput_X12_refuses : GoodIn wsX12_appendInput (wsV RX12 152 RX12 yX12_refuses wsX12_refuses) := goodIn_app (goodIn_of _ (by decide +kernel)) ggX12_appendInput_X12_refuses
set_option maxRecDepth 20000 in
theorem ggX12_appendInput_X12_appendWord : GoodIn wsX12_appendInput wsX12_appendWord := goodIn_r _ [11, 12, 2, 13, 14, 15, 16, 17, 18, 19, 20, 21, 22, 23, 24, 25, 26, 27, 28, 29, 30, 31, 32, 33, 34] (by decide +kernel) (by decide +kernel)
set_option maxRecDepth 20000 in
theorem gX12_appendInput_X12_appendWord : GoodIn wsX12_appendInput (wsV RX12 156 RX12 yX12_appendWord wsX12_appendWord) := goodIn_app (goodIn_of _ (by decide +kernel)) ggX12_appendInput_X12_appendWord
theorem dX12_appendInput_0 : decode cX12_appendInput 0 = .ok (.aload_n 0, 1) := by decide +kernel
theorem dX12_appendInput_1 : decode cX12_appendInput 1 = .ok (.iconst 0, 1) := by decide +kernel
theorem dX12_appendInput_2 : decode cX12_appendInput 2 = .ok (.putfield 72, 3) := by decide +kernel
theorem dX12_appendInput_5 : decode cX12_appendInput 5 = .ok (.aload_n 0, 1) := by decide +kernel
theorem dX12_appendInput_6 : decode cX12_appendInput 6 = .ok (.aload_n 0, 1) := by decide +kernel
theorem dX12_appendInput_7 : decode cX12_appendInput 7 = .ok (.getfield 55, 3) := by decide +kernel
theorem dX12_appendInput_10 : decode cX12_appendInput 10 = .ok (.bipush 20, 2) := by decide +kernel
theorem dX12_appendInput_12 : decode cX12_appendInput 12 = .ok (.iadd, 1) := by decide +kernel
theorem dX12_appendInput_13 : decode cX12_appendInput 13 = .ok (.sipush 600, 3) := by decide +kernel
theorem dX12_appendInput_16 : decode cX12_appendInput 16 = .ok (.if_icmp .le 7, 3) := by decide +kernel
theorem dX12_appendInput_19 : decode cX12_appendInput 19 = .ok (.iconst 1, 1) := by decide +kernel
theorem dX12_appendInput_20 : decode cX12_appendInput 20 = .ok (.goto 4, 3) := by decide +kernel
theorem dX12_appendInput_23 : decode cX12_appendInput 23 = .ok (.iconst 0, 1) := by decide +kernel
theorem dX12_appendInput_24 : decode cX12_appendInput 24 = .ok (.iconst 1, 1) := by decide +kernel
theorem dX12_appendInput_25 : decode cX12_appendInput 25 = .ok (.invokevirtual 152, 3) := by decide +kernel
theorem dX12_appendInput_28 : decode cX12_appendInput 28 = .ok (.ifCond .eq 5, 3) := by decide +kernel
theorem dX12_appendInput_31 : decode cX12_appendInput 31 = .ok (.iconst 0, 1) := by decide +kernel
theorem dX12_appendInput_32 : decode cX12_appendInput 32 = .ok (.ireturn, 1) := by decide +kernel
theorem dX12_appendInput_33 : decode cX12_appendInput 33 = .ok (.aload_n 0, 1) := by decide +kernel
theorem dX12_appendInput_34 : decode cX12_appendInput 34 = .ok (.iload_n 1, 1) := by decide +kernel
theorem dX12_appendInput_35 : decode cX12_appendInput 35 = .ok (.invokevirtual 156, 3) := by decide +kernel
theorem dX12_appendInput_38 : decode cX12_appendInput 38 = .ok (.aload_n 0, 1) := by decide +kernel
theorem dX12_appendInput_39 : decode cX12_appendInput 39 = .ok (.iload_n 2, 1) := by decide +kernel
theorem dX12_appendInput_40 : decode cX12_appendInput 40 = .ok (.invokevirtual 156, 3) := by decide +kernel
theorem dX12_appendInput_43 : decode cX12_appendInput 43 = .ok (.aload_n 0, 1) := by decide +kernel
theorem dX12_appendInput_44 : decode cX12_appendInput 44 = .ok (.iload_n 3, 1) := by decide +kernel
theorem dX12_appendInput_45 : decode cX12_appendInput 45 = .ok (.invokevirtual 156, 3) := by decide +kernel
theorem dX12_appendInput_48 : decode cX12_appendInput 48 = .ok (.aload_n 0, 1) := by decide +kernel
theorem dX12_appendInput_49 : decode cX12_appendInput 49 = .ok (.iload 4, 2) := by decide +kernel
theorem dX12_appendInput_51 : decode cX12_appendInput 51 = .ok (.invokevirtual 156, 3) := by decide +kernel
theorem dX12_appendInput_54 : decode cX12_appendInput 54 = .ok (.aload_n 0, 1) := by decide +kernel
theorem dX12_appendInput_55 : decode cX12_appendInput 55 = .ok (.iload 5, 2) := by decide +kernel
theorem dX12_appendInput_57 : decode cX12_appendInput 57 = .ok (.invokevirtual 156, 3) := by decide +kernel
theorem dX12_appendInput_60 : decode cX12_appendInput 60 = .ok (.aload_n 0, 1) := by decide +kernel
theorem dX12_appendInput_61 : decode cX12_appendInput 61 = .ok (.getfield 55, 3) := by decide +kernel
theorem dX12_appendInput_64 : decode cX12_appendInput 64 = .ok (.ireturn, 1) := by decide +kernel
set_option maxRecDepth 20000 in
theorem ggX12_truncateInput_X12_noNumber : GoodIn wsX12_truncateInput wsX12_noNumber := goodIn_r _ [6, 7, 8, 9, 5, 10, 11, 12, 13, 14, 15, 16, 17, 18, 19, 20, 21, 22, 23, 24, 25, 26, 27, 28, 29, 30, 31, 32, 33, 34, 35, 36] (by decide +kernel) (by decide +kernel)
set_option maxRecDepth 20000 in
theorem gX12_truncateInput_X12_noNumber : GoodIn wsX12_truncateInput (wsV RX12 160 RX12 yX12_noNumber wsX12_noNumber) := goodIn_app (goodIn_of _ (by decide +kernel)) ggX12_truncateInput_X12_noNumber
theorem dX12_truncateInput_0 : decode cX12_truncateInput 0 = .ok (.aload_n 0, 1) := by decide +kernel
theorem dX12_truncateInput_1 : decode cX12_truncateInput 1 = .ok (.iload_n 1, 1) := by decide +kernel
theorem dX12_truncateInput_2 : decode cX12_truncateInput 2 = .ok (.iconst 0, 1) := by decide +kernel
theorem dX12_truncateInput_3 : decode cX12_truncateInput 3 = .ok (.aload_n 0, 1) := by decide +kernel
theorem dX12_truncateInput_4 : decode cX12_truncateInput 4 = .ok (.getfield 55, 3) := by decide +kernel
theorem dX12_truncateInput_7 : decode cX12_truncateInput 7 = .ok (.invokevirtual 160, 3) := by decide +kernel
theorem dX12_truncateInput_10 : decode cX12_truncateInput 10 = .ok (.ifCond .eq 5, 3) := by decide +kernel
theorem dX12_truncateInput_13 : decode cX12_truncateInput 13 = .ok (.iconst 0, 1) := by decide +kernel
theorem dX12_truncateInput_14 : decode cX12_truncateInput 14 = .ok (.ireturn, 1) := by decide +kernel
theorem dX12_truncateInput_15 : decode cX12_truncateInput 15 = .ok (.aload_n 0, 1) := by decide +kernel
theorem dX12_truncateInput_16 : decode cX12_truncateInput 16 = .ok (.iload_n 1, 1) := by decide +kernel
theorem dX12_truncateInput_17 : decode cX12_truncateInput 17 = .ok (.putfield 55, 3) := by decide +kernel
theorem dX12_truncateInput_20 : decode cX12_truncateInput 20 = .ok (.iload_n 1, 1) := by decide +kernel
theorem dX12_truncateInput_21 : decode cX12_truncateInput 21 = .ok (.ireturn, 1) := by decide +kernel
theorem dX12_errorCode_0 : decode cX12_errorCode 0 = .ok (.aload_n 0, 1) := by decide +kernel
theorem dX12_errorCode_1 : decode cX12_errorCode 1 = .ok (.iconst 0, 1) := by decide +kernel
theorem dX12_errorCode_2 : decode cX12_errorCode 2 = .ok (.putfield 72, 3) := by decide +kernel
theorem dX12_errorCode_5 : decode cX12_errorCode 5 = .ok (.aload_n 0, 1) := by decide +kernel
theorem dX12_errorCode_6 : decode cX12_errorCode 6 = .ok (.getfield 164, 3) := by decide +kernel
theorem dX12_errorCode_9 : decode cX12_errorCode 9 = .ok (.ireturn, 1) := by decide +kernel
theorem dX12_errorPosition_0 : decode cX12_errorPosition 0 = .ok (.aload_n 0, 1) := by decide +kernel
theorem dX12_errorPosition_1 : decode cX12_errorPosition 1 = .ok (.iconst 0, 1) := by decide +kernel
theorem dX12_errorPosition_2 : decode cX12_errorPosition 2 = .ok (.putfield 72, 3) := by decide +kernel
theorem dX12_errorPosition_5 : decode cX12_errorPosition 5 = .ok (.aload_n 0, 1) := by decide +kernel
theorem dX12_errorPosition_6 : decode cX12_errorPosition 6 = .ok (.getfield 35, 3) := by decide +kernel
theorem dX12_errorPosition_9 : decode cX12_errorPosition 9 = .ok (.ireturn, 1) := by decide +kernel
theorem dX12_byteAt_0 : decode cX12_byteAt 0 = .ok (.iload_n 1, 1) := by decide +kernel
theorem dX12_byteAt_1 : decode cX12_byteAt 1 = .ok (.aload_n 0, 1) := by decide +kernel
theorem dX12_byteAt_2 : decode cX12_byteAt 2 = .ok (.getfield 55, 3) := by decide +kernel
theorem dX12_byteAt_5 : decode cX12_byteAt 5 = .ok (.if_icmp .ge 12, 3) := by decide +kernel
theorem dX12_byteAt_8 : decode cX12_byteAt 8 = .ok (.aload_n 0, 1) := by decide +kernel
theorem dX12_byteAt_9 : decode cX12_byteAt 9 = .ok (.getfield 32, 3) := by decide +kernel
theorem dX12_byteAt_12 : decode cX12_byteAt 12 = .ok (.iload_n 1, 1) := by decide +kernel
theorem dX12_byteAt_13 : decode cX12_byteAt 13 = .ok (.iaload, 1) := by decide +kernel
theorem dX12_byteAt_14 : decode cX12_byteAt 14 = .ok (.goto 4, 3) := by decide +kernel
theorem dX12_byteAt_17 : decode cX12_byteAt 17 = .ok (.iconst (-1), 1) := by decide +kernel
theorem dX12_byteAt_18 : decode cX12_byteAt 18 = .ok (.ireturn, 1) := by decide +kernel
set_option maxRecDepth 20000 in
theorem ggX12_isLetter_X12_isBetween : GoodIn wsX12_isLetter wsX12_isBetween := goodIn_r _ [4] (by decide +kernel) (by decide +kernel)
set_option maxRecDepth 20000 in
theorem gX12_isLetter_X12_isBetween : GoodIn wsX12_isLetter (va_wsS RX12 167 yX12_isBetween wsX12_isBetween) := goodIn_app (goodIn_of _ (by decide +kernel)) ggX12_isLetter_X12_isBetween
theorem dX12_isLetter_0 : decode cX12_isLetter 0 = .ok (.iload_n 0, 1) := by decide +kernel
theorem dX12_isLetter_1 : decode cX12_isLetter 1 = .ok (.bipush 97, 2) := by decide +kernel
theorem dX12_isLetter_3 : decode cX12_isLetter 3 = .ok (.bipush 122, 2) := by decide +kernel
theorem dX12_isLetter_5 : decode cX12_isLetter 5 = .ok (.invokestatic 167, 3) := by decide +kernel
theorem dX12_isLetter_8 : decode cX12_isLetter 8 = .ok (.ireturn, 1) := by decide +kernel
set_option maxRecDepth 20000 in
theorem ggX12_advance_X12_byteAt : GoodIn wsX12_advance wsX12_byteAt := goodIn_r _ [11, 12, 13, 20, 21, 22, 23, 24, 25, 26, 27, 28, 29, 30, 31, 32, 33, 34, 35, 36, 37, 38, 39, 40, 41] (by decide +kernel) (by decide +kernel)
set_option maxRecDepth 20000 in
theorem gX12_advance_X12_byteAt : GoodIn wsX12_advance (wsV RX12 173 RX12 yX12_byteAt wsX12_byteAt) := goodIn_app (goodIn_of _ (by decide +kernel)) ggX12_advance_X12_byteAt
set_option maxRecDepth 20000 in
theorem ggX12_advance_X12_isLetter : GoodIn wsX12_advance wsX12_isLetter := goodIn_r _ [16, 17, 18, 10, 19] (by decide +kernel) (by decide +kernel)
set_option maxRecDepth 20000 in
theorem gX12_advance_X12_isLetter : GoodIn wsX12_advance (va_wsS RX12 188 yX12_isLetter wsX12_isLetter) := goodIn_app (goodIn_of _ (by decide +kernel)) ggX12_advance_X12_isLetter
set_option maxRecDepth 20000 in
theorem ggX12_advance_X12_isBetween : GoodIn wsX12_advance wsX12_isBetween := goodIn_r _ [19] (by decide +kernel) (by decide +kernel)
set_option maxRecDepth 20000 in
theorem gX12_advance_X12_isBetween : GoodIn wsX12_advance (va_wsS RX12 167 yX12_isBetween wsX12_isBetween) := goodIn_app (goodIn_of _ (by decide +kernel)) ggX12_advance_X12_isBetween
theorem dX12_advance_0 : decode cX12_advance 0 = .ok (.aload_n 0, 1) := by decide +kernel
theorem dX12_advance_1 : decode cX12_advance 1 = .ok (.aload_n 0, 1) := by decide +kernel
theorem dX12_advance_2 : decode cX12_advance 2 = .ok (.getfield 170, 3) := by decide +kernel
theorem dX12_advance_5 : decode cX12_advance 5 = .ok (.invokevirtual 173, 3) := by decide +kernel
theorem dX12_advance_8 : decode cX12_advance 8 = .ok (.bipush 32, 2) := by decide +kernel
theorem dX12_advance_10 : decode cX12_advance 10 = .ok (.if_icmp .eq 16, 3) := by decide +kernel
theorem dX12_advance_13 : decode cX12_advance 13 = .ok (.aload_n 0, 1) := by decide +kernel
theorem dX12_advance_14 : decode cX12_advance 14 = .ok (.aload_n 0, 1) := by decide +kernel
theorem dX12_advance_15 : decode cX12_advance 15 = .ok (.getfield 170, 3) := by decide +kernel
theorem dX12_advance_18 : decode cX12_advance 18 = .ok (.invokevirtual 173, 3) := by decide +kernel
theorem dX12_advance_21 : decode cX12_advance 21 = .ok (.bipush 10, 2) := by decide +kernel
theorem dX12_advance_23 : decode cX12_advance 23 = .ok (.if_icmp .ne 16, 3) := by decide +kernel
theorem dX12_advance_26 : decode cX12_advance 26 = .ok (.aload_n 0, 1) := by decide +kernel
theorem dX12_advance_27 : decode cX12_advance 27 = .ok (.dup, 1) := by decide +kernel
theorem dX12_advance_28 : decode cX12_advance 28 = .ok (.getfield 170, 3) := by decide +kernel
theorem dX12_advance_31 : decode cX12_advance 31 = .ok (.iconst 1, 1) := by decide +kernel
theorem dX12_advance_32 : decode cX12_advance 32 = .ok (.iadd, 1) := by decide +kernel
theorem dX12_advance_33 : decode cX12_advance 33 = .ok (.putfield 170, 3) := by decide +kernel
theorem dX12_advance_36 : decode cX12_advance 36 = .ok (.goto (-36), 3) := by decide +kernel
theorem dX12_advance_39 : decode cX12_advance 39 = .ok (.aload_n 0, 1) := by decide +kernel
theorem dX12_advance_40 : decode cX12_advance 40 = .ok (.aload_n 0, 1) := by decide +kernel
theorem dX12_advance_41 : decode cX12_advance 41 = .ok (.getfield 170, 3) := by decide +kernel
theorem dX12_advance_44 : decode cX12_advance 44 = .ok (.putfield 176, 3) := by decide +kernel
theorem dX12_advance_47 : decode cX12_advance 47 = .ok (.aload_n 0, 1) := by decide +kernel
theorem dX12_advance_48 : decode cX12_advance 48 = .ok (.iconst 0, 1) := by decide +kernel
theorem dX12_advance_49 : decode cX12_advance 49 = .ok (.putfield 179, 3) := by decide +kernel
theorem dX12_advance_52 : decode cX12_advance 52 = .ok (.aload_n 0, 1) := by decide +kernel
theorem dX12_advance_53 : decode cX12_advance 53 = .ok (.iconst 0, 1) := by decide +kernel
theorem dX12_advance_54 : decode cX12_advance 54 = .ok (.putfield 182, 3) := by decide +kernel
theorem dX12_advance_57 : decode cX12_advance 57 = .ok (.aload_n 0, 1) := by decide +kernel
theorem dX12_advance_58 : decode cX12_advance 58 = .ok (.aload_n 0, 1) := by decide +kernel
theorem dX12_advance_59 : decode cX12_advance 59 = .ok (.getfield 170, 3) := by decide +kernel
theorem dX12_advance_62 : decode cX12_advance 62 = .ok (.invokevirtual 173, 3) := by decide +kernel
theorem dX12_advance_65 : decode cX12_advance 65 = .ok (.istore_n 1, 1) := by decide +kernel
theorem dX12_advance_66 : decode cX12_advance 66 = .ok (.iload_n 1, 1) := by decide +kernel
theorem dX12_advance_67 : decode cX12_advance 67 = .ok (.iconst (-1), 1) := by decide +kernel
theorem dX12_advance_68 : decode cX12_advance 68 = .ok (.if_icmp .ne 11, 3) := by decide +kernel
theorem dX12_advance_71 : decode cX12_advance 71 = .ok (.aload_n 0, 1) := by decide +kernel
theorem dX12_advance_72 : decode cX12_advance 72 = .ok (.iconst 0, 1) := by decide +kernel
theorem dX12_advance_73 : decode cX12_advance 73 = .ok (.putfield 185, 3) := by decide +kernel
theorem dX12_advance_76 : decode cX12_advance 76 = .ok (.goto 153, 3) := by decide +kernel
theorem dX12_advance_79 : decode cX12_advance 79 = .ok (.iload_n 1, 1) := by decide +kernel
theorem dX12_advance_80 : decode cX12_advance 80 = .ok (.invokestatic 188, 3) := by decide +kernel
theorem dX12_advance_83 : decode cX12_advance 83 = .ok (.ifCond .eq 45, 3) := by decide +kernel
theorem dX12_advance_86 : decode cX12_advance 86 = .ok (.aload_n 0, 1) := by decide +kernel
theorem dX12_advance_87 : decode cX12_advance 87 = .ok (.iconst 3, 1) := by decide +kernel
theorem dX12_advance_88 : decode cX12_advance 88 = .ok (.putfield 185, 3) := by decide +kernel
theorem dX12_advance_91 : decode cX12_advance 91 = .ok (.aload_n 0, 1) := by decide +kernel
theorem dX12_advance_92 : decode cX12_advance 92 = .ok (.aload_n 0, 1) := by decide +kernel
theorem dX12_advance_93 : decode cX12_advance 93 = .ok (.getfield 170, 3) := by decide +kernel
theorem dX12_advance_96 : decode cX12_advance 96 = .ok (.invokevirtual 173, 3) := by decide +kernel
theorem dX12_advance_99 : decode cX12_advance 99 = .ok (.invokestatic 188, 3) := by decide +kernel
theorem dX12_advance_102 : decode cX12_advance 102 = .ok (.ifCond .eq 127, 3) := by decide +kernel
theorem dX12_advance_105 : decode cX12_advance 105 = .ok (.aload_n 0, 1) := by decide +kernel
theorem dX12_advance_106 : decode cX12_advance 106 = .ok (.dup, 1) := by decide +kernel
theorem dX12_advance_107 : decode cX12_advance 107 = .ok (.getfield 179, 3) := by decide +kernel
theorem dX12_advance_110 : decode cX12_advance 110 = .ok (.iconst 1, 1) := by decide +kernel
theorem dX12_advance_111 : decode cX12_advance 111 = .ok (.iadd, 1) := by decide +kernel
theorem dX12_advance_112 : decode cX12_advance 112 = .ok (.putfield 179, 3) := by decide +kernel
theorem dX12_advance_115 : decode cX12_advance 115 = .ok (.aload_n 0, 1) := by decide +kernel
theorem dX12_advance_116 : decode cX12_advance 116 = .ok (.dup, 1) := by decide +kernel
theorem dX12_advance_117 : decode cX12_advance 117 = .ok (.getfield 170, 3) := by decide +kernel
theorem dX12_advance_120 : decode cX12_advance 120 = .ok (.iconst 1, 1) := by decide +kernel
theorem dX12_advance_121 : decode cX12_advance 121 = .ok (.iadd, 1) := by decide +kernel
theorem dX12_advance_122 : decode cX12_advance 122 = .ok (.putfield 170, 3) := by decide +kernel
theorem dX12_advance_125 : decode cX12_advance 125 = .ok (.goto (-34), 3) := by decide +kernel
theorem dX12_advance_128 : decode cX12_advance 128 = .ok (.iload_n 1, 1) := by decide +kernel
theorem dX12_advance_129 : decode cX12_advance 129 = .ok (.bipush 48, 2) := by decide +kernel
theorem dX12_advance_131 : decode cX12_advance 131 = .ok (.bipush 57, 2) := by decide +kernel
theorem dX12_advance_133 : decode cX12_advance 133 = .ok (.invokestatic 167, 3) := by decide +kernel
theorem dX12_advance_136 : decode cX12_advance 136 = .ok (.ifCond .eq 78, 3) := by decide +kernel
theorem dX12_advance_139 : decode cX12_advance 139 = .ok (.aload_n 0, 1) := by decide +kernel
theorem dX12_advance_140 : decode cX12_advance 140 = .ok (.iconst 2, 1) := by decide +kernel
theorem dX12_advance_141 : decode cX12_advance 141 = .ok (.putfield 185, 3) := by decide +kernel
theorem dX12_advance_144 : decode cX12_advance 144 = .ok (.aload_n 0, 1) := by decide +kernel
theorem dX12_advance_145 : decode cX12_advance 145 = .ok (.aload_n 0, 1) := by decide +kernel
theorem dX12_advance_146 : decode cX12_advance 146 = .ok (.getfield 170, 3) := by decide +kernel
theorem dX12_advance_149 : decode cX12_advance 149 = .ok (.invokevirtual 173, 3) := by decide +kernel
theorem dX12_advance_152 : decode cX12_advance 152 = .ok (.bipush 48, 2) := by decide +kernel
theorem dX12_advance_154 : decode cX12_advance 154 = .ok (.bipush 57, 2) := by decide +kernel
theorem dX12_advance_156 : decode cX12_advance 156 = .ok (.invokestatic 167, 3) := by decide +kernel
theorem dX12_advance_159 : decode cX12_advance 159 = .ok (.ifCond .eq 70, 3) := by decide +kernel
theorem dX12_advance_162 : decode cX12_advance 162 = .ok (.aload_n 0, 1) := by decide +kernel
theorem dX12_advance_163 : decode cX12_advance 163 = .ok (.aload_n 0, 1) := by decide +kernel
theorem dX12_advance_164 : decode cX12_advance 164 = .ok (.getfield 182, 3) := by decide +kernel
theorem dX12_advance_167 : decode cX12_advance 167 = .ok (.ldc 192, 2) := by decide +kernel
theorem dX12_advance_169 : decode cX12_advance 169 = .ok (.if_icmp .le 10, 3) := by decide +kernel
theorem dX12_advance_172 : decode cX12_advance 172 = .ok (.aload_n 0, 1) := by decide +kernel
theorem dX12_advance_173 : decode cX12_advance 173 = .ok (.getfield 182, 3) := by decide +kernel
theorem dX12_advance_176 : decode cX12_advance 176 = .ok (.goto 22, 3) := by decide +kernel
theorem dX12_advance_179 : decode cX12_advance 179 = .ok (.bipush 10, 2) := by decide +kernel
theorem dX12_advance_181 : decode cX12_advance 181 = .ok (.aload_n 0, 1) := by decide +kernel
theorem dX12_advance_182 : decode cX12_advance 182 = .ok (.getfield 182, 3) := by decide +kernel
theorem dX12_advance_185 : decode cX12_advance 185 = .ok (.imul, 1) := by decide +kernel
theorem dX12_advance_186 : decode cX12_advance 186 = .ok (.aload_n 0, 1) := by decide +kernel
theorem dX12_advance_187 : decode cX12_advance 187 = .ok (.aload_n 0, 1) := by decide +kernel
theorem dX12_advance_188 : decode cX12_advance 188 = .ok (.getfield 170, 3) := by decide +kernel
theorem dX12_advance_191 : decode cX12_advance 191 = .ok (.invokevirtual 173, 3) := by decide +kernel
theorem dX12_advance_194 : decode cX12_advance 194 = .ok (.iadd, 1) := by decide +kernel
theorem dX12_advance_195 : decode cX12_advance 195 = .ok (.bipush 48, 2) := by decide +kernel
theorem dX12_advance_197 : decode cX12_advance 197 = .ok (.isub, 1) := by decide +kernel
theorem dX12_advance_198 : decode cX12_advance 198 = .ok (.putfield 182, 3) := by decide +kernel
theorem dX12_advance_201 : decode cX12_advance 201 = .ok (.aload_n 0, 1) := by decide +kernel
theorem dX12_advance_202 : decode cX12_advance 202 = .ok (.dup, 1) := by decide +kernel
theorem dX12_advance_203 : decode cX12_advance 203 = .ok (.getfield 170, 3) := by decide +kernel
theorem dX12_advance_206 : decode cX12_advance 206 = .ok (.iconst 1, 1) := by decide +kernel
theorem dX12_advance_207 : decode cX12_advance 207 = .ok (.iadd, 1) := by decide +kernel
theorem dX12_advance_208 : decode cX12_advance 208 = .ok (.putfield 170, 3) := by decide +kernel
theorem dX12_advance_211 : decode cX12_advance 211 = .ok (.goto (-67), 3) := by decide +kernel
theorem dX12_advance_214 : decode cX12_advance 214 = .ok (.aload_n 0, 1) := by decide +kernel
theorem dX12_advance_215 : decode cX12_advance 215 = .ok (.iconst 1, 1) := by decide +kernel
theorem dX12_advance_216 : decode cX12_advance 216 = .ok (.putfield 185, 3) := by decide +kernel
theorem dX12_advance_219 : decode cX12_advance 219 = .ok (.aload_n 0, 1) := by decide +kernel
theorem dX12_advance_220 : decode cX12_advance 220 = .ok (.dup, 1) := by decide +kernel
theorem dX12_advance_221 : decode cX12_advance 221 = .ok (.getfield 170, 3) := by decide +kernel
theorem dX12_advance_224 : decode cX12_advance 224 = .ok (.iconst 1, 1) := by decide +kernel
theorem dX12_advance_225 : decode cX12_advance 225 = .ok (.iadd, 1) := by decide +kernel
theorem dX12_advance_226 : decode cX12_advance 226 = .ok (.putfield 170, 3) := by decide +kernel
theorem dX12_advance_229 : decode cX12_advance 229 = .ok (.return_, 1) := by decide +kernel
set_option maxRecDepth 20000 in
theorem ggX12_is_J0_length_8abf5 : GoodIn wsX12_is wsJ0_length_8abf5 := goodIn_r _ [9, 10, 11, 12, 13, 8, 14, 15, 16] (by decide +kernel) (by decide +kernel)
set_option maxRecDepth 20000 in
theorem gX12_is_J0_length_8abf5 : GoodIn wsX12_is (wsV RX12 62 RJ0 yJ0_length_8abf5 wsJ0_length_8abf5) := goodIn_app (goodIn_of _ (by decide +kernel)) ggX12_is_J0_length_8abf5
set_option maxRecDepth 20000 in
theorem ggX12_is_J0_charAt_5068e : GoodIn wsX12_is wsJ0_charAt_5068e := goodIn_r _ [20, 10, 21, 22, 23, 8, 24, 15, 16, 25, 26, 27, 28, 29, 30, 31, 32, 33, 34, 35, 36, 37, 38, 39, 40, 41, 42, 43, 44, 45, 46, 47, 48, 49, 50, 51, 52, 53] (by decide +kernel) (by decide +kernel)
set_option maxRecDepth 20000 in
theorem gX12_is_J0_charAt_5068e : GoodIn wsX12_is (wsV RX12 68 RJ0 yJ0_charAt_5068e wsJ0_charAt_5068e) := goodIn_app (goodIn_of _ (by decide +kernel)) ggX12_is_J0_charAt_5068e
theorem dX12_is_0 : decode cX12_is 0 = .ok (.aload_n 0, 1) := by decide +kernel
theorem dX12_is_1 : decode cX12_is 1 = .ok (.getfield 185, 3) := by decide +kernel
theorem dX12_is_4 : decode cX12_is 4 = .ok (.iconst 3, 1) := by decide +kernel
theorem dX12_is_5 : decode cX12_is 5 = .ok (.if_icmp .ne 14, 3) := by decide +kernel
theorem dX12_is_8 : decode cX12_is 8 = .ok (.aload_n 0, 1) := by decide +kernel
theorem dX12_is_9 : decode cX12_is 9 = .ok (.getfield 179, 3) := by decide +kernel
theorem dX12_is_12 : decode cX12_is 12 = .ok (.aload_n 1, 1) := by decide +kernel
theorem dX12_is_13 : decode cX12_is 13 = .ok (.invokevirtual 62, 3) := by decide +kernel
theorem dX12_is_16 : decode cX12_is 16 = .ok (.if_icmp .eq 5, 3) := by decide +kernel
theorem dX12_is_19 : decode cX12_is 19 = .ok (.iconst 0, 1) := by decide +kernel
theorem dX12_is_20 : decode cX12_is 20 = .ok (.ireturn, 1) := by decide +kernel
theorem dX12_is_21 : decode cX12_is 21 = .ok (.iconst 0, 1) := by decide +kernel
theorem dX12_is_22 : decode cX12_is 22 = .ok (.istore_n 2, 1) := by decide +kernel
theorem dX12_is_23 : decode cX12_is 23 = .ok (.iload_n 2, 1) := by decide +kernel
theorem dX12_is_24 : decode cX12_is 24 = .ok (.aload_n 0, 1) := by decide +kernel
theorem dX12_is_25 : decode cX12_is 25 = .ok (.getfield 179, 3) := by decide +kernel
theorem dX12_is_28 : decode cX12_is 28 = .ok (.if_icmp .ge 30, 3) := by decide +kernel
theorem dX12_is_31 : decode cX12_is 31 = .ok (.aload_n 0, 1) := by decide +kernel
theorem dX12_is_32 : decode cX12_is 32 = .ok (.getfield 32, 3) := by decide +kernel
theorem dX12_is_35 : decode cX12_is 35 = .ok (.aload_n 0, 1) := by decide +kernel
theorem dX12_is_36 : decode cX12_is 36 = .ok (.getfield 176, 3) := by decide +kernel
theorem dX12_is_39 : decode cX12_is 39 = .ok (.iload_n 2, 1) := by decide +kernel
theorem dX12_is_40 : decode cX12_is 40 = .ok (.iadd, 1) := by decide +kernel
theorem dX12_is_41 : decode cX12_is 41 = .ok (.iaload, 1) := by decide +kernel
theorem dX12_is_42 : decode cX12_is 42 = .ok (.aload_n 1, 1) := by decide +kernel
theorem dX12_is_43 : decode cX12_is 43 = .ok (.iload_n 2, 1) := by decide +kernel
theorem dX12_is_44 : decode cX12_is 44 = .ok (.invokevirtual 68, 3) := by decide +kernel
theorem dX12_is_47 : decode cX12_is 47 = .ok (.if_icmp .eq 5, 3) := by decide +kernel
theorem dX12_is_50 : decode cX12_is 50 = .ok (.iconst 0, 1) := by decide +kernel
theorem dX12_is_51 : decode cX12_is 51 = .ok (.ireturn, 1) := by decide +kernel
theorem dX12_is_52 : decode cX12_is 52 = .ok (.iinc 2 1, 3) := by decide +kernel
theorem dX12_is_55 : decode cX12_is 55 = .ok (.goto (-32), 3) := by decide +kernel
theorem dX12_is_58 : decode cX12_is 58 = .ok (.iconst 1, 1) := by decide +kernel
theorem dX12_is_59 : decode cX12_is 59 = .ok (.ireturn, 1) := by decide +kernel
theorem dX12_check_0 : decode cX12_check 0 = .ok (.aload_n 0, 1) := by decide +kernel
theorem dX12_check_1 : decode cX12_check 1 = .ok (.getfield 164, 3) := by decide +kernel
theorem dX12_check_4 : decode cX12_check 4 = .ok (.ifCond .ne 20, 3) := by decide +kernel
theorem dX12_check_7 : decode cX12_check 7 = .ok (.iload_n 1, 1) := by decide +kernel
theorem dX12_check_8 : decode cX12_check 8 = .ok (.ifCond .ne 16, 3) := by decide +kernel
theorem dX12_check_11 : decode cX12_check 11 = .ok (.aload_n 0, 1) := by decide +kernel
theorem dX12_check_12 : decode cX12_check 12 = .ok (.iload_n 2, 1) := by decide +kernel
theorem dX12_check_13 : decode cX12_check 13 = .ok (.putfield 164, 3) := by decide +kernel
theorem dX12_check_16 : decode cX12_check 16 = .ok (.aload_n 0, 1) := by decide +kernel
theorem dX12_check_17 : decode cX12_check 17 = .ok (.aload_n 0, 1) := by decide +kernel
theorem dX12_check_18 : decode cX12_check 18 = .ok (.getfield 176, 3) := by decide +kernel
theorem dX12_check_21 : decode cX12_check 21 = .ok (.putfield 35, 3) := by decide +kernel
theorem dX12_check_24 : decode cX12_check 24 = .ok (.aload_n 0, 1) := by decide +kernel
theorem dX12_check_25 : decode cX12_check 25 = .ok (.getfield 164, 3) := by decide +kernel
theorem dX12_check_28 : decode cX12_check 28 = .ok (.ifCond .ne 7, 3) := by decide +kernel
theorem dX12_check_31 : decode cX12_check 31 = .ok (.iconst 1, 1) := by decide +kernel
theorem dX12_check_32 : decode cX12_check 32 = .ok (.goto 4, 3) := by decide +kernel
theorem dX12_check_35 : decode cX12_check 35 = .ok (.iconst 0, 1) := by decide +kernel
theorem dX12_check_36 : decode cX12_check 36 = .ok (.ireturn, 1) := by decide +kernel
set_option maxRecDepth 20000 in
theorem ggX12_next_X12_advance : GoodIn wsX12_next wsX12_advance := goodIn_r _ [6, 7, 8, 9, 10, 11, 12, 13, 14, 15, 5, 16, 17, 18, 19, 20, 21, 22, 23, 24, 25, 26, 27, 28, 29, 30, 31, 32, 33, 34, 35, 36, 37, 38, 39, 40, 41, 42, 43, 44, 45, 46] (by decide +kernel) (by decide +kernel)
set_option maxRecDepth 20000 in
theorem gX12_next_X12_advance : GoodIn wsX12_next (wsV RX12 193 RX12 yX12_advance wsX12_advance) := goodIn_app (goodIn_of _ (by decide +kernel)) ggX12_next_X12_advance
theorem dX12_next_0 : decode cX12_next 0 = .ok (.aload_n 0, 1) := by decide +kernel
theorem dX12_next_1 : decode cX12_next 1 = .ok (.getfield 164, 3) := by decide +kernel
theorem dX12_next_4 : decode cX12_next 4 = .ok (.ifCond .ne 7, 3) := by decide +kernel
theorem dX12_next_7 : decode cX12_next 7 = .ok (.aload_n 0, 1) := by decide +kernel
theorem dX12_next_8 : decode cX12_next 8 = .ok (.invokevirtual 193, 3) := by decide +kernel
theorem dX12_next_11 : decode cX12_next 11 = .ok (.return_, 1) := by decide +kernel
set_option maxRecDepth 20000 in
theorem ggX12_number_X12_check : GoodIn wsX12_number wsX12_check := goodIn_r _ [8, 3, 9, 10, 34, 35, 36, 37, 38, 39, 40, 41, 42, 43, 44, 45, 46, 47, 48, 49, 50, 51, 52, 53, 54, 55] (by decide +kernel) (by decide +kernel)
set_option maxRecDepth 20000 in
theorem gX12_number_X12_check : GoodIn wsX12_number (wsV RX12 196 RX12 yX12_check wsX12_check) := goodIn_app (goodIn_of _ (by decide +kernel)) ggX12_number_X12_check
set_option maxRecDepth 20000 in
theorem ggX12_number_X12_isBetween : GoodIn wsX12_number wsX12_isBetween := goodIn_r _ [13] (by decide +kernel) (by decide +kernel)
set_option maxRecDepth 20000 in
theorem gX12_number_X12_isBetween : GoodIn wsX12_number (va_wsS RX12 167 yX12_isBetween wsX12_isBetween) := goodIn_app (goodIn_of _ (by decide +kernel)) ggX12_number_X12_isBetween
set_option maxRecDepth 20000 in
theorem ggX12_number_X12_next : GoodIn wsX12_number wsX12_next := goodIn_r _ [17, 3, 18, 19, 20, 7, 21, 22, 9, 23, 2, 1, 24, 25, 26, 27, 28, 29, 30, 31, 32, 33, 11, 12, 13, 34, 35, 36, 37, 38, 39, 40, 41, 42, 43, 44, 45, 46, 47, 48, 49, 50, 51, 52, 53, 54, 55] (by decide +kernel) (by decide +kernel)
set_option maxRecDepth 20000 in
theorem gX12_number_X12_next : GoodIn wsX12_number (wsV RX12 199 RX12 yX12_next wsX12_next) := goodIn_app (goodIn_of _ (by decide +kernel)) ggX12_number_X12_next
theorem dX12_number_0 : decode cX12_number 0 = .ok (.aload_n 0, 1) := by decide +kernel
theorem dX12_number_1 : decode cX12_number 1 = .ok (.aload_n 0, 1) := by decide +kernel
theorem dX12_number_2 : decode cX12_number 2 = .ok (.getfield 185, 3) := by decide +kernel
theorem dX12_number_5 : decode cX12_number 5 = .ok (.iconst 2, 1) := by decide +kernel
theorem dX12_number_6 : decode cX12_number 6 = .ok (.if_icmp .ne 7, 3) := by decide +kernel
theorem dX12_number_9 : decode cX12_number 9 = .ok (.iconst 1, 1) := by decide +kernel
theorem dX12_number_10 : decode cX12_number 10 = .ok (.goto 4, 3) := by decide +kernel
theorem dX12_number_13 : decode cX12_number 13 = .ok (.iconst 0, 1) := by decide +kernel
theorem dX12_number_14 : decode cX12_number 14 = .ok (.iconst 1, 1) := by decide +kernel
theorem dX12_number_15 : decode cX12_number 15 = .ok (.invokevirtual 196, 3) := by decide +kernel
theorem dX12_number_18 : decode cX12_number 18 = .ok (.pop, 1) := by decide +kernel
theorem dX12_number_19 : decode cX12_number 19 = .ok (.aload_n 0, 1) := by decide +kernel
theorem dX12_number_20 : decode cX12_number 20 = .ok (.aload_n 0, 1) := by decide +kernel
theorem dX12_number_21 : decode cX12_number 21 = .ok (.getfield 182, 3) := by decide +kernel
theorem dX12_number_24 : decode cX12_number 24 = .ok (.iload_n 1, 1) := by decide +kernel
theorem dX12_number_25 : decode cX12_number 25 = .ok (.iload_n 2, 1) := by decide +kernel
theorem dX12_number_26 : decode cX12_number 26 = .ok (.invokestatic 167, 3) := by decide +kernel
theorem dX12_number_29 : decode cX12_number 29 = .ok (.iconst 2, 1) := by decide +kernel
theorem dX12_number_30 : decode cX12_number 30 = .ok (.invokevirtual 196, 3) := by decide +kernel
theorem dX12_number_33 : decode cX12_number 33 = .ok (.pop, 1) := by decide +kernel
theorem dX12_number_34 : decode cX12_number 34 = .ok (.aload_n 0, 1) := by decide +kernel
theorem dX12_number_35 : decode cX12_number 35 = .ok (.getfield 164, 3) := by decide +kernel
theorem dX12_number_38 : decode cX12_number 38 = .ok (.ifCond .ne 10, 3) := by decide +kernel
theorem dX12_number_41 : decode cX12_number 41 = .ok (.aload_n 0, 1) := by decide +kernel
theorem dX12_number_42 : decode cX12_number 42 = .ok (.getfield 182, 3) := by decide +kernel
theorem dX12_number_45 : decode cX12_number 45 = .ok (.goto 4, 3) := by decide +kernel
theorem dX12_number_48 : decode cX12_number 48 = .ok (.iload_n 1, 1) := by decide +kernel
theorem dX12_number_49 : decode cX12_number 49 = .ok (.istore_n 3, 1) := by decide +kernel
theorem dX12_number_50 : decode cX12_number 50 = .ok (.aload_n 0, 1) := by decide +kernel
theorem dX12_number_51 : decode cX12_number 51 = .ok (.invokevirtual 199, 3) := by decide +kernel
theorem dX12_number_54 : decode cX12_number 54 = .ok (.iload_n 3, 1) := by decide +kernel
theorem dX12_number_55 : decode cX12_number 55 = .ok (.ireturn, 1) := by decide +kernel
set_option maxRecDepth 20000 in
theorem ggX12_semicolon_X12_check : GoodIn wsX12_semicolon wsX12_check := goodIn_r _ [8, 9, 3, 10, 11, 12, 13, 14, 15, 16, 17, 18, 19, 20, 21, 22, 23, 24, 25, 26, 27, 28, 29, 30, 31, 32] (by decide +kernel) (by decide +kernel)
set_option maxRecDepth 20000 in
theorem gX12_semicolon_X12_check : GoodIn wsX12_semicolon (wsV RX12 196 RX12 yX12_check wsX12_check) := goodIn_app (goodIn_of _ (by decide +kernel)) ggX12_semicolon_X12_check
theorem dX12_semicolon_0 : decode cX12_semicolon 0 = .ok (.aload_n 0, 1) := by decide +kernel
theorem dX12_semicolon_1 : decode cX12_semicolon 1 = .ok (.aload_n 0, 1) := by decide +kernel
theorem dX12_semicolon_2 : decode cX12_semicolon 2 = .ok (.getfield 185, 3) := by decide +kernel
theorem dX12_semicolon_5 : decode cX12_semicolon 5 = .ok (.iconst 1, 1) := by decide +kernel
theorem dX12_semicolon_6 : decode cX12_semicolon 6 = .ok (.if_icmp .ne 21, 3) := by decide +kernel
theorem dX12_semicolon_9 : decode cX12_semicolon 9 = .ok (.aload_n 0, 1) := by decide +kernel
theorem dX12_semicolon_10 : decode cX12_semicolon 10 = .ok (.getfield 32, 3) := by decide +kernel
theorem dX12_semicolon_13 : decode cX12_semicolon 13 = .ok (.aload_n 0, 1) := by decide +kernel
theorem dX12_semicolon_14 : decode cX12_semicolon 14 = .ok (.getfield 176, 3) := by decide +kernel
theorem dX12_semicolon_17 : decode cX12_semicolon 17 = .ok (.iaload, 1) := by decide +kernel
theorem dX12_semicolon_18 : decode cX12_semicolon 18 = .ok (.bipush 59, 2) := by decide +kernel
theorem dX12_semicolon_20 : decode cX12_semicolon 20 = .ok (.if_icmp .ne 7, 3) := by decide +kernel
theorem dX12_semicolon_23 : decode cX12_semicolon 23 = .ok (.iconst 1, 1) := by decide +kernel
theorem dX12_semicolon_24 : decode cX12_semicolon 24 = .ok (.goto 4, 3) := by decide +kernel
theorem dX12_semicolon_27 : decode cX12_semicolon 27 = .ok (.iconst 0, 1) := by decide +kernel
theorem dX12_semicolon_28 : decode cX12_semicolon 28 = .ok (.iconst 1, 1) := by decide +kernel
theorem dX12_semicolon_29 : decode cX12_semicolon 29 = .ok (.invokevirtual 196, 3) := by decide +kernel
theorem dX12_semicolon_32 : decode cX12_semicolon 32 = .ok (.pop, 1) := by decide +kernel
theorem dX12_semicolon_33 : decode cX12_semicolon 33 = .ok (.return_, 1) := by decide +kernel
set_option maxRecDepth 20000 in
theorem ggX12_finish_X12_semicolon : GoodIn wsX12_finish wsX12_semicolon := goodIn_r _ [5, 6, 7, 8, 9, 10, 11, 4, 12, 13, 14, 38, 39, 40, 41, 42, 43, 44, 45, 46, 47, 48, 49, 50, 51, 52, 53, 54, 55, 56, 57, 58, 59] (by decide +kernel) (by decide +kernel)
