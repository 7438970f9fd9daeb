/-! ===== TwinTrees() (printed by program) ===== -/
theorem d_X11_init_0 : decode cX11_init 0 = .ok (.aload_n 0, 1) := by decide +kernel
theorem d_X11_init_1 : decode cX11_init 1 = .ok (.invokespecial 1, 3) := by decide +kernel
theorem d_X11_init_4 : decode cX11_init 4 = .ok (.aload_n 0, 1) := by decide +kernel
theorem d_X11_init_5 : decode cX11_init 5 = .ok (.new 7, 3) := by decide +kernel
theorem d_X11_init_8 : decode cX11_init 8 = .ok (.dup, 1) := by decide +kernel
theorem d_X11_init_9 : decode cX11_init 9 = .ok (.invokespecial 9, 3) := by decide +kernel
theorem d_X11_init_12 : decode cX11_init 12 = .ok (.putfield 10, 3) := by decide +kernel
theorem d_X11_init_15 : decode cX11_init 15 = .ok (.aload_n 0, 1) := by decide +kernel
theorem d_X11_init_16 : decode cX11_init 16 = .ok (.new 16, 3) := by decide +kernel
theorem d_X11_init_19 : decode cX11_init 19 = .ok (.dup, 1) := by decide +kernel
theorem d_X11_init_20 : decode cX11_init 20 = .ok (.aload_n 0, 1) := by decide +kernel
theorem d_X11_init_21 : decode cX11_init 21 = .ok (.getfield 10, 3) := by decide +kernel
theorem d_X11_init_24 : decode cX11_init 24 = .ok (.invokespecial 18, 3) := by decide +kernel
theorem d_X11_init_27 : decode cX11_init 27 = .ok (.putfield 21, 3) := by decide +kernel
theorem d_X11_init_30 : decode cX11_init 30 = .ok (.aload_n 0, 1) := by decide +kernel
theorem d_X11_init_31 : decode cX11_init 31 = .ok (.new 25, 3) := by decide +kernel
theorem d_X11_init_34 : decode cX11_init 34 = .ok (.dup, 1) := by decide +kernel
theorem d_X11_init_35 : decode cX11_init 35 = .ok (.invokespecial 27, 3) := by decide +kernel
theorem d_X11_init_38 : decode cX11_init 38 = .ok (.putfield 28, 3) := by decide +kernel
theorem d_X11_init_41 : decode cX11_init 41 = .ok (.aload_n 0, 1) := by decide +kernel
theorem d_X11_init_42 : decode cX11_init 42 = .ok (.new 25, 3) := by decide +kernel
theorem d_X11_init_45 : decode cX11_init 45 = .ok (.dup, 1) := by decide +kernel
theorem d_X11_init_46 : decode cX11_init 46 = .ok (.invokespecial 27, 3) := by decide +kernel
theorem d_X11_init_49 : decode cX11_init 49 = .ok (.putfield 32, 3) := by decide +kernel
theorem d_X11_init_52 : decode cX11_init 52 = .ok (.aload_n 0, 1) := by decide +kernel
theorem d_X11_init_53 : decode cX11_init 53 = .ok (.new 35, 3) := by decide +kernel
theorem d_X11_init_56 : decode cX11_init 56 = .ok (.dup, 1) := by decide +kernel
theorem d_X11_init_57 : decode cX11_init 57 = .ok (.invokespecial 37, 3) := by decide +kernel
theorem d_X11_init_60 : decode cX11_init 60 = .ok (.putfield 38, 3) := by decide +kernel
theorem d_X11_init_63 : decode cX11_init 63 = .ok (.aload_n 0, 1) := by decide +kernel
theorem d_X11_init_64 : decode cX11_init 64 = .ok (.new 42, 3) := by decide +kernel
theorem d_X11_init_67 : decode cX11_init 67 = .ok (.dup, 1) := by decide +kernel
theorem d_X11_init_68 : decode cX11_init 68 = .ok (.invokespecial 44, 3) := by decide +kernel
theorem d_X11_init_71 : decode cX11_init 71 = .ok (.putfield 45, 3) := by decide +kernel
theorem d_X11_init_74 : decode cX11_init 74 = .ok (.aload_n 0, 1) := by decide +kernel
theorem d_X11_init_75 : decode cX11_init 75 = .ok (.new 49, 3) := by decide +kernel
theorem d_X11_init_78 : decode cX11_init 78 = .ok (.dup, 1) := by decide +kernel
theorem d_X11_init_79 : decode cX11_init 79 = .ok (.invokespecial 51, 3) := by decide +kernel
theorem d_X11_init_82 : decode cX11_init 82 = .ok (.putfield 52, 3) := by decide +kernel
theorem d_X11_init_85 : decode cX11_init 85 = .ok (.aload_n 0, 1) := by decide +kernel
theorem d_X11_init_86 : decode cX11_init 86 = .ok (.new 56, 3) := by decide +kernel
theorem d_X11_init_89 : decode cX11_init 89 = .ok (.dup, 1) := by decide +kernel
theorem d_X11_init_90 : decode cX11_init 90 = .ok (.invokespecial 58, 3) := by decide +kernel
theorem d_X11_init_93 : decode cX11_init 93 = .ok (.putfield 59, 3) := by decide +kernel
theorem d_X11_init_96 : decode cX11_init 96 = .ok (.aload_n 0, 1) := by decide +kernel
theorem d_X11_init_97 : decode cX11_init 97 = .ok (.new 63, 3) := by decide +kernel
theorem d_X11_init_100 : decode cX11_init 100 = .ok (.dup, 1) := by decide +kernel
theorem d_X11_init_101 : decode cX11_init 101 = .ok (.invokespecial 65, 3) := by decide +kernel
theorem d_X11_init_104 : decode cX11_init 104 = .ok (.putfield 66, 3) := by decide +kernel
theorem d_X11_init_107 : decode cX11_init 107 = .ok (.aload_n 0, 1) := by decide +kernel
theorem d_X11_init_108 : decode cX11_init 108 = .ok (.new 70, 3) := by decide +kernel
theorem d_X11_init_111 : decode cX11_init 111 = .ok (.dup, 1) := by decide +kernel
theorem d_X11_init_112 : decode cX11_init 112 = .ok (.aload_n 0, 1) := by decide +kernel
theorem d_X11_init_113 : decode cX11_init 113 = .ok (.getfield 66, 3) := by decide +kernel
theorem d_X11_init_116 : decode cX11_init 116 = .ok (.invokespecial 72, 3) := by decide +kernel
theorem d_X11_init_119 : decode cX11_init 119 = .ok (.putfield 75, 3) := by decide +kernel
theorem d_X11_init_122 : decode cX11_init 122 = .ok (.aload_n 0, 1) := by decide +kernel
theorem d_X11_init_123 : decode cX11_init 123 = .ok (.new 79, 3) := by decide +kernel
theorem d_X11_init_126 : decode cX11_init 126 = .ok (.dup, 1) := by decide +kernel
theorem d_X11_init_127 : decode cX11_init 127 = .ok (.invokespecial 81, 3) := by decide +kernel
theorem d_X11_init_130 : decode cX11_init 130 = .ok (.putfield 82, 3) := by decide +kernel
theorem d_X11_init_133 : decode cX11_init 133 = .ok (.aload_n 0, 1) := by decide +kernel
theorem d_X11_init_134 : decode cX11_init 134 = .ok (.new 86, 3) := by decide +kernel
theorem d_X11_init_137 : decode cX11_init 137 = .ok (.dup, 1) := by decide +kernel
theorem d_X11_init_138 : decode cX11_init 138 = .ok (.aload_n 0, 1) := by decide +kernel
theorem d_X11_init_139 : decode cX11_init 139 = .ok (.getfield 82, 3) := by decide +kernel
theorem d_X11_init_142 : decode cX11_init 142 = .ok (.invokespecial 88, 3) := by decide +kernel
theorem d_X11_init_145 : decode cX11_init 145 = .ok (.putfield 91, 3) := by decide +kernel
theorem d_X11_init_148 : decode cX11_init 148 = .ok (.aload_n 0, 1) := by decide +kernel
theorem d_X11_init_149 : decode cX11_init 149 = .ok (.bipush 8, 2) := by decide +kernel
theorem d_X11_init_151 : decode cX11_init 151 = .ok (.anewarray 25, 3) := by decide +kernel
theorem d_X11_init_154 : decode cX11_init 154 = .ok (.putfield 95, 3) := by decide +kernel
theorem d_X11_init_157 : decode cX11_init 157 = .ok (.aload_n 0, 1) := by decide +kernel
theorem d_X11_init_158 : decode cX11_init 158 = .ok (.iconst 2, 1) := by decide +kernel
theorem d_X11_init_159 : decode cX11_init 159 = .ok (.anewarray 25, 3) := by decide +kernel
theorem d_X11_init_162 : decode cX11_init 162 = .ok (.putfield 99, 3) := by decide +kernel
theorem d_X11_init_165 : decode cX11_init 165 = .ok (.aload_n 0, 1) := by decide +kernel
theorem d_X11_init_166 : decode cX11_init 166 = .ok (.iconst 2, 1) := by decide +kernel
theorem d_X11_init_167 : decode cX11_init 167 = .ok (.anewarray 35, 3) := by decide +kernel
theorem d_X11_init_170 : decode cX11_init 170 = .ok (.putfield 102, 3) := by decide +kernel
theorem d_X11_init_173 : decode cX11_init 173 = .ok (.aload_n 0, 1) := by decide +kernel
theorem d_X11_init_174 : decode cX11_init 174 = .ok (.bipush 42, 2) := by decide +kernel
theorem d_X11_init_176 : decode cX11_init 176 = .ok (.newarray .int, 2) := by decide +kernel
theorem d_X11_init_178 : decode cX11_init 178 = .ok (.putfield 106, 3) := by decide +kernel
theorem d_X11_init_181 : decode cX11_init 181 = .ok (.iconst 0, 1) := by decide +kernel
theorem d_X11_init_182 : decode cX11_init 182 = .ok (.istore_n 1, 1) := by decide +kernel
theorem d_X11_init_183 : decode cX11_init 183 = .ok (.iload_n 1, 1) := by decide +kernel
theorem d_X11_init_184 : decode cX11_init 184 = .ok (.aload_n 0, 1) := by decide +kernel
theorem d_X11_init_185 : decode cX11_init 185 = .ok (.getfield 95, 3) := by decide +kernel
theorem d_X11_init_188 : decode cX11_init 188 = .ok (.arraylength, 1) := by decide +kernel
theorem d_X11_init_189 : decode cX11_init 189 = .ok (.if_icmp .ge 22, 3) := by decide +kernel
theorem d_X11_init_192 : decode cX11_init 192 = .ok (.aload_n 0, 1) := by decide +kernel
theorem d_X11_init_193 : decode cX11_init 193 = .ok (.getfield 95, 3) := by decide +kernel
theorem d_X11_init_196 : decode cX11_init 196 = .ok (.iload_n 1, 1) := by decide +kernel
theorem d_X11_init_197 : decode cX11_init 197 = .ok (.new 25, 3) := by decide +kernel
theorem d_X11_init_200 : decode cX11_init 200 = .ok (.dup, 1) := by decide +kernel
theorem d_X11_init_201 : decode cX11_init 201 = .ok (.invokespecial 27, 3) := by decide +kernel
theorem d_X11_init_204 : decode cX11_init 204 = .ok (.aastore, 1) := by decide +kernel
theorem d_X11_init_205 : decode cX11_init 205 = .ok (.iinc 1 1, 3) := by decide +kernel
theorem d_X11_init_208 : decode cX11_init 208 = .ok (.goto (-25), 3) := by decide +kernel
theorem d_X11_init_211 : decode cX11_init 211 = .ok (.iconst 0, 1) := by decide +kernel
theorem d_X11_init_212 : decode cX11_init 212 = .ok (.istore_n 1, 1) := by decide +kernel
theorem d_X11_init_213 : decode cX11_init 213 = .ok (.iload_n 1, 1) := by decide +kernel
theorem d_X11_init_214 : decode cX11_init 214 = .ok (.aload_n 0, 1) := by decide +kernel
theorem d_X11_init_215 : decode cX11_init 215 = .ok (.getfield 99, 3) := by decide +kernel
theorem d_X11_init_218 : decode cX11_init 218 = .ok (.arraylength, 1) := by decide +kernel
theorem d_X11_init_219 : decode cX11_init 219 = .ok (.if_icmp .ge 35, 3) := by decide +kernel
theorem d_X11_init_222 : decode cX11_init 222 = .ok (.aload_n 0, 1) := by decide +kernel
theorem d_X11_init_223 : decode cX11_init 223 = .ok (.getfield 99, 3) := by decide +kernel
theorem d_X11_init_226 : decode cX11_init 226 = .ok (.iload_n 1, 1) := by decide +kernel
theorem d_X11_init_227 : decode cX11_init 227 = .ok (.new 25, 3) := by decide +kernel
theorem d_X11_init_230 : decode cX11_init 230 = .ok (.dup, 1) := by decide +kernel
theorem d_X11_init_231 : decode cX11_init 231 = .ok (.invokespecial 27, 3) := by decide +kernel
theorem d_X11_init_234 : decode cX11_init 234 = .ok (.aastore, 1) := by decide +kernel
theorem d_X11_init_235 : decode cX11_init 235 = .ok (.aload_n 0, 1) := by decide +kernel
theorem d_X11_init_236 : decode cX11_init 236 = .ok (.getfield 102, 3) := by decide +kernel
theorem d_X11_init_239 : decode cX11_init 239 = .ok (.iload_n 1, 1) := by decide +kernel
theorem d_X11_init_240 : decode cX11_init 240 = .ok (.new 35, 3) := by decide +kernel
theorem d_X11_init_243 : decode cX11_init 243 = .ok (.dup, 1) := by decide +kernel
theorem d_X11_init_244 : decode cX11_init 244 = .ok (.invokespecial 37, 3) := by decide +kernel
theorem d_X11_init_247 : decode cX11_init 247 = .ok (.aastore, 1) := by decide +kernel
theorem d_X11_init_248 : decode cX11_init 248 = .ok (.iinc 1 1, 3) := by decide +kernel
theorem d_X11_init_251 : decode cX11_init 251 = .ok (.goto (-38), 3) := by decide +kernel
theorem d_X11_init_254 : decode cX11_init 254 = .ok (.return_, 1) := by decide +kernel
def k_X11_init (P : xP) : xK := x_aload 0 (x_oini (x_aload 0 (x_new 1 9 (x_dup (z_ci0 (w_R (f_X9_init 2)) (x_putF 3 11 0 (x_aload 0 (x_new 3 5 (x_dup (x_aload 0 (x_getR 4 11 0 (z_ci1 (w_RR (f_X5_init 4)) (x_putF 8 11 1 (x_aload 0 (x_new 8 4 (x_dup (z_ci0 (w_R (f_X4_init 9)) (x_putF 18 11 2 (x_aload 0 (x_new 18 4 (x_dup (z_ci0 (w_R (f_X4_init 19)) (x_putF 28 11 3 (x_aload 0 (x_new 28 8 (x_dup (z_ci0 (w_R (f_X8_init 29)) (x_putF 31 11 4 (x_aload 0 (x_new 31 0 (x_dup (z_ci0 (w_R (f_X0_init 32)) (x_putF 34 11 5 (x_aload 0 (x_new 34 2 (x_dup (z_ci0 (w_R (f_X2_init 35)) (x_putF 35 11 6 (x_aload 0 (x_new 35 3 (x_dup (z_ci0 (w_R (f_X3_init 36)) (x_putF 39 11 7 (x_aload 0 (x_new 39 7 (x_dup (z_ci0 (w_R (f_X7_init 40)) (x_putF 52 11 8 (x_aload 0 (x_new 52 10 (x_dup (x_aload 0 (x_getR 53 11 8 (z_ci1 (w_RR (f_X10_init 53)) (x_putF 57 11 9 (x_aload 0 (x_new 57 1 (x_dup (z_ci0 (w_R (f_X1_init 58)) (x_putF 66 11 10 (x_aload 0 (x_new 66 6 (x_dup (x_aload 0 (x_getR 67 11 10 (z_ci1 (w_RR (f_X6_init 67)) (x_putF 70 11 11 (x_aload 0 (x_push (.int 8) (x_newa 70 5 8 (x_putF 71 11 12 (x_aload 0 (x_push (.int 2) (x_newa 71 5 2 (x_putF 72 11 13 (x_aload 0 (x_push (.int 2) (x_newa 72 6 2 (x_putF 73 11 14 (x_aload 0 (x_push (.int 42) (x_newa 73 1 42 (x_putF 74 11 15 (x_push (.int 0) (x_istore 1 (x_iload 1 (x_aload 0 (x_getR 74 11 12 (x_alen 74 (x_icmp_ge xKF (x_aload 0 (x_getR 74 11 12 (x_iload 1 (x_new 74 4 (x_dup (z_ci0 (w_R (f_X4_init 75)) (x_aast 84 5 4 (x_iinc 1 1 (x_iload 1 (x_aload 0 (x_getR 84 11 12 (x_alen 84 (x_icmp_ge xKF (x_aload 0 (x_getR 84 11 12 (x_iload 1 (x_new 84 4 (x_dup (z_ci0 (w_R (f_X4_init 85)) (x_aast 94 5 4 (x_iinc 1 1 (x_iload 1 (x_aload 0 (x_getR 94 11 12 (x_alen 94 (x_icmp_ge xKF (x_aload 0 (x_getR 94 11 12 (x_iload 1 (x_new 94 4 (x_dup (z_ci0 (w_R (f_X4_init 95)) (x_aast 104 5 4 (x_iinc 1 1 (x_iload 1 (x_aload 0 (x_getR 104 11 12 (x_alen 104 (x_icmp_ge xKF (x_aload 0 (x_getR 104 11 12 (x_iload 1 (x_new 104 4 (x_dup (z_ci0 (w_R (f_X4_init 105)) (x_aast 114 5 4 (x_iinc 1 1 (x_iload 1 (x_aload 0 (x_getR 114 11 12 (x_alen 114 (x_icmp_ge xKF (x_aload 0 (x_getR 114 11 12 (x_iload 1 (x_new 114 4 (x_dup (z_ci0 (w_R (f_X4_init 115)) (x_aast 124 5 4 (x_iinc 1 1 (x_iload 1 (x_aload 0 (x_getR 124 11 12 (x_alen 124 (x_icmp_ge xKF (x_aload 0 (x_getR 124 11 12 (x_iload 1 (x_new 124 4 (x_dup (z_ci0 (w_R (f_X4_init 125)) (x_aast 134 5 4 (x_iinc 1 1 (x_iload 1 (x_aload 0 (x_getR 134 11 12 (x_alen 134 (x_icmp_ge xKF (x_aload 0 (x_getR 134 11 12 (x_iload 1 (x_new 134 4 (x_dup (z_ci0 (w_R (f_X4_init 135)) (x_aast 144 5 4 (x_iinc 1 1 (x_iload 1 (x_aload 0 (x_getR 144 11 12 (x_alen 144 (x_icmp_ge xKF (x_aload 0 (x_getR 144 11 12 (x_iload 1 (x_new 144 4 (x_dup (z_ci0 (w_R (f_X4_init 145)) (x_aast 154 5 4 (x_iinc 1 1 (x_iload 1 (x_aload 0 (x_getR 154 11 12 (x_alen 154 (x_icmp_ge (x_push (.int 0) (x_istore 1 (x_iload 1 (x_aload 0 (x_getR 154 11 13 (x_alen 154 (x_icmp_ge xKF (x_aload 0 (x_getR 154 11 13 (x_iload 1 (x_new 154 4 (x_dup (z_ci0 (w_R (f_X4_init 155)) (x_aast 164 5 4 (x_aload 0 (x_getR 164 11 14 (x_iload 1 (x_new 164 8 (x_dup (z_ci0 (w_R (f_X8_init 165)) (x_aast 167 6 8 (x_iinc 1 1 (x_iload 1 (x_aload 0 (x_getR 167 11 13 (x_alen 167 (x_icmp_ge xKF (x_aload 0 (x_getR 167 11 13 (x_iload 1 (x_new 167 4 (x_dup (z_ci0 (w_R (f_X4_init 168)) (x_aast 177 5 4 (x_aload 0 (x_getR 177 11 14 (x_iload 1 (x_new 177 8 (x_dup (z_ci0 (w_R (f_X8_init 178)) (x_aast 180 6 8 (x_iinc 1 1 (x_iload 1 (x_aload 0 (x_getR 180 11 13 (x_alen 180 (x_icmp_ge (x_vret P) xKF))))))))))))))))))))))))))))))))))))))))))))))) xKF))))))))))))))))))))))))))))))))))))))))))))))))))))))))))))))))))))))))))))))))))))))))))))))))))))))))))))))))))))))))))))))))))))))))))))))))))))))))))))))))))))))))))))))))))))))))))))))))))
set_option maxRecDepth 20000 in
theorem t_X11_init {p : Program} {l : Launch} {e : Env} {s : State} {m : MethodId} {args : Array Value} {below : List Frame} {meth : Method} {c : Code} {g : xG} (X : xX p s m args c meth cX11_init RX11 2 g) (hr : meth.sig.returnType = none) (hin : meth.name = "<init>") {P : xP} : xAt p l e { frames := 3, cells := 179, slots := 51196, locals := 61 } s m args below meth c g 2 xFF 1 0 0 (MQ below (xQc g xFF 180 P) args s 179 51196 (xFr g)) (k_X11_init P) 0 := by
  unfold k_X11_init
  refine r_aload_n (pc := 0) X d_X11_init_0 fn0 ?_
  refine r_oini (pc := 1) X oi_RX11_1 oi_inst oi_code (Nat.le_of_ble_eq_true rfl) (Nat.le_of_ble_eq_true rfl) d_X11_init_1 ?_
  refine r_aload_n (pc := 4) X d_X11_init_4 fn0 ?_
  refine r_new (pc := 5) X xok9 (Nat.le_of_ble_eq_true rfl) (by decide +kernel) nw_RX11_7 (Nat.le_of_ble_eq_true rfl) (Nat.le_of_ble_eq_true rfl) d_X11_init_5 ?_
  refine r_dup (pc := 8) X d_X11_init_8 ?_
  refine q_ciN (pc := 9) (host := "TwinTrees") X (con_X9_init l 2 (by decide +kernel)) if_X9_init (by decide +kernel) ⟨(Nat.le_of_ble_eq_true rfl), (Nat.le_of_ble_eq_true rfl)⟩ ⟨Nat.le_of_ble_eq_true rfl, Nat.le_of_ble_eq_true rfl⟩ d_X11_init_9 ?_
  refine r_putF (pc := 12) X hin xok11 (by decide +kernel) (by decide +kernel) (by decide +kernel) (by decide +kernel) rfl (fun _ => ⟨rfl, rfl⟩) vf_RX11_10 d_X11_init_12 ?_
  refine r_aload_n (pc := 15) X d_X11_init_15 fn0 ?_
  refine r_new (pc := 16) X xok5 (Nat.le_of_ble_eq_true rfl) (by decide +kernel) nw_RX11_16 (Nat.le_of_ble_eq_true rfl) (Nat.le_of_ble_eq_true rfl) d_X11_init_16 ?_
  refine r_dup (pc := 19) X d_X11_init_19 ?_
  refine r_aload_n (pc := 20) X d_X11_init_20 fn0 ?_
  refine r_getR (pc := 21) X xok11 (by decide +kernel) (by decide +kernel) vf_RX11_10 d_X11_init_21 ?_
  refine q_ci1 (pc := 24) X (con_X5_init l 4 (by decide +kernel)) if_X5_init vm_RX11_18 ⟨(Nat.le_of_ble_eq_true rfl), (Nat.le_of_ble_eq_true rfl)⟩ ⟨Nat.le_of_ble_eq_true rfl, Nat.le_of_ble_eq_true rfl⟩ d_X11_init_24 ?_
  refine r_putF (pc := 27) X hin xok11 (by decide +kernel) (by decide +kernel) (by decide +kernel) (by decide +kernel) rfl (fun _ => ⟨rfl, rfl⟩) vf_RX11_21 d_X11_init_27 ?_
  refine r_aload_n (pc := 30) X d_X11_init_30 fn0 ?_
  refine r_new (pc := 31) X xok4 (Nat.le_of_ble_eq_true rfl) (by decide +kernel) nw_RX11_25 (Nat.le_of_ble_eq_true rfl) (Nat.le_of_ble_eq_true rfl) d_X11_init_31 ?_
  refine r_dup (pc := 34) X d_X11_init_34 ?_
  refine q_ci0 (pc := 35) X (con_X4_init l 9 (by decide +kernel)) if_X4_init vm_RX11_27 ⟨(Nat.le_of_ble_eq_true rfl), (Nat.le_of_ble_eq_true rfl)⟩ ⟨Nat.le_of_ble_eq_true rfl, Nat.le_of_ble_eq_true rfl⟩ d_X11_init_35 ?_
  refine r_putF (pc := 38) X hin xok11 (by decide +kernel) (by decide +kernel) (by decide +kernel) (by decide +kernel) rfl (fun _ => ⟨rfl, rfl⟩) vf_RX11_28 d_X11_init_38 ?_
  refine r_aload_n (pc := 41) X d_X11_init_41 fn0 ?_
  refine r_new (pc := 42) X xok4 (Nat.le_of_ble_eq_true rfl) (by decide +kernel) nw_RX11_25 (Nat.le_of_ble_eq_true rfl) (Nat.le_of_ble_eq_true rfl) d_X11_init_42 ?_
  refine r_dup (pc := 45) X d_X11_init_45 ?_
  refine q_ci0 (pc := 46) X (con_X4_init l 19 (by decide +kernel)) if_X4_init vm_RX11_27 ⟨(Nat.le_of_ble_eq_true rfl), (Nat.le_of_ble_eq_true rfl)⟩ ⟨Nat.le_of_ble_eq_true rfl, Nat.le_of_ble_eq_true rfl⟩ d_X11_init_46 ?_
  refine r_putF (pc := 49) X hin xok11 (by decide +kernel) (by decide +kernel) (by decide +kernel) (by decide +kernel) rfl (fun _ => ⟨rfl, rfl⟩) vf_RX11_32 d_X11_init_49 ?_
  refine r_aload_n (pc := 52) X d_X11_init_52 fn0 ?_
  refine r_new (pc := 53) X xok8 (Nat.le_of_ble_eq_true rfl) (by decide +kernel) nw_RX11_35 (Nat.le_of_ble_eq_true rfl) (Nat.le_of_ble_eq_true rfl) d_X11_init_53 ?_
  refine r_dup (pc := 56) X d_X11_init_56 ?_
  refine q_ciN (pc := 57) (host := "TwinTrees") X (con_X8_init l 29 (by decide +kernel)) if_X8_init (by decide +kernel) ⟨(Nat.le_of_ble_eq_true rfl), (Nat.le_of_ble_eq_true rfl)⟩ ⟨Nat.le_of_ble_eq_true rfl, Nat.le_of_ble_eq_true rfl⟩ d_X11_init_57 ?_
  refine r_putF (pc := 60) X hin xok11 (by decide +kernel) (by decide +kernel) (by decide +kernel) (by decide +kernel) rfl (fun _ => ⟨rfl, rfl⟩) vf_RX11_38 d_X11_init_60 ?_
  refine r_aload_n (pc := 63) X d_X11_init_63 fn0 ?_
  refine r_new (pc := 64) X xok0 (Nat.le_of_ble_eq_true rfl) (by decide +kernel) nw_RX11_42 (Nat.le_of_ble_eq_true rfl) (Nat.le_of_ble_eq_true rfl) d_X11_init_64 ?_
  refine r_dup (pc := 67) X d_X11_init_67 ?_
  refine q_ciN (pc := 68) (host := "TwinTrees") X (con_X0_init l 32 (by decide +kernel)) if_X0_init (by decide +kernel) ⟨(Nat.le_of_ble_eq_true rfl), (Nat.le_of_ble_eq_true rfl)⟩ ⟨Nat.le_of_ble_eq_true rfl, Nat.le_of_ble_eq_true rfl⟩ d_X11_init_68 ?_
  refine r_putF (pc := 71) X hin xok11 (by decide +kernel) (by decide +kernel) (by decide +kernel) (by decide +kernel) rfl (fun _ => ⟨rfl, rfl⟩) vf_RX11_45 d_X11_init_71 ?_
  refine r_aload_n (pc := 74) X d_X11_init_74 fn0 ?_
  refine r_new (pc := 75) X xok2 (Nat.le_of_ble_eq_true rfl) (by decide +kernel) nw_RX11_49 (Nat.le_of_ble_eq_true rfl) (Nat.le_of_ble_eq_true rfl) d_X11_init_75 ?_
  refine r_dup (pc := 78) X d_X11_init_78 ?_
  refine q_ciN (pc := 79) (host := "TwinTrees") X (con_X2_init l 35) if_X2_init (by decide +kernel) ⟨(Nat.le_of_ble_eq_true rfl), (Nat.le_of_ble_eq_true rfl)⟩ ⟨Nat.le_of_ble_eq_true rfl, Nat.le_of_ble_eq_true rfl⟩ d_X11_init_79 ?_
  refine r_putF (pc := 82) X hin xok11 (by decide +kernel) (by decide +kernel) (by decide +kernel) (by decide +kernel) rfl (fun _ => ⟨rfl, rfl⟩) vf_RX11_52 d_X11_init_82 ?_
  refine r_aload_n (pc := 85) X d_X11_init_85 fn0 ?_
  refine r_new (pc := 86) X xok3 (Nat.le_of_ble_eq_true rfl) (by decide +kernel) nw_RX11_56 (Nat.le_of_ble_eq_true rfl) (Nat.le_of_ble_eq_true rfl) d_X11_init_86 ?_
  refine r_dup (pc := 89) X d_X11_init_89 ?_
  refine q_ciN (pc := 90) (host := "TwinTrees") X (con_X3_init l 36 (by decide +kernel)) if_X3_init (by decide +kernel) ⟨(Nat.le_of_ble_eq_true rfl), (Nat.le_of_ble_eq_true rfl)⟩ ⟨Nat.le_of_ble_eq_true rfl, Nat.le_of_ble_eq_true rfl⟩ d_X11_init_90 ?_
  refine r_putF (pc := 93) X hin xok11 (by decide +kernel) (by decide +kernel) (by decide +kernel) (by decide +kernel) rfl (fun _ => ⟨rfl, rfl⟩) vf_RX11_59 d_X11_init_93 ?_
  refine r_aload_n (pc := 96) X d_X11_init_96 fn0 ?_
  refine r_new (pc := 97) X xok7 (Nat.le_of_ble_eq_true rfl) (by decide +kernel) nw_RX11_63 (Nat.le_of_ble_eq_true rfl) (Nat.le_of_ble_eq_true rfl) d_X11_init_97 ?_
  refine r_dup (pc := 100) X d_X11_init_100 ?_
  refine q_ciN (pc := 101) (host := "TwinTrees") X (con_X7_init l 40 (by decide +kernel)) if_X7_init (by decide +kernel) ⟨(Nat.le_of_ble_eq_true rfl), (Nat.le_of_ble_eq_true rfl)⟩ ⟨Nat.le_of_ble_eq_true rfl, Nat.le_of_ble_eq_true rfl⟩ d_X11_init_101 ?_
  refine r_putF (pc := 104) X hin xok11 (by decide +kernel) (by decide +kernel) (by decide +kernel) (by decide +kernel) rfl (fun _ => ⟨rfl, rfl⟩) vf_RX11_66 d_X11_init_104 ?_
  refine r_aload_n (pc := 107) X d_X11_init_107 fn0 ?_
  refine r_new (pc := 108) X xok10 (Nat.le_of_ble_eq_true rfl) (by decide +kernel) nw_RX11_70 (Nat.le_of_ble_eq_true rfl) (Nat.le_of_ble_eq_true rfl) d_X11_init_108 ?_
  refine r_dup (pc := 111) X d_X11_init_111 ?_
  refine r_aload_n (pc := 112) X d_X11_init_112 fn0 ?_
  refine r_getR (pc := 113) X xok11 (by decide +kernel) (by decide +kernel) vf_RX11_66 d_X11_init_113 ?_
  refine q_ci1 (pc := 116) X (con_X10_init l 53 (by decide +kernel)) if_X10_init vm_RX11_72 ⟨(Nat.le_of_ble_eq_true rfl), (Nat.le_of_ble_eq_true rfl)⟩ ⟨Nat.le_of_ble_eq_true rfl, Nat.le_of_ble_eq_true rfl⟩ d_X11_init_116 ?_
  refine r_putF (pc := 119) X hin xok11 (by decide +kernel) (by decide +kernel) (by decide +kernel) (by decide +kernel) rfl (fun _ => ⟨rfl, rfl⟩) vf_RX11_75 d_X11_init_119 ?_
  refine r_aload_n (pc := 122) X d_X11_init_122 fn0 ?_
  refine r_new (pc := 123) X xok1 (Nat.le_of_ble_eq_true rfl) (by decide +kernel) nw_RX11_79 (Nat.le_of_ble_eq_true rfl) (Nat.le_of_ble_eq_true rfl) d_X11_init_123 ?_
  refine r_dup (pc := 126) X d_X11_init_126 ?_
  refine q_ciN (pc := 127) (host := "TwinTrees") X (con_X1_init l 58 (by decide +kernel)) if_X1_init (by decide +kernel) ⟨(Nat.le_of_ble_eq_true rfl), (Nat.le_of_ble_eq_true rfl)⟩ ⟨Nat.le_of_ble_eq_true rfl, Nat.le_of_ble_eq_true rfl⟩ d_X11_init_127 ?_
  refine r_putF (pc := 130) X hin xok11 (by decide +kernel) (by decide +kernel) (by decide +kernel) (by decide +kernel) rfl (fun _ => ⟨rfl, rfl⟩) vf_RX11_82 d_X11_init_130 ?_
  refine r_aload_n (pc := 133) X d_X11_init_133 fn0 ?_
  refine r_new (pc := 134) X xok6 (Nat.le_of_ble_eq_true rfl) (by decide +kernel) nw_RX11_86 (Nat.le_of_ble_eq_true rfl) (Nat.le_of_ble_eq_true rfl) d_X11_init_134 ?_
  refine r_dup (pc := 137) X d_X11_init_137 ?_
  refine r_aload_n (pc := 138) X d_X11_init_138 fn0 ?_
  refine r_getR (pc := 139) X xok11 (by decide +kernel) (by decide +kernel) vf_RX11_82 d_X11_init_139 ?_
  refine q_ci1 (pc := 142) X (con_X6_init l 67 (by decide +kernel)) if_X6_init vm_RX11_88 ⟨(Nat.le_of_ble_eq_true rfl), (Nat.le_of_ble_eq_true rfl)⟩ ⟨Nat.le_of_ble_eq_true rfl, Nat.le_of_ble_eq_true rfl⟩ d_X11_init_142 ?_
  refine r_putF (pc := 145) X hin xok11 (by decide +kernel) (by decide +kernel) (by decide +kernel) (by decide +kernel) rfl (fun _ => ⟨rfl, rfl⟩) vf_RX11_91 d_X11_init_145 ?_
  refine r_aload_n (pc := 148) X d_X11_init_148 fn0 ?_
  refine r_bipush (pc := 149) X d_X11_init_149 (by decide +kernel) ?_
  refine r_newq (pc := 151) (t := 5) (ci := 4) X (by decide) rfl X.2.2.2.2.2.1.2.2.2.2.2.1 (by decide) (Nat.le_of_ble_eq_true rfl) (by decide +kernel) cl_RX11_25 (Nat.le_of_ble_eq_true rfl) (Nat.le_of_ble_eq_true rfl) d_X11_init_151 ?_
  refine r_putF (pc := 154) X hin xok11 (by decide +kernel) (by decide +kernel) (by decide +kernel) (by decide +kernel) rfl (fun _ => ⟨rfl, rfl⟩) vf_RX11_95 d_X11_init_154 ?_
  refine r_aload_n (pc := 157) X d_X11_init_157 fn0 ?_
  refine r_iconst (pc := 158) X d_X11_init_158 (by decide +kernel) ?_
  refine r_newq (pc := 159) (t := 5) (ci := 4) X (by decide) rfl X.2.2.2.2.2.1.2.2.2.2.2.1 (by decide) (Nat.le_of_ble_eq_true rfl) (by decide +kernel) cl_RX11_25 (Nat.le_of_ble_eq_true rfl) (Nat.le_of_ble_eq_true rfl) d_X11_init_159 ?_
  refine r_putF (pc := 162) X hin xok11 (by decide +kernel) (by decide +kernel) (by decide +kernel) (by decide +kernel) rfl (fun _ => ⟨rfl, rfl⟩) vf_RX11_99 d_X11_init_162 ?_
  refine r_aload_n (pc := 165) X d_X11_init_165 fn0 ?_
  refine r_iconst (pc := 166) X d_X11_init_166 (by decide +kernel) ?_
  refine r_newq (pc := 167) (t := 6) (ci := 8) X (by decide) rfl X.2.2.2.2.2.1.2.2.2.2.2.2 (by decide) (Nat.le_of_ble_eq_true rfl) (by decide +kernel) cl_RX11_35 (Nat.le_of_ble_eq_true rfl) (Nat.le_of_ble_eq_true rfl) d_X11_init_167 ?_
  refine r_putF (pc := 170) X hin xok11 (by decide +kernel) (by decide +kernel) (by decide +kernel) (by decide +kernel) rfl (fun _ => ⟨rfl, rfl⟩) vf_RX11_102 d_X11_init_170 ?_
  refine r_aload_n (pc := 173) X d_X11_init_173 fn0 ?_
  refine r_bipush (pc := 174) X d_X11_init_174 (by decide +kernel) ?_
  refine r_newa (pc := 176) (atype := .int) X ⟨rfl, by decide⟩ (by decide) (Nat.le_of_ble_eq_true rfl) (by decide +kernel) aw_int (Nat.le_of_ble_eq_true rfl) (Nat.le_of_ble_eq_true rfl) d_X11_init_176 ?_
  refine r_putF (pc := 178) X hin xok11 (by decide +kernel) (by decide +kernel) (by decide +kernel) (by decide +kernel) rfl (fun _ => ⟨rfl, rfl⟩) vf_RX11_106 d_X11_init_178 ?_
  refine r_iconst (pc := 181) X d_X11_init_181 (by decide +kernel) ?_
  refine r_istore_n (pc := 182) X d_X11_init_182 fn1 (by decide +kernel) ?_
  refine r_iload_n (pc := 183) X d_X11_init_183 fn1 ?_
  refine r_aload_n (pc := 184) X d_X11_init_184 fn0 ?_
  refine r_getR (pc := 185) X xok11 (by decide +kernel) (by decide +kernel) vf_RX11_95 d_X11_init_185 ?_
  refine r_alen (pc := 188) X d_X11_init_188 ?_
  refine r_icmp_ge (pc := 189) (tgt := 211) X d_X11_init_189 (by decide +kernel) r_KF ?_
  refine r_aload_n (pc := 192) X d_X11_init_192 fn0 ?_
  refine r_getR (pc := 193) X xok11 (by decide +kernel) (by decide +kernel) vf_RX11_95 d_X11_init_193 ?_
  refine r_iload_n (pc := 196) X d_X11_init_196 fn1 ?_
  refine r_new (pc := 197) X xok4 (Nat.le_of_ble_eq_true rfl) (by decide +kernel) nw_RX11_25 (Nat.le_of_ble_eq_true rfl) (Nat.le_of_ble_eq_true rfl) d_X11_init_197 ?_
  refine r_dup (pc := 200) X d_X11_init_200 ?_
  refine q_ci0 (pc := 201) X (con_X4_init l 75 (by decide +kernel)) if_X4_init vm_RX11_27 ⟨(Nat.le_of_ble_eq_true rfl), (Nat.le_of_ble_eq_true rfl)⟩ ⟨Nat.le_of_ble_eq_true rfl, Nat.le_of_ble_eq_true rfl⟩ d_X11_init_201 ?_
  refine r_aast (pc := 204) (by decide +kernel) xok4 (by decide +kernel) rfl X d_X11_init_204 ?_
  refine r_iinc (pc := 205) X d_X11_init_205 (by decide +kernel) (by decide +kernel) ?_
  refine r_goto (pc := 208) (tgt := 183) X d_X11_init_208 (by decide +kernel) ?_
  refine r_iload_n (pc := 183) X d_X11_init_183 fn1 ?_
  refine r_aload_n (pc := 184) X d_X11_init_184 fn0 ?_
  refine r_getR (pc := 185) X xok11 (by decide +kernel) (by decide +kernel) vf_RX11_95 d_X11_init_185 ?_
  refine r_alen (pc := 188) X d_X11_init_188 ?_
  refine r_icmp_ge (pc := 189) (tgt := 211) X d_X11_init_189 (by decide +kernel) r_KF ?_
  refine r_aload_n (pc := 192) X d_X11_init_192 fn0 ?_
  refine r_getR (pc := 193) X xok11 (by decide +kernel) (by decide +kernel) vf_RX11_95 d_X11_init_193 ?_
  refine r_iload_n (pc := 196) X d_X11_init_196 fn1 ?_
  refine r_new (pc := 197) X xok4 (Nat.le_of_ble_eq_true rfl) (by decide +kernel) nw_RX11_25 (Nat.le_of_ble_eq_true rfl) (Nat.le_of_ble_eq_true rfl) d_X11_init_197 ?_
  refine r_dup (pc := 200) X d_X11_init_200 ?_
  refine q_ci0 (pc := 201) X (con_X4_init l 85 (by decide +kernel)) if_X4_init vm_RX11_27 ⟨(Nat.le_of_ble_eq_true rfl), (Nat.le_of_ble_eq_true rfl)⟩ ⟨Nat.le_of_ble_eq_true rfl, Nat.le_of_ble_eq_true rfl⟩ d_X11_init_201 ?_
  refine r_aast (pc := 204) (by decide +kernel) xok4 (by decide +kernel) rfl X d_X11_init_204 ?_
  refine r_iinc (pc := 205) X d_X11_init_205 (by decide +kernel) (by decide +kernel) ?_
  refine r_goto (pc := 208) (tgt := 183) X d_X11_init_208 (by decide +kernel) ?_
  refine r_iload_n (pc := 183) X d_X11_init_183 fn1 ?_
  refine r_aload_n (pc := 184) X d_X11_init_184 fn0 ?_
  refine r_getR (pc := 185) X xok11 (by decide +kernel) (by decide +kernel) vf_RX11_95 d_X11_init_185 ?_
  refine r_alen (pc := 188) X d_X11_init_188 ?_
  refine r_icmp_ge (pc := 189) (tgt := 211) X d_X11_init_189 (by decide +kernel) r_KF ?_
  refine r_aload_n (pc := 192) X d_X11_init_192 fn0 ?_
  refine r_getR (pc := 193) X xok11 (by decide +kernel) (by decide +kernel) vf_RX11_95 d_X11_init_193 ?_
  refine r_iload_n (pc := 196) X d_X11_init_196 fn1 ?_
  refine r_new (pc := 197) X xok4 (Nat.le_of_ble_eq_true rfl) (by decide +kernel) nw_RX11_25 (Nat.le_of_ble_eq_true rfl) (Nat.le_of_ble_eq_true rfl) d_X11_init_197 ?_
  refine r_dup (pc := 200) X d_X11_init_200 ?_
  refine q_ci0 (pc := 201) X (con_X4_init l 95 (by decide +kernel)) if_X4_init vm_RX11_27 ⟨(Nat.le_of_ble_eq_true rfl), (Nat.le_of_ble_eq_true rfl)⟩ ⟨Nat.le_of_ble_eq_true rfl, Nat.le_of_ble_eq_true rfl⟩ d_X11_init_201 ?_
  refine r_aast (pc := 204) (by decide +kernel) xok4 (by decide +kernel) rfl X d_X11_init_204 ?_
  refine r_iinc (pc := 205) X d_X11_init_205 (by decide +kernel) (by decide +kernel) ?_
  refine r_goto (pc := 208) (tgt := 183) X d_X11_init_208 (by decide +kernel) ?_
  refine r_iload_n (pc := 183) X d_X11_init_183 fn1 ?_
  refine r_aload_n (pc := 184) X d_X11_init_184 fn0 ?_
  refine r_getR (pc := 185) X xok11 (by decide +kernel) (by decide +kernel) vf_RX11_95 d_X11_init_185 ?_
  refine r_alen (pc := 188) X d_X11_init_188 ?_
  refine r_icmp_ge (pc := 189) (tgt := 211) X d_X11_init_189 (by decide +kernel) r_KF ?_
  refine r_aload_n (pc := 192) X d_X11_init_192 fn0 ?_
  refine r_getR (pc := 193) X xok11 (by decide +kernel) (by decide +kernel) vf_RX11_95 d_X11_init_193 ?_
  refine r_iload_n (pc := 196) X d_X11_init_196 fn1 ?_
  refine r_new (pc := 197) X xok4 (Nat.le_of_ble_eq_true rfl) (by decide +kernel) nw_RX11_25 (Nat.le_of_ble_eq_true rfl) (Nat.le_of_ble_eq_true rfl) d_X11_init_197 ?_
  refine r_dup (pc := 200) X d_X11_init_200 ?_
  refine q_ci0 (pc := 201) X (con_X4_init l 105 (by decide +kernel)) if_X4_init vm_RX11_27 ⟨(Nat.le_of_ble_eq_true rfl), (Nat.le_of_ble_eq_true rfl)⟩ ⟨Nat.le_of_ble_eq_true rfl, Nat.le_of_ble_eq_true rfl⟩ d_X11_init_201 ?_
  refine r_aast (pc := 204) (by decide +kernel) xok4 (by decide +kernel) rfl X d_X11_init_204 ?_
  refine r_iinc (pc := 205) X d_X11_init_205 (by decide +kernel) (by decide +kernel) ?_
  refine r_goto (pc := 208) (tgt := 183) X d_X11_init_208 (by decide +kernel) ?_
  refine r_iload_n (pc := 183) X d_X11_init_183 fn1 ?_
  refine r_aload_n (pc := 184) X d_X11_init_184 fn0 ?_
  refine r_getR (pc := 185) X xok11 (by decide +kernel) (by decide +kernel) vf_RX11_95 d_X11_init_185 ?_
  refine r_alen (pc := 188) X d_X11_init_188 ?_
  refine r_icmp_ge (pc := 189) (tgt := 211) X d_X11_init_189 (by decide +kernel) r_KF ?_
  refine r_aload_n (pc := 192) X d_X11_init_192 fn0 ?_
  refine r_getR (pc := 193) X xok11 (by decide +kernel) (by decide +kernel) vf_RX11_95 d_X11_init_193 ?_
  refine r_iload_n (pc := 196) X d_X11_init_196 fn1 ?_
  refine r_new (pc := 197) X xok4 (Nat.le_of_ble_eq_true rfl) (by decide +kernel) nw_RX11_25 (Nat.le_of_ble_eq_true rfl) (Nat.le_of_ble_eq_true rfl) d_X11_init_197 ?_
  refine r_dup (pc := 200) X d_X11_init_200 ?_
  refine q_ci0 (pc := 201) X (con_X4_init l 115 (by decide +kernel)) if_X4_init vm_RX11_27 ⟨(Nat.le_of_ble_eq_true rfl), (Nat.le_of_ble_eq_true rfl)⟩ ⟨Nat.le_of_ble_eq_true rfl, Nat.le_of_ble_eq_true rfl⟩ d_X11_init_201 ?_
  refine r_aast (pc := 204) (by decide +kernel) xok4 (by decide +kernel) rfl X d_X11_init_204 ?_
  refine r_iinc (pc := 205) X d_X11_init_205 (by decide +kernel) (by decide +kernel) ?_
  refine r_goto (pc := 208) (tgt := 183) X d_X11_init_208 (by decide +kernel) ?_
  refine r_iload_n (pc := 183) X d_X11_init_183 fn1 ?_
  refine r_aload_n (pc := 184) X d_X11_init_184 fn0 ?_
  refine r_getR (pc := 185) X xok11 (by decide +kernel) (by decide +kernel) vf_RX11_95 d_X11_init_185 ?_
  refine r_alen (pc := 188) X d_X11_init_188 ?_
  refine r_icmp_ge (pc := 189) (tgt := 211) X d_X11_init_189 (by decide +kernel) r_KF ?_
  refine r_aload_n (pc := 192) X d_X11_init_192 fn0 ?_
  refine r_getR (pc := 193) X xok11 (by decide +kernel) (by decide +kernel) vf_RX11_95 d_X11_init_193 ?_
  refine r_iload_n (pc := 196) X d_X11_init_196 fn1 ?_
  refine r_new (pc := 197) X xok4 (Nat.le_of_ble_eq_true rfl) (by decide +kernel) nw_RX11_25 (Nat.le_of_ble_eq_true rfl) (Nat.le_of_ble_eq_true rfl) d_X11_init_197 ?_
  refine r_dup (pc := 200) X d_X11_init_200 ?_
  refine q_ci0 (pc := 201) X (con_X4_init l 125 (by decide +kernel)) if_X4_init vm_RX11_27 ⟨(Nat.le_of_ble_eq_true rfl), (Nat.le_of_ble_eq_true rfl)⟩ ⟨Nat.le_of_ble_eq_true rfl, Nat.le_of_ble_eq_true rfl⟩ d_X11_init_201 ?_
  refine r_aast (pc := 204) (by decide +kernel) xok4 (by decide +kernel) rfl X d_X11_init_204 ?_
  refine r_iinc (pc := 205) X d_X11_init_205 (by decide +kernel) (by decide +kernel) ?_
  refine r_goto (pc := 208) (tgt := 183) X d_X11_init_208 (by decide +kernel) ?_
  refine r_iload_n (pc := 183) X d_X11_init_183 fn1 ?_
  refine r_aload_n (pc := 184) X d_X11_init_184 fn0 ?_
  refine r_getR (pc := 185) X xok11 (by decide +kernel) (by decide +kernel) vf_RX11_95 d_X11_init_185 ?_
  refine r_alen (pc := 188) X d_X11_init_188 ?_
  refine r_icmp_ge (pc := 189) (tgt := 211) X d_X11_init_189 (by decide +kernel) r_KF ?_
  refine r_aload_n (pc := 192) X d_X11_init_192 fn0 ?_
  refine r_getR (pc := 193) X xok11 (by decide +kernel) (by decide +kernel) vf_RX11_95 d_X11_init_193 ?_
  refine r_iload_n (pc := 196) X d_X11_init_196 fn1 ?_
  refine r_new (pc := 197) X xok4 (Nat.le_of_ble_eq_true rfl) (by decide +kernel) nw_RX11_25 (Nat.le_of_ble_eq_true rfl) (Nat.le_of_ble_eq_true rfl) d_X11_init_197 ?_
  refine r_dup (pc := 200) X d_X11_init_200 ?_
  refine q_ci0 (pc := 201) X (con_X4_init l 135 (by decide +kernel)) if_X4_init vm_RX11_27 ⟨(Nat.le_of_ble_eq_true rfl), (Nat.le_of_ble_eq_true rfl)⟩ ⟨Nat.le_of_ble_eq_true rfl, Nat.le_of_ble_eq_true rfl⟩ d_X11_init_201 ?_
  refine r_aast (pc := 204) (by decide +kernel) xok4 (by decide +kernel) rfl X d_X11_init_204 ?_
  refine r_iinc (pc := 205) X d_X11_init_205 (by decide +kernel) (by decide +kernel) ?_
  refine r_goto (pc := 208) (tgt := 183) X d_X11_init_208 (by decide +kernel) ?_
  refine r_iload_n (pc := 183) X d_X11_init_183 fn1 ?_
  refine r_aload_n (pc := 184) X d_X11_init_184 fn0 ?_
  refine r_getR (pc := 185) X xok11 (by decide +kernel) (by decide +kernel) vf_RX11_95 d_X11_init_185 ?_
  refine r_alen (pc := 188) X d_X11_init_188 ?_
  refine r_icmp_ge (pc := 189) (tgt := 211) X d_X11_init_189 (by decide +kernel) r_KF ?_
  refine r_aload_n (pc := 192) X d_X11_init_192 fn0 ?_
  refine r_getR (pc := 193) X xok11 (by decide +kernel) (by decide +kernel) vf_RX11_95 d_X11_init_193 ?_
  refine r_iload_n (pc := 196) X d_X11_init_196 fn1 ?_
  refine r_new (pc := 197) X xok4 (Nat.le_of_ble_eq_true rfl) (by decide +kernel) nw_RX11_25 (Nat.le_of_ble_eq_true rfl) (Nat.le_of_ble_eq_true rfl) d_X11_init_197 ?_
  refine r_dup (pc := 200) X d_X11_init_200 ?_
  refine q_ci0 (pc := 201) X (con_X4_init l 145 (by decide +kernel)) if_X4_init vm_RX11_27 ⟨(Nat.le_of_ble_eq_true rfl), (Nat.le_of_ble_eq_true rfl)⟩ ⟨Nat.le_of_ble_eq_true rfl, Nat.le_of_ble_eq_true rfl⟩ d_X11_init_201 ?_
  refine r_aast (pc := 204) (by decide +kernel) xok4 (by decide +kernel) rfl X d_X11_init_204 ?_
  refine r_iinc (pc := 205) X d_X11_init_205 (by decide +kernel) (by decide +kernel) ?_
  refine r_goto (pc := 208) (tgt := 183) X d_X11_init_208 (by decide +kernel) ?_
  refine r_iload_n (pc := 183) X d_X11_init_183 fn1 ?_
  refine r_aload_n (pc := 184) X d_X11_init_184 fn0 ?_
  refine r_getR (pc := 185) X xok11 (by decide +kernel) (by decide +kernel) vf_RX11_95 d_X11_init_185 ?_
  refine r_alen (pc := 188) X d_X11_init_188 ?_
  refine r_icmp_ge (pc := 189) (tgt := 211) X d_X11_init_189 (by decide +kernel) ?_ r_KF
  refine r_iconst (pc := 211) X d_X11_init_211 (by decide +kernel) ?_
  refine r_istore_n (pc := 212) X d_X11_init_212 fn1 (by decide +kernel) ?_
  refine r_iload_n (pc := 213) X d_X11_init_213 fn1 ?_
  refine r_aload_n (pc := 214) X d_X11_init_214 fn0 ?_
  refine r_getR (pc := 215) X xok11 (by decide +kernel) (by decide +kernel) vf_RX11_99 d_X11_init_215 ?_
  refine r_alen (pc := 218) X d_X11_init_218 ?_
  refine r_icmp_ge (pc := 219) (tgt := 254) X d_X11_init_219 (by decide +kernel) r_KF ?_
  refine r_aload_n (pc := 222) X d_X11_init_222 fn0 ?_
  refine r_getR (pc := 223) X xok11 (by decide +kernel) (by decide +kernel) vf_RX11_99 d_X11_init_223 ?_
  refine r_iload_n (pc := 226) X d_X11_init_226 fn1 ?_
  refine r_new (pc := 227) X xok4 (Nat.le_of_ble_eq_true rfl) (by decide +kernel) nw_RX11_25 (Nat.le_of_ble_eq_true rfl) (Nat.le_of_ble_eq_true rfl) d_X11_init_227 ?_
  refine r_dup (pc := 230) X d_X11_init_230 ?_
  refine q_ci0 (pc := 231) X (con_X4_init l 155 (by decide +kernel)) if_X4_init vm_RX11_27 ⟨(Nat.le_of_ble_eq_true rfl), (Nat.le_of_ble_eq_true rfl)⟩ ⟨Nat.le_of_ble_eq_true rfl, Nat.le_of_ble_eq_true rfl⟩ d_X11_init_231 ?_
  refine r_aast (pc := 234) (by decide +kernel) xok4 (by decide +kernel) rfl X d_X11_init_234 ?_
  refine r_aload_n (pc := 235) X d_X11_init_235 fn0 ?_
  refine r_getR (pc := 236) X xok11 (by decide +kernel) (by decide +kernel) vf_RX11_102 d_X11_init_236 ?_
  refine r_iload_n (pc := 239) X d_X11_init_239 fn1 ?_
  refine r_new (pc := 240) X xok8 (Nat.le_of_ble_eq_true rfl) (by decide +kernel) nw_RX11_35 (Nat.le_of_ble_eq_true rfl) (Nat.le_of_ble_eq_true rfl) d_X11_init_240 ?_
  refine r_dup (pc := 243) X d_X11_init_243 ?_
  refine q_ciN (pc := 244) (host := "TwinTrees") X (con_X8_init l 165 (by decide +kernel)) if_X8_init (by decide +kernel) ⟨(Nat.le_of_ble_eq_true rfl), (Nat.le_of_ble_eq_true rfl)⟩ ⟨Nat.le_of_ble_eq_true rfl, Nat.le_of_ble_eq_true rfl⟩ d_X11_init_244 ?_
  refine r_aast (pc := 247) (by decide +kernel) xok8 (by decide +kernel) rfl X d_X11_init_247 ?_
  refine r_iinc (pc := 248) X d_X11_init_248 (by decide +kernel) (by decide +kernel) ?_
  refine r_goto (pc := 251) (tgt := 213) X d_X11_init_251 (by decide +kernel) ?_
  refine r_iload_n (pc := 213) X d_X11_init_213 fn1 ?_
  refine r_aload_n (pc := 214) X d_X11_init_214 fn0 ?_
  refine r_getR (pc := 215) X xok11 (by decide +kernel) (by decide +kernel) vf_RX11_99 d_X11_init_215 ?_
  refine r_alen (pc := 218) X d_X11_init_218 ?_
  refine r_icmp_ge (pc := 219) (tgt := 254) X d_X11_init_219 (by decide +kernel) r_KF ?_
  refine r_aload_n (pc := 222) X d_X11_init_222 fn0 ?_
  refine r_getR (pc := 223) X xok11 (by decide +kernel) (by decide +kernel) vf_RX11_99 d_X11_init_223 ?_
  refine r_iload_n (pc := 226) X d_X11_init_226 fn1 ?_
  refine r_new (pc := 227) X xok4 (Nat.le_of_ble_eq_true rfl) (by decide +kernel) nw_RX11_25 (Nat.le_of_ble_eq_true rfl) (Nat.le_of_ble_eq_true rfl) d_X11_init_227 ?_
  refine r_dup (pc := 230) X d_X11_init_230 ?_
  refine q_ci0 (pc := 231) X (con_X4_init l 168 (by decide +kernel)) if_X4_init vm_RX11_27 ⟨(Nat.le_of_ble_eq_true rfl), (Nat.le_of_ble_eq_true rfl)⟩ ⟨Nat.le_of_ble_eq_true rfl, Nat.le_of_ble_eq_true rfl⟩ d_X11_init_231 ?_
  refine r_aast (pc := 234) (by decide +kernel) xok4 (by decide +kernel) rfl X d_X11_init_234 ?_
  refine r_aload_n (pc := 235) X d_X11_init_235 fn0 ?_
  refine r_getR (pc := 236) X xok11 (by decide +kernel) (by decide +kernel) vf_RX11_102 d_X11_init_236 ?_
  refine r_iload_n (pc := 239) X d_X11_init_239 fn1 ?_
  refine r_new (pc := 240) X xok8 (Nat.le_of_ble_eq_true rfl) (by decide +kernel) nw_RX11_35 (Nat.le_of_ble_eq_true rfl) (Nat.le_of_ble_eq_true rfl) d_X11_init_240 ?_
  refine r_dup (pc := 243) X d_X11_init_243 ?_
  refine q_ciN (pc := 244) (host := "TwinTrees") X (con_X8_init l 178 (by decide +kernel)) if_X8_init (by decide +kernel) ⟨(Nat.le_of_ble_eq_true rfl), (Nat.le_of_ble_eq_true rfl)⟩ ⟨Nat.le_of_ble_eq_true rfl, Nat.le_of_ble_eq_true rfl⟩ d_X11_init_244 ?_
  refine r_aast (pc := 247) (by decide +kernel) xok8 (by decide +kernel) rfl X d_X11_init_247 ?_
  refine r_iinc (pc := 248) X d_X11_init_248 (by decide +kernel) (by decide +kernel) ?_
  refine r_goto (pc := 251) (tgt := 213) X d_X11_init_251 (by decide +kernel) ?_
  refine r_iload_n (pc := 213) X d_X11_init_213 fn1 ?_
  refine r_aload_n (pc := 214) X d_X11_init_214 fn0 ?_
  refine r_getR (pc := 215) X xok11 (by decide +kernel) (by decide +kernel) vf_RX11_99 d_X11_init_215 ?_
  refine r_alen (pc := 218) X d_X11_init_218 ?_
  refine r_icmp_ge (pc := 219) (tgt := 254) X d_X11_init_219 (by decide +kernel) ?_ r_KF
  exact r_vretN rfl rfl X hr d_X11_init_254
def f_X11_init (a0 : Nat) (A : xH) (P : xP) : Prop := k_X11_init P [some (.ref a0), none] [] A
set_option maxRecDepth 20000 in
theorem con_X11_init (l : Launch) : xCon l yX11_init cX11_init 2 none 3 61 1 180 51196 xFF xFF (w_R f_X11_init) :=
  xc_R (by decide +kernel) (by decide +kernel) (fun p e s m args below meth c g a0 A P h X hr hin => ⟨_, h, t_X11_init X hr hin⟩)

