theorem dL_law__0 : decode cL_law_ 0 = .ok (.new 8, 3) := by decide +kernel
theorem dL_law__3 : decode cL_law_ 3 = .ok (.dup, 1) := by decide +kernel
theorem dL_law__4 : decode cL_law_ 4 = .ok (.invokespecial 92, 3) := by decide +kernel
theorem dL_law__7 : decode cL_law_ 7 = .ok (.astore_n 1, 1) := by decide +kernel
theorem dL_law__8 : decode cL_law_ 8 = .ok (.new 93, 3) := by decide +kernel
theorem dL_law__11 : decode cL_law_ 11 = .ok (.dup, 1) := by decide +kernel
theorem dL_law__12 : decode cL_law_ 12 = .ok (.invokespecial 95, 3) := by decide +kernel
theorem dL_law__15 : decode cL_law_ 15 = .ok (.astore_n 2, 1) := by decide +kernel
theorem dL_law__16 : decode cL_law_ 16 = .ok (.iconst 1, 1) := by decide +kernel
theorem dL_law__17 : decode cL_law_ 17 = .ok (.newarray .long, 2) := by decide +kernel
theorem dL_law__19 : decode cL_law_ 19 = .ok (.astore_n 3, 1) := by decide +kernel
theorem dL_law__20 : decode cL_law_ 20 = .ok (.iconst 0, 1) := by decide +kernel
theorem dL_law__21 : decode cL_law_ 21 = .ok (.istore 4, 2) := by decide +kernel
theorem dL_law__23 : decode cL_law_ 23 = .ok (.iload 4, 2) := by decide +kernel
theorem dL_law__25 : decode cL_law_ 25 = .ok (.aload_n 0, 1) := by decide +kernel
theorem dL_law__26 : decode cL_law_ 26 = .ok (.arraylength, 1) := by decide +kernel
theorem dL_law__27 : decode cL_law_ 27 = .ok (.iconst 4, 1) := by decide +kernel
theorem dL_law__28 : decode cL_law_ 28 = .ok (.isub, 1) := by decide +kernel
theorem dL_law__29 : decode cL_law_ 29 = .ok (.if_icmp .gt 1748, 3) := by decide +kernel
theorem dL_law__32 : decode cL_law_ 32 = .ok (.aload_n 0, 1) := by decide +kernel
theorem dL_law__33 : decode cL_law_ 33 = .ok (.iload 4, 2) := by decide +kernel
theorem dL_law__35 : decode cL_law_ 35 = .ok (.iaload, 1) := by decide +kernel
theorem dL_law__36 : decode cL_law_ 36 = .ok (.bipush 31, 2) := by decide +kernel
theorem dL_law__38 : decode cL_law_ 38 = .ok (.iand, 1) := by decide +kernel
theorem dL_law__39 : decode cL_law_ 39 = .ok (.tableswitch 1732 0 29 #[133, 213, 269, 337, 405, 461, 517, 573, 641, 697, 710, 778, 834, 847, 860, 904, 960, 1004, 1017, 1061, 1129, 1209, 1265, 1321, 1389, 1473, 1553, 1609, 1677, 1718], 133) := by decide +kernel
theorem dL_law__172 : decode cL_law_ 172 = .ok (.aload_n 1, 1) := by decide +kernel
theorem dL_law__173 : decode cL_law_ 173 = .ok (.aload_n 0, 1) := by decide +kernel
theorem dL_law__174 : decode cL_law_ 174 = .ok (.iload 4, 2) := by decide +kernel
theorem dL_law__176 : decode cL_law_ 176 = .ok (.iconst 1, 1) := by decide +kernel
theorem dL_law__177 : decode cL_law_ 177 = .ok (.iadd, 1) := by decide +kernel
theorem dL_law__178 : decode cL_law_ 178 = .ok (.iaload, 1) := by decide +kernel
theorem dL_law__179 : decode cL_law_ 179 = .ok (.aload_n 0, 1) := by decide +kernel
theorem dL_law__180 : decode cL_law_ 180 = .ok (.iload 4, 2) := by decide +kernel
theorem dL_law__182 : decode cL_law_ 182 = .ok (.iconst 2, 1) := by decide +kernel
theorem dL_law__183 : decode cL_law_ 183 = .ok (.iadd, 1) := by decide +kernel
theorem dL_law__184 : decode cL_law_ 184 = .ok (.iaload, 1) := by decide +kernel
theorem dL_law__185 : decode cL_law_ 185 = .ok (.aload_n 0, 1) := by decide +kernel
theorem dL_law__186 : decode cL_law_ 186 = .ok (.iload 4, 2) := by decide +kernel
theorem dL_law__188 : decode cL_law_ 188 = .ok (.iconst 3, 1) := by decide +kernel
theorem dL_law__189 : decode cL_law_ 189 = .ok (.iadd, 1) := by decide +kernel
theorem dL_law__190 : decode cL_law_ 190 = .ok (.iaload, 1) := by decide +kernel
theorem dL_law__191 : decode cL_law_ 191 = .ok (.aload_n 3, 1) := by decide +kernel
theorem dL_law__192 : decode cL_law_ 192 = .ok (.invokestatic 96, 3) := by decide +kernel
theorem dL_law__195 : decode cL_law_ 195 = .ok (.istore 5, 2) := by decide +kernel
theorem dL_law__197 : decode cL_law_ 197 = .ok (.aload_n 2, 1) := by decide +kernel
theorem dL_law__198 : decode cL_law_ 198 = .ok (.aload_n 0, 1) := by decide +kernel
theorem dL_law__199 : decode cL_law_ 199 = .ok (.iload 4, 2) := by decide +kernel
theorem dL_law__201 : decode cL_law_ 201 = .ok (.iconst 1, 1) := by decide +kernel
theorem dL_law__202 : decode cL_law_ 202 = .ok (.iadd, 1) := by decide +kernel
theorem dL_law__203 : decode cL_law_ 203 = .ok (.iaload, 1) := by decide +kernel
theorem dL_law__204 : decode cL_law_ 204 = .ok (.aload_n 0, 1) := by decide +kernel
theorem dL_law__205 : decode cL_law_ 205 = .ok (.iload 4, 2) := by decide +kernel
theorem dL_law__207 : decode cL_law_ 207 = .ok (.iconst 2, 1) := by decide +kernel
theorem dL_law__208 : decode cL_law_ 208 = .ok (.iadd, 1) := by decide +kernel
theorem dL_law__209 : decode cL_law_ 209 = .ok (.iaload, 1) := by decide +kernel
theorem dL_law__210 : decode cL_law_ 210 = .ok (.aload_n 0, 1) := by decide +kernel
theorem dL_law__211 : decode cL_law_ 211 = .ok (.iload 4, 2) := by decide +kernel
theorem dL_law__213 : decode cL_law_ 213 = .ok (.iconst 3, 1) := by decide +kernel
theorem dL_law__214 : decode cL_law_ 214 = .ok (.iadd, 1) := by decide +kernel
theorem dL_law__215 : decode cL_law_ 215 = .ok (.iaload, 1) := by decide +kernel
theorem dL_law__216 : decode cL_law_ 216 = .ok (.invokevirtual 101, 3) := by decide +kernel
theorem dL_law__219 : decode cL_law_ 219 = .ok (.istore 6, 2) := by decide +kernel
theorem dL_law__221 : decode cL_law_ 221 = .ok (.aload_n 2, 1) := by decide +kernel
theorem dL_law__222 : decode cL_law_ 222 = .ok (.invokevirtual 102, 3) := by decide +kernel
theorem dL_law__225 : decode cL_law_ 225 = .ok (.iload 5, 2) := by decide +kernel
theorem dL_law__227 : decode cL_law_ 227 = .ok (.if_icmp .eq 5, 3) := by decide +kernel
theorem dL_law__230 : decode cL_law_ 230 = .ok (.iconst 0, 1) := by decide +kernel
theorem dL_law__231 : decode cL_law_ 231 = .ok (.ireturn, 1) := by decide +kernel
theorem dL_law__232 : decode cL_law_ 232 = .ok (.iload 5, 2) := by decide +kernel
theorem dL_law__234 : decode cL_law_ 234 = .ok (.ifCond .ne 15, 3) := by decide +kernel
theorem dL_law__237 : decode cL_law_ 237 = .ok (.aload_n 3, 1) := by decide +kernel
theorem dL_law__238 : decode cL_law_ 238 = .ok (.iconst 0, 1) := by decide +kernel
theorem dL_law__239 : decode cL_law_ 239 = .ok (.laload, 1) := by decide +kernel
theorem dL_law__240 : decode cL_law_ 240 = .ok (.iload 6, 2) := by decide +kernel
theorem dL_law__242 : decode cL_law_ 242 = .ok (.i2l, 1) := by decide +kernel
theorem dL_law__243 : decode cL_law_ 243 = .ok (.lcmp, 1) := by decide +kernel
theorem dL_law__244 : decode cL_law_ 244 = .ok (.ifCond .eq 5, 3) := by decide +kernel
theorem dL_law__247 : decode cL_law_ 247 = .ok (.iconst 0, 1) := by decide +kernel
theorem dL_law__248 : decode cL_law_ 248 = .ok (.ireturn, 1) := by decide +kernel
theorem dL_law__249 : decode cL_law_ 249 = .ok (.goto 1522, 3) := by decide +kernel
theorem dL_law__252 : decode cL_law_ 252 = .ok (.aload_n 1, 1) := by decide +kernel
theorem dL_law__253 : decode cL_law_ 253 = .ok (.aload_n 0, 1) := by decide +kernel
theorem dL_law__254 : decode cL_law_ 254 = .ok (.iload 4, 2) := by decide +kernel
theorem dL_law__256 : decode cL_law_ 256 = .ok (.iconst 1, 1) := by decide +kernel
theorem dL_law__257 : decode cL_law_ 257 = .ok (.iadd, 1) := by decide +kernel
theorem dL_law__258 : decode cL_law_ 258 = .ok (.iaload, 1) := by decide +kernel
theorem dL_law__259 : decode cL_law_ 259 = .ok (.aload_n 3, 1) := by decide +kernel
theorem dL_law__260 : decode cL_law_ 260 = .ok (.invokestatic 105, 3) := by decide +kernel
theorem dL_law__263 : decode cL_law_ 263 = .ok (.istore 5, 2) := by decide +kernel
theorem dL_law__265 : decode cL_law_ 265 = .ok (.aload_n 2, 1) := by decide +kernel
theorem dL_law__266 : decode cL_law_ 266 = .ok (.aload_n 0, 1) := by decide +kernel
theorem dL_law__267 : decode cL_law_ 267 = .ok (.iload 4, 2) := by decide +kernel
theorem dL_law__269 : decode cL_law_ 269 = .ok (.iconst 1, 1) := by decide +kernel
theorem dL_law__270 : decode cL_law_ 270 = .ok (.iadd, 1) := by decide +kernel
theorem dL_law__271 : decode cL_law_ 271 = .ok (.iaload, 1) := by decide +kernel
theorem dL_law__272 : decode cL_law_ 272 = .ok (.invokevirtual 108, 3) := by decide +kernel
theorem dL_law__275 : decode cL_law_ 275 = .ok (.istore 6, 2) := by decide +kernel
theorem dL_law__277 : decode cL_law_ 277 = .ok (.aload_n 2, 1) := by decide +kernel
theorem dL_law__278 : decode cL_law_ 278 = .ok (.invokevirtual 102, 3) := by decide +kernel
theorem dL_law__281 : decode cL_law_ 281 = .ok (.iload 5, 2) := by decide +kernel
theorem dL_law__283 : decode cL_law_ 283 = .ok (.if_icmp .eq 5, 3) := by decide +kernel
theorem dL_law__286 : decode cL_law_ 286 = .ok (.iconst 0, 1) := by decide +kernel
theorem dL_law__287 : decode cL_law_ 287 = .ok (.ireturn, 1) := by decide +kernel
theorem dL_law__288 : decode cL_law_ 288 = .ok (.iload 5, 2) := by decide +kernel
theorem dL_law__290 : decode cL_law_ 290 = .ok (.ifCond .ne 15, 3) := by decide +kernel
theorem dL_law__293 : decode cL_law_ 293 = .ok (.aload_n 3, 1) := by decide +kernel
theorem dL_law__294 : decode cL_law_ 294 = .ok (.iconst 0, 1) := by decide +kernel
theorem dL_law__295 : decode cL_law_ 295 = .ok (.laload, 1) := by decide +kernel
theorem dL_law__296 : decode cL_law_ 296 = .ok (.iload 6, 2) := by decide +kernel
theorem dL_law__298 : decode cL_law_ 298 = .ok (.i2l, 1) := by decide +kernel
theorem dL_law__299 : decode cL_law_ 299 = .ok (.lcmp, 1) := by decide +kernel
theorem dL_law__300 : decode cL_law_ 300 = .ok (.ifCond .eq 5, 3) := by decide +kernel
theorem dL_law__303 : decode cL_law_ 303 = .ok (.iconst 0, 1) := by decide +kernel
theorem dL_law__304 : decode cL_law_ 304 = .ok (.ireturn, 1) := by decide +kernel
theorem dL_law__305 : decode cL_law_ 305 = .ok (.goto 1466, 3) := by decide +kernel
theorem dL_law__308 : decode cL_law_ 308 = .ok (.aload_n 1, 1) := by decide +kernel
theorem dL_law__309 : decode cL_law_ 309 = .ok (.aload_n 0, 1) := by decide +kernel
theorem dL_law__310 : decode cL_law_ 310 = .ok (.iload 4, 2) := by decide +kernel
theorem dL_law__312 : decode cL_law_ 312 = .ok (.iconst 1, 1) := by decide +kernel
theorem dL_law__313 : decode cL_law_ 313 = .ok (.iadd, 1) := by decide +kernel
theorem dL_law__314 : decode cL_law_ 314 = .ok (.iaload, 1) := by decide +kernel
theorem dL_law__315 : decode cL_law_ 315 = .ok (.aload_n 0, 1) := by decide +kernel
theorem dL_law__316 : decode cL_law_ 316 = .ok (.iload 4, 2) := by decide +kernel
theorem dL_law__318 : decode cL_law_ 318 = .ok (.iconst 2, 1) := by decide +kernel
theorem dL_law__319 : decode cL_law_ 319 = .ok (.iadd, 1) := by decide +kernel
theorem dL_law__320 : decode cL_law_ 320 = .ok (.iaload, 1) := by decide +kernel
theorem dL_law__321 : decode cL_law_ 321 = .ok (.aload_n 3, 1) := by decide +kernel
theorem dL_law__322 : decode cL_law_ 322 = .ok (.invokestatic 109, 3) := by decide +kernel
theorem dL_law__325 : decode cL_law_ 325 = .ok (.istore 5, 2) := by decide +kernel
theorem dL_law__327 : decode cL_law_ 327 = .ok (.aload_n 2, 1) := by decide +kernel
theorem dL_law__328 : decode cL_law_ 328 = .ok (.aload_n 0, 1) := by decide +kernel
theorem dL_law__329 : decode cL_law_ 329 = .ok (.iload 4, 2) := by decide +kernel
theorem dL_law__331 : decode cL_law_ 331 = .ok (.iconst 1, 1) := by decide +kernel
theorem dL_law__332 : decode cL_law_ 332 = .ok (.iadd, 1) := by decide +kernel
theorem dL_law__333 : decode cL_law_ 333 = .ok (.iaload, 1) := by decide +kernel
theorem dL_law__334 : decode cL_law_ 334 = .ok (.aload_n 0, 1) := by decide +kernel
theorem dL_law__335 : decode cL_law_ 335 = .ok (.iload 4, 2) := by decide +kernel
theorem dL_law__337 : decode cL_law_ 337 = .ok (.iconst 2, 1) := by decide +kernel
theorem dL_law__338 : decode cL_law_ 338 = .ok (.iadd, 1) := by decide +kernel
theorem dL_law__339 : decode cL_law_ 339 = .ok (.iaload, 1) := by decide +kernel
theorem dL_law__340 : decode cL_law_ 340 = .ok (.invokevirtual 112, 3) := by decide +kernel
theorem dL_law__343 : decode cL_law_ 343 = .ok (.istore 6, 2) := by decide +kernel
theorem dL_law__345 : decode cL_law_ 345 = .ok (.aload_n 2, 1) := by decide +kernel
theorem dL_law__346 : decode cL_law_ 346 = .ok (.invokevirtual 102, 3) := by decide +kernel
theorem dL_law__349 : decode cL_law_ 349 = .ok (.iload 5, 2) := by decide +kernel
theorem dL_law__351 : decode cL_law_ 351 = .ok (.if_icmp .eq 5, 3) := by decide +kernel
theorem dL_law__354 : decode cL_law_ 354 = .ok (.iconst 0, 1) := by decide +kernel
theorem dL_law__355 : decode cL_law_ 355 = .ok (.ireturn, 1) := by decide +kernel
theorem dL_law__356 : decode cL_law_ 356 = .ok (.iload 5, 2) := by decide +kernel
theorem dL_law__358 : decode cL_law_ 358 = .ok (.ifCond .ne 15, 3) := by decide +kernel
