theorem dl_1288 : decode code 1288 = .ok (.aload_n 0, 1) := by decide +kernel
theorem dl_1289 : decode code 1289 = .ok (.iload 4, 2) := by decide +kernel
theorem dl_1291 : decode code 1291 = .ok (.iconst 2, 1) := by decide +kernel
theorem dl_1292 : decode code 1292 = .ok (.iadd, 1) := by decide +kernel
theorem dl_1293 : decode code 1293 = .ok (.iaload, 1) := by decide +kernel
theorem dl_1294 : decode code 1294 = .ok (.invokevirtual 136, 3) := by decide +kernel
theorem dl_1297 : decode code 1297 = .ok (.aload_n 2, 1) := by decide +kernel
theorem dl_1298 : decode code 1298 = .ok (.invokevirtual 79, 3) := by decide +kernel
theorem dl_1301 : decode code 1301 = .ok (.iload 5, 2) := by decide +kernel
theorem dl_1303 : decode code 1303 = .ok (.if_icmp .eq 5, 3) := by decide +kernel
theorem dl_1306 : decode code 1306 = .ok (.iconst 0, 1) := by decide +kernel
theorem dl_1307 : decode code 1307 = .ok (.ireturn, 1) := by decide +kernel
theorem dl_1308 : decode code 1308 = .ok (.goto 47, 3) := by decide +kernel
theorem dl_1311 : decode code 1311 = .ok (.aload_n 1, 1) := by decide +kernel
theorem dl_1312 : decode code 1312 = .ok (.aload_n 3, 1) := by decide +kernel
theorem dl_1313 : decode code 1313 = .ok (.invokestatic 137, 3) := by decide +kernel
theorem dl_1316 : decode code 1316 = .ok (.istore 5, 2) := by decide +kernel
theorem dl_1318 : decode code 1318 = .ok (.aload_n 2, 1) := by decide +kernel
theorem dl_1319 : decode code 1319 = .ok (.invokevirtual 139, 3) := by decide +kernel
theorem dl_1322 : decode code 1322 = .ok (.istore 6, 2) := by decide +kernel
theorem dl_1324 : decode code 1324 = .ok (.aload_n 2, 1) := by decide +kernel
theorem dl_1325 : decode code 1325 = .ok (.invokevirtual 79, 3) := by decide +kernel
theorem dl_1328 : decode code 1328 = .ok (.iload 5, 2) := by decide +kernel
theorem dl_1330 : decode code 1330 = .ok (.if_icmp .eq 5, 3) := by decide +kernel
theorem dl_1333 : decode code 1333 = .ok (.iconst 0, 1) := by decide +kernel
theorem dl_1334 : decode code 1334 = .ok (.ireturn, 1) := by decide +kernel
theorem dl_1335 : decode code 1335 = .ok (.iload 5, 2) := by decide +kernel
theorem dl_1337 : decode code 1337 = .ok (.ifCond .ne 15, 3) := by decide +kernel
theorem dl_1340 : decode code 1340 = .ok (.aload_n 3, 1) := by decide +kernel
theorem dl_1341 : decode code 1341 = .ok (.iconst 0, 1) := by decide +kernel
theorem dl_1342 : decode code 1342 = .ok (.laload, 1) := by decide +kernel
theorem dl_1343 : decode code 1343 = .ok (.iload 6, 2) := by decide +kernel
theorem dl_1345 : decode code 1345 = .ok (.i2l, 1) := by decide +kernel
theorem dl_1346 : decode code 1346 = .ok (.lcmp, 1) := by decide +kernel
theorem dl_1347 : decode code 1347 = .ok (.ifCond .eq 5, 3) := by decide +kernel
theorem dl_1350 : decode code 1350 = .ok (.iconst 0, 1) := by decide +kernel
theorem dl_1351 : decode code 1351 = .ok (.ireturn, 1) := by decide +kernel
theorem dl_1352 : decode code 1352 = .ok (.goto 3, 3) := by decide +kernel
theorem dl_1355 : decode code 1355 = .ok (.iinc 4 7, 3) := by decide +kernel
theorem dl_1358 : decode code 1358 = .ok (.goto (-1335), 3) := by decide +kernel
theorem dl_1361 : decode code 1361 = .ok (.iconst 1, 1) := by decide +kernel
theorem dl_1362 : decode code 1362 = .ok (.ireturn, 1) := by decide +kernel
