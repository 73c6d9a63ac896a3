theorem dX0_init_0 : decode eX0_init.2.1 0 = .ok (.aload_n 0, 1) := by decide +kernel
theorem dX0_init_1 : decode eX0_init.2.1 1 = .ok (.invokespecial 3, 3) := by decide +kernel
theorem dX0_init_4 : decode eX0_init.2.1 4 = .ok (.aload_n 0, 1) := by decide +kernel
theorem dX0_init_5 : decode eX0_init.2.1 5 = .ok (.bipush 48, 2) := by decide +kernel
theorem dX0_init_7 : decode eX0_init.2.1 7 = .ok (.newarray .int, 2) := by decide +kernel
theorem dX0_init_9 : decode eX0_init.2.1 9 = .ok (.putfield 9, 3) := by decide +kernel
theorem dX0_init_12 : decode eX0_init.2.1 12 = .ok (.aload_n 0, 1) := by decide +kernel
theorem dX0_init_13 : decode eX0_init.2.1 13 = .ok (.bipush 48, 2) := by decide +kernel
theorem dX0_init_15 : decode eX0_init.2.1 15 = .ok (.newarray .int, 2) := by decide +kernel
theorem dX0_init_17 : decode eX0_init.2.1 17 = .ok (.putfield 15, 3) := by decide +kernel
theorem dX0_init_20 : decode eX0_init.2.1 20 = .ok (.aload_n 0, 1) := by decide +kernel
theorem dX0_init_21 : decode eX0_init.2.1 21 = .ok (.bipush 48, 2) := by decide +kernel
theorem dX0_init_23 : decode eX0_init.2.1 23 = .ok (.newarray .int, 2) := by decide +kernel
theorem dX0_init_25 : decode eX0_init.2.1 25 = .ok (.putfield 18, 3) := by decide +kernel
theorem dX0_init_28 : decode eX0_init.2.1 28 = .ok (.aload_n 0, 1) := by decide +kernel
theorem dX0_init_29 : decode eX0_init.2.1 29 = .ok (.bipush 48, 2) := by decide +kernel
theorem dX0_init_31 : decode eX0_init.2.1 31 = .ok (.newarray .int, 2) := by decide +kernel
theorem dX0_init_33 : decode eX0_init.2.1 33 = .ok (.putfield 21, 3) := by decide +kernel
theorem dX0_init_36 : decode eX0_init.2.1 36 = .ok (.aload_n 0, 1) := by decide +kernel
theorem dX0_init_37 : decode eX0_init.2.1 37 = .ok (.bipush 48, 2) := by decide +kernel
theorem dX0_init_39 : decode eX0_init.2.1 39 = .ok (.newarray .boolean, 2) := by decide +kernel
theorem dX0_init_41 : decode eX0_init.2.1 41 = .ok (.putfield 24, 3) := by decide +kernel
theorem dX0_init_44 : decode eX0_init.2.1 44 = .ok (.aload_n 0, 1) := by decide +kernel
theorem dX0_init_45 : decode eX0_init.2.1 45 = .ok (.bipush 48, 2) := by decide +kernel
theorem dX0_init_47 : decode eX0_init.2.1 47 = .ok (.newarray .int, 2) := by decide +kernel
theorem dX0_init_49 : decode eX0_init.2.1 49 = .ok (.putfield 28, 3) := by decide +kernel
theorem dX0_init_52 : decode eX0_init.2.1 52 = .ok (.aload_n 0, 1) := by decide +kernel
theorem dX0_init_53 : decode eX0_init.2.1 53 = .ok (.iconst 0, 1) := by decide +kernel
theorem dX0_init_54 : decode eX0_init.2.1 54 = .ok (.putfield 31, 3) := by decide +kernel
theorem dX0_init_57 : decode eX0_init.2.1 57 = .ok (.aload_n 0, 1) := by decide +kernel
theorem dX0_init_58 : decode eX0_init.2.1 58 = .ok (.iconst 0, 1) := by decide +kernel
theorem dX0_init_59 : decode eX0_init.2.1 59 = .ok (.putfield 35, 3) := by decide +kernel
theorem dX0_init_62 : decode eX0_init.2.1 62 = .ok (.aload_n 0, 1) := by decide +kernel
theorem dX0_init_63 : decode eX0_init.2.1 63 = .ok (.ldc 38, 2) := by decide +kernel
theorem dX0_init_65 : decode eX0_init.2.1 65 = .ok (.putfield 39, 3) := by decide +kernel
theorem dX0_init_68 : decode eX0_init.2.1 68 = .ok (.return_, 1) := by decide +kernel
theorem dX0_face_0 : decode eX0_face.2.1 0 = .ok (.iconst 0, 1) := by decide +kernel
theorem dX0_face_1 : decode eX0_face.2.1 1 = .ok (.istore_n 3, 1) := by decide +kernel
theorem dX0_face_2 : decode eX0_face.2.1 2 = .ok (.iload_n 3, 1) := by decide +kernel
theorem dX0_face_3 : decode eX0_face.2.1 3 = .ok (.bipush 48, 2) := by decide +kernel
theorem dX0_face_5 : decode eX0_face.2.1 5 = .ok (.if_icmp .ge 21, 3) := by decide +kernel
theorem dX0_face_8 : decode eX0_face.2.1 8 = .ok (.aload_n 0, 1) := by decide +kernel
theorem dX0_face_9 : decode eX0_face.2.1 9 = .ok (.getfield 9, 3) := by decide +kernel
theorem dX0_face_12 : decode eX0_face.2.1 12 = .ok (.iload_n 3, 1) := by decide +kernel
theorem dX0_face_13 : decode eX0_face.2.1 13 = .ok (.aload_n 1, 1) := by decide +kernel
theorem dX0_face_14 : decode eX0_face.2.1 14 = .ok (.iload_n 2, 1) := by decide +kernel
theorem dX0_face_15 : decode eX0_face.2.1 15 = .ok (.iload_n 3, 1) := by decide +kernel
theorem dX0_face_16 : decode eX0_face.2.1 16 = .ok (.invokevirtual 42, 3) := by decide +kernel
theorem dX0_face_19 : decode eX0_face.2.1 19 = .ok (.iastore, 1) := by decide +kernel
theorem dX0_face_20 : decode eX0_face.2.1 20 = .ok (.iinc 3 1, 3) := by decide +kernel
theorem dX0_face_23 : decode eX0_face.2.1 23 = .ok (.goto (-21), 3) := by decide +kernel
theorem dX0_face_26 : decode eX0_face.2.1 26 = .ok (.return_, 1) := by decide +kernel
theorem dX0_look_0 : decode eX0_look.2.1 0 = .ok (.iconst 0, 1) := by decide +kernel
theorem dX0_look_1 : decode eX0_look.2.1 1 = .ok (.istore_n 2, 1) := by decide +kernel
theorem dX0_look_2 : decode eX0_look.2.1 2 = .ok (.iload_n 2, 1) := by decide +kernel
theorem dX0_look_3 : decode eX0_look.2.1 3 = .ok (.bipush 48, 2) := by decide +kernel
theorem dX0_look_5 : decode eX0_look.2.1 5 = .ok (.if_icmp .ge 20, 3) := by decide +kernel
theorem dX0_look_8 : decode eX0_look.2.1 8 = .ok (.aload_n 0, 1) := by decide +kernel
theorem dX0_look_9 : decode eX0_look.2.1 9 = .ok (.getfield 15, 3) := by decide +kernel
theorem dX0_look_12 : decode eX0_look.2.1 12 = .ok (.iload_n 2, 1) := by decide +kernel
theorem dX0_look_13 : decode eX0_look.2.1 13 = .ok (.aload_n 1, 1) := by decide +kernel
theorem dX0_look_14 : decode eX0_look.2.1 14 = .ok (.iload_n 2, 1) := by decide +kernel
theorem dX0_look_15 : decode eX0_look.2.1 15 = .ok (.invokevirtual 48, 3) := by decide +kernel
theorem dX0_look_18 : decode eX0_look.2.1 18 = .ok (.iastore, 1) := by decide +kernel
theorem dX0_look_19 : decode eX0_look.2.1 19 = .ok (.iinc 2 1, 3) := by decide +kernel
theorem dX0_look_22 : decode eX0_look.2.1 22 = .ok (.goto (-20), 3) := by decide +kernel
theorem dX0_look_25 : decode eX0_look.2.1 25 = .ok (.return_, 1) := by decide +kernel
theorem dX0_findMoves_0 : decode eX0_findMoves.2.1 0 = .ok (.iconst 0, 1) := by decide +kernel
theorem dX0_findMoves_1 : decode eX0_findMoves.2.1 1 = .ok (.istore_n 2, 1) := by decide +kernel
theorem dX0_findMoves_2 : decode eX0_findMoves.2.1 2 = .ok (.iload_n 2, 1) := by decide +kernel
theorem dX0_findMoves_3 : decode eX0_findMoves.2.1 3 = .ok (.bipush 48, 2) := by decide +kernel
theorem dX0_findMoves_5 : decode eX0_findMoves.2.1 5 = .ok (.if_icmp .ge 31, 3) := by decide +kernel
theorem dX0_findMoves_8 : decode eX0_findMoves.2.1 8 = .ok (.aload_n 0, 1) := by decide +kernel
theorem dX0_findMoves_9 : decode eX0_findMoves.2.1 9 = .ok (.getfield 21, 3) := by decide +kernel
theorem dX0_findMoves_12 : decode eX0_findMoves.2.1 12 = .ok (.iload_n 2, 1) := by decide +kernel
theorem dX0_findMoves_13 : decode eX0_findMoves.2.1 13 = .ok (.aload_n 0, 1) := by decide +kernel
theorem dX0_findMoves_14 : decode eX0_findMoves.2.1 14 = .ok (.getfield 15, 3) := by decide +kernel
theorem dX0_findMoves_17 : decode eX0_findMoves.2.1 17 = .ok (.iload_n 2, 1) := by decide +kernel
theorem dX0_findMoves_18 : decode eX0_findMoves.2.1 18 = .ok (.iaload, 1) := by decide +kernel
theorem dX0_findMoves_19 : decode eX0_findMoves.2.1 19 = .ok (.aload_n 1, 1) := by decide +kernel
theorem dX0_findMoves_20 : decode eX0_findMoves.2.1 20 = .ok (.getfield 54, 3) := by decide +kernel
theorem dX0_findMoves_23 : decode eX0_findMoves.2.1 23 = .ok (.iload_n 2, 1) := by decide +kernel
theorem dX0_findMoves_24 : decode eX0_findMoves.2.1 24 = .ok (.iaload, 1) := by decide +kernel
theorem dX0_findMoves_25 : decode eX0_findMoves.2.1 25 = .ok (.isub, 1) := by decide +kernel
theorem dX0_findMoves_26 : decode eX0_findMoves.2.1 26 = .ok (.invokestatic 57, 3) := by decide +kernel
theorem dX0_findMoves_29 : decode eX0_findMoves.2.1 29 = .ok (.iastore, 1) := by decide +kernel
theorem dX0_findMoves_30 : decode eX0_findMoves.2.1 30 = .ok (.iinc 2 1, 3) := by decide +kernel
theorem dX0_findMoves_33 : decode eX0_findMoves.2.1 33 = .ok (.goto (-31), 3) := by decide +kernel
theorem dX0_findMoves_36 : decode eX0_findMoves.2.1 36 = .ok (.return_, 1) := by decide +kernel
theorem dX0_findEdges_0 : decode eX0_findEdges.2.1 0 = .ok (.iconst 0, 1) := by decide +kernel
theorem dX0_findEdges_1 : decode eX0_findEdges.2.1 1 = .ok (.istore_n 2, 1) := by decide +kernel
theorem dX0_findEdges_2 : decode eX0_findEdges.2.1 2 = .ok (.iload_n 2, 1) := by decide +kernel
theorem dX0_findEdges_3 : decode eX0_findEdges.2.1 3 = .ok (.bipush 48, 2) := by decide +kernel
theorem dX0_findEdges_5 : decode eX0_findEdges.2.1 5 = .ok (.if_icmp .ge 16, 3) := by decide +kernel
theorem dX0_findEdges_8 : decode eX0_findEdges.2.1 8 = .ok (.aload_n 0, 1) := by decide +kernel
theorem dX0_findEdges_9 : decode eX0_findEdges.2.1 9 = .ok (.getfield 18, 3) := by decide +kernel
theorem dX0_findEdges_12 : decode eX0_findEdges.2.1 12 = .ok (.iload_n 2, 1) := by decide +kernel
theorem dX0_findEdges_13 : decode eX0_findEdges.2.1 13 = .ok (.iconst 0, 1) := by decide +kernel
theorem dX0_findEdges_14 : decode eX0_findEdges.2.1 14 = .ok (.iastore, 1) := by decide +kernel
theorem dX0_findEdges_15 : decode eX0_findEdges.2.1 15 = .ok (.iinc 2 1, 3) := by decide +kernel
theorem dX0_findEdges_18 : decode eX0_findEdges.2.1 18 = .ok (.goto (-16), 3) := by decide +kernel
theorem dX0_findEdges_21 : decode eX0_findEdges.2.1 21 = .ok (.iconst 0, 1) := by decide +kernel
theorem dX0_findEdges_22 : decode eX0_findEdges.2.1 22 = .ok (.istore_n 2, 1) := by decide +kernel
theorem dX0_findEdges_23 : decode eX0_findEdges.2.1 23 = .ok (.iload_n 2, 1) := by decide +kernel
theorem dX0_findEdges_24 : decode eX0_findEdges.2.1 24 = .ok (.bipush 48, 2) := by decide +kernel
theorem dX0_findEdges_26 : decode eX0_findEdges.2.1 26 = .ok (.if_icmp .ge 43, 3) := by decide +kernel
theorem dX0_findEdges_29 : decode eX0_findEdges.2.1 29 = .ok (.iload_n 2, 1) := by decide +kernel
theorem dX0_findEdges_30 : decode eX0_findEdges.2.1 30 = .ok (.bipush 8, 2) := by decide +kernel
theorem dX0_findEdges_32 : decode eX0_findEdges.2.1 32 = .ok (.irem, 1) := by decide +kernel
theorem dX0_findEdges_33 : decode eX0_findEdges.2.1 33 = .ok (.bipush 7, 2) := by decide +kernel
theorem dX0_findEdges_35 : decode eX0_findEdges.2.1 35 = .ok (.if_icmp .eq 12, 3) := by decide +kernel
theorem dX0_findEdges_38 : decode eX0_findEdges.2.1 38 = .ok (.aload_n 0, 1) := by decide +kernel
theorem dX0_findEdges_39 : decode eX0_findEdges.2.1 39 = .ok (.iload_n 2, 1) := by decide +kernel
theorem dX0_findEdges_40 : decode eX0_findEdges.2.1 40 = .ok (.iload_n 2, 1) := by decide +kernel
theorem dX0_findEdges_41 : decode eX0_findEdges.2.1 41 = .ok (.iconst 1, 1) := by decide +kernel
theorem dX0_findEdges_42 : decode eX0_findEdges.2.1 42 = .ok (.iadd, 1) := by decide +kernel
theorem dX0_findEdges_43 : decode eX0_findEdges.2.1 43 = .ok (.iload_n 1, 1) := by decide +kernel
theorem dX0_findEdges_44 : decode eX0_findEdges.2.1 44 = .ok (.invokevirtual 62, 3) := by decide +kernel
theorem dX0_findEdges_47 : decode eX0_findEdges.2.1 47 = .ok (.iload_n 2, 1) := by decide +kernel
theorem dX0_findEdges_48 : decode eX0_findEdges.2.1 48 = .ok (.bipush 40, 2) := by decide +kernel
theorem dX0_findEdges_50 : decode eX0_findEdges.2.1 50 = .ok (.if_icmp .ge 13, 3) := by decide +kernel
theorem dX0_findEdges_53 : decode eX0_findEdges.2.1 53 = .ok (.aload_n 0, 1) := by decide +kernel
theorem dX0_findEdges_54 : decode eX0_findEdges.2.1 54 = .ok (.iload_n 2, 1) := by decide +kernel
theorem dX0_findEdges_55 : decode eX0_findEdges.2.1 55 = .ok (.iload_n 2, 1) := by decide +kernel
theorem dX0_findEdges_56 : decode eX0_findEdges.2.1 56 = .ok (.bipush 8, 2) := by decide +kernel
theorem dX0_findEdges_58 : decode eX0_findEdges.2.1 58 = .ok (.iadd, 1) := by decide +kernel
theorem dX0_findEdges_59 : decode eX0_findEdges.2.1 59 = .ok (.iload_n 1, 1) := by decide +kernel
theorem dX0_findEdges_60 : decode eX0_findEdges.2.1 60 = .ok (.invokevirtual 62, 3) := by decide +kernel
theorem dX0_findEdges_63 : decode eX0_findEdges.2.1 63 = .ok (.iinc 2 1, 3) := by decide +kernel
theorem dX0_findEdges_66 : decode eX0_findEdges.2.1 66 = .ok (.goto (-43), 3) := by decide +kernel
theorem dX0_findEdges_69 : decode eX0_findEdges.2.1 69 = .ok (.return_, 1) := by decide +kernel
theorem dX0_markEdge_0 : decode eX0_markEdge.2.1 0 = .ok (.aload_n 0, 1) := by decide +kernel
theorem dX0_markEdge_1 : decode eX0_markEdge.2.1 1 = .ok (.getfield 15, 3) := by decide +kernel
theorem dX0_markEdge_4 : decode eX0_markEdge.2.1 4 = .ok (.iload_n 1, 1) := by decide +kernel
theorem dX0_markEdge_5 : decode eX0_markEdge.2.1 5 = .ok (.iaload, 1) := by decide +kernel
theorem dX0_markEdge_6 : decode eX0_markEdge.2.1 6 = .ok (.aload_n 0, 1) := by decide +kernel
theorem dX0_markEdge_7 : decode eX0_markEdge.2.1 7 = .ok (.getfield 15, 3) := by decide +kernel
theorem dX0_markEdge_10 : decode eX0_markEdge.2.1 10 = .ok (.iload_n 2, 1) := by decide +kernel
theorem dX0_markEdge_11 : decode eX0_markEdge.2.1 11 = .ok (.iaload, 1) := by decide +kernel
theorem dX0_markEdge_12 : decode eX0_markEdge.2.1 12 = .ok (.isub, 1) := by decide +kernel
theorem dX0_markEdge_13 : decode eX0_markEdge.2.1 13 = .ok (.invokestatic 57, 3) := by decide +kernel
theorem dX0_markEdge_16 : decode eX0_markEdge.2.1 16 = .ok (.iload_n 3, 1) := by decide +kernel
theorem dX0_markEdge_17 : decode eX0_markEdge.2.1 17 = .ok (.if_icmp .lt 23, 3) := by decide +kernel
theorem dX0_markEdge_20 : decode eX0_markEdge.2.1 20 = .ok (.aload_n 0, 1) := by decide +kernel
theorem dX0_markEdge_21 : decode eX0_markEdge.2.1 21 = .ok (.getfield 18, 3) := by decide +kernel
theorem dX0_markEdge_24 : decode eX0_markEdge.2.1 24 = .ok (.iload_n 1, 1) := by decide +kernel
theorem dX0_markEdge_25 : decode eX0_markEdge.2.1 25 = .ok (.dup2, 1) := by decide +kernel
theorem dX0_markEdge_26 : decode eX0_markEdge.2.1 26 = .ok (.iaload, 1) := by decide +kernel
theorem dX0_markEdge_27 : decode eX0_markEdge.2.1 27 = .ok (.iconst 1, 1) := by decide +kernel
theorem dX0_markEdge_28 : decode eX0_markEdge.2.1 28 = .ok (.iadd, 1) := by decide +kernel
theorem dX0_markEdge_29 : decode eX0_markEdge.2.1 29 = .ok (.iastore, 1) := by decide +kernel
theorem dX0_markEdge_30 : decode eX0_markEdge.2.1 30 = .ok (.aload_n 0, 1) := by decide +kernel
theorem dX0_markEdge_31 : decode eX0_markEdge.2.1 31 = .ok (.getfield 18, 3) := by decide +kernel
theorem dX0_markEdge_34 : decode eX0_markEdge.2.1 34 = .ok (.iload_n 2, 1) := by decide +kernel
theorem dX0_markEdge_35 : decode eX0_markEdge.2.1 35 = .ok (.dup2, 1) := by decide +kernel
theorem dX0_markEdge_36 : decode eX0_markEdge.2.1 36 = .ok (.iaload, 1) := by decide +kernel
theorem dX0_markEdge_37 : decode eX0_markEdge.2.1 37 = .ok (.iconst 1, 1) := by decide +kernel
theorem dX0_markEdge_38 : decode eX0_markEdge.2.1 38 = .ok (.iadd, 1) := by decide +kernel
theorem dX0_markEdge_39 : decode eX0_markEdge.2.1 39 = .ok (.iastore, 1) := by decide +kernel
theorem dX0_markEdge_40 : decode eX0_markEdge.2.1 40 = .ok (.return_, 1) := by decide +kernel
theorem dX0_sees_0 : decode eX0_sees.2.1 0 = .ok (.aload_n 0, 1) := by decide +kernel
theorem dX0_sees_1 : decode eX0_sees.2.1 1 = .ok (.getfield 15, 3) := by decide +kernel
theorem dX0_sees_4 : decode eX0_sees.2.1 4 = .ok (.iload_n 1, 1) := by decide +kernel
theorem dX0_sees_5 : decode eX0_sees.2.1 5 = .ok (.iaload, 1) := by decide +kernel
theorem dX0_sees_6 : decode eX0_sees.2.1 6 = .ok (.aload_n 0, 1) := by decide +kernel
theorem dX0_sees_7 : decode eX0_sees.2.1 7 = .ok (.getfield 9, 3) := by decide +kernel
theorem dX0_sees_10 : decode eX0_sees.2.1 10 = .ok (.iload_n 1, 1) := by decide +kernel
theorem dX0_sees_11 : decode eX0_sees.2.1 11 = .ok (.iaload, 1) := by decide +kernel
theorem dX0_sees_12 : decode eX0_sees.2.1 12 = .ok (.isub, 1) := by decide +kernel
theorem dX0_sees_13 : decode eX0_sees.2.1 13 = .ok (.invokestatic 57, 3) := by decide +kernel
theorem dX0_sees_16 : decode eX0_sees.2.1 16 = .ok (.istore 4, 2) := by decide +kernel
theorem dX0_sees_18 : decode eX0_sees.2.1 18 = .ok (.iload_n 3, 1) := by decide +kernel
theorem dX0_sees_19 : decode eX0_sees.2.1 19 = .ok (.ldc 38, 2) := by decide +kernel
theorem dX0_sees_21 : decode eX0_sees.2.1 21 = .ok (.if_icmp .ne 16, 3) := by decide +kernel
theorem dX0_sees_24 : decode eX0_sees.2.1 24 = .ok (.iload 4, 2) := by decide +kernel
theorem dX0_sees_26 : decode eX0_sees.2.1 26 = .ok (.bipush 9, 2) := by decide +kernel
theorem dX0_sees_28 : decode eX0_sees.2.1 28 = .ok (.if_icmp .le 7, 3) := by decide +kernel
theorem dX0_sees_31 : decode eX0_sees.2.1 31 = .ok (.iconst 1, 1) := by decide +kernel
theorem dX0_sees_32 : decode eX0_sees.2.1 32 = .ok (.goto 4, 3) := by decide +kernel
theorem dX0_sees_35 : decode eX0_sees.2.1 35 = .ok (.iconst 0, 1) := by decide +kernel
theorem dX0_sees_36 : decode eX0_sees.2.1 36 = .ok (.ireturn, 1) := by decide +kernel
theorem dX0_sees_37 : decode eX0_sees.2.1 37 = .ok (.aload_n 2, 1) := by decide +kernel
theorem dX0_sees_38 : decode eX0_sees.2.1 38 = .ok (.iload_n 3, 1) := by decide +kernel
theorem dX0_sees_39 : decode eX0_sees.2.1 39 = .ok (.iload 4, 2) := by decide +kernel
theorem dX0_sees_41 : decode eX0_sees.2.1 41 = .ok (.aload_n 0, 1) := by decide +kernel
theorem dX0_sees_42 : decode eX0_sees.2.1 42 = .ok (.getfield 9, 3) := by decide +kernel
theorem dX0_sees_45 : decode eX0_sees.2.1 45 = .ok (.iload_n 1, 1) := by decide +kernel
theorem dX0_sees_46 : decode eX0_sees.2.1 46 = .ok (.iaload, 1) := by decide +kernel
theorem dX0_sees_47 : decode eX0_sees.2.1 47 = .ok (.aload_n 0, 1) := by decide +kernel
theorem dX0_sees_48 : decode eX0_sees.2.1 48 = .ok (.getfield 21, 3) := by decide +kernel
theorem dX0_sees_51 : decode eX0_sees.2.1 51 = .ok (.iload_n 1, 1) := by decide +kernel
theorem dX0_sees_52 : decode eX0_sees.2.1 52 = .ok (.iaload, 1) := by decide +kernel
theorem dX0_sees_53 : decode eX0_sees.2.1 53 = .ok (.aload_n 0, 1) := by decide +kernel
theorem dX0_sees_54 : decode eX0_sees.2.1 54 = .ok (.getfield 18, 3) := by decide +kernel
theorem dX0_sees_57 : decode eX0_sees.2.1 57 = .ok (.iload_n 1, 1) := by decide +kernel
theorem dX0_sees_58 : decode eX0_sees.2.1 58 = .ok (.iaload, 1) := by decide +kernel
theorem dX0_sees_59 : decode eX0_sees.2.1 59 = .ok (.invokevirtual 66, 3) := by decide +kernel
theorem dX0_sees_62 : decode eX0_sees.2.1 62 = .ok (.ifCond .eq 7, 3) := by decide +kernel
theorem dX0_sees_65 : decode eX0_sees.2.1 65 = .ok (.iconst 1, 1) := by decide +kernel
theorem dX0_sees_66 : decode eX0_sees.2.1 66 = .ok (.goto 4, 3) := by decide +kernel
theorem dX0_sees_69 : decode eX0_sees.2.1 69 = .ok (.iconst 0, 1) := by decide +kernel
theorem dX0_sees_70 : decode eX0_sees.2.1 70 = .ok (.ireturn, 1) := by decide +kernel
theorem dX0_spotAll_0 : decode eX0_spotAll.2.1 0 = .ok (.iconst 0, 1) := by decide +kernel
theorem dX0_spotAll_1 : decode eX0_spotAll.2.1 1 = .ok (.istore_n 3, 1) := by decide +kernel
theorem dX0_spotAll_2 : decode eX0_spotAll.2.1 2 = .ok (.iconst 0, 1) := by decide +kernel
theorem dX0_spotAll_3 : decode eX0_spotAll.2.1 3 = .ok (.istore 4, 2) := by decide +kernel
theorem dX0_spotAll_5 : decode eX0_spotAll.2.1 5 = .ok (.iload 4, 2) := by decide +kernel
theorem dX0_spotAll_7 : decode eX0_spotAll.2.1 7 = .ok (.bipush 48, 2) := by decide +kernel
theorem dX0_spotAll_9 : decode eX0_spotAll.2.1 9 = .ok (.if_icmp .ge 42, 3) := by decide +kernel
theorem dX0_spotAll_12 : decode eX0_spotAll.2.1 12 = .ok (.aload_n 0, 1) := by decide +kernel
theorem dX0_spotAll_13 : decode eX0_spotAll.2.1 13 = .ok (.getfield 24, 3) := by decide +kernel
theorem dX0_spotAll_16 : decode eX0_spotAll.2.1 16 = .ok (.iload 4, 2) := by decide +kernel
theorem dX0_spotAll_18 : decode eX0_spotAll.2.1 18 = .ok (.aload_n 0, 1) := by decide +kernel
theorem dX0_spotAll_19 : decode eX0_spotAll.2.1 19 = .ok (.iload 4, 2) := by decide +kernel
theorem dX0_spotAll_21 : decode eX0_spotAll.2.1 21 = .ok (.aload_n 1, 1) := by decide +kernel
theorem dX0_spotAll_22 : decode eX0_spotAll.2.1 22 = .ok (.iload_n 2, 1) := by decide +kernel
theorem dX0_spotAll_23 : decode eX0_spotAll.2.1 23 = .ok (.invokevirtual 72, 3) := by decide +kernel
theorem dX0_spotAll_26 : decode eX0_spotAll.2.1 26 = .ok (.bastore, 1) := by decide +kernel
theorem dX0_spotAll_27 : decode eX0_spotAll.2.1 27 = .ok (.iload_n 3, 1) := by decide +kernel
theorem dX0_spotAll_28 : decode eX0_spotAll.2.1 28 = .ok (.aload_n 0, 1) := by decide +kernel
theorem dX0_spotAll_29 : decode eX0_spotAll.2.1 29 = .ok (.getfield 24, 3) := by decide +kernel
theorem dX0_spotAll_32 : decode eX0_spotAll.2.1 32 = .ok (.iload 4, 2) := by decide +kernel
theorem dX0_spotAll_34 : decode eX0_spotAll.2.1 34 = .ok (.baload, 1) := by decide +kernel
theorem dX0_spotAll_35 : decode eX0_spotAll.2.1 35 = .ok (.ifCond .eq 7, 3) := by decide +kernel
theorem dX0_spotAll_38 : decode eX0_spotAll.2.1 38 = .ok (.iconst 1, 1) := by decide +kernel
theorem dX0_spotAll_39 : decode eX0_spotAll.2.1 39 = .ok (.goto 4, 3) := by decide +kernel
theorem dX0_spotAll_42 : decode eX0_spotAll.2.1 42 = .ok (.iconst 0, 1) := by decide +kernel
theorem dX0_spotAll_43 : decode eX0_spotAll.2.1 43 = .ok (.iadd, 1) := by decide +kernel
theorem dX0_spotAll_44 : decode eX0_spotAll.2.1 44 = .ok (.istore_n 3, 1) := by decide +kernel
theorem dX0_spotAll_45 : decode eX0_spotAll.2.1 45 = .ok (.iinc 4 1, 3) := by decide +kernel
theorem dX0_spotAll_48 : decode eX0_spotAll.2.1 48 = .ok (.goto (-43), 3) := by decide +kernel
theorem dX0_spotAll_51 : decode eX0_spotAll.2.1 51 = .ok (.iload_n 3, 1) := by decide +kernel
theorem dX0_spotAll_52 : decode eX0_spotAll.2.1 52 = .ok (.ireturn, 1) := by decide +kernel
theorem dX0_allDiffering_0 : decode eX0_allDiffering.2.1 0 = .ok (.iconst 0, 1) := by decide +kernel
theorem dX0_allDiffering_1 : decode eX0_allDiffering.2.1 1 = .ok (.istore_n 1, 1) := by decide +kernel
theorem dX0_allDiffering_2 : decode eX0_allDiffering.2.1 2 = .ok (.iconst 0, 1) := by decide +kernel
theorem dX0_allDiffering_3 : decode eX0_allDiffering.2.1 3 = .ok (.istore_n 2, 1) := by decide +kernel
theorem dX0_allDiffering_4 : decode eX0_allDiffering.2.1 4 = .ok (.iload_n 2, 1) := by decide +kernel
theorem dX0_allDiffering_5 : decode eX0_allDiffering.2.1 5 = .ok (.bipush 48, 2) := by decide +kernel
theorem dX0_allDiffering_7 : decode eX0_allDiffering.2.1 7 = .ok (.if_icmp .ge 28, 3) := by decide +kernel
theorem dX0_allDiffering_10 : decode eX0_allDiffering.2.1 10 = .ok (.iload_n 1, 1) := by decide +kernel
theorem dX0_allDiffering_11 : decode eX0_allDiffering.2.1 11 = .ok (.aload_n 0, 1) := by decide +kernel
theorem dX0_allDiffering_12 : decode eX0_allDiffering.2.1 12 = .ok (.getfield 15, 3) := by decide +kernel
theorem dX0_allDiffering_15 : decode eX0_allDiffering.2.1 15 = .ok (.iload_n 2, 1) := by decide +kernel
theorem dX0_allDiffering_16 : decode eX0_allDiffering.2.1 16 = .ok (.iaload, 1) := by decide +kernel
theorem dX0_allDiffering_17 : decode eX0_allDiffering.2.1 17 = .ok (.aload_n 0, 1) := by decide +kernel
theorem dX0_allDiffering_18 : decode eX0_allDiffering.2.1 18 = .ok (.getfield 9, 3) := by decide +kernel
theorem dX0_allDiffering_21 : decode eX0_allDiffering.2.1 21 = .ok (.iload_n 2, 1) := by decide +kernel
theorem dX0_allDiffering_22 : decode eX0_allDiffering.2.1 22 = .ok (.iaload, 1) := by decide +kernel
theorem dX0_allDiffering_23 : decode eX0_allDiffering.2.1 23 = .ok (.isub, 1) := by decide +kernel
theorem dX0_allDiffering_24 : decode eX0_allDiffering.2.1 24 = .ok (.invokestatic 57, 3) := by decide +kernel
theorem dX0_allDiffering_27 : decode eX0_allDiffering.2.1 27 = .ok (.iadd, 1) := by decide +kernel
theorem dX0_allDiffering_28 : decode eX0_allDiffering.2.1 28 = .ok (.istore_n 1, 1) := by decide +kernel
theorem dX0_allDiffering_29 : decode eX0_allDiffering.2.1 29 = .ok (.iinc 2 1, 3) := by decide +kernel
theorem dX0_allDiffering_32 : decode eX0_allDiffering.2.1 32 = .ok (.goto (-28), 3) := by decide +kernel
theorem dX0_allDiffering_35 : decode eX0_allDiffering.2.1 35 = .ok (.iload_n 1, 1) := by decide +kernel
theorem dX0_allDiffering_36 : decode eX0_allDiffering.2.1 36 = .ok (.ireturn, 1) := by decide +kernel
theorem dX0_gather_0 : decode eX0_gather.2.1 0 = .ok (.aload_n 0, 1) := by decide +kernel
theorem dX0_gather_1 : decode eX0_gather.2.1 1 = .ok (.iconst 0, 1) := by decide +kernel
theorem dX0_gather_2 : decode eX0_gather.2.1 2 = .ok (.putfield 31, 3) := by decide +kernel
theorem dX0_gather_5 : decode eX0_gather.2.1 5 = .ok (.aload_n 0, 1) := by decide +kernel
theorem dX0_gather_6 : decode eX0_gather.2.1 6 = .ok (.iconst 0, 1) := by decide +kernel
theorem dX0_gather_7 : decode eX0_gather.2.1 7 = .ok (.putfield 35, 3) := by decide +kernel
theorem dX0_gather_10 : decode eX0_gather.2.1 10 = .ok (.aload_n 0, 1) := by decide +kernel
theorem dX0_gather_11 : decode eX0_gather.2.1 11 = .ok (.ldc 38, 2) := by decide +kernel
theorem dX0_gather_13 : decode eX0_gather.2.1 13 = .ok (.putfield 39, 3) := by decide +kernel
theorem dX0_gather_16 : decode eX0_gather.2.1 16 = .ok (.iconst 0, 1) := by decide +kernel
theorem dX0_gather_17 : decode eX0_gather.2.1 17 = .ok (.istore_n 1, 1) := by decide +kernel
theorem dX0_gather_18 : decode eX0_gather.2.1 18 = .ok (.iload_n 1, 1) := by decide +kernel
theorem dX0_gather_19 : decode eX0_gather.2.1 19 = .ok (.bipush 48, 2) := by decide +kernel
theorem dX0_gather_21 : decode eX0_gather.2.1 21 = .ok (.if_icmp .ge 64, 3) := by decide +kernel
theorem dX0_gather_24 : decode eX0_gather.2.1 24 = .ok (.aload_n 0, 1) := by decide +kernel
theorem dX0_gather_25 : decode eX0_gather.2.1 25 = .ok (.getfield 24, 3) := by decide +kernel
theorem dX0_gather_28 : decode eX0_gather.2.1 28 = .ok (.iload_n 1, 1) := by decide +kernel
theorem dX0_gather_29 : decode eX0_gather.2.1 29 = .ok (.baload, 1) := by decide +kernel
theorem dX0_gather_30 : decode eX0_gather.2.1 30 = .ok (.ifCond .eq 11, 3) := by decide +kernel
theorem dX0_gather_33 : decode eX0_gather.2.1 33 = .ok (.aload_n 0, 1) := by decide +kernel
theorem dX0_gather_34 : decode eX0_gather.2.1 34 = .ok (.iload_n 1, 1) := by decide +kernel
theorem dX0_gather_35 : decode eX0_gather.2.1 35 = .ok (.invokevirtual 76, 3) := by decide +kernel
theorem dX0_gather_38 : decode eX0_gather.2.1 38 = .ok (.goto 4, 3) := by decide +kernel
theorem dX0_gather_41 : decode eX0_gather.2.1 41 = .ok (.iconst 0, 1) := by decide +kernel
theorem dX0_gather_42 : decode eX0_gather.2.1 42 = .ok (.istore_n 2, 1) := by decide +kernel
theorem dX0_gather_43 : decode eX0_gather.2.1 43 = .ok (.aload_n 0, 1) := by decide +kernel
theorem dX0_gather_44 : decode eX0_gather.2.1 44 = .ok (.dup, 1) := by decide +kernel
theorem dX0_gather_45 : decode eX0_gather.2.1 45 = .ok (.getfield 31, 3) := by decide +kernel
theorem dX0_gather_48 : decode eX0_gather.2.1 48 = .ok (.iload_n 2, 1) := by decide +kernel
theorem dX0_gather_49 : decode eX0_gather.2.1 49 = .ok (.ifCond .le 7, 3) := by decide +kernel
theorem dX0_gather_52 : decode eX0_gather.2.1 52 = .ok (.iconst 1, 1) := by decide +kernel
theorem dX0_gather_53 : decode eX0_gather.2.1 53 = .ok (.goto 4, 3) := by decide +kernel
theorem dX0_gather_56 : decode eX0_gather.2.1 56 = .ok (.iconst 0, 1) := by decide +kernel
theorem dX0_gather_57 : decode eX0_gather.2.1 57 = .ok (.iadd, 1) := by decide +kernel
theorem dX0_gather_58 : decode eX0_gather.2.1 58 = .ok (.putfield 31, 3) := by decide +kernel
theorem dX0_gather_61 : decode eX0_gather.2.1 61 = .ok (.iload_n 2, 1) := by decide +kernel
theorem dX0_gather_62 : decode eX0_gather.2.1 62 = .ok (.aload_n 0, 1) := by decide +kernel
theorem dX0_gather_63 : decode eX0_gather.2.1 63 = .ok (.getfield 35, 3) := by decide +kernel
theorem dX0_gather_66 : decode eX0_gather.2.1 66 = .ok (.if_icmp .le 13, 3) := by decide +kernel
theorem dX0_gather_69 : decode eX0_gather.2.1 69 = .ok (.aload_n 0, 1) := by decide +kernel
theorem dX0_gather_70 : decode eX0_gather.2.1 70 = .ok (.iload_n 2, 1) := by decide +kernel
theorem dX0_gather_71 : decode eX0_gather.2.1 71 = .ok (.putfield 35, 3) := by decide +kernel
theorem dX0_gather_74 : decode eX0_gather.2.1 74 = .ok (.aload_n 0, 1) := by decide +kernel
theorem dX0_gather_75 : decode eX0_gather.2.1 75 = .ok (.iload_n 1, 1) := by decide +kernel
theorem dX0_gather_76 : decode eX0_gather.2.1 76 = .ok (.putfield 39, 3) := by decide +kernel
theorem dX0_gather_79 : decode eX0_gather.2.1 79 = .ok (.iinc 1 1, 3) := by decide +kernel
theorem dX0_gather_82 : decode eX0_gather.2.1 82 = .ok (.goto (-64), 3) := by decide +kernel
theorem dX0_gather_85 : decode eX0_gather.2.1 85 = .ok (.return_, 1) := by decide +kernel
theorem dX0_follow_0 : decode eX0_follow.2.1 0 = .ok (.aload_n 0, 1) := by decide +kernel
theorem dX0_follow_1 : decode eX0_follow.2.1 1 = .ok (.getfield 28, 3) := by decide +kernel
theorem dX0_follow_4 : decode eX0_follow.2.1 4 = .ok (.iconst 0, 1) := by decide +kernel
theorem dX0_follow_5 : decode eX0_follow.2.1 5 = .ok (.iload_n 1, 1) := by decide +kernel
theorem dX0_follow_6 : decode eX0_follow.2.1 6 = .ok (.iastore, 1) := by decide +kernel
theorem dX0_follow_7 : decode eX0_follow.2.1 7 = .ok (.aload_n 0, 1) := by decide +kernel
theorem dX0_follow_8 : decode eX0_follow.2.1 8 = .ok (.getfield 24, 3) := by decide +kernel
theorem dX0_follow_11 : decode eX0_follow.2.1 11 = .ok (.iload_n 1, 1) := by decide +kernel
theorem dX0_follow_12 : decode eX0_follow.2.1 12 = .ok (.iconst 0, 1) := by decide +kernel
theorem dX0_follow_13 : decode eX0_follow.2.1 13 = .ok (.bastore, 1) := by decide +kernel
theorem dX0_follow_14 : decode eX0_follow.2.1 14 = .ok (.iconst 1, 1) := by decide +kernel
theorem dX0_follow_15 : decode eX0_follow.2.1 15 = .ok (.istore_n 2, 1) := by decide +kernel
theorem dX0_follow_16 : decode eX0_follow.2.1 16 = .ok (.iconst 0, 1) := by decide +kernel
theorem dX0_follow_17 : decode eX0_follow.2.1 17 = .ok (.istore_n 3, 1) := by decide +kernel
theorem dX0_follow_18 : decode eX0_follow.2.1 18 = .ok (.iload_n 3, 1) := by decide +kernel
theorem dX0_follow_19 : decode eX0_follow.2.1 19 = .ok (.iload_n 2, 1) := by decide +kernel
theorem dX0_follow_20 : decode eX0_follow.2.1 20 = .ok (.if_icmp .ge 85, 3) := by decide +kernel
theorem dX0_follow_23 : decode eX0_follow.2.1 23 = .ok (.iload_n 3, 1) := by decide +kernel
theorem dX0_follow_24 : decode eX0_follow.2.1 24 = .ok (.bipush 48, 2) := by decide +kernel
theorem dX0_follow_26 : decode eX0_follow.2.1 26 = .ok (.if_icmp .ge 79, 3) := by decide +kernel
theorem dX0_follow_29 : decode eX0_follow.2.1 29 = .ok (.iconst 0, 1) := by decide +kernel
theorem dX0_follow_30 : decode eX0_follow.2.1 30 = .ok (.istore 4, 2) := by decide +kernel
theorem dX0_follow_32 : decode eX0_follow.2.1 32 = .ok (.iload 4, 2) := by decide +kernel
theorem dX0_follow_34 : decode eX0_follow.2.1 34 = .ok (.iconst 4, 1) := by decide +kernel
theorem dX0_follow_35 : decode eX0_follow.2.1 35 = .ok (.if_icmp .ge 64, 3) := by decide +kernel
theorem dX0_follow_38 : decode eX0_follow.2.1 38 = .ok (.aload_n 0, 1) := by decide +kernel
theorem dX0_follow_39 : decode eX0_follow.2.1 39 = .ok (.getfield 28, 3) := by decide +kernel
theorem dX0_follow_42 : decode eX0_follow.2.1 42 = .ok (.iload_n 3, 1) := by decide +kernel
theorem dX0_follow_43 : decode eX0_follow.2.1 43 = .ok (.iaload, 1) := by decide +kernel
theorem dX0_follow_44 : decode eX0_follow.2.1 44 = .ok (.iload 4, 2) := by decide +kernel
theorem dX0_follow_46 : decode eX0_follow.2.1 46 = .ok (.invokestatic 79, 3) := by decide +kernel
theorem dX0_follow_49 : decode eX0_follow.2.1 49 = .ok (.istore 5, 2) := by decide +kernel
theorem dX0_follow_51 : decode eX0_follow.2.1 51 = .ok (.iload 5, 2) := by decide +kernel
theorem dX0_follow_53 : decode eX0_follow.2.1 53 = .ok (.ldc 38, 2) := by decide +kernel
theorem dX0_follow_55 : decode eX0_follow.2.1 55 = .ok (.if_icmp .eq 38, 3) := by decide +kernel
theorem dX0_follow_58 : decode eX0_follow.2.1 58 = .ok (.aload_n 0, 1) := by decide +kernel
theorem dX0_follow_59 : decode eX0_follow.2.1 59 = .ok (.getfield 24, 3) := by decide +kernel
theorem dX0_follow_62 : decode eX0_follow.2.1 62 = .ok (.iload 5, 2) := by decide +kernel
theorem dX0_follow_64 : decode eX0_follow.2.1 64 = .ok (.baload, 1) := by decide +kernel
theorem dX0_follow_65 : decode eX0_follow.2.1 65 = .ok (.ifCond .eq 28, 3) := by decide +kernel
theorem dX0_follow_68 : decode eX0_follow.2.1 68 = .ok (.iload_n 2, 1) := by decide +kernel
theorem dX0_follow_69 : decode eX0_follow.2.1 69 = .ok (.bipush 48, 2) := by decide +kernel
theorem dX0_follow_71 : decode eX0_follow.2.1 71 = .ok (.if_icmp .ge 22, 3) := by decide +kernel
theorem dX0_follow_74 : decode eX0_follow.2.1 74 = .ok (.aload_n 0, 1) := by decide +kernel
theorem dX0_follow_75 : decode eX0_follow.2.1 75 = .ok (.getfield 24, 3) := by decide +kernel
theorem dX0_follow_78 : decode eX0_follow.2.1 78 = .ok (.iload 5, 2) := by decide +kernel
theorem dX0_follow_80 : decode eX0_follow.2.1 80 = .ok (.iconst 0, 1) := by decide +kernel
theorem dX0_follow_81 : decode eX0_follow.2.1 81 = .ok (.bastore, 1) := by decide +kernel
theorem dX0_follow_82 : decode eX0_follow.2.1 82 = .ok (.aload_n 0, 1) := by decide +kernel
theorem dX0_follow_83 : decode eX0_follow.2.1 83 = .ok (.getfield 28, 3) := by decide +kernel
theorem dX0_follow_86 : decode eX0_follow.2.1 86 = .ok (.iload_n 2, 1) := by decide +kernel
theorem dX0_follow_87 : decode eX0_follow.2.1 87 = .ok (.iinc 2 1, 3) := by decide +kernel
theorem dX0_follow_90 : decode eX0_follow.2.1 90 = .ok (.iload 5, 2) := by decide +kernel
theorem dX0_follow_92 : decode eX0_follow.2.1 92 = .ok (.iastore, 1) := by decide +kernel
theorem dX0_follow_93 : decode eX0_follow.2.1 93 = .ok (.iinc 4 1, 3) := by decide +kernel
theorem dX0_follow_96 : decode eX0_follow.2.1 96 = .ok (.goto (-64), 3) := by decide +kernel
theorem dX0_follow_99 : decode eX0_follow.2.1 99 = .ok (.iinc 3 1, 3) := by decide +kernel
theorem dX0_follow_102 : decode eX0_follow.2.1 102 = .ok (.goto (-84), 3) := by decide +kernel
theorem dX0_follow_105 : decode eX0_follow.2.1 105 = .ok (.iload_n 2, 1) := by decide +kernel
theorem dX0_follow_106 : decode eX0_follow.2.1 106 = .ok (.ireturn, 1) := by decide +kernel
theorem dX1_init_0 : decode eX1_init.2.1 0 = .ok (.aload_n 0, 1) := by decide +kernel
theorem dX1_init_1 : decode eX1_init.2.1 1 = .ok (.invokespecial 3, 3) := by decide +kernel
theorem dX1_init_4 : decode eX1_init.2.1 4 = .ok (.aload_n 0, 1) := by decide +kernel
theorem dX1_init_5 : decode eX1_init.2.1 5 = .ok (.bipush 24, 2) := by decide +kernel
theorem dX1_init_7 : decode eX1_init.2.1 7 = .ok (.newarray .int, 2) := by decide +kernel
theorem dX1_init_9 : decode eX1_init.2.1 9 = .ok (.putfield 9, 3) := by decide +kernel
theorem dX1_init_12 : decode eX1_init.2.1 12 = .ok (.aload_n 0, 1) := by decide +kernel
theorem dX1_init_13 : decode eX1_init.2.1 13 = .ok (.bipush 24, 2) := by decide +kernel
theorem dX1_init_15 : decode eX1_init.2.1 15 = .ok (.newarray .int, 2) := by decide +kernel
theorem dX1_init_17 : decode eX1_init.2.1 17 = .ok (.putfield 15, 3) := by decide +kernel
theorem dX1_init_20 : decode eX1_init.2.1 20 = .ok (.aload_n 0, 1) := by decide +kernel
theorem dX1_init_21 : decode eX1_init.2.1 21 = .ok (.bipush 24, 2) := by decide +kernel
theorem dX1_init_23 : decode eX1_init.2.1 23 = .ok (.bipush 24, 2) := by decide +kernel
theorem dX1_init_25 : decode eX1_init.2.1 25 = .ok (.multianewarray 18 2, 4) := by decide +kernel
theorem dX1_init_29 : decode eX1_init.2.1 29 = .ok (.putfield 20, 3) := by decide +kernel
theorem dX1_init_32 : decode eX1_init.2.1 32 = .ok (.aload_n 0, 1) := by decide +kernel
theorem dX1_init_33 : decode eX1_init.2.1 33 = .ok (.bipush 48, 2) := by decide +kernel
theorem dX1_init_35 : decode eX1_init.2.1 35 = .ok (.newarray .int, 2) := by decide +kernel
theorem dX1_init_37 : decode eX1_init.2.1 37 = .ok (.putfield 23, 3) := by decide +kernel
theorem dX1_init_40 : decode eX1_init.2.1 40 = .ok (.aload_n 0, 1) := by decide +kernel
theorem dX1_init_41 : decode eX1_init.2.1 41 = .ok (.iconst 4, 1) := by decide +kernel
theorem dX1_init_42 : decode eX1_init.2.1 42 = .ok (.newarray .int, 2) := by decide +kernel
theorem dX1_init_44 : decode eX1_init.2.1 44 = .ok (.putfield 26, 3) := by decide +kernel
theorem dX1_init_47 : decode eX1_init.2.1 47 = .ok (.iconst 0, 1) := by decide +kernel
theorem dX1_init_48 : decode eX1_init.2.1 48 = .ok (.istore_n 1, 1) := by decide +kernel
theorem dX1_init_49 : decode eX1_init.2.1 49 = .ok (.iload_n 1, 1) := by decide +kernel
theorem dX1_init_50 : decode eX1_init.2.1 50 = .ok (.bipush 24, 2) := by decide +kernel
theorem dX1_init_52 : decode eX1_init.2.1 52 = .ok (.if_icmp .ge 16, 3) := by decide +kernel
theorem dX1_init_55 : decode eX1_init.2.1 55 = .ok (.aload_n 0, 1) := by decide +kernel
theorem dX1_init_56 : decode eX1_init.2.1 56 = .ok (.getfield 9, 3) := by decide +kernel
theorem dX1_init_59 : decode eX1_init.2.1 59 = .ok (.iload_n 1, 1) := by decide +kernel
theorem dX1_init_60 : decode eX1_init.2.1 60 = .ok (.iconst (-1), 1) := by decide +kernel
theorem dX1_init_61 : decode eX1_init.2.1 61 = .ok (.iastore, 1) := by decide +kernel
theorem dX1_init_62 : decode eX1_init.2.1 62 = .ok (.iinc 1 1, 3) := by decide +kernel
theorem dX1_init_65 : decode eX1_init.2.1 65 = .ok (.goto (-16), 3) := by decide +kernel
theorem dX1_init_68 : decode eX1_init.2.1 68 = .ok (.return_, 1) := by decide +kernel
theorem dX1_make_0 : decode eX1_make.2.1 0 = .ok (.aload_n 0, 1) := by decide +kernel
theorem dX1_make_1 : decode eX1_make.2.1 1 = .ok (.getfield 9, 3) := by decide +kernel
theorem dX1_make_4 : decode eX1_make.2.1 4 = .ok (.iload_n 1, 1) := by decide +kernel
theorem dX1_make_5 : decode eX1_make.2.1 5 = .ok (.iload_n 2, 1) := by decide +kernel
theorem dX1_make_6 : decode eX1_make.2.1 6 = .ok (.iastore, 1) := by decide +kernel
theorem dX1_make_7 : decode eX1_make.2.1 7 = .ok (.aload_n 0, 1) := by decide +kernel
theorem dX1_make_8 : decode eX1_make.2.1 8 = .ok (.getfield 15, 3) := by decide +kernel
theorem dX1_make_11 : decode eX1_make.2.1 11 = .ok (.iload_n 1, 1) := by decide +kernel
theorem dX1_make_12 : decode eX1_make.2.1 12 = .ok (.iload_n 3, 1) := by decide +kernel
theorem dX1_make_13 : decode eX1_make.2.1 13 = .ok (.iastore, 1) := by decide +kernel
theorem dX1_make_14 : decode eX1_make.2.1 14 = .ok (.iconst 0, 1) := by decide +kernel
theorem dX1_make_15 : decode eX1_make.2.1 15 = .ok (.istore 4, 2) := by decide +kernel
theorem dX1_make_17 : decode eX1_make.2.1 17 = .ok (.iload 4, 2) := by decide +kernel
theorem dX1_make_19 : decode eX1_make.2.1 19 = .ok (.bipush 24, 2) := by decide +kernel
theorem dX1_make_21 : decode eX1_make.2.1 21 = .ok (.if_icmp .ge 19, 3) := by decide +kernel
theorem dX1_make_24 : decode eX1_make.2.1 24 = .ok (.aload_n 0, 1) := by decide +kernel
theorem dX1_make_25 : decode eX1_make.2.1 25 = .ok (.getfield 20, 3) := by decide +kernel
theorem dX1_make_28 : decode eX1_make.2.1 28 = .ok (.iload_n 1, 1) := by decide +kernel
theorem dX1_make_29 : decode eX1_make.2.1 29 = .ok (.aaload, 1) := by decide +kernel
theorem dX1_make_30 : decode eX1_make.2.1 30 = .ok (.iload 4, 2) := by decide +kernel
theorem dX1_make_32 : decode eX1_make.2.1 32 = .ok (.iconst 0, 1) := by decide +kernel
theorem dX1_make_33 : decode eX1_make.2.1 33 = .ok (.iastore, 1) := by decide +kernel
theorem dX1_make_34 : decode eX1_make.2.1 34 = .ok (.iinc 4 1, 3) := by decide +kernel
theorem dX1_make_37 : decode eX1_make.2.1 37 = .ok (.goto (-20), 3) := by decide +kernel
theorem dX1_make_40 : decode eX1_make.2.1 40 = .ok (.iload_n 3, 1) := by decide +kernel
theorem dX1_make_41 : decode eX1_make.2.1 41 = .ok (.ireturn, 1) := by decide +kernel
theorem dX1_has_0 : decode eX1_has.2.1 0 = .ok (.iload_n 3, 1) := by decide +kernel
theorem dX1_has_1 : decode eX1_has.2.1 1 = .ok (.ifCond .lt 23, 3) := by decide +kernel
theorem dX1_has_4 : decode eX1_has.2.1 4 = .ok (.iload_n 2, 1) := by decide +kernel
theorem dX1_has_5 : decode eX1_has.2.1 5 = .ok (.ifCond .lt 19, 3) := by decide +kernel
theorem dX1_has_8 : decode eX1_has.2.1 8 = .ok (.iload_n 2, 1) := by decide +kernel
theorem dX1_has_9 : decode eX1_has.2.1 9 = .ok (.aload_n 0, 1) := by decide +kernel
theorem dX1_has_10 : decode eX1_has.2.1 10 = .ok (.getfield 15, 3) := by decide +kernel
theorem dX1_has_13 : decode eX1_has.2.1 13 = .ok (.iload_n 1, 1) := by decide +kernel
theorem dX1_has_14 : decode eX1_has.2.1 14 = .ok (.iaload, 1) := by decide +kernel
theorem dX1_has_15 : decode eX1_has.2.1 15 = .ok (.iload_n 3, 1) := by decide +kernel
theorem dX1_has_16 : decode eX1_has.2.1 16 = .ok (.isub, 1) := by decide +kernel
theorem dX1_has_17 : decode eX1_has.2.1 17 = .ok (.if_icmp .gt 7, 3) := by decide +kernel
theorem dX1_has_20 : decode eX1_has.2.1 20 = .ok (.iconst 1, 1) := by decide +kernel
theorem dX1_has_21 : decode eX1_has.2.1 21 = .ok (.goto 4, 3) := by decide +kernel
theorem dX1_has_24 : decode eX1_has.2.1 24 = .ok (.iconst 0, 1) := by decide +kernel
theorem dX1_has_25 : decode eX1_has.2.1 25 = .ok (.ireturn, 1) := by decide +kernel
theorem dX1_linesThere_0 : decode eX1_linesThere.2.1 0 = .ok (.iconst 0, 1) := by decide +kernel
theorem dX1_linesThere_1 : decode eX1_linesThere.2.1 1 = .ok (.istore_n 1, 1) := by decide +kernel
theorem dX1_linesThere_2 : decode eX1_linesThere.2.1 2 = .ok (.iconst 0, 1) := by decide +kernel
theorem dX1_linesThere_3 : decode eX1_linesThere.2.1 3 = .ok (.istore_n 2, 1) := by decide +kernel
theorem dX1_linesThere_4 : decode eX1_linesThere.2.1 4 = .ok (.iload_n 2, 1) := by decide +kernel
theorem dX1_linesThere_5 : decode eX1_linesThere.2.1 5 = .ok (.bipush 24, 2) := by decide +kernel
theorem dX1_linesThere_7 : decode eX1_linesThere.2.1 7 = .ok (.if_icmp .ge 27, 3) := by decide +kernel
theorem dX1_linesThere_10 : decode eX1_linesThere.2.1 10 = .ok (.iload_n 1, 1) := by decide +kernel
theorem dX1_linesThere_11 : decode eX1_linesThere.2.1 11 = .ok (.aload_n 0, 1) := by decide +kernel
theorem dX1_linesThere_12 : decode eX1_linesThere.2.1 12 = .ok (.getfield 9, 3) := by decide +kernel
theorem dX1_linesThere_15 : decode eX1_linesThere.2.1 15 = .ok (.iload_n 2, 1) := by decide +kernel
theorem dX1_linesThere_16 : decode eX1_linesThere.2.1 16 = .ok (.iaload, 1) := by decide +kernel
theorem dX1_linesThere_17 : decode eX1_linesThere.2.1 17 = .ok (.iconst (-1), 1) := by decide +kernel
theorem dX1_linesThere_18 : decode eX1_linesThere.2.1 18 = .ok (.if_icmp .ne 7, 3) := by decide +kernel
theorem dX1_linesThere_21 : decode eX1_linesThere.2.1 21 = .ok (.iconst 0, 1) := by decide +kernel
theorem dX1_linesThere_22 : decode eX1_linesThere.2.1 22 = .ok (.goto 4, 3) := by decide +kernel
theorem dX1_linesThere_25 : decode eX1_linesThere.2.1 25 = .ok (.iconst 1, 1) := by decide +kernel
theorem dX1_linesThere_26 : decode eX1_linesThere.2.1 26 = .ok (.iadd, 1) := by decide +kernel
theorem dX1_linesThere_27 : decode eX1_linesThere.2.1 27 = .ok (.istore_n 1, 1) := by decide +kernel
theorem dX1_linesThere_28 : decode eX1_linesThere.2.1 28 = .ok (.iinc 2 1, 3) := by decide +kernel
theorem dX1_linesThere_31 : decode eX1_linesThere.2.1 31 = .ok (.goto (-27), 3) := by decide +kernel
theorem dX1_linesThere_34 : decode eX1_linesThere.2.1 34 = .ok (.iload_n 1, 1) := by decide +kernel
theorem dX1_linesThere_35 : decode eX1_linesThere.2.1 35 = .ok (.ireturn, 1) := by decide +kernel
theorem dX1_shadeAt_0 : decode eX1_shadeAt.2.1 0 = .ok (.iload_n 1, 1) := by decide +kernel
theorem dX1_shadeAt_1 : decode eX1_shadeAt.2.1 1 = .ok (.bipush 6, 2) := by decide +kernel
theorem dX1_shadeAt_3 : decode eX1_shadeAt.2.1 3 = .ok (.imul, 1) := by decide +kernel
theorem dX1_shadeAt_4 : decode eX1_shadeAt.2.1 4 = .ok (.iload_n 2, 1) := by decide +kernel
theorem dX1_shadeAt_5 : decode eX1_shadeAt.2.1 5 = .ok (.bipush 8, 2) := by decide +kernel
theorem dX1_shadeAt_7 : decode eX1_shadeAt.2.1 7 = .ok (.idiv, 1) := by decide +kernel
theorem dX1_shadeAt_8 : decode eX1_shadeAt.2.1 8 = .ok (.iadd, 1) := by decide +kernel
theorem dX1_shadeAt_9 : decode eX1_shadeAt.2.1 9 = .ok (.istore_n 3, 1) := by decide +kernel
theorem dX1_shadeAt_10 : decode eX1_shadeAt.2.1 10 = .ok (.iload_n 2, 1) := by decide +kernel
theorem dX1_shadeAt_11 : decode eX1_shadeAt.2.1 11 = .ok (.bipush 8, 2) := by decide +kernel
theorem dX1_shadeAt_13 : decode eX1_shadeAt.2.1 13 = .ok (.irem, 1) := by decide +kernel
theorem dX1_shadeAt_14 : decode eX1_shadeAt.2.1 14 = .ok (.istore 4, 2) := by decide +kernel
theorem dX1_shadeAt_16 : decode eX1_shadeAt.2.1 16 = .ok (.aload_n 0, 1) := by decide +kernel
theorem dX1_shadeAt_17 : decode eX1_shadeAt.2.1 17 = .ok (.getfield 9, 3) := by decide +kernel
theorem dX1_shadeAt_20 : decode eX1_shadeAt.2.1 20 = .ok (.iload_n 3, 1) := by decide +kernel
theorem dX1_shadeAt_21 : decode eX1_shadeAt.2.1 21 = .ok (.iaload, 1) := by decide +kernel
theorem dX1_shadeAt_22 : decode eX1_shadeAt.2.1 22 = .ok (.iconst (-1), 1) := by decide +kernel
theorem dX1_shadeAt_23 : decode eX1_shadeAt.2.1 23 = .ok (.if_icmp .eq 14, 3) := by decide +kernel
theorem dX1_shadeAt_26 : decode eX1_shadeAt.2.1 26 = .ok (.iload 4, 2) := by decide +kernel
theorem dX1_shadeAt_28 : decode eX1_shadeAt.2.1 28 = .ok (.aload_n 0, 1) := by decide +kernel
theorem dX1_shadeAt_29 : decode eX1_shadeAt.2.1 29 = .ok (.getfield 15, 3) := by decide +kernel
theorem dX1_shadeAt_32 : decode eX1_shadeAt.2.1 32 = .ok (.iload_n 3, 1) := by decide +kernel
theorem dX1_shadeAt_33 : decode eX1_shadeAt.2.1 33 = .ok (.iaload, 1) := by decide +kernel
theorem dX1_shadeAt_34 : decode eX1_shadeAt.2.1 34 = .ok (.if_icmp .lt 6, 3) := by decide +kernel
theorem dX1_shadeAt_37 : decode eX1_shadeAt.2.1 37 = .ok (.bipush 50, 2) := by decide +kernel
theorem dX1_shadeAt_39 : decode eX1_shadeAt.2.1 39 = .ok (.ireturn, 1) := by decide +kernel
theorem dX1_shadeAt_40 : decode eX1_shadeAt.2.1 40 = .ok (.aload_n 0, 1) := by decide +kernel
theorem dX1_shadeAt_41 : decode eX1_shadeAt.2.1 41 = .ok (.getfield 20, 3) := by decide +kernel
theorem dX1_shadeAt_44 : decode eX1_shadeAt.2.1 44 = .ok (.iload_n 3, 1) := by decide +kernel
theorem dX1_shadeAt_45 : decode eX1_shadeAt.2.1 45 = .ok (.aaload, 1) := by decide +kernel
theorem dX1_shadeAt_46 : decode eX1_shadeAt.2.1 46 = .ok (.iload 4, 2) := by decide +kernel
theorem dX1_shadeAt_48 : decode eX1_shadeAt.2.1 48 = .ok (.iaload, 1) := by decide +kernel
theorem dX1_shadeAt_49 : decode eX1_shadeAt.2.1 49 = .ok (.bipush 99, 2) := by decide +kernel
theorem dX1_shadeAt_51 : decode eX1_shadeAt.2.1 51 = .ok (.invokestatic 29, 3) := by decide +kernel
theorem dX1_shadeAt_54 : decode eX1_shadeAt.2.1 54 = .ok (.ireturn, 1) := by decide +kernel
theorem dX1_askAll_0 : decode eX1_askAll.2.1 0 = .ok (.iconst 0, 1) := by decide +kernel
theorem dX1_askAll_1 : decode eX1_askAll.2.1 1 = .ok (.istore_n 3, 1) := by decide +kernel
theorem dX1_askAll_2 : decode eX1_askAll.2.1 2 = .ok (.iload_n 3, 1) := by decide +kernel
theorem dX1_askAll_3 : decode eX1_askAll.2.1 3 = .ok (.bipush 48, 2) := by decide +kernel
theorem dX1_askAll_5 : decode eX1_askAll.2.1 5 = .ok (.if_icmp .ge 21, 3) := by decide +kernel
theorem dX1_askAll_8 : decode eX1_askAll.2.1 8 = .ok (.aload_n 0, 1) := by decide +kernel
theorem dX1_askAll_9 : decode eX1_askAll.2.1 9 = .ok (.getfield 23, 3) := by decide +kernel
theorem dX1_askAll_12 : decode eX1_askAll.2.1 12 = .ok (.iload_n 3, 1) := by decide +kernel
theorem dX1_askAll_13 : decode eX1_askAll.2.1 13 = .ok (.aload_n 0, 1) := by decide +kernel
theorem dX1_askAll_14 : decode eX1_askAll.2.1 14 = .ok (.iload_n 1, 1) := by decide +kernel
theorem dX1_askAll_15 : decode eX1_askAll.2.1 15 = .ok (.iload_n 3, 1) := by decide +kernel
theorem dX1_askAll_16 : decode eX1_askAll.2.1 16 = .ok (.invokevirtual 33, 3) := by decide +kernel
theorem dX1_askAll_19 : decode eX1_askAll.2.1 19 = .ok (.iastore, 1) := by decide +kernel
theorem dX1_askAll_20 : decode eX1_askAll.2.1 20 = .ok (.iinc 3 1, 3) := by decide +kernel
theorem dX1_askAll_23 : decode eX1_askAll.2.1 23 = .ok (.goto (-21), 3) := by decide +kernel
theorem dX1_askAll_26 : decode eX1_askAll.2.1 26 = .ok (.aload_n 0, 1) := by decide +kernel
theorem dX1_askAll_27 : decode eX1_askAll.2.1 27 = .ok (.getfield 26, 3) := by decide +kernel
theorem dX1_askAll_30 : decode eX1_askAll.2.1 30 = .ok (.iconst 0, 1) := by decide +kernel
theorem dX1_askAll_31 : decode eX1_askAll.2.1 31 = .ok (.aload_n 0, 1) := by decide +kernel
theorem dX1_askAll_32 : decode eX1_askAll.2.1 32 = .ok (.invokevirtual 36, 3) := by decide +kernel
theorem dX1_askAll_35 : decode eX1_askAll.2.1 35 = .ok (.iastore, 1) := by decide +kernel
theorem dX1_askAll_36 : decode eX1_askAll.2.1 36 = .ok (.aload_n 0, 1) := by decide +kernel
theorem dX1_askAll_37 : decode eX1_askAll.2.1 37 = .ok (.getfield 26, 3) := by decide +kernel
theorem dX1_askAll_40 : decode eX1_askAll.2.1 40 = .ok (.iconst 1, 1) := by decide +kernel
theorem dX1_askAll_41 : decode eX1_askAll.2.1 41 = .ok (.aload_n 0, 1) := by decide +kernel
theorem dX1_askAll_42 : decode eX1_askAll.2.1 42 = .ok (.invokevirtual 40, 3) := by decide +kernel
theorem dX1_askAll_45 : decode eX1_askAll.2.1 45 = .ok (.bipush 82, 2) := by decide +kernel
theorem dX1_askAll_47 : decode eX1_askAll.2.1 47 = .ok (.idiv, 1) := by decide +kernel
theorem dX1_askAll_48 : decode eX1_askAll.2.1 48 = .ok (.iastore, 1) := by decide +kernel
theorem dX1_askAll_49 : decode eX1_askAll.2.1 49 = .ok (.aload_n 0, 1) := by decide +kernel
theorem dX1_askAll_50 : decode eX1_askAll.2.1 50 = .ok (.getfield 26, 3) := by decide +kernel
theorem dX1_askAll_53 : decode eX1_askAll.2.1 53 = .ok (.iconst 2, 1) := by decide +kernel
theorem dX1_askAll_54 : decode eX1_askAll.2.1 54 = .ok (.aload_n 0, 1) := by decide +kernel
theorem dX1_askAll_55 : decode eX1_askAll.2.1 55 = .ok (.iload_n 2, 1) := by decide +kernel
theorem dX1_askAll_56 : decode eX1_askAll.2.1 56 = .ok (.invokevirtual 43, 3) := by decide +kernel
theorem dX1_askAll_59 : decode eX1_askAll.2.1 59 = .ok (.iastore, 1) := by decide +kernel
theorem dX1_askAll_60 : decode eX1_askAll.2.1 60 = .ok (.aload_n 0, 1) := by decide +kernel
theorem dX1_askAll_61 : decode eX1_askAll.2.1 61 = .ok (.getfield 26, 3) := by decide +kernel
theorem dX1_askAll_64 : decode eX1_askAll.2.1 64 = .ok (.iconst 3, 1) := by decide +kernel
theorem dX1_askAll_65 : decode eX1_askAll.2.1 65 = .ok (.aload_n 0, 1) := by decide +kernel
theorem dX1_askAll_66 : decode eX1_askAll.2.1 66 = .ok (.iload_n 2, 1) := by decide +kernel
theorem dX1_askAll_67 : decode eX1_askAll.2.1 67 = .ok (.invokevirtual 47, 3) := by decide +kernel
theorem dX1_askAll_70 : decode eX1_askAll.2.1 70 = .ok (.iastore, 1) := by decide +kernel
theorem dX1_askAll_71 : decode eX1_askAll.2.1 71 = .ok (.aload_n 0, 1) := by decide +kernel
theorem dX1_askAll_72 : decode eX1_askAll.2.1 72 = .ok (.getfield 26, 3) := by decide +kernel
theorem dX1_askAll_75 : decode eX1_askAll.2.1 75 = .ok (.areturn, 1) := by decide +kernel
theorem dX1_mean_0 : decode eX1_mean.2.1 0 = .ok (.iconst 0, 1) := by decide +kernel
theorem dX1_mean_1 : decode eX1_mean.2.1 1 = .ok (.istore_n 1, 1) := by decide +kernel
theorem dX1_mean_2 : decode eX1_mean.2.1 2 = .ok (.iconst 0, 1) := by decide +kernel
theorem dX1_mean_3 : decode eX1_mean.2.1 3 = .ok (.istore_n 2, 1) := by decide +kernel
theorem dX1_mean_4 : decode eX1_mean.2.1 4 = .ok (.iload_n 2, 1) := by decide +kernel
theorem dX1_mean_5 : decode eX1_mean.2.1 5 = .ok (.bipush 48, 2) := by decide +kernel
theorem dX1_mean_7 : decode eX1_mean.2.1 7 = .ok (.if_icmp .ge 18, 3) := by decide +kernel
theorem dX1_mean_10 : decode eX1_mean.2.1 10 = .ok (.iload_n 1, 1) := by decide +kernel
theorem dX1_mean_11 : decode eX1_mean.2.1 11 = .ok (.aload_n 0, 1) := by decide +kernel
theorem dX1_mean_12 : decode eX1_mean.2.1 12 = .ok (.getfield 23, 3) := by decide +kernel
theorem dX1_mean_15 : decode eX1_mean.2.1 15 = .ok (.iload_n 2, 1) := by decide +kernel
theorem dX1_mean_16 : decode eX1_mean.2.1 16 = .ok (.iaload, 1) := by decide +kernel
theorem dX1_mean_17 : decode eX1_mean.2.1 17 = .ok (.iadd, 1) := by decide +kernel
theorem dX1_mean_18 : decode eX1_mean.2.1 18 = .ok (.istore_n 1, 1) := by decide +kernel
theorem dX1_mean_19 : decode eX1_mean.2.1 19 = .ok (.iinc 2 1, 3) := by decide +kernel
theorem dX1_mean_22 : decode eX1_mean.2.1 22 = .ok (.goto (-18), 3) := by decide +kernel
theorem dX1_mean_25 : decode eX1_mean.2.1 25 = .ok (.iload_n 1, 1) := by decide +kernel
theorem dX1_mean_26 : decode eX1_mean.2.1 26 = .ok (.bipush 48, 2) := by decide +kernel
theorem dX1_mean_28 : decode eX1_mean.2.1 28 = .ok (.idiv, 1) := by decide +kernel
theorem dX1_mean_29 : decode eX1_mean.2.1 29 = .ok (.ireturn, 1) := by decide +kernel
theorem dX1_difference_0 : decode eX1_difference.2.1 0 = .ok (.iload_n 1, 1) := by decide +kernel
theorem dX1_difference_1 : decode eX1_difference.2.1 1 = .ok (.iload_n 2, 1) := by decide +kernel
theorem dX1_difference_2 : decode eX1_difference.2.1 2 = .ok (.invokestatic 50, 3) := by decide +kernel
theorem dX1_difference_5 : decode eX1_difference.2.1 5 = .ok (.istore_n 3, 1) := by decide +kernel
theorem dX1_difference_6 : decode eX1_difference.2.1 6 = .ok (.iload_n 3, 1) := by decide +kernel
theorem dX1_difference_7 : decode eX1_difference.2.1 7 = .ok (.ldc 53, 2) := by decide +kernel
theorem dX1_difference_9 : decode eX1_difference.2.1 9 = .ok (.if_icmp .ne 7, 3) := by decide +kernel
theorem dX1_difference_12 : decode eX1_difference.2.1 12 = .ok (.iconst 0, 1) := by decide +kernel
theorem dX1_difference_13 : decode eX1_difference.2.1 13 = .ok (.goto 19, 3) := by decide +kernel
theorem dX1_difference_16 : decode eX1_difference.2.1 16 = .ok (.aload_n 0, 1) := by decide +kernel
theorem dX1_difference_17 : decode eX1_difference.2.1 17 = .ok (.getfield 23, 3) := by decide +kernel
theorem dX1_difference_20 : decode eX1_difference.2.1 20 = .ok (.iload_n 1, 1) := by decide +kernel
theorem dX1_difference_21 : decode eX1_difference.2.1 21 = .ok (.iaload, 1) := by decide +kernel
theorem dX1_difference_22 : decode eX1_difference.2.1 22 = .ok (.aload_n 0, 1) := by decide +kernel
theorem dX1_difference_23 : decode eX1_difference.2.1 23 = .ok (.getfield 23, 3) := by decide +kernel
theorem dX1_difference_26 : decode eX1_difference.2.1 26 = .ok (.iload_n 3, 1) := by decide +kernel
theorem dX1_difference_27 : decode eX1_difference.2.1 27 = .ok (.iaload, 1) := by decide +kernel
theorem dX1_difference_28 : decode eX1_difference.2.1 28 = .ok (.isub, 1) := by decide +kernel
theorem dX1_difference_29 : decode eX1_difference.2.1 29 = .ok (.invokestatic 54, 3) := by decide +kernel
theorem dX1_difference_32 : decode eX1_difference.2.1 32 = .ok (.ireturn, 1) := by decide +kernel
theorem dX1_allDifferences_0 : decode eX1_allDifferences.2.1 0 = .ok (.iconst 0, 1) := by decide +kernel
theorem dX1_allDifferences_1 : decode eX1_allDifferences.2.1 1 = .ok (.istore_n 1, 1) := by decide +kernel
theorem dX1_allDifferences_2 : decode eX1_allDifferences.2.1 2 = .ok (.iconst 0, 1) := by decide +kernel
theorem dX1_allDifferences_3 : decode eX1_allDifferences.2.1 3 = .ok (.istore_n 2, 1) := by decide +kernel
theorem dX1_allDifferences_4 : decode eX1_allDifferences.2.1 4 = .ok (.iload_n 2, 1) := by decide +kernel
theorem dX1_allDifferences_5 : decode eX1_allDifferences.2.1 5 = .ok (.bipush 48, 2) := by decide +kernel
theorem dX1_allDifferences_7 : decode eX1_allDifferences.2.1 7 = .ok (.if_icmp .ge 25, 3) := by decide +kernel
theorem dX1_allDifferences_10 : decode eX1_allDifferences.2.1 10 = .ok (.iload_n 1, 1) := by decide +kernel
theorem dX1_allDifferences_11 : decode eX1_allDifferences.2.1 11 = .ok (.aload_n 0, 1) := by decide +kernel
theorem dX1_allDifferences_12 : decode eX1_allDifferences.2.1 12 = .ok (.iload_n 2, 1) := by decide +kernel
theorem dX1_allDifferences_13 : decode eX1_allDifferences.2.1 13 = .ok (.iconst 1, 1) := by decide +kernel
theorem dX1_allDifferences_14 : decode eX1_allDifferences.2.1 14 = .ok (.invokevirtual 59, 3) := by decide +kernel
theorem dX1_allDifferences_17 : decode eX1_allDifferences.2.1 17 = .ok (.aload_n 0, 1) := by decide +kernel
theorem dX1_allDifferences_18 : decode eX1_allDifferences.2.1 18 = .ok (.iload_n 2, 1) := by decide +kernel
theorem dX1_allDifferences_19 : decode eX1_allDifferences.2.1 19 = .ok (.iconst 3, 1) := by decide +kernel
theorem dX1_allDifferences_20 : decode eX1_allDifferences.2.1 20 = .ok (.invokevirtual 59, 3) := by decide +kernel
theorem dX1_allDifferences_23 : decode eX1_allDifferences.2.1 23 = .ok (.iadd, 1) := by decide +kernel
theorem dX1_allDifferences_24 : decode eX1_allDifferences.2.1 24 = .ok (.iadd, 1) := by decide +kernel
theorem dX1_allDifferences_25 : decode eX1_allDifferences.2.1 25 = .ok (.istore_n 1, 1) := by decide +kernel
theorem dX1_allDifferences_26 : decode eX1_allDifferences.2.1 26 = .ok (.iinc 2 1, 3) := by decide +kernel
theorem dX1_allDifferences_29 : decode eX1_allDifferences.2.1 29 = .ok (.goto (-25), 3) := by decide +kernel
theorem dX1_allDifferences_32 : decode eX1_allDifferences.2.1 32 = .ok (.iload_n 1, 1) := by decide +kernel
theorem dX1_allDifferences_33 : decode eX1_allDifferences.2.1 33 = .ok (.ireturn, 1) := by decide +kernel
theorem dX1_allEdges_0 : decode eX1_allEdges.2.1 0 = .ok (.iconst 0, 1) := by decide +kernel
theorem dX1_allEdges_1 : decode eX1_allEdges.2.1 1 = .ok (.istore_n 2, 1) := by decide +kernel
theorem dX1_allEdges_2 : decode eX1_allEdges.2.1 2 = .ok (.iconst 0, 1) := by decide +kernel
theorem dX1_allEdges_3 : decode eX1_allEdges.2.1 3 = .ok (.istore_n 3, 1) := by decide +kernel
theorem dX1_allEdges_4 : decode eX1_allEdges.2.1 4 = .ok (.iload_n 3, 1) := by decide +kernel
theorem dX1_allEdges_5 : decode eX1_allEdges.2.1 5 = .ok (.bipush 48, 2) := by decide +kernel
theorem dX1_allEdges_7 : decode eX1_allEdges.2.1 7 = .ok (.if_icmp .ge 45, 3) := by decide +kernel
theorem dX1_allEdges_10 : decode eX1_allEdges.2.1 10 = .ok (.iload_n 2, 1) := by decide +kernel
theorem dX1_allEdges_11 : decode eX1_allEdges.2.1 11 = .ok (.aload_n 0, 1) := by decide +kernel
theorem dX1_allEdges_12 : decode eX1_allEdges.2.1 12 = .ok (.iload_n 3, 1) := by decide +kernel
theorem dX1_allEdges_13 : decode eX1_allEdges.2.1 13 = .ok (.iconst 1, 1) := by decide +kernel
theorem dX1_allEdges_14 : decode eX1_allEdges.2.1 14 = .ok (.invokevirtual 59, 3) := by decide +kernel
theorem dX1_allEdges_17 : decode eX1_allEdges.2.1 17 = .ok (.iload_n 1, 1) := by decide +kernel
theorem dX1_allEdges_18 : decode eX1_allEdges.2.1 18 = .ok (.if_icmp .lt 7, 3) := by decide +kernel
theorem dX1_allEdges_21 : decode eX1_allEdges.2.1 21 = .ok (.iconst 1, 1) := by decide +kernel
theorem dX1_allEdges_22 : decode eX1_allEdges.2.1 22 = .ok (.goto 4, 3) := by decide +kernel
theorem dX1_allEdges_25 : decode eX1_allEdges.2.1 25 = .ok (.iconst 0, 1) := by decide +kernel
theorem dX1_allEdges_26 : decode eX1_allEdges.2.1 26 = .ok (.iadd, 1) := by decide +kernel
theorem dX1_allEdges_27 : decode eX1_allEdges.2.1 27 = .ok (.istore_n 2, 1) := by decide +kernel
theorem dX1_allEdges_28 : decode eX1_allEdges.2.1 28 = .ok (.iload_n 2, 1) := by decide +kernel
theorem dX1_allEdges_29 : decode eX1_allEdges.2.1 29 = .ok (.aload_n 0, 1) := by decide +kernel
theorem dX1_allEdges_30 : decode eX1_allEdges.2.1 30 = .ok (.iload_n 3, 1) := by decide +kernel
theorem dX1_allEdges_31 : decode eX1_allEdges.2.1 31 = .ok (.iconst 3, 1) := by decide +kernel
theorem dX1_allEdges_32 : decode eX1_allEdges.2.1 32 = .ok (.invokevirtual 59, 3) := by decide +kernel
theorem dX1_allEdges_35 : decode eX1_allEdges.2.1 35 = .ok (.iload_n 1, 1) := by decide +kernel
theorem dX1_allEdges_36 : decode eX1_allEdges.2.1 36 = .ok (.if_icmp .lt 7, 3) := by decide +kernel
theorem dX1_allEdges_39 : decode eX1_allEdges.2.1 39 = .ok (.iconst 1, 1) := by decide +kernel
theorem dX1_allEdges_40 : decode eX1_allEdges.2.1 40 = .ok (.goto 4, 3) := by decide +kernel
theorem dX1_allEdges_43 : decode eX1_allEdges.2.1 43 = .ok (.iconst 0, 1) := by decide +kernel
theorem dX1_allEdges_44 : decode eX1_allEdges.2.1 44 = .ok (.iadd, 1) := by decide +kernel
theorem dX1_allEdges_45 : decode eX1_allEdges.2.1 45 = .ok (.istore_n 2, 1) := by decide +kernel
theorem dX1_allEdges_46 : decode eX1_allEdges.2.1 46 = .ok (.iinc 3 1, 3) := by decide +kernel
theorem dX1_allEdges_49 : decode eX1_allEdges.2.1 49 = .ok (.goto (-45), 3) := by decide +kernel
theorem dX1_allEdges_52 : decode eX1_allEdges.2.1 52 = .ok (.iload_n 2, 1) := by decide +kernel
theorem dX1_allEdges_53 : decode eX1_allEdges.2.1 53 = .ok (.ireturn, 1) := by decide +kernel
theorem dX1_brightOnes_0 : decode eX1_brightOnes.2.1 0 = .ok (.iconst 0, 1) := by decide +kernel
theorem dX1_brightOnes_1 : decode eX1_brightOnes.2.1 1 = .ok (.istore_n 2, 1) := by decide +kernel
theorem dX1_brightOnes_2 : decode eX1_brightOnes.2.1 2 = .ok (.iconst 0, 1) := by decide +kernel
theorem dX1_brightOnes_3 : decode eX1_brightOnes.2.1 3 = .ok (.istore_n 3, 1) := by decide +kernel
theorem dX1_brightOnes_4 : decode eX1_brightOnes.2.1 4 = .ok (.iload_n 3, 1) := by decide +kernel
theorem dX1_brightOnes_5 : decode eX1_brightOnes.2.1 5 = .ok (.bipush 48, 2) := by decide +kernel
theorem dX1_brightOnes_7 : decode eX1_brightOnes.2.1 7 = .ok (.if_icmp .ge 85, 3) := by decide +kernel
theorem dX1_brightOnes_10 : decode eX1_brightOnes.2.1 10 = .ok (.iconst 1, 1) := by decide +kernel
theorem dX1_brightOnes_11 : decode eX1_brightOnes.2.1 11 = .ok (.istore 4, 2) := by decide +kernel
theorem dX1_brightOnes_13 : decode eX1_brightOnes.2.1 13 = .ok (.iconst 0, 1) := by decide +kernel
theorem dX1_brightOnes_14 : decode eX1_brightOnes.2.1 14 = .ok (.istore 5, 2) := by decide +kernel
theorem dX1_brightOnes_16 : decode eX1_brightOnes.2.1 16 = .ok (.iload 5, 2) := by decide +kernel
theorem dX1_brightOnes_18 : decode eX1_brightOnes.2.1 18 = .ok (.iconst 4, 1) := by decide +kernel
theorem dX1_brightOnes_19 : decode eX1_brightOnes.2.1 19 = .ok (.if_icmp .ge 54, 3) := by decide +kernel
theorem dX1_brightOnes_22 : decode eX1_brightOnes.2.1 22 = .ok (.iload_n 3, 1) := by decide +kernel
theorem dX1_brightOnes_23 : decode eX1_brightOnes.2.1 23 = .ok (.iload 5, 2) := by decide +kernel
theorem dX1_brightOnes_25 : decode eX1_brightOnes.2.1 25 = .ok (.invokestatic 50, 3) := by decide +kernel
theorem dX1_brightOnes_28 : decode eX1_brightOnes.2.1 28 = .ok (.istore 6, 2) := by decide +kernel
theorem dX1_brightOnes_30 : decode eX1_brightOnes.2.1 30 = .ok (.iload 4, 2) := by decide +kernel
theorem dX1_brightOnes_32 : decode eX1_brightOnes.2.1 32 = .ok (.ifCond .eq 32, 3) := by decide +kernel
theorem dX1_brightOnes_35 : decode eX1_brightOnes.2.1 35 = .ok (.iload 6, 2) := by decide +kernel
theorem dX1_brightOnes_37 : decode eX1_brightOnes.2.1 37 = .ok (.ldc 53, 2) := by decide +kernel
theorem dX1_brightOnes_39 : decode eX1_brightOnes.2.1 39 = .ok (.if_icmp .eq 21, 3) := by decide +kernel
theorem dX1_brightOnes_42 : decode eX1_brightOnes.2.1 42 = .ok (.aload_n 0, 1) := by decide +kernel
theorem dX1_brightOnes_43 : decode eX1_brightOnes.2.1 43 = .ok (.getfield 23, 3) := by decide +kernel
theorem dX1_brightOnes_46 : decode eX1_brightOnes.2.1 46 = .ok (.iload_n 3, 1) := by decide +kernel
theorem dX1_brightOnes_47 : decode eX1_brightOnes.2.1 47 = .ok (.iaload, 1) := by decide +kernel
theorem dX1_brightOnes_48 : decode eX1_brightOnes.2.1 48 = .ok (.aload_n 0, 1) := by decide +kernel
theorem dX1_brightOnes_49 : decode eX1_brightOnes.2.1 49 = .ok (.getfield 23, 3) := by decide +kernel
theorem dX1_brightOnes_52 : decode eX1_brightOnes.2.1 52 = .ok (.iload 6, 2) := by decide +kernel
theorem dX1_brightOnes_54 : decode eX1_brightOnes.2.1 54 = .ok (.iaload, 1) := by decide +kernel
theorem dX1_brightOnes_55 : decode eX1_brightOnes.2.1 55 = .ok (.isub, 1) := by decide +kernel
theorem dX1_brightOnes_56 : decode eX1_brightOnes.2.1 56 = .ok (.iload_n 1, 1) := by decide +kernel
theorem dX1_brightOnes_57 : decode eX1_brightOnes.2.1 57 = .ok (.if_icmp .lt 7, 3) := by decide +kernel
theorem dX1_brightOnes_60 : decode eX1_brightOnes.2.1 60 = .ok (.iconst 1, 1) := by decide +kernel
theorem dX1_brightOnes_61 : decode eX1_brightOnes.2.1 61 = .ok (.goto 4, 3) := by decide +kernel
theorem dX1_brightOnes_64 : decode eX1_brightOnes.2.1 64 = .ok (.iconst 0, 1) := by decide +kernel
theorem dX1_brightOnes_65 : decode eX1_brightOnes.2.1 65 = .ok (.istore 4, 2) := by decide +kernel
theorem dX1_brightOnes_67 : decode eX1_brightOnes.2.1 67 = .ok (.iinc 5 1, 3) := by decide +kernel
theorem dX1_brightOnes_70 : decode eX1_brightOnes.2.1 70 = .ok (.goto (-54), 3) := by decide +kernel
theorem dX1_brightOnes_73 : decode eX1_brightOnes.2.1 73 = .ok (.iload_n 2, 1) := by decide +kernel
theorem dX1_brightOnes_74 : decode eX1_brightOnes.2.1 74 = .ok (.iload 4, 2) := by decide +kernel
theorem dX1_brightOnes_76 : decode eX1_brightOnes.2.1 76 = .ok (.ifCond .eq 7, 3) := by decide +kernel
theorem dX1_brightOnes_79 : decode eX1_brightOnes.2.1 79 = .ok (.iconst 1, 1) := by decide +kernel
theorem dX1_brightOnes_80 : decode eX1_brightOnes.2.1 80 = .ok (.goto 4, 3) := by decide +kernel
theorem dX1_brightOnes_83 : decode eX1_brightOnes.2.1 83 = .ok (.iconst 0, 1) := by decide +kernel
theorem dX1_brightOnes_84 : decode eX1_brightOnes.2.1 84 = .ok (.iadd, 1) := by decide +kernel
theorem dX1_brightOnes_85 : decode eX1_brightOnes.2.1 85 = .ok (.istore_n 2, 1) := by decide +kernel
theorem dX1_brightOnes_86 : decode eX1_brightOnes.2.1 86 = .ok (.iinc 3 1, 3) := by decide +kernel
theorem dX1_brightOnes_89 : decode eX1_brightOnes.2.1 89 = .ok (.goto (-85), 3) := by decide +kernel
theorem dX1_brightOnes_92 : decode eX1_brightOnes.2.1 92 = .ok (.iload_n 2, 1) := by decide +kernel
theorem dX1_brightOnes_93 : decode eX1_brightOnes.2.1 93 = .ok (.ireturn, 1) := by decide +kernel
theorem dX2_init_0 : decode eX2_init.2.1 0 = .ok (.aload_n 0, 1) := by decide +kernel
theorem dX2_init_1 : decode eX2_init.2.1 1 = .ok (.invokespecial 3, 3) := by decide +kernel
theorem dX2_init_4 : decode eX2_init.2.1 4 = .ok (.aload_n 0, 1) := by decide +kernel
theorem dX2_init_5 : decode eX2_init.2.1 5 = .ok (.bipush 8, 2) := by decide +kernel
theorem dX2_init_7 : decode eX2_init.2.1 7 = .ok (.newarray .int, 2) := by decide +kernel
theorem dX2_init_9 : decode eX2_init.2.1 9 = .ok (.putfield 9, 3) := by decide +kernel
theorem dX2_init_12 : decode eX2_init.2.1 12 = .ok (.aload_n 0, 1) := by decide +kernel
theorem dX2_init_13 : decode eX2_init.2.1 13 = .ok (.bipush 8, 2) := by decide +kernel
theorem dX2_init_15 : decode eX2_init.2.1 15 = .ok (.iconst 4, 1) := by decide +kernel
theorem dX2_init_16 : decode eX2_init.2.1 16 = .ok (.multianewarray 15 2, 4) := by decide +kernel
theorem dX2_init_20 : decode eX2_init.2.1 20 = .ok (.putfield 17, 3) := by decide +kernel
theorem dX2_init_23 : decode eX2_init.2.1 23 = .ok (.aload_n 0, 1) := by decide +kernel
theorem dX2_init_24 : decode eX2_init.2.1 24 = .ok (.bipush 12, 2) := by decide +kernel
theorem dX2_init_26 : decode eX2_init.2.1 26 = .ok (.newarray .int, 2) := by decide +kernel
theorem dX2_init_28 : decode eX2_init.2.1 28 = .ok (.putfield 20, 3) := by decide +kernel
theorem dX2_init_31 : decode eX2_init.2.1 31 = .ok (.aload_n 0, 1) := by decide +kernel
theorem dX2_init_32 : decode eX2_init.2.1 32 = .ok (.bipush 29, 2) := by decide +kernel
theorem dX2_init_34 : decode eX2_init.2.1 34 = .ok (.newarray .int, 2) := by decide +kernel
theorem dX2_init_36 : decode eX2_init.2.1 36 = .ok (.putfield 23, 3) := by decide +kernel
theorem dX2_init_39 : decode eX2_init.2.1 39 = .ok (.return_, 1) := by decide +kernel
theorem dX2_tellsApart_0 : decode eX2_tellsApart.2.1 0 = .ok (.iconst 0, 1) := by decide +kernel
theorem dX2_tellsApart_1 : decode eX2_tellsApart.2.1 1 = .ok (.istore_n 3, 1) := by decide +kernel
theorem dX2_tellsApart_2 : decode eX2_tellsApart.2.1 2 = .ok (.iload_n 3, 1) := by decide +kernel
theorem dX2_tellsApart_3 : decode eX2_tellsApart.2.1 3 = .ok (.iload_n 2, 1) := by decide +kernel
theorem dX2_tellsApart_4 : decode eX2_tellsApart.2.1 4 = .ok (.if_icmp .ge 53, 3) := by decide +kernel
theorem dX2_tellsApart_7 : decode eX2_tellsApart.2.1 7 = .ok (.iconst 0, 1) := by decide +kernel
theorem dX2_tellsApart_8 : decode eX2_tellsApart.2.1 8 = .ok (.istore 4, 2) := by decide +kernel
theorem dX2_tellsApart_10 : decode eX2_tellsApart.2.1 10 = .ok (.iload 4, 2) := by decide +kernel
theorem dX2_tellsApart_12 : decode eX2_tellsApart.2.1 12 = .ok (.iload_n 3, 1) := by decide +kernel
theorem dX2_tellsApart_13 : decode eX2_tellsApart.2.1 13 = .ok (.if_icmp .ge 38, 3) := by decide +kernel
theorem dX2_tellsApart_16 : decode eX2_tellsApart.2.1 16 = .ok (.aload_n 0, 1) := by decide +kernel
theorem dX2_tellsApart_17 : decode eX2_tellsApart.2.1 17 = .ok (.getfield 9, 3) := by decide +kernel
theorem dX2_tellsApart_20 : decode eX2_tellsApart.2.1 20 = .ok (.iload_n 3, 1) := by decide +kernel
theorem dX2_tellsApart_21 : decode eX2_tellsApart.2.1 21 = .ok (.iaload, 1) := by decide +kernel
theorem dX2_tellsApart_22 : decode eX2_tellsApart.2.1 22 = .ok (.aload_n 0, 1) := by decide +kernel
theorem dX2_tellsApart_23 : decode eX2_tellsApart.2.1 23 = .ok (.getfield 9, 3) := by decide +kernel
theorem dX2_tellsApart_26 : decode eX2_tellsApart.2.1 26 = .ok (.iload 4, 2) := by decide +kernel
theorem dX2_tellsApart_28 : decode eX2_tellsApart.2.1 28 = .ok (.iaload, 1) := by decide +kernel
theorem dX2_tellsApart_29 : decode eX2_tellsApart.2.1 29 = .ok (.if_icmp .eq 16, 3) := by decide +kernel
theorem dX2_tellsApart_32 : decode eX2_tellsApart.2.1 32 = .ok (.aload_n 0, 1) := by decide +kernel
theorem dX2_tellsApart_33 : decode eX2_tellsApart.2.1 33 = .ok (.iload_n 3, 1) := by decide +kernel
theorem dX2_tellsApart_34 : decode eX2_tellsApart.2.1 34 = .ok (.iload 4, 2) := by decide +kernel
theorem dX2_tellsApart_36 : decode eX2_tellsApart.2.1 36 = .ok (.iload_n 1, 1) := by decide +kernel
theorem dX2_tellsApart_37 : decode eX2_tellsApart.2.1 37 = .ok (.invokevirtual 26, 3) := by decide +kernel
theorem dX2_tellsApart_40 : decode eX2_tellsApart.2.1 40 = .ok (.ifCond .ne 5, 3) := by decide +kernel
theorem dX2_tellsApart_43 : decode eX2_tellsApart.2.1 43 = .ok (.iconst 0, 1) := by decide +kernel
theorem dX2_tellsApart_44 : decode eX2_tellsApart.2.1 44 = .ok (.ireturn, 1) := by decide +kernel
theorem dX2_tellsApart_45 : decode eX2_tellsApart.2.1 45 = .ok (.iinc 4 1, 3) := by decide +kernel
theorem dX2_tellsApart_48 : decode eX2_tellsApart.2.1 48 = .ok (.goto (-38), 3) := by decide +kernel
theorem dX2_tellsApart_51 : decode eX2_tellsApart.2.1 51 = .ok (.iinc 3 1, 3) := by decide +kernel
theorem dX2_tellsApart_54 : decode eX2_tellsApart.2.1 54 = .ok (.goto (-52), 3) := by decide +kernel
theorem dX2_tellsApart_57 : decode eX2_tellsApart.2.1 57 = .ok (.iconst 1, 1) := by decide +kernel
theorem dX2_tellsApart_58 : decode eX2_tellsApart.2.1 58 = .ok (.ireturn, 1) := by decide +kernel
theorem dX2_differ_0 : decode eX2_differ.2.1 0 = .ok (.iconst 0, 1) := by decide +kernel
theorem dX2_differ_1 : decode eX2_differ.2.1 1 = .ok (.istore 4, 2) := by decide +kernel
theorem dX2_differ_3 : decode eX2_differ.2.1 3 = .ok (.iload 4, 2) := by decide +kernel
theorem dX2_differ_5 : decode eX2_differ.2.1 5 = .ok (.iconst 4, 1) := by decide +kernel
theorem dX2_differ_6 : decode eX2_differ.2.1 6 = .ok (.if_icmp .ge 54, 3) := by decide +kernel
theorem dX2_differ_9 : decode eX2_differ.2.1 9 = .ok (.iload_n 3, 1) := by decide +kernel
theorem dX2_differ_10 : decode eX2_differ.2.1 10 = .ok (.iload 4, 2) := by decide +kernel
theorem dX2_differ_12 : decode eX2_differ.2.1 12 = .ok (.ishr, 1) := by decide +kernel
theorem dX2_differ_13 : decode eX2_differ.2.1 13 = .ok (.iconst 1, 1) := by decide +kernel
theorem dX2_differ_14 : decode eX2_differ.2.1 14 = .ok (.iand, 1) := by decide +kernel
theorem dX2_differ_15 : decode eX2_differ.2.1 15 = .ok (.iconst 1, 1) := by decide +kernel
theorem dX2_differ_16 : decode eX2_differ.2.1 16 = .ok (.if_icmp .ne 7, 3) := by decide +kernel
theorem dX2_differ_19 : decode eX2_differ.2.1 19 = .ok (.iconst 1, 1) := by decide +kernel
theorem dX2_differ_20 : decode eX2_differ.2.1 20 = .ok (.goto 4, 3) := by decide +kernel
theorem dX2_differ_23 : decode eX2_differ.2.1 23 = .ok (.iconst 0, 1) := by decide +kernel
theorem dX2_differ_24 : decode eX2_differ.2.1 24 = .ok (.istore 5, 2) := by decide +kernel
theorem dX2_differ_26 : decode eX2_differ.2.1 26 = .ok (.iload 5, 2) := by decide +kernel
theorem dX2_differ_28 : decode eX2_differ.2.1 28 = .ok (.ifCond .eq 26, 3) := by decide +kernel
theorem dX2_differ_31 : decode eX2_differ.2.1 31 = .ok (.aload_n 0, 1) := by decide +kernel
theorem dX2_differ_32 : decode eX2_differ.2.1 32 = .ok (.getfield 17, 3) := by decide +kernel
theorem dX2_differ_35 : decode eX2_differ.2.1 35 = .ok (.iload_n 1, 1) := by decide +kernel
theorem dX2_differ_36 : decode eX2_differ.2.1 36 = .ok (.aaload, 1) := by decide +kernel
theorem dX2_differ_37 : decode eX2_differ.2.1 37 = .ok (.iload 4, 2) := by decide +kernel
theorem dX2_differ_39 : decode eX2_differ.2.1 39 = .ok (.iaload, 1) := by decide +kernel
theorem dX2_differ_40 : decode eX2_differ.2.1 40 = .ok (.aload_n 0, 1) := by decide +kernel
theorem dX2_differ_41 : decode eX2_differ.2.1 41 = .ok (.getfield 17, 3) := by decide +kernel
theorem dX2_differ_44 : decode eX2_differ.2.1 44 = .ok (.iload_n 2, 1) := by decide +kernel
theorem dX2_differ_45 : decode eX2_differ.2.1 45 = .ok (.aaload, 1) := by decide +kernel
theorem dX2_differ_46 : decode eX2_differ.2.1 46 = .ok (.iload 4, 2) := by decide +kernel
theorem dX2_differ_48 : decode eX2_differ.2.1 48 = .ok (.iaload, 1) := by decide +kernel
theorem dX2_differ_49 : decode eX2_differ.2.1 49 = .ok (.if_icmp .eq 5, 3) := by decide +kernel
theorem dX2_differ_52 : decode eX2_differ.2.1 52 = .ok (.iconst 1, 1) := by decide +kernel
theorem dX2_differ_53 : decode eX2_differ.2.1 53 = .ok (.ireturn, 1) := by decide +kernel
theorem dX2_differ_54 : decode eX2_differ.2.1 54 = .ok (.iinc 4 1, 3) := by decide +kernel
theorem dX2_differ_57 : decode eX2_differ.2.1 57 = .ok (.goto (-54), 3) := by decide +kernel
theorem dX2_differ_60 : decode eX2_differ.2.1 60 = .ok (.iconst 0, 1) := by decide +kernel
theorem dX2_differ_61 : decode eX2_differ.2.1 61 = .ok (.ireturn, 1) := by decide +kernel
theorem dX2_marksOf_0 : decode eX2_marksOf.2.1 0 = .ok (.iconst 0, 1) := by decide +kernel
theorem dX2_marksOf_1 : decode eX2_marksOf.2.1 1 = .ok (.istore 4, 2) := by decide +kernel
theorem dX2_marksOf_3 : decode eX2_marksOf.2.1 3 = .ok (.iconst 0, 1) := by decide +kernel
theorem dX2_marksOf_4 : decode eX2_marksOf.2.1 4 = .ok (.istore 5, 2) := by decide +kernel
theorem dX2_marksOf_6 : decode eX2_marksOf.2.1 6 = .ok (.iload 5, 2) := by decide +kernel
theorem dX2_marksOf_8 : decode eX2_marksOf.2.1 8 = .ok (.iload_n 2, 1) := by decide +kernel
theorem dX2_marksOf_9 : decode eX2_marksOf.2.1 9 = .ok (.if_icmp .ge 34, 3) := by decide +kernel
theorem dX2_marksOf_12 : decode eX2_marksOf.2.1 12 = .ok (.iload 5, 2) := by decide +kernel
theorem dX2_marksOf_14 : decode eX2_marksOf.2.1 14 = .ok (.iload_n 3, 1) := by decide +kernel
theorem dX2_marksOf_15 : decode eX2_marksOf.2.1 15 = .ok (.if_icmp .eq 22, 3) := by decide +kernel
theorem dX2_marksOf_18 : decode eX2_marksOf.2.1 18 = .ok (.iload 4, 2) := by decide +kernel
theorem dX2_marksOf_20 : decode eX2_marksOf.2.1 20 = .ok (.aload_n 0, 1) := by decide +kernel
theorem dX2_marksOf_21 : decode eX2_marksOf.2.1 21 = .ok (.getfield 20, 3) := by decide +kernel
theorem dX2_marksOf_24 : decode eX2_marksOf.2.1 24 = .ok (.iload 5, 2) := by decide +kernel
theorem dX2_marksOf_26 : decode eX2_marksOf.2.1 26 = .ok (.iaload, 1) := by decide +kernel
theorem dX2_marksOf_27 : decode eX2_marksOf.2.1 27 = .ok (.iload_n 1, 1) := by decide +kernel
theorem dX2_marksOf_28 : decode eX2_marksOf.2.1 28 = .ok (.ishr, 1) := by decide +kernel
theorem dX2_marksOf_29 : decode eX2_marksOf.2.1 29 = .ok (.iconst 1, 1) := by decide +kernel
theorem dX2_marksOf_30 : decode eX2_marksOf.2.1 30 = .ok (.iand, 1) := by decide +kernel
theorem dX2_marksOf_31 : decode eX2_marksOf.2.1 31 = .ok (.iload 5, 2) := by decide +kernel
theorem dX2_marksOf_33 : decode eX2_marksOf.2.1 33 = .ok (.ishl, 1) := by decide +kernel
theorem dX2_marksOf_34 : decode eX2_marksOf.2.1 34 = .ok (.ior, 1) := by decide +kernel
theorem dX2_marksOf_35 : decode eX2_marksOf.2.1 35 = .ok (.istore 4, 2) := by decide +kernel
theorem dX2_marksOf_37 : decode eX2_marksOf.2.1 37 = .ok (.iinc 5 1, 3) := by decide +kernel
theorem dX2_marksOf_40 : decode eX2_marksOf.2.1 40 = .ok (.goto (-34), 3) := by decide +kernel
theorem dX2_marksOf_43 : decode eX2_marksOf.2.1 43 = .ok (.iload 4, 2) := by decide +kernel
theorem dX2_marksOf_45 : decode eX2_marksOf.2.1 45 = .ok (.ireturn, 1) := by decide +kernel
theorem dX2_unlike_0 : decode eX2_unlike.2.1 0 = .ok (.aload_n 1, 1) := by decide +kernel
theorem dX2_unlike_1 : decode eX2_unlike.2.1 1 = .ok (.getfield 30, 3) := by decide +kernel
theorem dX2_unlike_4 : decode eX2_unlike.2.1 4 = .ok (.bipush 29, 2) := by decide +kernel
theorem dX2_unlike_6 : decode eX2_unlike.2.1 6 = .ok (.invokestatic 36, 3) := by decide +kernel
theorem dX2_unlike_9 : decode eX2_unlike.2.1 9 = .ok (.istore_n 3, 1) := by decide +kernel
theorem dX2_unlike_10 : decode eX2_unlike.2.1 10 = .ok (.iconst 0, 1) := by decide +kernel
theorem dX2_unlike_11 : decode eX2_unlike.2.1 11 = .ok (.istore 4, 2) := by decide +kernel
theorem dX2_unlike_13 : decode eX2_unlike.2.1 13 = .ok (.iconst 0, 1) := by decide +kernel
theorem dX2_unlike_14 : decode eX2_unlike.2.1 14 = .ok (.istore 5, 2) := by decide +kernel
theorem dX2_unlike_16 : decode eX2_unlike.2.1 16 = .ok (.iload 5, 2) := by decide +kernel
theorem dX2_unlike_18 : decode eX2_unlike.2.1 18 = .ok (.iload_n 3, 1) := by decide +kernel
theorem dX2_unlike_19 : decode eX2_unlike.2.1 19 = .ok (.if_icmp .ge 90, 3) := by decide +kernel
theorem dX2_unlike_22 : decode eX2_unlike.2.1 22 = .ok (.aload_n 0, 1) := by decide +kernel
theorem dX2_unlike_23 : decode eX2_unlike.2.1 23 = .ok (.getfield 23, 3) := by decide +kernel
theorem dX2_unlike_26 : decode eX2_unlike.2.1 26 = .ok (.iload 5, 2) := by decide +kernel
theorem dX2_unlike_28 : decode eX2_unlike.2.1 28 = .ok (.aload_n 0, 1) := by decide +kernel
theorem dX2_unlike_29 : decode eX2_unlike.2.1 29 = .ok (.iload 5, 2) := by decide +kernel
theorem dX2_unlike_31 : decode eX2_unlike.2.1 31 = .ok (.aload_n 1, 1) := by decide +kernel
theorem dX2_unlike_32 : decode eX2_unlike.2.1 32 = .ok (.getfield 42, 3) := by decide +kernel
theorem dX2_unlike_35 : decode eX2_unlike.2.1 35 = .ok (.iload_n 2, 1) := by decide +kernel
theorem dX2_unlike_36 : decode eX2_unlike.2.1 36 = .ok (.invokevirtual 45, 3) := by decide +kernel
theorem dX2_unlike_39 : decode eX2_unlike.2.1 39 = .ok (.iastore, 1) := by decide +kernel
theorem dX2_unlike_40 : decode eX2_unlike.2.1 40 = .ok (.iconst 1, 1) := by decide +kernel
theorem dX2_unlike_41 : decode eX2_unlike.2.1 41 = .ok (.istore 6, 2) := by decide +kernel
theorem dX2_unlike_43 : decode eX2_unlike.2.1 43 = .ok (.iconst 0, 1) := by decide +kernel
theorem dX2_unlike_44 : decode eX2_unlike.2.1 44 = .ok (.istore 7, 2) := by decide +kernel
theorem dX2_unlike_46 : decode eX2_unlike.2.1 46 = .ok (.iload 7, 2) := by decide +kernel
theorem dX2_unlike_48 : decode eX2_unlike.2.1 48 = .ok (.iload 5, 2) := by decide +kernel
theorem dX2_unlike_50 : decode eX2_unlike.2.1 50 = .ok (.if_icmp .ge 38, 3) := by decide +kernel
theorem dX2_unlike_53 : decode eX2_unlike.2.1 53 = .ok (.iload 6, 2) := by decide +kernel
theorem dX2_unlike_55 : decode eX2_unlike.2.1 55 = .ok (.ifCond .eq 24, 3) := by decide +kernel
theorem dX2_unlike_58 : decode eX2_unlike.2.1 58 = .ok (.aload_n 0, 1) := by decide +kernel
theorem dX2_unlike_59 : decode eX2_unlike.2.1 59 = .ok (.getfield 23, 3) := by decide +kernel
theorem dX2_unlike_62 : decode eX2_unlike.2.1 62 = .ok (.iload 7, 2) := by decide +kernel
theorem dX2_unlike_64 : decode eX2_unlike.2.1 64 = .ok (.iaload, 1) := by decide +kernel
theorem dX2_unlike_65 : decode eX2_unlike.2.1 65 = .ok (.aload_n 0, 1) := by decide +kernel
theorem dX2_unlike_66 : decode eX2_unlike.2.1 66 = .ok (.getfield 23, 3) := by decide +kernel
theorem dX2_unlike_69 : decode eX2_unlike.2.1 69 = .ok (.iload 5, 2) := by decide +kernel
theorem dX2_unlike_71 : decode eX2_unlike.2.1 71 = .ok (.iaload, 1) := by decide +kernel
theorem dX2_unlike_72 : decode eX2_unlike.2.1 72 = .ok (.if_icmp .eq 7, 3) := by decide +kernel
theorem dX2_unlike_75 : decode eX2_unlike.2.1 75 = .ok (.iconst 1, 1) := by decide +kernel
theorem dX2_unlike_76 : decode eX2_unlike.2.1 76 = .ok (.goto 4, 3) := by decide +kernel
theorem dX2_unlike_79 : decode eX2_unlike.2.1 79 = .ok (.iconst 0, 1) := by decide +kernel
theorem dX2_unlike_80 : decode eX2_unlike.2.1 80 = .ok (.istore 6, 2) := by decide +kernel
theorem dX2_unlike_82 : decode eX2_unlike.2.1 82 = .ok (.iinc 7 1, 3) := by decide +kernel
theorem dX2_unlike_85 : decode eX2_unlike.2.1 85 = .ok (.goto (-39), 3) := by decide +kernel
theorem dX2_unlike_88 : decode eX2_unlike.2.1 88 = .ok (.iload 4, 2) := by decide +kernel
theorem dX2_unlike_90 : decode eX2_unlike.2.1 90 = .ok (.iload 6, 2) := by decide +kernel
theorem dX2_unlike_92 : decode eX2_unlike.2.1 92 = .ok (.ifCond .eq 7, 3) := by decide +kernel
theorem dX2_unlike_95 : decode eX2_unlike.2.1 95 = .ok (.iconst 1, 1) := by decide +kernel
theorem dX2_unlike_96 : decode eX2_unlike.2.1 96 = .ok (.goto 4, 3) := by decide +kernel
theorem dX2_unlike_99 : decode eX2_unlike.2.1 99 = .ok (.iconst 0, 1) := by decide +kernel
theorem dX2_unlike_100 : decode eX2_unlike.2.1 100 = .ok (.iadd, 1) := by decide +kernel
theorem dX2_unlike_101 : decode eX2_unlike.2.1 101 = .ok (.istore 4, 2) := by decide +kernel
theorem dX2_unlike_103 : decode eX2_unlike.2.1 103 = .ok (.iinc 5 1, 3) := by decide +kernel
theorem dX2_unlike_106 : decode eX2_unlike.2.1 106 = .ok (.goto (-90), 3) := by decide +kernel
theorem dX2_unlike_109 : decode eX2_unlike.2.1 109 = .ok (.iload 4, 2) := by decide +kernel
theorem dX2_unlike_111 : decode eX2_unlike.2.1 111 = .ok (.ireturn, 1) := by decide +kernel
theorem dX3_init_0 : decode eX3_init.2.1 0 = .ok (.aload_n 0, 1) := by decide +kernel
theorem dX3_init_1 : decode eX3_init.2.1 1 = .ok (.invokespecial 5, 3) := by decide +kernel
theorem dX3_init_4 : decode eX3_init.2.1 4 = .ok (.aload_n 0, 1) := by decide +kernel
theorem dX3_init_5 : decode eX3_init.2.1 5 = .ok (.new 11, 3) := by decide +kernel
theorem dX3_init_8 : decode eX3_init.2.1 8 = .ok (.dup, 1) := by decide +kernel
theorem dX3_init_9 : decode eX3_init.2.1 9 = .ok (.invokespecial 13, 3) := by decide +kernel
theorem dX3_init_12 : decode eX3_init.2.1 12 = .ok (.putfield 14, 3) := by decide +kernel
theorem dX3_init_15 : decode eX3_init.2.1 15 = .ok (.aload_n 0, 1) := by decide +kernel
theorem dX3_init_16 : decode eX3_init.2.1 16 = .ok (.new 18, 3) := by decide +kernel
theorem dX3_init_19 : decode eX3_init.2.1 19 = .ok (.dup, 1) := by decide +kernel
theorem dX3_init_20 : decode eX3_init.2.1 20 = .ok (.invokespecial 20, 3) := by decide +kernel
theorem dX3_init_23 : decode eX3_init.2.1 23 = .ok (.putfield 21, 3) := by decide +kernel
theorem dX3_init_26 : decode eX3_init.2.1 26 = .ok (.aload_n 0, 1) := by decide +kernel
theorem dX3_init_27 : decode eX3_init.2.1 27 = .ok (.iconst 3, 1) := by decide +kernel
theorem dX3_init_28 : decode eX3_init.2.1 28 = .ok (.newarray .int, 2) := by decide +kernel
theorem dX3_init_30 : decode eX3_init.2.1 30 = .ok (.putfield 25, 3) := by decide +kernel
theorem dX3_init_33 : decode eX3_init.2.1 33 = .ok (.aload_n 0, 1) := by decide +kernel
theorem dX3_init_34 : decode eX3_init.2.1 34 = .ok (.iconst 0, 1) := by decide +kernel
theorem dX3_init_35 : decode eX3_init.2.1 35 = .ok (.putfield 29, 3) := by decide +kernel
theorem dX3_init_38 : decode eX3_init.2.1 38 = .ok (.aload_n 0, 1) := by decide +kernel
theorem dX3_init_39 : decode eX3_init.2.1 39 = .ok (.bipush 30, 2) := by decide +kernel
theorem dX3_init_41 : decode eX3_init.2.1 41 = .ok (.newarray .boolean, 2) := by decide +kernel
theorem dX3_init_43 : decode eX3_init.2.1 43 = .ok (.putfield 33, 3) := by decide +kernel
theorem dX3_init_46 : decode eX3_init.2.1 46 = .ok (.aload_n 0, 1) := by decide +kernel
theorem dX3_init_47 : decode eX3_init.2.1 47 = .ok (.sipush 4800, 3) := by decide +kernel
theorem dX3_init_50 : decode eX3_init.2.1 50 = .ok (.newarray .int, 2) := by decide +kernel
theorem dX3_init_52 : decode eX3_init.2.1 52 = .ok (.putfield 37, 3) := by decide +kernel
theorem dX3_init_55 : decode eX3_init.2.1 55 = .ok (.aload_n 0, 1) := by decide +kernel
theorem dX3_init_56 : decode eX3_init.2.1 56 = .ok (.iconst 0, 1) := by decide +kernel
theorem dX3_init_57 : decode eX3_init.2.1 57 = .ok (.putfield 40, 3) := by decide +kernel
theorem dX3_init_60 : decode eX3_init.2.1 60 = .ok (.aload_n 0, 1) := by decide +kernel
theorem dX3_init_61 : decode eX3_init.2.1 61 = .ok (.iconst 0, 1) := by decide +kernel
theorem dX3_init_62 : decode eX3_init.2.1 62 = .ok (.putfield 43, 3) := by decide +kernel
theorem dX3_init_65 : decode eX3_init.2.1 65 = .ok (.return_, 1) := by decide +kernel
theorem dX3_choose_0 : decode eX3_choose.2.1 0 = .ok (.iload_n 1, 1) := by decide +kernel
theorem dX3_choose_1 : decode eX3_choose.2.1 1 = .ok (.iconst 0, 1) := by decide +kernel
theorem dX3_choose_2 : decode eX3_choose.2.1 2 = .ok (.sipush 999, 3) := by decide +kernel
theorem dX3_choose_5 : decode eX3_choose.2.1 5 = .ok (.invokestatic 46, 3) := by decide +kernel
theorem dX3_choose_8 : decode eX3_choose.2.1 8 = .ok (.ifCond .ne 5, 3) := by decide +kernel
theorem dX3_choose_11 : decode eX3_choose.2.1 11 = .ok (.iconst 0, 1) := by decide +kernel
theorem dX3_choose_12 : decode eX3_choose.2.1 12 = .ok (.ireturn, 1) := by decide +kernel
theorem dX3_choose_13 : decode eX3_choose.2.1 13 = .ok (.aload_n 0, 1) := by decide +kernel
theorem dX3_choose_14 : decode eX3_choose.2.1 14 = .ok (.iload_n 1, 1) := by decide +kernel
theorem dX3_choose_15 : decode eX3_choose.2.1 15 = .ok (.bipush 99, 2) := by decide +kernel
theorem dX3_choose_17 : decode eX3_choose.2.1 17 = .ok (.if_icmp .le 7, 3) := by decide +kernel
theorem dX3_choose_20 : decode eX3_choose.2.1 20 = .ok (.iconst 3, 1) := by decide +kernel
theorem dX3_choose_21 : decode eX3_choose.2.1 21 = .ok (.goto 14, 3) := by decide +kernel
theorem dX3_choose_24 : decode eX3_choose.2.1 24 = .ok (.iload_n 1, 1) := by decide +kernel
theorem dX3_choose_25 : decode eX3_choose.2.1 25 = .ok (.bipush 9, 2) := by decide +kernel
theorem dX3_choose_27 : decode eX3_choose.2.1 27 = .ok (.if_icmp .le 7, 3) := by decide +kernel
theorem dX3_choose_30 : decode eX3_choose.2.1 30 = .ok (.iconst 2, 1) := by decide +kernel
theorem dX3_choose_31 : decode eX3_choose.2.1 31 = .ok (.goto 4, 3) := by decide +kernel
theorem dX3_choose_34 : decode eX3_choose.2.1 34 = .ok (.iconst 1, 1) := by decide +kernel
theorem dX3_choose_35 : decode eX3_choose.2.1 35 = .ok (.putfield 29, 3) := by decide +kernel
theorem dX3_choose_38 : decode eX3_choose.2.1 38 = .ok (.iload_n 1, 1) := by decide +kernel
theorem dX3_choose_39 : decode eX3_choose.2.1 39 = .ok (.istore_n 2, 1) := by decide +kernel
theorem dX3_choose_40 : decode eX3_choose.2.1 40 = .ok (.aload_n 0, 1) := by decide +kernel
theorem dX3_choose_41 : decode eX3_choose.2.1 41 = .ok (.getfield 29, 3) := by decide +kernel
theorem dX3_choose_44 : decode eX3_choose.2.1 44 = .ok (.iconst 1, 1) := by decide +kernel
theorem dX3_choose_45 : decode eX3_choose.2.1 45 = .ok (.isub, 1) := by decide +kernel
theorem dX3_choose_46 : decode eX3_choose.2.1 46 = .ok (.istore_n 3, 1) := by decide +kernel
theorem dX3_choose_47 : decode eX3_choose.2.1 47 = .ok (.iload_n 3, 1) := by decide +kernel
theorem dX3_choose_48 : decode eX3_choose.2.1 48 = .ok (.ifCond .lt 75, 3) := by decide +kernel
theorem dX3_choose_51 : decode eX3_choose.2.1 51 = .ok (.aload_n 0, 1) := by decide +kernel
theorem dX3_choose_52 : decode eX3_choose.2.1 52 = .ok (.getfield 25, 3) := by decide +kernel
theorem dX3_choose_55 : decode eX3_choose.2.1 55 = .ok (.iload_n 3, 1) := by decide +kernel
theorem dX3_choose_56 : decode eX3_choose.2.1 56 = .ok (.iload_n 2, 1) := by decide +kernel
theorem dX3_choose_57 : decode eX3_choose.2.1 57 = .ok (.bipush 10, 2) := by decide +kernel
theorem dX3_choose_59 : decode eX3_choose.2.1 59 = .ok (.irem, 1) := by decide +kernel
theorem dX3_choose_60 : decode eX3_choose.2.1 60 = .ok (.iastore, 1) := by decide +kernel
theorem dX3_choose_61 : decode eX3_choose.2.1 61 = .ok (.iload_n 2, 1) := by decide +kernel
theorem dX3_choose_62 : decode eX3_choose.2.1 62 = .ok (.bipush 10, 2) := by decide +kernel
theorem dX3_choose_64 : decode eX3_choose.2.1 64 = .ok (.idiv, 1) := by decide +kernel
theorem dX3_choose_65 : decode eX3_choose.2.1 65 = .ok (.istore_n 2, 1) := by decide +kernel
theorem dX3_choose_66 : decode eX3_choose.2.1 66 = .ok (.iload_n 3, 1) := by decide +kernel
theorem dX3_choose_67 : decode eX3_choose.2.1 67 = .ok (.iconst 1, 1) := by decide +kernel
theorem dX3_choose_68 : decode eX3_choose.2.1 68 = .ok (.iadd, 1) := by decide +kernel
theorem dX3_choose_69 : decode eX3_choose.2.1 69 = .ok (.istore 4, 2) := by decide +kernel
theorem dX3_choose_71 : decode eX3_choose.2.1 71 = .ok (.iload 4, 2) := by decide +kernel
theorem dX3_choose_73 : decode eX3_choose.2.1 73 = .ok (.aload_n 0, 1) := by decide +kernel
theorem dX3_choose_74 : decode eX3_choose.2.1 74 = .ok (.getfield 29, 3) := by decide +kernel
theorem dX3_choose_77 : decode eX3_choose.2.1 77 = .ok (.if_icmp .ge 27, 3) := by decide +kernel
theorem dX3_choose_80 : decode eX3_choose.2.1 80 = .ok (.aload_n 0, 1) := by decide +kernel
theorem dX3_choose_81 : decode eX3_choose.2.1 81 = .ok (.getfield 25, 3) := by decide +kernel
theorem dX3_choose_84 : decode eX3_choose.2.1 84 = .ok (.iload 4, 2) := by decide +kernel
theorem dX3_choose_86 : decode eX3_choose.2.1 86 = .ok (.iaload, 1) := by decide +kernel
theorem dX3_choose_87 : decode eX3_choose.2.1 87 = .ok (.aload_n 0, 1) := by decide +kernel
theorem dX3_choose_88 : decode eX3_choose.2.1 88 = .ok (.getfield 25, 3) := by decide +kernel
theorem dX3_choose_91 : decode eX3_choose.2.1 91 = .ok (.iload_n 3, 1) := by decide +kernel
theorem dX3_choose_92 : decode eX3_choose.2.1 92 = .ok (.iaload, 1) := by decide +kernel
theorem dX3_choose_93 : decode eX3_choose.2.1 93 = .ok (.if_icmp .ne 5, 3) := by decide +kernel
theorem dX3_choose_96 : decode eX3_choose.2.1 96 = .ok (.iconst 0, 1) := by decide +kernel
theorem dX3_choose_97 : decode eX3_choose.2.1 97 = .ok (.ireturn, 1) := by decide +kernel
theorem dX3_choose_98 : decode eX3_choose.2.1 98 = .ok (.iinc 4 1, 3) := by decide +kernel
theorem dX3_choose_101 : decode eX3_choose.2.1 101 = .ok (.goto (-30), 3) := by decide +kernel
theorem dX3_choose_104 : decode eX3_choose.2.1 104 = .ok (.aload_n 0, 1) := by decide +kernel
theorem dX3_choose_105 : decode eX3_choose.2.1 105 = .ok (.getfield 25, 3) := by decide +kernel
theorem dX3_choose_108 : decode eX3_choose.2.1 108 = .ok (.iload_n 3, 1) := by decide +kernel
theorem dX3_choose_109 : decode eX3_choose.2.1 109 = .ok (.iaload, 1) := by decide +kernel
theorem dX3_choose_110 : decode eX3_choose.2.1 110 = .ok (.bipush 6, 2) := by decide +kernel
theorem dX3_choose_112 : decode eX3_choose.2.1 112 = .ok (.if_icmp .lt 5, 3) := by decide +kernel
theorem dX3_choose_115 : decode eX3_choose.2.1 115 = .ok (.iconst 0, 1) := by decide +kernel
theorem dX3_choose_116 : decode eX3_choose.2.1 116 = .ok (.ireturn, 1) := by decide +kernel
theorem dX3_choose_117 : decode eX3_choose.2.1 117 = .ok (.iinc 3 (-1), 3) := by decide +kernel
theorem dX3_choose_120 : decode eX3_choose.2.1 120 = .ok (.goto (-73), 3) := by decide +kernel
theorem dX3_choose_123 : decode eX3_choose.2.1 123 = .ok (.iconst 1, 1) := by decide +kernel
theorem dX3_choose_124 : decode eX3_choose.2.1 124 = .ok (.ireturn, 1) := by decide +kernel
theorem dX3_begin_0 : decode eX3_begin.2.1 0 = .ok (.aload_n 0, 1) := by decide +kernel
theorem dX3_begin_1 : decode eX3_begin.2.1 1 = .ok (.getfield 14, 3) := by decide +kernel
theorem dX3_begin_4 : decode eX3_begin.2.1 4 = .ok (.aload_n 1, 1) := by decide +kernel
theorem dX3_begin_5 : decode eX3_begin.2.1 5 = .ok (.invokevirtual 50, 3) := by decide +kernel
theorem dX3_begin_8 : decode eX3_begin.2.1 8 = .ok (.aload_n 0, 1) := by decide +kernel
theorem dX3_begin_9 : decode eX3_begin.2.1 9 = .ok (.getfield 21, 3) := by decide +kernel
theorem dX3_begin_12 : decode eX3_begin.2.1 12 = .ok (.aload_n 2, 1) := by decide +kernel
theorem dX3_begin_13 : decode eX3_begin.2.1 13 = .ok (.iload_n 3, 1) := by decide +kernel
theorem dX3_begin_14 : decode eX3_begin.2.1 14 = .ok (.invokevirtual 54, 3) := by decide +kernel
theorem dX3_begin_17 : decode eX3_begin.2.1 17 = .ok (.aload_n 0, 1) := by decide +kernel
theorem dX3_begin_18 : decode eX3_begin.2.1 18 = .ok (.invokevirtual 58, 3) := by decide +kernel
theorem dX3_begin_21 : decode eX3_begin.2.1 21 = .ok (.aload_n 0, 1) := by decide +kernel
theorem dX3_begin_22 : decode eX3_begin.2.1 22 = .ok (.sipush 4800, 3) := by decide +kernel
theorem dX3_begin_25 : decode eX3_begin.2.1 25 = .ok (.putfield 40, 3) := by decide +kernel
theorem dX3_begin_28 : decode eX3_begin.2.1 28 = .ok (.aload_n 0, 1) := by decide +kernel
theorem dX3_begin_29 : decode eX3_begin.2.1 29 = .ok (.iconst 0, 1) := by decide +kernel
theorem dX3_begin_30 : decode eX3_begin.2.1 30 = .ok (.putfield 43, 3) := by decide +kernel
theorem dX3_begin_33 : decode eX3_begin.2.1 33 = .ok (.return_, 1) := by decide +kernel
theorem dX3_allTries_0 : decode eX3_allTries.2.1 0 = .ok (.aload_n 0, 1) := by decide +kernel
theorem dX3_allTries_1 : decode eX3_allTries.2.1 1 = .ok (.getfield 29, 3) := by decide +kernel
theorem dX3_allTries_4 : decode eX3_allTries.2.1 4 = .ok (.iconst 3, 1) := by decide +kernel
theorem dX3_allTries_5 : decode eX3_allTries.2.1 5 = .ok (.if_icmp .ne 9, 3) := by decide +kernel
theorem dX3_allTries_8 : decode eX3_allTries.2.1 8 = .ok (.sipush 1000, 3) := by decide +kernel
theorem dX3_allTries_11 : decode eX3_allTries.2.1 11 = .ok (.goto 18, 3) := by decide +kernel
theorem dX3_allTries_14 : decode eX3_allTries.2.1 14 = .ok (.aload_n 0, 1) := by decide +kernel
theorem dX3_allTries_15 : decode eX3_allTries.2.1 15 = .ok (.getfield 29, 3) := by decide +kernel
theorem dX3_allTries_18 : decode eX3_allTries.2.1 18 = .ok (.iconst 2, 1) := by decide +kernel
theorem dX3_allTries_19 : decode eX3_allTries.2.1 19 = .ok (.if_icmp .ne 8, 3) := by decide +kernel
theorem dX3_allTries_22 : decode eX3_allTries.2.1 22 = .ok (.bipush 100, 2) := by decide +kernel
theorem dX3_allTries_24 : decode eX3_allTries.2.1 24 = .ok (.goto 5, 3) := by decide +kernel
theorem dX3_allTries_27 : decode eX3_allTries.2.1 27 = .ok (.bipush 10, 2) := by decide +kernel
theorem dX3_allTries_29 : decode eX3_allTries.2.1 29 = .ok (.ireturn, 1) := by decide +kernel
theorem dX3_seek_0 : decode eX3_seek.2.1 0 = .ok (.aload_n 0, 1) := by decide +kernel
theorem dX3_seek_1 : decode eX3_seek.2.1 1 = .ok (.invokevirtual 61, 3) := by decide +kernel
theorem dX3_seek_4 : decode eX3_seek.2.1 4 = .ok (.istore_n 3, 1) := by decide +kernel
theorem dX3_seek_5 : decode eX3_seek.2.1 5 = .ok (.aload_n 0, 1) := by decide +kernel
theorem dX3_seek_6 : decode eX3_seek.2.1 6 = .ok (.invokevirtual 65, 3) := by decide +kernel
theorem dX3_seek_9 : decode eX3_seek.2.1 9 = .ok (.iconst 0, 1) := by decide +kernel
theorem dX3_seek_10 : decode eX3_seek.2.1 10 = .ok (.istore 4, 2) := by decide +kernel
theorem dX3_seek_12 : decode eX3_seek.2.1 12 = .ok (.iload 4, 2) := by decide +kernel
theorem dX3_seek_14 : decode eX3_seek.2.1 14 = .ok (.iload_n 3, 1) := by decide +kernel
theorem dX3_seek_15 : decode eX3_seek.2.1 15 = .ok (.if_icmp .ge 37, 3) := by decide +kernel
theorem dX3_seek_18 : decode eX3_seek.2.1 18 = .ok (.aload_n 0, 1) := by decide +kernel
theorem dX3_seek_19 : decode eX3_seek.2.1 19 = .ok (.getfield 40, 3) := by decide +kernel
theorem dX3_seek_22 : decode eX3_seek.2.1 22 = .ok (.ifCond .le 30, 3) := by decide +kernel
theorem dX3_seek_25 : decode eX3_seek.2.1 25 = .ok (.aload_n 0, 1) := by decide +kernel
theorem dX3_seek_26 : decode eX3_seek.2.1 26 = .ok (.iload 4, 2) := by decide +kernel
theorem dX3_seek_28 : decode eX3_seek.2.1 28 = .ok (.invokevirtual 68, 3) := by decide +kernel
theorem dX3_seek_31 : decode eX3_seek.2.1 31 = .ok (.ifCond .eq 15, 3) := by decide +kernel
theorem dX3_seek_34 : decode eX3_seek.2.1 34 = .ok (.aload_n 0, 1) := by decide +kernel
theorem dX3_seek_35 : decode eX3_seek.2.1 35 = .ok (.iload 4, 2) := by decide +kernel
theorem dX3_seek_37 : decode eX3_seek.2.1 37 = .ok (.aload_n 0, 1) := by decide +kernel
theorem dX3_seek_38 : decode eX3_seek.2.1 38 = .ok (.aload_n 1, 1) := by decide +kernel
theorem dX3_seek_39 : decode eX3_seek.2.1 39 = .ok (.iload_n 2, 1) := by decide +kernel
theorem dX3_seek_40 : decode eX3_seek.2.1 40 = .ok (.invokevirtual 72, 3) := by decide +kernel
theorem dX3_seek_43 : decode eX3_seek.2.1 43 = .ok (.invokevirtual 76, 3) := by decide +kernel
theorem dX3_seek_46 : decode eX3_seek.2.1 46 = .ok (.iinc 4 1, 3) := by decide +kernel
theorem dX3_seek_49 : decode eX3_seek.2.1 49 = .ok (.goto (-37), 3) := by decide +kernel
theorem dX3_seek_52 : decode eX3_seek.2.1 52 = .ok (.return_, 1) := by decide +kernel
theorem dX3_match_0 : decode eX3_match.2.1 0 = .ok (.aload_n 0, 1) := by decide +kernel
theorem dX3_match_1 : decode eX3_match.2.1 1 = .ok (.invokevirtual 61, 3) := by decide +kernel
theorem dX3_match_4 : decode eX3_match.2.1 4 = .ok (.istore_n 1, 1) := by decide +kernel
theorem dX3_match_5 : decode eX3_match.2.1 5 = .ok (.iconst 0, 1) := by decide +kernel
theorem dX3_match_6 : decode eX3_match.2.1 6 = .ok (.istore_n 2, 1) := by decide +kernel
theorem dX3_match_7 : decode eX3_match.2.1 7 = .ok (.iload_n 2, 1) := by decide +kernel
theorem dX3_match_8 : decode eX3_match.2.1 8 = .ok (.iload_n 1, 1) := by decide +kernel
theorem dX3_match_9 : decode eX3_match.2.1 9 = .ok (.if_icmp .ge 36, 3) := by decide +kernel
theorem dX3_match_12 : decode eX3_match.2.1 12 = .ok (.aload_n 0, 1) := by decide +kernel
theorem dX3_match_13 : decode eX3_match.2.1 13 = .ok (.getfield 40, 3) := by decide +kernel
theorem dX3_match_16 : decode eX3_match.2.1 16 = .ok (.ifCond .le 29, 3) := by decide +kernel
theorem dX3_match_19 : decode eX3_match.2.1 19 = .ok (.aload_n 0, 1) := by decide +kernel
theorem dX3_match_20 : decode eX3_match.2.1 20 = .ok (.iload_n 2, 1) := by decide +kernel
theorem dX3_match_21 : decode eX3_match.2.1 21 = .ok (.invokevirtual 68, 3) := by decide +kernel
theorem dX3_match_24 : decode eX3_match.2.1 24 = .ok (.ifCond .eq 15, 3) := by decide +kernel
theorem dX3_match_27 : decode eX3_match.2.1 27 = .ok (.aload_n 0, 1) := by decide +kernel
theorem dX3_match_28 : decode eX3_match.2.1 28 = .ok (.iload_n 2, 1) := by decide +kernel
theorem dX3_match_29 : decode eX3_match.2.1 29 = .ok (.aload_n 0, 1) := by decide +kernel
theorem dX3_match_30 : decode eX3_match.2.1 30 = .ok (.getfield 21, 3) := by decide +kernel
theorem dX3_match_33 : decode eX3_match.2.1 33 = .ok (.invokevirtual 80, 3) := by decide +kernel
theorem dX3_match_36 : decode eX3_match.2.1 36 = .ok (.invokevirtual 76, 3) := by decide +kernel
theorem dX3_match_39 : decode eX3_match.2.1 39 = .ok (.iinc 2 1, 3) := by decide +kernel
theorem dX3_match_42 : decode eX3_match.2.1 42 = .ok (.goto (-35), 3) := by decide +kernel
theorem dX3_match_45 : decode eX3_match.2.1 45 = .ok (.return_, 1) := by decide +kernel
theorem dX3_weigh_0 : decode eX3_weigh.2.1 0 = .ok (.iload_n 2, 1) := by decide +kernel
theorem dX3_weigh_1 : decode eX3_weigh.2.1 1 = .ok (.aload_n 0, 1) := by decide +kernel
theorem dX3_weigh_2 : decode eX3_weigh.2.1 2 = .ok (.getfield 40, 3) := by decide +kernel
theorem dX3_weigh_5 : decode eX3_weigh.2.1 5 = .ok (.if_icmp .ge 13, 3) := by decide +kernel
theorem dX3_weigh_8 : decode eX3_weigh.2.1 8 = .ok (.aload_n 0, 1) := by decide +kernel
theorem dX3_weigh_9 : decode eX3_weigh.2.1 9 = .ok (.iload_n 2, 1) := by decide +kernel
theorem dX3_weigh_10 : decode eX3_weigh.2.1 10 = .ok (.putfield 40, 3) := by decide +kernel
theorem dX3_weigh_13 : decode eX3_weigh.2.1 13 = .ok (.aload_n 0, 1) := by decide +kernel
theorem dX3_weigh_14 : decode eX3_weigh.2.1 14 = .ok (.iload_n 1, 1) := by decide +kernel
theorem dX3_weigh_15 : decode eX3_weigh.2.1 15 = .ok (.putfield 43, 3) := by decide +kernel
theorem dX3_weigh_18 : decode eX3_weigh.2.1 18 = .ok (.return_, 1) := by decide +kernel
theorem dX3_findIdle_0 : decode eX3_findIdle.2.1 0 = .ok (.iconst 0, 1) := by decide +kernel
theorem dX3_findIdle_1 : decode eX3_findIdle.2.1 1 = .ok (.istore_n 1, 1) := by decide +kernel
theorem dX3_findIdle_2 : decode eX3_findIdle.2.1 2 = .ok (.iload_n 1, 1) := by decide +kernel
theorem dX3_findIdle_3 : decode eX3_findIdle.2.1 3 = .ok (.aload_n 0, 1) := by decide +kernel
theorem dX3_findIdle_4 : decode eX3_findIdle.2.1 4 = .ok (.getfield 29, 3) := by decide +kernel
theorem dX3_findIdle_7 : decode eX3_findIdle.2.1 7 = .ok (.if_icmp .ge 86, 3) := by decide +kernel
theorem dX3_findIdle_10 : decode eX3_findIdle.2.1 10 = .ok (.aload_n 0, 1) := by decide +kernel
theorem dX3_findIdle_11 : decode eX3_findIdle.2.1 11 = .ok (.getfield 25, 3) := by decide +kernel
theorem dX3_findIdle_14 : decode eX3_findIdle.2.1 14 = .ok (.iload_n 1, 1) := by decide +kernel
theorem dX3_findIdle_15 : decode eX3_findIdle.2.1 15 = .ok (.iaload, 1) := by decide +kernel
theorem dX3_findIdle_16 : decode eX3_findIdle.2.1 16 = .ok (.istore_n 2, 1) := by decide +kernel
theorem dX3_findIdle_17 : decode eX3_findIdle.2.1 17 = .ok (.iconst 1, 1) := by decide +kernel
theorem dX3_findIdle_18 : decode eX3_findIdle.2.1 18 = .ok (.istore_n 3, 1) := by decide +kernel
theorem dX3_findIdle_19 : decode eX3_findIdle.2.1 19 = .ok (.iload_n 3, 1) := by decide +kernel
theorem dX3_findIdle_20 : decode eX3_findIdle.2.1 20 = .ok (.bipush 10, 2) := by decide +kernel
theorem dX3_findIdle_22 : decode eX3_findIdle.2.1 22 = .ok (.if_icmp .ge 65, 3) := by decide +kernel
theorem dX3_findIdle_25 : decode eX3_findIdle.2.1 25 = .ok (.aload_n 0, 1) := by decide +kernel
theorem dX3_findIdle_26 : decode eX3_findIdle.2.1 26 = .ok (.getfield 14, 3) := by decide +kernel
theorem dX3_findIdle_29 : decode eX3_findIdle.2.1 29 = .ok (.getfield 83, 3) := by decide +kernel
theorem dX3_findIdle_32 : decode eX3_findIdle.2.1 32 = .ok (.iload_n 2, 1) := by decide +kernel
theorem dX3_findIdle_33 : decode eX3_findIdle.2.1 33 = .ok (.iload_n 3, 1) := by decide +kernel
theorem dX3_findIdle_34 : decode eX3_findIdle.2.1 34 = .ok (.iconst 1, 1) := by decide +kernel
theorem dX3_findIdle_35 : decode eX3_findIdle.2.1 35 = .ok (.isub, 1) := by decide +kernel
theorem dX3_findIdle_36 : decode eX3_findIdle.2.1 36 = .ok (.iastore, 1) := by decide +kernel
theorem dX3_findIdle_37 : decode eX3_findIdle.2.1 37 = .ok (.aload_n 0, 1) := by decide +kernel
theorem dX3_findIdle_38 : decode eX3_findIdle.2.1 38 = .ok (.getfield 14, 3) := by decide +kernel
theorem dX3_findIdle_41 : decode eX3_findIdle.2.1 41 = .ok (.invokevirtual 86, 3) := by decide +kernel
theorem dX3_findIdle_44 : decode eX3_findIdle.2.1 44 = .ok (.pop, 1) := by decide +kernel
theorem dX3_findIdle_45 : decode eX3_findIdle.2.1 45 = .ok (.aload_n 0, 1) := by decide +kernel
theorem dX3_findIdle_46 : decode eX3_findIdle.2.1 46 = .ok (.getfield 14, 3) := by decide +kernel
theorem dX3_findIdle_49 : decode eX3_findIdle.2.1 49 = .ok (.getfield 83, 3) := by decide +kernel
theorem dX3_findIdle_52 : decode eX3_findIdle.2.1 52 = .ok (.iload_n 2, 1) := by decide +kernel
theorem dX3_findIdle_53 : decode eX3_findIdle.2.1 53 = .ok (.iload_n 3, 1) := by decide +kernel
theorem dX3_findIdle_54 : decode eX3_findIdle.2.1 54 = .ok (.iastore, 1) := by decide +kernel
theorem dX3_findIdle_55 : decode eX3_findIdle.2.1 55 = .ok (.aload_n 0, 1) := by decide +kernel
theorem dX3_findIdle_56 : decode eX3_findIdle.2.1 56 = .ok (.getfield 33, 3) := by decide +kernel
theorem dX3_findIdle_59 : decode eX3_findIdle.2.1 59 = .ok (.iload_n 1, 1) := by decide +kernel
theorem dX3_findIdle_60 : decode eX3_findIdle.2.1 60 = .ok (.bipush 10, 2) := by decide +kernel
theorem dX3_findIdle_62 : decode eX3_findIdle.2.1 62 = .ok (.imul, 1) := by decide +kernel
theorem dX3_findIdle_63 : decode eX3_findIdle.2.1 63 = .ok (.iload_n 3, 1) := by decide +kernel
theorem dX3_findIdle_64 : decode eX3_findIdle.2.1 64 = .ok (.iadd, 1) := by decide +kernel
theorem dX3_findIdle_65 : decode eX3_findIdle.2.1 65 = .ok (.aload_n 0, 1) := by decide +kernel
theorem dX3_findIdle_66 : decode eX3_findIdle.2.1 66 = .ok (.getfield 14, 3) := by decide +kernel
theorem dX3_findIdle_69 : decode eX3_findIdle.2.1 69 = .ok (.invokevirtual 86, 3) := by decide +kernel
theorem dX3_findIdle_72 : decode eX3_findIdle.2.1 72 = .ok (.ifCond .ne 7, 3) := by decide +kernel
theorem dX3_findIdle_75 : decode eX3_findIdle.2.1 75 = .ok (.iconst 1, 1) := by decide +kernel
theorem dX3_findIdle_76 : decode eX3_findIdle.2.1 76 = .ok (.goto 4, 3) := by decide +kernel
theorem dX3_findIdle_79 : decode eX3_findIdle.2.1 79 = .ok (.iconst 0, 1) := by decide +kernel
theorem dX3_findIdle_80 : decode eX3_findIdle.2.1 80 = .ok (.bastore, 1) := by decide +kernel
theorem dX3_findIdle_81 : decode eX3_findIdle.2.1 81 = .ok (.iinc 3 1, 3) := by decide +kernel
theorem dX3_findIdle_84 : decode eX3_findIdle.2.1 84 = .ok (.goto (-65), 3) := by decide +kernel
theorem dX3_findIdle_87 : decode eX3_findIdle.2.1 87 = .ok (.iinc 1 1, 3) := by decide +kernel
theorem dX3_findIdle_90 : decode eX3_findIdle.2.1 90 = .ok (.goto (-88), 3) := by decide +kernel
theorem dX3_findIdle_93 : decode eX3_findIdle.2.1 93 = .ok (.return_, 1) := by decide +kernel
theorem dX3_puts_0 : decode eX3_puts.2.1 0 = .ok (.iload_n 1, 1) := by decide +kernel
theorem dX3_puts_1 : decode eX3_puts.2.1 1 = .ok (.istore_n 2, 1) := by decide +kernel
theorem dX3_puts_2 : decode eX3_puts.2.1 2 = .ok (.aload_n 0, 1) := by decide +kernel
theorem dX3_puts_3 : decode eX3_puts.2.1 3 = .ok (.getfield 29, 3) := by decide +kernel
theorem dX3_puts_6 : decode eX3_puts.2.1 6 = .ok (.iconst 1, 1) := by decide +kernel
theorem dX3_puts_7 : decode eX3_puts.2.1 7 = .ok (.isub, 1) := by decide +kernel
theorem dX3_puts_8 : decode eX3_puts.2.1 8 = .ok (.istore_n 3, 1) := by decide +kernel
theorem dX3_puts_9 : decode eX3_puts.2.1 9 = .ok (.iload_n 3, 1) := by decide +kernel
theorem dX3_puts_10 : decode eX3_puts.2.1 10 = .ok (.ifCond .lt 53, 3) := by decide +kernel
theorem dX3_puts_13 : decode eX3_puts.2.1 13 = .ok (.iload_n 2, 1) := by decide +kernel
theorem dX3_puts_14 : decode eX3_puts.2.1 14 = .ok (.bipush 10, 2) := by decide +kernel
theorem dX3_puts_16 : decode eX3_puts.2.1 16 = .ok (.irem, 1) := by decide +kernel
theorem dX3_puts_17 : decode eX3_puts.2.1 17 = .ok (.istore 4, 2) := by decide +kernel
theorem dX3_puts_19 : decode eX3_puts.2.1 19 = .ok (.aload_n 0, 1) := by decide +kernel
theorem dX3_puts_20 : decode eX3_puts.2.1 20 = .ok (.getfield 33, 3) := by decide +kernel
theorem dX3_puts_23 : decode eX3_puts.2.1 23 = .ok (.iload_n 3, 1) := by decide +kernel
theorem dX3_puts_24 : decode eX3_puts.2.1 24 = .ok (.bipush 10, 2) := by decide +kernel
theorem dX3_puts_26 : decode eX3_puts.2.1 26 = .ok (.imul, 1) := by decide +kernel
theorem dX3_puts_27 : decode eX3_puts.2.1 27 = .ok (.iload 4, 2) := by decide +kernel
theorem dX3_puts_29 : decode eX3_puts.2.1 29 = .ok (.iadd, 1) := by decide +kernel
theorem dX3_puts_30 : decode eX3_puts.2.1 30 = .ok (.baload, 1) := by decide +kernel
theorem dX3_puts_31 : decode eX3_puts.2.1 31 = .ok (.ifCond .eq 5, 3) := by decide +kernel
theorem dX3_puts_34 : decode eX3_puts.2.1 34 = .ok (.iconst 0, 1) := by decide +kernel
theorem dX3_puts_35 : decode eX3_puts.2.1 35 = .ok (.ireturn, 1) := by decide +kernel
theorem dX3_puts_36 : decode eX3_puts.2.1 36 = .ok (.aload_n 0, 1) := by decide +kernel
theorem dX3_puts_37 : decode eX3_puts.2.1 37 = .ok (.getfield 14, 3) := by decide +kernel
theorem dX3_puts_40 : decode eX3_puts.2.1 40 = .ok (.getfield 83, 3) := by decide +kernel
theorem dX3_puts_43 : decode eX3_puts.2.1 43 = .ok (.aload_n 0, 1) := by decide +kernel
theorem dX3_puts_44 : decode eX3_puts.2.1 44 = .ok (.getfield 25, 3) := by decide +kernel
theorem dX3_puts_47 : decode eX3_puts.2.1 47 = .ok (.iload_n 3, 1) := by decide +kernel
theorem dX3_puts_48 : decode eX3_puts.2.1 48 = .ok (.iaload, 1) := by decide +kernel
theorem dX3_puts_49 : decode eX3_puts.2.1 49 = .ok (.iload 4, 2) := by decide +kernel
theorem dX3_puts_51 : decode eX3_puts.2.1 51 = .ok (.iastore, 1) := by decide +kernel
theorem dX3_puts_52 : decode eX3_puts.2.1 52 = .ok (.iload_n 2, 1) := by decide +kernel
theorem dX3_puts_53 : decode eX3_puts.2.1 53 = .ok (.bipush 10, 2) := by decide +kernel
theorem dX3_puts_55 : decode eX3_puts.2.1 55 = .ok (.idiv, 1) := by decide +kernel
theorem dX3_puts_56 : decode eX3_puts.2.1 56 = .ok (.istore_n 2, 1) := by decide +kernel
theorem dX3_puts_57 : decode eX3_puts.2.1 57 = .ok (.iinc 3 (-1), 3) := by decide +kernel
theorem dX3_puts_60 : decode eX3_puts.2.1 60 = .ok (.goto (-51), 3) := by decide +kernel
theorem dX3_puts_63 : decode eX3_puts.2.1 63 = .ok (.aload_n 0, 1) := by decide +kernel
theorem dX3_puts_64 : decode eX3_puts.2.1 64 = .ok (.getfield 14, 3) := by decide +kernel
theorem dX3_puts_67 : decode eX3_puts.2.1 67 = .ok (.invokevirtual 86, 3) := by decide +kernel
theorem dX3_puts_70 : decode eX3_puts.2.1 70 = .ok (.pop, 1) := by decide +kernel
theorem dX3_puts_71 : decode eX3_puts.2.1 71 = .ok (.aload_n 0, 1) := by decide +kernel
theorem dX3_puts_72 : decode eX3_puts.2.1 72 = .ok (.getfield 21, 3) := by decide +kernel
theorem dX3_puts_75 : decode eX3_puts.2.1 75 = .ok (.aload_n 0, 1) := by decide +kernel
theorem dX3_puts_76 : decode eX3_puts.2.1 76 = .ok (.getfield 14, 3) := by decide +kernel
theorem dX3_puts_79 : decode eX3_puts.2.1 79 = .ok (.invokevirtual 89, 3) := by decide +kernel
theorem dX3_puts_82 : decode eX3_puts.2.1 82 = .ok (.iconst 1, 1) := by decide +kernel
theorem dX3_puts_83 : decode eX3_puts.2.1 83 = .ok (.ireturn, 1) := by decide +kernel
theorem dX3_allSeen_0 : decode eX3_allSeen.2.1 0 = .ok (.aload_n 0, 1) := by decide +kernel
theorem dX3_allSeen_1 : decode eX3_allSeen.2.1 1 = .ok (.getfield 21, 3) := by decide +kernel
theorem dX3_allSeen_4 : decode eX3_allSeen.2.1 4 = .ok (.aload_n 0, 1) := by decide +kernel
theorem dX3_allSeen_5 : decode eX3_allSeen.2.1 5 = .ok (.getfield 14, 3) := by decide +kernel
theorem dX3_allSeen_8 : decode eX3_allSeen.2.1 8 = .ok (.getfield 92, 3) := by decide +kernel
theorem dX3_allSeen_11 : decode eX3_allSeen.2.1 11 = .ok (.iconst 2, 1) := by decide +kernel
theorem dX3_allSeen_12 : decode eX3_allSeen.2.1 12 = .ok (.iaload, 1) := by decide +kernel
theorem dX3_allSeen_13 : decode eX3_allSeen.2.1 13 = .ok (.invokevirtual 95, 3) := by decide +kernel
theorem dX3_allSeen_16 : decode eX3_allSeen.2.1 16 = .ok (.iconst 0, 1) := by decide +kernel
theorem dX3_allSeen_17 : decode eX3_allSeen.2.1 17 = .ok (.istore_n 3, 1) := by decide +kernel
theorem dX3_allSeen_18 : decode eX3_allSeen.2.1 18 = .ok (.iconst 0, 1) := by decide +kernel
theorem dX3_allSeen_19 : decode eX3_allSeen.2.1 19 = .ok (.istore 4, 2) := by decide +kernel
theorem dX3_allSeen_21 : decode eX3_allSeen.2.1 21 = .ok (.iload 4, 2) := by decide +kernel
theorem dX3_allSeen_23 : decode eX3_allSeen.2.1 23 = .ok (.bipush 48, 2) := by decide +kernel
theorem dX3_allSeen_25 : decode eX3_allSeen.2.1 25 = .ok (.if_icmp .ge 20, 3) := by decide +kernel
theorem dX3_allSeen_28 : decode eX3_allSeen.2.1 28 = .ok (.iload_n 3, 1) := by decide +kernel
theorem dX3_allSeen_29 : decode eX3_allSeen.2.1 29 = .ok (.aload_n 0, 1) := by decide +kernel
theorem dX3_allSeen_30 : decode eX3_allSeen.2.1 30 = .ok (.iload 4, 2) := by decide +kernel
theorem dX3_allSeen_32 : decode eX3_allSeen.2.1 32 = .ok (.aload_n 1, 1) := by decide +kernel
theorem dX3_allSeen_33 : decode eX3_allSeen.2.1 33 = .ok (.iload_n 2, 1) := by decide +kernel
theorem dX3_allSeen_34 : decode eX3_allSeen.2.1 34 = .ok (.invokevirtual 99, 3) := by decide +kernel
theorem dX3_allSeen_37 : decode eX3_allSeen.2.1 37 = .ok (.iadd, 1) := by decide +kernel
theorem dX3_allSeen_38 : decode eX3_allSeen.2.1 38 = .ok (.istore_n 3, 1) := by decide +kernel
theorem dX3_allSeen_39 : decode eX3_allSeen.2.1 39 = .ok (.iinc 4 1, 3) := by decide +kernel
theorem dX3_allSeen_42 : decode eX3_allSeen.2.1 42 = .ok (.goto (-21), 3) := by decide +kernel
theorem dX3_allSeen_45 : decode eX3_allSeen.2.1 45 = .ok (.iload_n 3, 1) := by decide +kernel
theorem dX3_allSeen_46 : decode eX3_allSeen.2.1 46 = .ok (.ireturn, 1) := by decide +kernel
theorem dX3_forgetJudged_0 : decode eX3_forgetJudged.2.1 0 = .ok (.iconst 0, 1) := by decide +kernel
theorem dX3_forgetJudged_1 : decode eX3_forgetJudged.2.1 1 = .ok (.istore_n 1, 1) := by decide +kernel
theorem dX3_forgetJudged_2 : decode eX3_forgetJudged.2.1 2 = .ok (.iload_n 1, 1) := by decide +kernel
theorem dX3_forgetJudged_3 : decode eX3_forgetJudged.2.1 3 = .ok (.aload_n 0, 1) := by decide +kernel
theorem dX3_forgetJudged_4 : decode eX3_forgetJudged.2.1 4 = .ok (.getfield 37, 3) := by decide +kernel
theorem dX3_forgetJudged_7 : decode eX3_forgetJudged.2.1 7 = .ok (.arraylength, 1) := by decide +kernel
theorem dX3_forgetJudged_8 : decode eX3_forgetJudged.2.1 8 = .ok (.if_icmp .ge 16, 3) := by decide +kernel
theorem dX3_forgetJudged_11 : decode eX3_forgetJudged.2.1 11 = .ok (.aload_n 0, 1) := by decide +kernel
theorem dX3_forgetJudged_12 : decode eX3_forgetJudged.2.1 12 = .ok (.getfield 37, 3) := by decide +kernel
theorem dX3_forgetJudged_15 : decode eX3_forgetJudged.2.1 15 = .ok (.iload_n 1, 1) := by decide +kernel
theorem dX3_forgetJudged_16 : decode eX3_forgetJudged.2.1 16 = .ok (.iconst 0, 1) := by decide +kernel
theorem dX3_forgetJudged_17 : decode eX3_forgetJudged.2.1 17 = .ok (.iastore, 1) := by decide +kernel
theorem dX3_forgetJudged_18 : decode eX3_forgetJudged.2.1 18 = .ok (.iinc 1 1, 3) := by decide +kernel
theorem dX3_forgetJudged_21 : decode eX3_forgetJudged.2.1 21 = .ok (.goto (-19), 3) := by decide +kernel
theorem dX3_forgetJudged_24 : decode eX3_forgetJudged.2.1 24 = .ok (.return_, 1) := by decide +kernel
theorem dX3_seenOnce_0 : decode eX3_seenOnce.2.1 0 = .ok (.iload_n 1, 1) := by decide +kernel
theorem dX3_seenOnce_1 : decode eX3_seenOnce.2.1 1 = .ok (.bipush 100, 2) := by decide +kernel
theorem dX3_seenOnce_3 : decode eX3_seenOnce.2.1 3 = .ok (.imul, 1) := by decide +kernel
theorem dX3_seenOnce_4 : decode eX3_seenOnce.2.1 4 = .ok (.aload_n 0, 1) := by decide +kernel
theorem dX3_seenOnce_5 : decode eX3_seenOnce.2.1 5 = .ok (.getfield 21, 3) := by decide +kernel
theorem dX3_seenOnce_8 : decode eX3_seenOnce.2.1 8 = .ok (.getfield 103, 3) := by decide +kernel
theorem dX3_seenOnce_11 : decode eX3_seenOnce.2.1 11 = .ok (.iload_n 1, 1) := by decide +kernel
theorem dX3_seenOnce_12 : decode eX3_seenOnce.2.1 12 = .ok (.iaload, 1) := by decide +kernel
theorem dX3_seenOnce_13 : decode eX3_seenOnce.2.1 13 = .ok (.iadd, 1) := by decide +kernel
theorem dX3_seenOnce_14 : decode eX3_seenOnce.2.1 14 = .ok (.istore 4, 2) := by decide +kernel
theorem dX3_seenOnce_16 : decode eX3_seenOnce.2.1 16 = .ok (.iconst 1, 1) := by decide +kernel
theorem dX3_seenOnce_17 : decode eX3_seenOnce.2.1 17 = .ok (.aload_n 0, 1) := by decide +kernel
theorem dX3_seenOnce_18 : decode eX3_seenOnce.2.1 18 = .ok (.getfield 21, 3) := by decide +kernel
theorem dX3_seenOnce_21 : decode eX3_seenOnce.2.1 21 = .ok (.getfield 106, 3) := by decide +kernel
theorem dX3_seenOnce_24 : decode eX3_seenOnce.2.1 24 = .ok (.iload_n 1, 1) := by decide +kernel
theorem dX3_seenOnce_25 : decode eX3_seenOnce.2.1 25 = .ok (.iaload, 1) := by decide +kernel
theorem dX3_seenOnce_26 : decode eX3_seenOnce.2.1 26 = .ok (.ishl, 1) := by decide +kernel
theorem dX3_seenOnce_27 : decode eX3_seenOnce.2.1 27 = .ok (.istore 5, 2) := by decide +kernel
theorem dX3_seenOnce_29 : decode eX3_seenOnce.2.1 29 = .ok (.iload 5, 2) := by decide +kernel
theorem dX3_seenOnce_31 : decode eX3_seenOnce.2.1 31 = .ok (.iconst 5, 1) := by decide +kernel
theorem dX3_seenOnce_32 : decode eX3_seenOnce.2.1 32 = .ok (.ishl, 1) := by decide +kernel
theorem dX3_seenOnce_33 : decode eX3_seenOnce.2.1 33 = .ok (.istore 6, 2) := by decide +kernel
theorem dX3_seenOnce_35 : decode eX3_seenOnce.2.1 35 = .ok (.aload_n 0, 1) := by decide +kernel
theorem dX3_seenOnce_36 : decode eX3_seenOnce.2.1 36 = .ok (.getfield 37, 3) := by decide +kernel
theorem dX3_seenOnce_39 : decode eX3_seenOnce.2.1 39 = .ok (.iload 4, 2) := by decide +kernel
theorem dX3_seenOnce_41 : decode eX3_seenOnce.2.1 41 = .ok (.iaload, 1) := by decide +kernel
theorem dX3_seenOnce_42 : decode eX3_seenOnce.2.1 42 = .ok (.iload 5, 2) := by decide +kernel
theorem dX3_seenOnce_44 : decode eX3_seenOnce.2.1 44 = .ok (.iand, 1) := by decide +kernel
theorem dX3_seenOnce_45 : decode eX3_seenOnce.2.1 45 = .ok (.ifCond .ne 40, 3) := by decide +kernel
theorem dX3_seenOnce_48 : decode eX3_seenOnce.2.1 48 = .ok (.aload_n 0, 1) := by decide +kernel
theorem dX3_seenOnce_49 : decode eX3_seenOnce.2.1 49 = .ok (.getfield 37, 3) := by decide +kernel
theorem dX3_seenOnce_52 : decode eX3_seenOnce.2.1 52 = .ok (.iload 4, 2) := by decide +kernel
theorem dX3_seenOnce_54 : decode eX3_seenOnce.2.1 54 = .ok (.dup2, 1) := by decide +kernel
theorem dX3_seenOnce_55 : decode eX3_seenOnce.2.1 55 = .ok (.iaload, 1) := by decide +kernel
theorem dX3_seenOnce_56 : decode eX3_seenOnce.2.1 56 = .ok (.iload 5, 2) := by decide +kernel
theorem dX3_seenOnce_58 : decode eX3_seenOnce.2.1 58 = .ok (.ior, 1) := by decide +kernel
theorem dX3_seenOnce_59 : decode eX3_seenOnce.2.1 59 = .ok (.iastore, 1) := by decide +kernel
theorem dX3_seenOnce_60 : decode eX3_seenOnce.2.1 60 = .ok (.aload_n 0, 1) := by decide +kernel
theorem dX3_seenOnce_61 : decode eX3_seenOnce.2.1 61 = .ok (.getfield 21, 3) := by decide +kernel
theorem dX3_seenOnce_64 : decode eX3_seenOnce.2.1 64 = .ok (.iload_n 1, 1) := by decide +kernel
theorem dX3_seenOnce_65 : decode eX3_seenOnce.2.1 65 = .ok (.aload_n 2, 1) := by decide +kernel
theorem dX3_seenOnce_66 : decode eX3_seenOnce.2.1 66 = .ok (.iload_n 3, 1) := by decide +kernel
theorem dX3_seenOnce_67 : decode eX3_seenOnce.2.1 67 = .ok (.invokevirtual 109, 3) := by decide +kernel
theorem dX3_seenOnce_70 : decode eX3_seenOnce.2.1 70 = .ok (.ifCond .eq 15, 3) := by decide +kernel
theorem dX3_seenOnce_73 : decode eX3_seenOnce.2.1 73 = .ok (.aload_n 0, 1) := by decide +kernel
theorem dX3_seenOnce_74 : decode eX3_seenOnce.2.1 74 = .ok (.getfield 37, 3) := by decide +kernel
theorem dX3_seenOnce_77 : decode eX3_seenOnce.2.1 77 = .ok (.iload 4, 2) := by decide +kernel
theorem dX3_seenOnce_79 : decode eX3_seenOnce.2.1 79 = .ok (.dup2, 1) := by decide +kernel
theorem dX3_seenOnce_80 : decode eX3_seenOnce.2.1 80 = .ok (.iaload, 1) := by decide +kernel
theorem dX3_seenOnce_81 : decode eX3_seenOnce.2.1 81 = .ok (.iload 6, 2) := by decide +kernel
theorem dX3_seenOnce_83 : decode eX3_seenOnce.2.1 83 = .ok (.ior, 1) := by decide +kernel
theorem dX3_seenOnce_84 : decode eX3_seenOnce.2.1 84 = .ok (.iastore, 1) := by decide +kernel
theorem dX3_seenOnce_85 : decode eX3_seenOnce.2.1 85 = .ok (.aload_n 0, 1) := by decide +kernel
theorem dX3_seenOnce_86 : decode eX3_seenOnce.2.1 86 = .ok (.getfield 37, 3) := by decide +kernel
theorem dX3_seenOnce_89 : decode eX3_seenOnce.2.1 89 = .ok (.iload 4, 2) := by decide +kernel
theorem dX3_seenOnce_91 : decode eX3_seenOnce.2.1 91 = .ok (.iaload, 1) := by decide +kernel
theorem dX3_seenOnce_92 : decode eX3_seenOnce.2.1 92 = .ok (.iload 6, 2) := by decide +kernel
theorem dX3_seenOnce_94 : decode eX3_seenOnce.2.1 94 = .ok (.iand, 1) := by decide +kernel
theorem dX3_seenOnce_95 : decode eX3_seenOnce.2.1 95 = .ok (.ifCond .ne 7, 3) := by decide +kernel
theorem dX3_seenOnce_98 : decode eX3_seenOnce.2.1 98 = .ok (.iconst 0, 1) := by decide +kernel
theorem dX3_seenOnce_99 : decode eX3_seenOnce.2.1 99 = .ok (.goto 4, 3) := by decide +kernel
theorem dX3_seenOnce_102 : decode eX3_seenOnce.2.1 102 = .ok (.iconst 1, 1) := by decide +kernel
theorem dX3_seenOnce_103 : decode eX3_seenOnce.2.1 103 = .ok (.ireturn, 1) := by decide +kernel
theorem dX4_init_0 : decode eX4_init.2.1 0 = .ok (.aload_n 0, 1) := by decide +kernel
theorem dX4_init_1 : decode eX4_init.2.1 1 = .ok (.invokespecial 3, 3) := by decide +kernel
theorem dX4_init_4 : decode eX4_init.2.1 4 = .ok (.aload_n 0, 1) := by decide +kernel
theorem dX4_init_5 : decode eX4_init.2.1 5 = .ok (.iconst 0, 1) := by decide +kernel
theorem dX4_init_6 : decode eX4_init.2.1 6 = .ok (.putfield 9, 3) := by decide +kernel
theorem dX4_init_9 : decode eX4_init.2.1 9 = .ok (.aload_n 0, 1) := by decide +kernel
theorem dX4_init_10 : decode eX4_init.2.1 10 = .ok (.bipush 48, 2) := by decide +kernel
theorem dX4_init_12 : decode eX4_init.2.1 12 = .ok (.newarray .int, 2) := by decide +kernel
theorem dX4_init_14 : decode eX4_init.2.1 14 = .ok (.putfield 15, 3) := by decide +kernel
theorem dX4_init_17 : decode eX4_init.2.1 17 = .ok (.aload_n 0, 1) := by decide +kernel
theorem dX4_init_18 : decode eX4_init.2.1 18 = .ok (.bipush 48, 2) := by decide +kernel
theorem dX4_init_20 : decode eX4_init.2.1 20 = .ok (.newarray .int, 2) := by decide +kernel
theorem dX4_init_22 : decode eX4_init.2.1 22 = .ok (.putfield 19, 3) := by decide +kernel
theorem dX4_init_25 : decode eX4_init.2.1 25 = .ok (.aload_n 0, 1) := by decide +kernel
theorem dX4_init_26 : decode eX4_init.2.1 26 = .ok (.bipush 48, 2) := by decide +kernel
theorem dX4_init_28 : decode eX4_init.2.1 28 = .ok (.newarray .int, 2) := by decide +kernel
theorem dX4_init_30 : decode eX4_init.2.1 30 = .ok (.putfield 22, 3) := by decide +kernel
theorem dX4_init_33 : decode eX4_init.2.1 33 = .ok (.aload_n 0, 1) := by decide +kernel
theorem dX4_init_34 : decode eX4_init.2.1 34 = .ok (.bipush 48, 2) := by decide +kernel
theorem dX4_init_36 : decode eX4_init.2.1 36 = .ok (.newarray .int, 2) := by decide +kernel
theorem dX4_init_38 : decode eX4_init.2.1 38 = .ok (.putfield 25, 3) := by decide +kernel
theorem dX4_init_41 : decode eX4_init.2.1 41 = .ok (.aload_n 0, 1) := by decide +kernel
theorem dX4_init_42 : decode eX4_init.2.1 42 = .ok (.bipush 48, 2) := by decide +kernel
theorem dX4_init_44 : decode eX4_init.2.1 44 = .ok (.newarray .int, 2) := by decide +kernel
theorem dX4_init_46 : decode eX4_init.2.1 46 = .ok (.putfield 28, 3) := by decide +kernel
theorem dX4_init_49 : decode eX4_init.2.1 49 = .ok (.aload_n 0, 1) := by decide +kernel
theorem dX4_init_50 : decode eX4_init.2.1 50 = .ok (.bipush 48, 2) := by decide +kernel
theorem dX4_init_52 : decode eX4_init.2.1 52 = .ok (.newarray .int, 2) := by decide +kernel
theorem dX4_init_54 : decode eX4_init.2.1 54 = .ok (.putfield 31, 3) := by decide +kernel
theorem dX4_init_57 : decode eX4_init.2.1 57 = .ok (.aload_n 0, 1) := by decide +kernel
theorem dX4_init_58 : decode eX4_init.2.1 58 = .ok (.bipush 48, 2) := by decide +kernel
theorem dX4_init_60 : decode eX4_init.2.1 60 = .ok (.newarray .int, 2) := by decide +kernel
theorem dX4_init_62 : decode eX4_init.2.1 62 = .ok (.putfield 34, 3) := by decide +kernel
theorem dX4_init_65 : decode eX4_init.2.1 65 = .ok (.aload_n 0, 1) := by decide +kernel
theorem dX4_init_66 : decode eX4_init.2.1 66 = .ok (.bipush 48, 2) := by decide +kernel
theorem dX4_init_68 : decode eX4_init.2.1 68 = .ok (.newarray .int, 2) := by decide +kernel
theorem dX4_init_70 : decode eX4_init.2.1 70 = .ok (.putfield 37, 3) := by decide +kernel
theorem dX4_init_73 : decode eX4_init.2.1 73 = .ok (.aload_n 0, 1) := by decide +kernel
theorem dX4_init_74 : decode eX4_init.2.1 74 = .ok (.bipush 10, 2) := by decide +kernel
theorem dX4_init_76 : decode eX4_init.2.1 76 = .ok (.newarray .int, 2) := by decide +kernel
theorem dX4_init_78 : decode eX4_init.2.1 78 = .ok (.putfield 40, 3) := by decide +kernel
theorem dX4_init_81 : decode eX4_init.2.1 81 = .ok (.aload_n 0, 1) := by decide +kernel
theorem dX4_init_82 : decode eX4_init.2.1 82 = .ok (.bipush 10, 2) := by decide +kernel
theorem dX4_init_84 : decode eX4_init.2.1 84 = .ok (.newarray .int, 2) := by decide +kernel
theorem dX4_init_86 : decode eX4_init.2.1 86 = .ok (.putfield 43, 3) := by decide +kernel
theorem dX4_init_89 : decode eX4_init.2.1 89 = .ok (.aload_n 0, 1) := by decide +kernel
theorem dX4_init_90 : decode eX4_init.2.1 90 = .ok (.bipush 6, 2) := by decide +kernel
theorem dX4_init_92 : decode eX4_init.2.1 92 = .ok (.newarray .int, 2) := by decide +kernel
theorem dX4_init_94 : decode eX4_init.2.1 94 = .ok (.putfield 46, 3) := by decide +kernel
theorem dX4_init_97 : decode eX4_init.2.1 97 = .ok (.aload_n 0, 1) := by decide +kernel
theorem dX4_init_98 : decode eX4_init.2.1 98 = .ok (.iconst 4, 1) := by decide +kernel
theorem dX4_init_99 : decode eX4_init.2.1 99 = .ok (.newarray .int, 2) := by decide +kernel
theorem dX4_init_101 : decode eX4_init.2.1 101 = .ok (.putfield 49, 3) := by decide +kernel
theorem dX4_init_104 : decode eX4_init.2.1 104 = .ok (.aload_n 0, 1) := by decide +kernel
theorem dX4_init_105 : decode eX4_init.2.1 105 = .ok (.iconst 0, 1) := by decide +kernel
theorem dX4_init_106 : decode eX4_init.2.1 106 = .ok (.putfield 52, 3) := by decide +kernel
theorem dX4_init_109 : decode eX4_init.2.1 109 = .ok (.aload_n 0, 1) := by decide +kernel
theorem dX4_init_110 : decode eX4_init.2.1 110 = .ok (.iconst 0, 1) := by decide +kernel
theorem dX4_init_111 : decode eX4_init.2.1 111 = .ok (.putfield 55, 3) := by decide +kernel
theorem dX4_init_114 : decode eX4_init.2.1 114 = .ok (.aload_n 0, 1) := by decide +kernel
theorem dX4_init_115 : decode eX4_init.2.1 115 = .ok (.iconst 0, 1) := by decide +kernel
theorem dX4_init_116 : decode eX4_init.2.1 116 = .ok (.putfield 58, 3) := by decide +kernel
theorem dX4_init_119 : decode eX4_init.2.1 119 = .ok (.aload_n 0, 1) := by decide +kernel
theorem dX4_init_120 : decode eX4_init.2.1 120 = .ok (.iconst 0, 1) := by decide +kernel
theorem dX4_init_121 : decode eX4_init.2.1 121 = .ok (.putfield 61, 3) := by decide +kernel
theorem dX4_init_124 : decode eX4_init.2.1 124 = .ok (.iconst 0, 1) := by decide +kernel
theorem dX4_init_125 : decode eX4_init.2.1 125 = .ok (.istore_n 1, 1) := by decide +kernel
theorem dX4_init_126 : decode eX4_init.2.1 126 = .ok (.iload_n 1, 1) := by decide +kernel
theorem dX4_init_127 : decode eX4_init.2.1 127 = .ok (.bipush 48, 2) := by decide +kernel
theorem dX4_init_129 : decode eX4_init.2.1 129 = .ok (.if_icmp .ge 25, 3) := by decide +kernel
theorem dX4_init_132 : decode eX4_init.2.1 132 = .ok (.aload_n 0, 1) := by decide +kernel
theorem dX4_init_133 : decode eX4_init.2.1 133 = .ok (.getfield 34, 3) := by decide +kernel
theorem dX4_init_136 : decode eX4_init.2.1 136 = .ok (.iload_n 1, 1) := by decide +kernel
theorem dX4_init_137 : decode eX4_init.2.1 137 = .ok (.ldc 64, 2) := by decide +kernel
theorem dX4_init_139 : decode eX4_init.2.1 139 = .ok (.iastore, 1) := by decide +kernel
theorem dX4_init_140 : decode eX4_init.2.1 140 = .ok (.aload_n 0, 1) := by decide +kernel
theorem dX4_init_141 : decode eX4_init.2.1 141 = .ok (.getfield 37, 3) := by decide +kernel
theorem dX4_init_144 : decode eX4_init.2.1 144 = .ok (.iload_n 1, 1) := by decide +kernel
theorem dX4_init_145 : decode eX4_init.2.1 145 = .ok (.bipush 50, 2) := by decide +kernel
theorem dX4_init_147 : decode eX4_init.2.1 147 = .ok (.iastore, 1) := by decide +kernel
theorem dX4_init_148 : decode eX4_init.2.1 148 = .ok (.iinc 1 1, 3) := by decide +kernel
theorem dX4_init_151 : decode eX4_init.2.1 151 = .ok (.goto (-25), 3) := by decide +kernel
theorem dX4_init_154 : decode eX4_init.2.1 154 = .ok (.iconst 0, 1) := by decide +kernel
theorem dX4_init_155 : decode eX4_init.2.1 155 = .ok (.istore_n 1, 1) := by decide +kernel
theorem dX4_init_156 : decode eX4_init.2.1 156 = .ok (.iload_n 1, 1) := by decide +kernel
theorem dX4_init_157 : decode eX4_init.2.1 157 = .ok (.bipush 10, 2) := by decide +kernel
theorem dX4_init_159 : decode eX4_init.2.1 159 = .ok (.if_icmp .ge 16, 3) := by decide +kernel
theorem dX4_init_162 : decode eX4_init.2.1 162 = .ok (.aload_n 0, 1) := by decide +kernel
theorem dX4_init_163 : decode eX4_init.2.1 163 = .ok (.getfield 43, 3) := by decide +kernel
theorem dX4_init_166 : decode eX4_init.2.1 166 = .ok (.iload_n 1, 1) := by decide +kernel
theorem dX4_init_167 : decode eX4_init.2.1 167 = .ok (.iconst 5, 1) := by decide +kernel
theorem dX4_init_168 : decode eX4_init.2.1 168 = .ok (.iastore, 1) := by decide +kernel
theorem dX4_init_169 : decode eX4_init.2.1 169 = .ok (.iinc 1 1, 3) := by decide +kernel
theorem dX4_init_172 : decode eX4_init.2.1 172 = .ok (.goto (-16), 3) := by decide +kernel
theorem dX4_init_175 : decode eX4_init.2.1 175 = .ok (.iconst 0, 1) := by decide +kernel
theorem dX4_init_176 : decode eX4_init.2.1 176 = .ok (.istore_n 1, 1) := by decide +kernel
theorem dX4_init_177 : decode eX4_init.2.1 177 = .ok (.iload_n 1, 1) := by decide +kernel
theorem dX4_init_178 : decode eX4_init.2.1 178 = .ok (.iconst 4, 1) := by decide +kernel
theorem dX4_init_179 : decode eX4_init.2.1 179 = .ok (.if_icmp .ge 20, 3) := by decide +kernel
theorem dX4_init_182 : decode eX4_init.2.1 182 = .ok (.aload_n 0, 1) := by decide +kernel
theorem dX4_init_183 : decode eX4_init.2.1 183 = .ok (.getfield 49, 3) := by decide +kernel
theorem dX4_init_186 : decode eX4_init.2.1 186 = .ok (.iload_n 1, 1) := by decide +kernel
theorem dX4_init_187 : decode eX4_init.2.1 187 = .ok (.getstatic 65, 3) := by decide +kernel
theorem dX4_init_190 : decode eX4_init.2.1 190 = .ok (.iload_n 1, 1) := by decide +kernel
theorem dX4_init_191 : decode eX4_init.2.1 191 = .ok (.iaload, 1) := by decide +kernel
theorem dX4_init_192 : decode eX4_init.2.1 192 = .ok (.iastore, 1) := by decide +kernel
theorem dX4_init_193 : decode eX4_init.2.1 193 = .ok (.iinc 1 1, 3) := by decide +kernel
theorem dX4_init_196 : decode eX4_init.2.1 196 = .ok (.goto (-19), 3) := by decide +kernel
theorem dX4_init_199 : decode eX4_init.2.1 199 = .ok (.return_, 1) := by decide +kernel
theorem dX4_becomes_0 : decode eX4_becomes.2.1 0 = .ok (.aload_n 0, 1) := by decide +kernel
theorem dX4_becomes_1 : decode eX4_becomes.2.1 1 = .ok (.aload_n 1, 1) := by decide +kernel
theorem dX4_becomes_2 : decode eX4_becomes.2.1 2 = .ok (.getfield 9, 3) := by decide +kernel
theorem dX4_becomes_5 : decode eX4_becomes.2.1 5 = .ok (.putfield 9, 3) := by decide +kernel
theorem dX4_becomes_8 : decode eX4_becomes.2.1 8 = .ok (.aload_n 1, 1) := by decide +kernel
theorem dX4_becomes_9 : decode eX4_becomes.2.1 9 = .ok (.getfield 15, 3) := by decide +kernel
theorem dX4_becomes_12 : decode eX4_becomes.2.1 12 = .ok (.iconst 0, 1) := by decide +kernel
theorem dX4_becomes_13 : decode eX4_becomes.2.1 13 = .ok (.aload_n 0, 1) := by decide +kernel
theorem dX4_becomes_14 : decode eX4_becomes.2.1 14 = .ok (.getfield 15, 3) := by decide +kernel
theorem dX4_becomes_17 : decode eX4_becomes.2.1 17 = .ok (.iconst 0, 1) := by decide +kernel
theorem dX4_becomes_18 : decode eX4_becomes.2.1 18 = .ok (.bipush 48, 2) := by decide +kernel
theorem dX4_becomes_20 : decode eX4_becomes.2.1 20 = .ok (.invokestatic 68, 3) := by decide +kernel
theorem dX4_becomes_23 : decode eX4_becomes.2.1 23 = .ok (.aload_n 1, 1) := by decide +kernel
theorem dX4_becomes_24 : decode eX4_becomes.2.1 24 = .ok (.getfield 19, 3) := by decide +kernel
theorem dX4_becomes_27 : decode eX4_becomes.2.1 27 = .ok (.iconst 0, 1) := by decide +kernel
theorem dX4_becomes_28 : decode eX4_becomes.2.1 28 = .ok (.aload_n 0, 1) := by decide +kernel
theorem dX4_becomes_29 : decode eX4_becomes.2.1 29 = .ok (.getfield 19, 3) := by decide +kernel
theorem dX4_becomes_32 : decode eX4_becomes.2.1 32 = .ok (.iconst 0, 1) := by decide +kernel
theorem dX4_becomes_33 : decode eX4_becomes.2.1 33 = .ok (.bipush 48, 2) := by decide +kernel
theorem dX4_becomes_35 : decode eX4_becomes.2.1 35 = .ok (.invokestatic 68, 3) := by decide +kernel
theorem dX4_becomes_38 : decode eX4_becomes.2.1 38 = .ok (.aload_n 1, 1) := by decide +kernel
theorem dX4_becomes_39 : decode eX4_becomes.2.1 39 = .ok (.getfield 22, 3) := by decide +kernel
theorem dX4_becomes_42 : decode eX4_becomes.2.1 42 = .ok (.iconst 0, 1) := by decide +kernel
theorem dX4_becomes_43 : decode eX4_becomes.2.1 43 = .ok (.aload_n 0, 1) := by decide +kernel
theorem dX4_becomes_44 : decode eX4_becomes.2.1 44 = .ok (.getfield 22, 3) := by decide +kernel
theorem dX4_becomes_47 : decode eX4_becomes.2.1 47 = .ok (.iconst 0, 1) := by decide +kernel
theorem dX4_becomes_48 : decode eX4_becomes.2.1 48 = .ok (.bipush 48, 2) := by decide +kernel
theorem dX4_becomes_50 : decode eX4_becomes.2.1 50 = .ok (.invokestatic 68, 3) := by decide +kernel
theorem dX4_becomes_53 : decode eX4_becomes.2.1 53 = .ok (.aload_n 1, 1) := by decide +kernel
theorem dX4_becomes_54 : decode eX4_becomes.2.1 54 = .ok (.getfield 25, 3) := by decide +kernel
theorem dX4_becomes_57 : decode eX4_becomes.2.1 57 = .ok (.iconst 0, 1) := by decide +kernel
theorem dX4_becomes_58 : decode eX4_becomes.2.1 58 = .ok (.aload_n 0, 1) := by decide +kernel
theorem dX4_becomes_59 : decode eX4_becomes.2.1 59 = .ok (.getfield 25, 3) := by decide +kernel
theorem dX4_becomes_62 : decode eX4_becomes.2.1 62 = .ok (.iconst 0, 1) := by decide +kernel
theorem dX4_becomes_63 : decode eX4_becomes.2.1 63 = .ok (.bipush 48, 2) := by decide +kernel
theorem dX4_becomes_65 : decode eX4_becomes.2.1 65 = .ok (.invokestatic 68, 3) := by decide +kernel
theorem dX4_becomes_68 : decode eX4_becomes.2.1 68 = .ok (.aload_n 1, 1) := by decide +kernel
theorem dX4_becomes_69 : decode eX4_becomes.2.1 69 = .ok (.getfield 28, 3) := by decide +kernel
theorem dX4_becomes_72 : decode eX4_becomes.2.1 72 = .ok (.iconst 0, 1) := by decide +kernel
theorem dX4_becomes_73 : decode eX4_becomes.2.1 73 = .ok (.aload_n 0, 1) := by decide +kernel
theorem dX4_becomes_74 : decode eX4_becomes.2.1 74 = .ok (.getfield 28, 3) := by decide +kernel
theorem dX4_becomes_77 : decode eX4_becomes.2.1 77 = .ok (.iconst 0, 1) := by decide +kernel
theorem dX4_becomes_78 : decode eX4_becomes.2.1 78 = .ok (.bipush 48, 2) := by decide +kernel
theorem dX4_becomes_80 : decode eX4_becomes.2.1 80 = .ok (.invokestatic 68, 3) := by decide +kernel
theorem dX4_becomes_83 : decode eX4_becomes.2.1 83 = .ok (.aload_n 1, 1) := by decide +kernel
theorem dX4_becomes_84 : decode eX4_becomes.2.1 84 = .ok (.getfield 31, 3) := by decide +kernel
theorem dX4_becomes_87 : decode eX4_becomes.2.1 87 = .ok (.iconst 0, 1) := by decide +kernel
theorem dX4_becomes_88 : decode eX4_becomes.2.1 88 = .ok (.aload_n 0, 1) := by decide +kernel
theorem dX4_becomes_89 : decode eX4_becomes.2.1 89 = .ok (.getfield 31, 3) := by decide +kernel
theorem dX4_becomes_92 : decode eX4_becomes.2.1 92 = .ok (.iconst 0, 1) := by decide +kernel
theorem dX4_becomes_93 : decode eX4_becomes.2.1 93 = .ok (.bipush 48, 2) := by decide +kernel
theorem dX4_becomes_95 : decode eX4_becomes.2.1 95 = .ok (.invokestatic 68, 3) := by decide +kernel
theorem dX4_becomes_98 : decode eX4_becomes.2.1 98 = .ok (.aload_n 1, 1) := by decide +kernel
theorem dX4_becomes_99 : decode eX4_becomes.2.1 99 = .ok (.getfield 34, 3) := by decide +kernel
theorem dX4_becomes_102 : decode eX4_becomes.2.1 102 = .ok (.iconst 0, 1) := by decide +kernel
theorem dX4_becomes_103 : decode eX4_becomes.2.1 103 = .ok (.aload_n 0, 1) := by decide +kernel
theorem dX4_becomes_104 : decode eX4_becomes.2.1 104 = .ok (.getfield 34, 3) := by decide +kernel
theorem dX4_becomes_107 : decode eX4_becomes.2.1 107 = .ok (.iconst 0, 1) := by decide +kernel
theorem dX4_becomes_108 : decode eX4_becomes.2.1 108 = .ok (.bipush 48, 2) := by decide +kernel
theorem dX4_becomes_110 : decode eX4_becomes.2.1 110 = .ok (.invokestatic 68, 3) := by decide +kernel
theorem dX4_becomes_113 : decode eX4_becomes.2.1 113 = .ok (.aload_n 1, 1) := by decide +kernel
theorem dX4_becomes_114 : decode eX4_becomes.2.1 114 = .ok (.getfield 37, 3) := by decide +kernel
theorem dX4_becomes_117 : decode eX4_becomes.2.1 117 = .ok (.iconst 0, 1) := by decide +kernel
theorem dX4_becomes_118 : decode eX4_becomes.2.1 118 = .ok (.aload_n 0, 1) := by decide +kernel
theorem dX4_becomes_119 : decode eX4_becomes.2.1 119 = .ok (.getfield 37, 3) := by decide +kernel
theorem dX4_becomes_122 : decode eX4_becomes.2.1 122 = .ok (.iconst 0, 1) := by decide +kernel
theorem dX4_becomes_123 : decode eX4_becomes.2.1 123 = .ok (.bipush 48, 2) := by decide +kernel
theorem dX4_becomes_125 : decode eX4_becomes.2.1 125 = .ok (.invokestatic 68, 3) := by decide +kernel
theorem dX4_becomes_128 : decode eX4_becomes.2.1 128 = .ok (.aload_n 1, 1) := by decide +kernel
theorem dX4_becomes_129 : decode eX4_becomes.2.1 129 = .ok (.getfield 40, 3) := by decide +kernel
theorem dX4_becomes_132 : decode eX4_becomes.2.1 132 = .ok (.iconst 0, 1) := by decide +kernel
theorem dX4_becomes_133 : decode eX4_becomes.2.1 133 = .ok (.aload_n 0, 1) := by decide +kernel
theorem dX4_becomes_134 : decode eX4_becomes.2.1 134 = .ok (.getfield 40, 3) := by decide +kernel
theorem dX4_becomes_137 : decode eX4_becomes.2.1 137 = .ok (.iconst 0, 1) := by decide +kernel
theorem dX4_becomes_138 : decode eX4_becomes.2.1 138 = .ok (.bipush 10, 2) := by decide +kernel
theorem dX4_becomes_140 : decode eX4_becomes.2.1 140 = .ok (.invokestatic 68, 3) := by decide +kernel
theorem dX4_becomes_143 : decode eX4_becomes.2.1 143 = .ok (.aload_n 1, 1) := by decide +kernel
theorem dX4_becomes_144 : decode eX4_becomes.2.1 144 = .ok (.getfield 43, 3) := by decide +kernel
theorem dX4_becomes_147 : decode eX4_becomes.2.1 147 = .ok (.iconst 0, 1) := by decide +kernel
theorem dX4_becomes_148 : decode eX4_becomes.2.1 148 = .ok (.aload_n 0, 1) := by decide +kernel
theorem dX4_becomes_149 : decode eX4_becomes.2.1 149 = .ok (.getfield 43, 3) := by decide +kernel
theorem dX4_becomes_152 : decode eX4_becomes.2.1 152 = .ok (.iconst 0, 1) := by decide +kernel
theorem dX4_becomes_153 : decode eX4_becomes.2.1 153 = .ok (.bipush 10, 2) := by decide +kernel
theorem dX4_becomes_155 : decode eX4_becomes.2.1 155 = .ok (.invokestatic 68, 3) := by decide +kernel
theorem dX4_becomes_158 : decode eX4_becomes.2.1 158 = .ok (.aload_n 1, 1) := by decide +kernel
theorem dX4_becomes_159 : decode eX4_becomes.2.1 159 = .ok (.getfield 46, 3) := by decide +kernel
theorem dX4_becomes_162 : decode eX4_becomes.2.1 162 = .ok (.iconst 0, 1) := by decide +kernel
theorem dX4_becomes_163 : decode eX4_becomes.2.1 163 = .ok (.aload_n 0, 1) := by decide +kernel
theorem dX4_becomes_164 : decode eX4_becomes.2.1 164 = .ok (.getfield 46, 3) := by decide +kernel
theorem dX4_becomes_167 : decode eX4_becomes.2.1 167 = .ok (.iconst 0, 1) := by decide +kernel
theorem dX4_becomes_168 : decode eX4_becomes.2.1 168 = .ok (.bipush 6, 2) := by decide +kernel
theorem dX4_becomes_170 : decode eX4_becomes.2.1 170 = .ok (.invokestatic 68, 3) := by decide +kernel
theorem dX4_becomes_173 : decode eX4_becomes.2.1 173 = .ok (.aload_n 1, 1) := by decide +kernel
theorem dX4_becomes_174 : decode eX4_becomes.2.1 174 = .ok (.getfield 49, 3) := by decide +kernel
theorem dX4_becomes_177 : decode eX4_becomes.2.1 177 = .ok (.iconst 0, 1) := by decide +kernel
theorem dX4_becomes_178 : decode eX4_becomes.2.1 178 = .ok (.aload_n 0, 1) := by decide +kernel
theorem dX4_becomes_179 : decode eX4_becomes.2.1 179 = .ok (.getfield 49, 3) := by decide +kernel
theorem dX4_becomes_182 : decode eX4_becomes.2.1 182 = .ok (.iconst 0, 1) := by decide +kernel
theorem dX4_becomes_183 : decode eX4_becomes.2.1 183 = .ok (.iconst 4, 1) := by decide +kernel
theorem dX4_becomes_184 : decode eX4_becomes.2.1 184 = .ok (.invokestatic 68, 3) := by decide +kernel
theorem dX4_becomes_187 : decode eX4_becomes.2.1 187 = .ok (.aload_n 0, 1) := by decide +kernel
theorem dX4_becomes_188 : decode eX4_becomes.2.1 188 = .ok (.aload_n 1, 1) := by decide +kernel
theorem dX4_becomes_189 : decode eX4_becomes.2.1 189 = .ok (.getfield 52, 3) := by decide +kernel
theorem dX4_becomes_192 : decode eX4_becomes.2.1 192 = .ok (.putfield 52, 3) := by decide +kernel
theorem dX4_becomes_195 : decode eX4_becomes.2.1 195 = .ok (.aload_n 0, 1) := by decide +kernel
theorem dX4_becomes_196 : decode eX4_becomes.2.1 196 = .ok (.aload_n 1, 1) := by decide +kernel
theorem dX4_becomes_197 : decode eX4_becomes.2.1 197 = .ok (.getfield 55, 3) := by decide +kernel
theorem dX4_becomes_200 : decode eX4_becomes.2.1 200 = .ok (.putfield 55, 3) := by decide +kernel
theorem dX4_becomes_203 : decode eX4_becomes.2.1 203 = .ok (.aload_n 0, 1) := by decide +kernel
theorem dX4_becomes_204 : decode eX4_becomes.2.1 204 = .ok (.aload_n 1, 1) := by decide +kernel
theorem dX4_becomes_205 : decode eX4_becomes.2.1 205 = .ok (.getfield 58, 3) := by decide +kernel
theorem dX4_becomes_208 : decode eX4_becomes.2.1 208 = .ok (.putfield 58, 3) := by decide +kernel
theorem dX4_becomes_211 : decode eX4_becomes.2.1 211 = .ok (.aload_n 0, 1) := by decide +kernel
theorem dX4_becomes_212 : decode eX4_becomes.2.1 212 = .ok (.aload_n 1, 1) := by decide +kernel
theorem dX4_becomes_213 : decode eX4_becomes.2.1 213 = .ok (.getfield 61, 3) := by decide +kernel
theorem dX4_becomes_216 : decode eX4_becomes.2.1 216 = .ok (.putfield 61, 3) := by decide +kernel
theorem dX4_becomes_219 : decode eX4_becomes.2.1 219 = .ok (.return_, 1) := by decide +kernel
theorem dX4_add_0 : decode eX4_add.2.1 0 = .ok (.aload_n 0, 1) := by decide +kernel
theorem dX4_add_1 : decode eX4_add.2.1 1 = .ok (.getfield 15, 3) := by decide +kernel
theorem dX4_add_4 : decode eX4_add.2.1 4 = .ok (.aload_n 0, 1) := by decide +kernel
theorem dX4_add_5 : decode eX4_add.2.1 5 = .ok (.getfield 9, 3) := by decide +kernel
theorem dX4_add_8 : decode eX4_add.2.1 8 = .ok (.iload_n 1, 1) := by decide +kernel
theorem dX4_add_9 : decode eX4_add.2.1 9 = .ok (.iastore, 1) := by decide +kernel
theorem dX4_add_10 : decode eX4_add.2.1 10 = .ok (.aload_n 0, 1) := by decide +kernel
theorem dX4_add_11 : decode eX4_add.2.1 11 = .ok (.getfield 19, 3) := by decide +kernel
theorem dX4_add_14 : decode eX4_add.2.1 14 = .ok (.aload_n 0, 1) := by decide +kernel
theorem dX4_add_15 : decode eX4_add.2.1 15 = .ok (.getfield 9, 3) := by decide +kernel
theorem dX4_add_18 : decode eX4_add.2.1 18 = .ok (.iload_n 2, 1) := by decide +kernel
theorem dX4_add_19 : decode eX4_add.2.1 19 = .ok (.iastore, 1) := by decide +kernel
theorem dX4_add_20 : decode eX4_add.2.1 20 = .ok (.aload_n 0, 1) := by decide +kernel
theorem dX4_add_21 : decode eX4_add.2.1 21 = .ok (.getfield 22, 3) := by decide +kernel
theorem dX4_add_24 : decode eX4_add.2.1 24 = .ok (.aload_n 0, 1) := by decide +kernel
theorem dX4_add_25 : decode eX4_add.2.1 25 = .ok (.getfield 9, 3) := by decide +kernel
theorem dX4_add_28 : decode eX4_add.2.1 28 = .ok (.iload_n 3, 1) := by decide +kernel
theorem dX4_add_29 : decode eX4_add.2.1 29 = .ok (.iastore, 1) := by decide +kernel
theorem dX4_add_30 : decode eX4_add.2.1 30 = .ok (.aload_n 0, 1) := by decide +kernel
theorem dX4_add_31 : decode eX4_add.2.1 31 = .ok (.getfield 25, 3) := by decide +kernel
theorem dX4_add_34 : decode eX4_add.2.1 34 = .ok (.aload_n 0, 1) := by decide +kernel
theorem dX4_add_35 : decode eX4_add.2.1 35 = .ok (.getfield 9, 3) := by decide +kernel
theorem dX4_add_38 : decode eX4_add.2.1 38 = .ok (.iload 4, 2) := by decide +kernel
theorem dX4_add_40 : decode eX4_add.2.1 40 = .ok (.iastore, 1) := by decide +kernel
theorem dX4_add_41 : decode eX4_add.2.1 41 = .ok (.aload_n 0, 1) := by decide +kernel
theorem dX4_add_42 : decode eX4_add.2.1 42 = .ok (.getfield 28, 3) := by decide +kernel
theorem dX4_add_45 : decode eX4_add.2.1 45 = .ok (.aload_n 0, 1) := by decide +kernel
theorem dX4_add_46 : decode eX4_add.2.1 46 = .ok (.getfield 9, 3) := by decide +kernel
theorem dX4_add_49 : decode eX4_add.2.1 49 = .ok (.iload 5, 2) := by decide +kernel
theorem dX4_add_51 : decode eX4_add.2.1 51 = .ok (.iastore, 1) := by decide +kernel
theorem dX4_add_52 : decode eX4_add.2.1 52 = .ok (.aload_n 0, 1) := by decide +kernel
theorem dX4_add_53 : decode eX4_add.2.1 53 = .ok (.getfield 31, 3) := by decide +kernel
theorem dX4_add_56 : decode eX4_add.2.1 56 = .ok (.aload_n 0, 1) := by decide +kernel
theorem dX4_add_57 : decode eX4_add.2.1 57 = .ok (.getfield 9, 3) := by decide +kernel
theorem dX4_add_60 : decode eX4_add.2.1 60 = .ok (.iconst 0, 1) := by decide +kernel
theorem dX4_add_61 : decode eX4_add.2.1 61 = .ok (.iastore, 1) := by decide +kernel
theorem dX4_add_62 : decode eX4_add.2.1 62 = .ok (.aload_n 0, 1) := by decide +kernel
theorem dX4_add_63 : decode eX4_add.2.1 63 = .ok (.getfield 34, 3) := by decide +kernel
theorem dX4_add_66 : decode eX4_add.2.1 66 = .ok (.iload_n 2, 1) := by decide +kernel
theorem dX4_add_67 : decode eX4_add.2.1 67 = .ok (.aload_n 0, 1) := by decide +kernel
theorem dX4_add_68 : decode eX4_add.2.1 68 = .ok (.getfield 9, 3) := by decide +kernel
theorem dX4_add_71 : decode eX4_add.2.1 71 = .ok (.iastore, 1) := by decide +kernel
theorem dX4_add_72 : decode eX4_add.2.1 72 = .ok (.aload_n 0, 1) := by decide +kernel
theorem dX4_add_73 : decode eX4_add.2.1 73 = .ok (.dup, 1) := by decide +kernel
theorem dX4_add_74 : decode eX4_add.2.1 74 = .ok (.getfield 9, 3) := by decide +kernel
theorem dX4_add_77 : decode eX4_add.2.1 77 = .ok (.dup_x1, 1) := by decide +kernel
theorem dX4_add_78 : decode eX4_add.2.1 78 = .ok (.iconst 1, 1) := by decide +kernel
theorem dX4_add_79 : decode eX4_add.2.1 79 = .ok (.iadd, 1) := by decide +kernel
theorem dX4_add_80 : decode eX4_add.2.1 80 = .ok (.putfield 9, 3) := by decide +kernel
theorem dX4_add_83 : decode eX4_add.2.1 83 = .ok (.ireturn, 1) := by decide +kernel
theorem dX4_isOf_0 : decode eX4_isOf.2.1 0 = .ok (.getstatic 74, 3) := by decide +kernel
theorem dX4_isOf_3 : decode eX4_isOf.2.1 3 = .ok (.aload_n 0, 1) := by decide +kernel
theorem dX4_isOf_4 : decode eX4_isOf.2.1 4 = .ok (.getfield 15, 3) := by decide +kernel
theorem dX4_isOf_7 : decode eX4_isOf.2.1 7 = .ok (.iload_n 1, 1) := by decide +kernel
theorem dX4_isOf_8 : decode eX4_isOf.2.1 8 = .ok (.iaload, 1) := by decide +kernel
theorem dX4_isOf_9 : decode eX4_isOf.2.1 9 = .ok (.iaload, 1) := by decide +kernel
theorem dX4_isOf_10 : decode eX4_isOf.2.1 10 = .ok (.istore_n 3, 1) := by decide +kernel
theorem dX4_isOf_11 : decode eX4_isOf.2.1 11 = .ok (.aload_n 0, 1) := by decide +kernel
theorem dX4_isOf_12 : decode eX4_isOf.2.1 12 = .ok (.getfield 15, 3) := by decide +kernel
theorem dX4_isOf_15 : decode eX4_isOf.2.1 15 = .ok (.iload_n 1, 1) := by decide +kernel
theorem dX4_isOf_16 : decode eX4_isOf.2.1 16 = .ok (.iaload, 1) := by decide +kernel
theorem dX4_isOf_17 : decode eX4_isOf.2.1 17 = .ok (.iload_n 2, 1) := by decide +kernel
theorem dX4_isOf_18 : decode eX4_isOf.2.1 18 = .ok (.if_icmp .eq 23, 3) := by decide +kernel
theorem dX4_isOf_21 : decode eX4_isOf.2.1 21 = .ok (.iload_n 3, 1) := by decide +kernel
theorem dX4_isOf_22 : decode eX4_isOf.2.1 22 = .ok (.iload_n 2, 1) := by decide +kernel
theorem dX4_isOf_23 : decode eX4_isOf.2.1 23 = .ok (.if_icmp .eq 18, 3) := by decide +kernel
theorem dX4_isOf_26 : decode eX4_isOf.2.1 26 = .ok (.iload_n 3, 1) := by decide +kernel
theorem dX4_isOf_27 : decode eX4_isOf.2.1 27 = .ok (.ldc 64, 2) := by decide +kernel
theorem dX4_isOf_29 : decode eX4_isOf.2.1 29 = .ok (.if_icmp .eq 16, 3) := by decide +kernel
theorem dX4_isOf_32 : decode eX4_isOf.2.1 32 = .ok (.getstatic 74, 3) := by decide +kernel
theorem dX4_isOf_35 : decode eX4_isOf.2.1 35 = .ok (.iload_n 3, 1) := by decide +kernel
theorem dX4_isOf_36 : decode eX4_isOf.2.1 36 = .ok (.iaload, 1) := by decide +kernel
theorem dX4_isOf_37 : decode eX4_isOf.2.1 37 = .ok (.iload_n 2, 1) := by decide +kernel
theorem dX4_isOf_38 : decode eX4_isOf.2.1 38 = .ok (.if_icmp .ne 7, 3) := by decide +kernel
theorem dX4_isOf_41 : decode eX4_isOf.2.1 41 = .ok (.iconst 1, 1) := by decide +kernel
theorem dX4_isOf_42 : decode eX4_isOf.2.1 42 = .ok (.goto 4, 3) := by decide +kernel
theorem dX4_isOf_45 : decode eX4_isOf.2.1 45 = .ok (.iconst 0, 1) := by decide +kernel
theorem dX4_isOf_46 : decode eX4_isOf.2.1 46 = .ok (.ireturn, 1) := by decide +kernel
theorem dX4_aimOf_0 : decode eX4_aimOf.2.1 0 = .ok (.aload_n 0, 1) := by decide +kernel
theorem dX4_aimOf_1 : decode eX4_aimOf.2.1 1 = .ok (.getfield 25, 3) := by decide +kernel
theorem dX4_aimOf_4 : decode eX4_aimOf.2.1 4 = .ok (.iload_n 1, 1) := by decide +kernel
theorem dX4_aimOf_5 : decode eX4_aimOf.2.1 5 = .ok (.iaload, 1) := by decide +kernel
theorem dX4_aimOf_6 : decode eX4_aimOf.2.1 6 = .ok (.aload_n 0, 1) := by decide +kernel
theorem dX4_aimOf_7 : decode eX4_aimOf.2.1 7 = .ok (.getfield 46, 3) := by decide +kernel
theorem dX4_aimOf_10 : decode eX4_aimOf.2.1 10 = .ok (.aload_n 0, 1) := by decide +kernel
theorem dX4_aimOf_11 : decode eX4_aimOf.2.1 11 = .ok (.getfield 40, 3) := by decide +kernel
theorem dX4_aimOf_14 : decode eX4_aimOf.2.1 14 = .ok (.aload_n 0, 1) := by decide +kernel
theorem dX4_aimOf_15 : decode eX4_aimOf.2.1 15 = .ok (.getfield 28, 3) := by decide +kernel
theorem dX4_aimOf_18 : decode eX4_aimOf.2.1 18 = .ok (.iload_n 1, 1) := by decide +kernel
theorem dX4_aimOf_19 : decode eX4_aimOf.2.1 19 = .ok (.iaload, 1) := by decide +kernel
theorem dX4_aimOf_20 : decode eX4_aimOf.2.1 20 = .ok (.iaload, 1) := by decide +kernel
theorem dX4_aimOf_21 : decode eX4_aimOf.2.1 21 = .ok (.iaload, 1) := by decide +kernel
theorem dX4_aimOf_22 : decode eX4_aimOf.2.1 22 = .ok (.aload_n 0, 1) := by decide +kernel
theorem dX4_aimOf_23 : decode eX4_aimOf.2.1 23 = .ok (.getfield 43, 3) := by decide +kernel
theorem dX4_aimOf_26 : decode eX4_aimOf.2.1 26 = .ok (.aload_n 0, 1) := by decide +kernel
theorem dX4_aimOf_27 : decode eX4_aimOf.2.1 27 = .ok (.getfield 28, 3) := by decide +kernel
theorem dX4_aimOf_30 : decode eX4_aimOf.2.1 30 = .ok (.iload_n 1, 1) := by decide +kernel
theorem dX4_aimOf_31 : decode eX4_aimOf.2.1 31 = .ok (.iaload, 1) := by decide +kernel
theorem dX4_aimOf_32 : decode eX4_aimOf.2.1 32 = .ok (.iaload, 1) := by decide +kernel
theorem dX4_aimOf_33 : decode eX4_aimOf.2.1 33 = .ok (.imul, 1) := by decide +kernel
theorem dX4_aimOf_34 : decode eX4_aimOf.2.1 34 = .ok (.iconst 5, 1) := by decide +kernel
theorem dX4_aimOf_35 : decode eX4_aimOf.2.1 35 = .ok (.idiv, 1) := by decide +kernel
theorem dX4_aimOf_36 : decode eX4_aimOf.2.1 36 = .ok (.invokestatic 77, 3) := by decide +kernel
theorem dX4_aimOf_39 : decode eX4_aimOf.2.1 39 = .ok (.istore_n 2, 1) := by decide +kernel
theorem dX4_aimOf_40 : decode eX4_aimOf.2.1 40 = .ok (.aload_n 0, 1) := by decide +kernel
theorem dX4_aimOf_41 : decode eX4_aimOf.2.1 41 = .ok (.getfield 15, 3) := by decide +kernel
theorem dX4_aimOf_44 : decode eX4_aimOf.2.1 44 = .ok (.iload_n 1, 1) := by decide +kernel
theorem dX4_aimOf_45 : decode eX4_aimOf.2.1 45 = .ok (.iaload, 1) := by decide +kernel
theorem dX4_aimOf_46 : decode eX4_aimOf.2.1 46 = .ok (.tableswitch 57 2 5 #[30, 39, 46, 50], 30) := by decide +kernel
theorem dX4_aimOf_76 : decode eX4_aimOf.2.1 76 = .ok (.aload_n 0, 1) := by decide +kernel
theorem dX4_aimOf_77 : decode eX4_aimOf.2.1 77 = .ok (.getfield 25, 3) := by decide +kernel
theorem dX4_aimOf_80 : decode eX4_aimOf.2.1 80 = .ok (.iload_n 1, 1) := by decide +kernel
theorem dX4_aimOf_81 : decode eX4_aimOf.2.1 81 = .ok (.iaload, 1) := by decide +kernel
theorem dX4_aimOf_82 : decode eX4_aimOf.2.1 82 = .ok (.iload_n 2, 1) := by decide +kernel
theorem dX4_aimOf_83 : decode eX4_aimOf.2.1 83 = .ok (.isub, 1) := by decide +kernel
theorem dX4_aimOf_84 : decode eX4_aimOf.2.1 84 = .ok (.ireturn, 1) := by decide +kernel
theorem dX4_aimOf_85 : decode eX4_aimOf.2.1 85 = .ok (.aload_n 0, 1) := by decide +kernel
theorem dX4_aimOf_86 : decode eX4_aimOf.2.1 86 = .ok (.getfield 25, 3) := by decide +kernel
theorem dX4_aimOf_89 : decode eX4_aimOf.2.1 89 = .ok (.iload_n 1, 1) := by decide +kernel
theorem dX4_aimOf_90 : decode eX4_aimOf.2.1 90 = .ok (.iaload, 1) := by decide +kernel
theorem dX4_aimOf_91 : decode eX4_aimOf.2.1 91 = .ok (.ireturn, 1) := by decide +kernel
theorem dX4_aimOf_92 : decode eX4_aimOf.2.1 92 = .ok (.iload_n 2, 1) := by decide +kernel
theorem dX4_aimOf_93 : decode eX4_aimOf.2.1 93 = .ok (.iconst 2, 1) := by decide +kernel
theorem dX4_aimOf_94 : decode eX4_aimOf.2.1 94 = .ok (.idiv, 1) := by decide +kernel
theorem dX4_aimOf_95 : decode eX4_aimOf.2.1 95 = .ok (.ireturn, 1) := by decide +kernel
theorem dX4_aimOf_96 : decode eX4_aimOf.2.1 96 = .ok (.aload_n 0, 1) := by decide +kernel
theorem dX4_aimOf_97 : decode eX4_aimOf.2.1 97 = .ok (.getfield 31, 3) := by decide +kernel
theorem dX4_aimOf_100 : decode eX4_aimOf.2.1 100 = .ok (.iload_n 1, 1) := by decide +kernel
theorem dX4_aimOf_101 : decode eX4_aimOf.2.1 101 = .ok (.iaload, 1) := by decide +kernel
theorem dX4_aimOf_102 : decode eX4_aimOf.2.1 102 = .ok (.ireturn, 1) := by decide +kernel
theorem dX4_aimOf_103 : decode eX4_aimOf.2.1 103 = .ok (.iload_n 2, 1) := by decide +kernel
theorem dX4_aimOf_104 : decode eX4_aimOf.2.1 104 = .ok (.ireturn, 1) := by decide +kernel
theorem dX4_paceOf_0 : decode eX4_paceOf.2.1 0 = .ok (.aload_n 0, 1) := by decide +kernel
theorem dX4_paceOf_1 : decode eX4_paceOf.2.1 1 = .ok (.getfield 15, 3) := by decide +kernel
theorem dX4_paceOf_4 : decode eX4_paceOf.2.1 4 = .ok (.iload_n 1, 1) := by decide +kernel
theorem dX4_paceOf_5 : decode eX4_paceOf.2.1 5 = .ok (.iaload, 1) := by decide +kernel
theorem dX4_paceOf_6 : decode eX4_paceOf.2.1 6 = .ok (.tableswitch 57 1 5 #[34, 50, 52, 57, 55], 34) := by decide +kernel
theorem dX4_paceOf_40 : decode eX4_paceOf.2.1 40 = .ok (.aload_n 0, 1) := by decide +kernel
theorem dX4_paceOf_41 : decode eX4_paceOf.2.1 41 = .ok (.getfield 22, 3) := by decide +kernel
theorem dX4_paceOf_44 : decode eX4_paceOf.2.1 44 = .ok (.iload_n 1, 1) := by decide +kernel
theorem dX4_paceOf_45 : decode eX4_paceOf.2.1 45 = .ok (.iaload, 1) := by decide +kernel
theorem dX4_paceOf_46 : decode eX4_paceOf.2.1 46 = .ok (.iconst 4, 1) := by decide +kernel
theorem dX4_paceOf_47 : decode eX4_paceOf.2.1 47 = .ok (.if_icmp .le 7, 3) := by decide +kernel
theorem dX4_paceOf_50 : decode eX4_paceOf.2.1 50 = .ok (.iconst 2, 1) := by decide +kernel
theorem dX4_paceOf_51 : decode eX4_paceOf.2.1 51 = .ok (.goto 4, 3) := by decide +kernel
theorem dX4_paceOf_54 : decode eX4_paceOf.2.1 54 = .ok (.iconst 1, 1) := by decide +kernel
theorem dX4_paceOf_55 : decode eX4_paceOf.2.1 55 = .ok (.ireturn, 1) := by decide +kernel
theorem dX4_paceOf_56 : decode eX4_paceOf.2.1 56 = .ok (.iconst 2, 1) := by decide +kernel
theorem dX4_paceOf_57 : decode eX4_paceOf.2.1 57 = .ok (.ireturn, 1) := by decide +kernel
theorem dX4_paceOf_58 : decode eX4_paceOf.2.1 58 = .ok (.bipush 9, 2) := by decide +kernel
theorem dX4_paceOf_60 : decode eX4_paceOf.2.1 60 = .ok (.ireturn, 1) := by decide +kernel
theorem dX4_paceOf_61 : decode eX4_paceOf.2.1 61 = .ok (.iconst 0, 1) := by decide +kernel
theorem dX4_paceOf_62 : decode eX4_paceOf.2.1 62 = .ok (.ireturn, 1) := by decide +kernel
theorem dX4_paceOf_63 : decode eX4_paceOf.2.1 63 = .ok (.iconst 1, 1) := by decide +kernel
theorem dX4_paceOf_64 : decode eX4_paceOf.2.1 64 = .ok (.ireturn, 1) := by decide +kernel
theorem dX4_givenBy_0 : decode eX4_givenBy.2.1 0 = .ok (.aload_n 0, 1) := by decide +kernel
theorem dX4_givenBy_1 : decode eX4_givenBy.2.1 1 = .ok (.getfield 15, 3) := by decide +kernel
theorem dX4_givenBy_4 : decode eX4_givenBy.2.1 4 = .ok (.iload_n 1, 1) := by decide +kernel
theorem dX4_givenBy_5 : decode eX4_givenBy.2.1 5 = .ok (.iaload, 1) := by decide +kernel
theorem dX4_givenBy_6 : decode eX4_givenBy.2.1 6 = .ok (.tableswitch 77 1 4 #[30, 45, 54, 70], 30) := by decide +kernel
theorem dX4_givenBy_36 : decode eX4_givenBy.2.1 36 = .ok (.aload_n 0, 1) := by decide +kernel
theorem dX4_givenBy_37 : decode eX4_givenBy.2.1 37 = .ok (.getfield 22, 3) := by decide +kernel
theorem dX4_givenBy_40 : decode eX4_givenBy.2.1 40 = .ok (.iload_n 1, 1) := by decide +kernel
theorem dX4_givenBy_41 : decode eX4_givenBy.2.1 41 = .ok (.iaload, 1) := by decide +kernel
theorem dX4_givenBy_42 : decode eX4_givenBy.2.1 42 = .ok (.ineg, 1) := by decide +kernel
theorem dX4_givenBy_43 : decode eX4_givenBy.2.1 43 = .ok (.aload_n 0, 1) := by decide +kernel
theorem dX4_givenBy_44 : decode eX4_givenBy.2.1 44 = .ok (.getfield 31, 3) := by decide +kernel
theorem dX4_givenBy_47 : decode eX4_givenBy.2.1 47 = .ok (.iload_n 1, 1) := by decide +kernel
theorem dX4_givenBy_48 : decode eX4_givenBy.2.1 48 = .ok (.iaload, 1) := by decide +kernel
theorem dX4_givenBy_49 : decode eX4_givenBy.2.1 49 = .ok (.imul, 1) := by decide +kernel
theorem dX4_givenBy_50 : decode eX4_givenBy.2.1 50 = .ok (.ireturn, 1) := by decide +kernel
theorem dX4_givenBy_51 : decode eX4_givenBy.2.1 51 = .ok (.iconst 2, 1) := by decide +kernel
theorem dX4_givenBy_52 : decode eX4_givenBy.2.1 52 = .ok (.aload_n 0, 1) := by decide +kernel
theorem dX4_givenBy_53 : decode eX4_givenBy.2.1 53 = .ok (.getfield 31, 3) := by decide +kernel
theorem dX4_givenBy_56 : decode eX4_givenBy.2.1 56 = .ok (.iload_n 1, 1) := by decide +kernel
theorem dX4_givenBy_57 : decode eX4_givenBy.2.1 57 = .ok (.iaload, 1) := by decide +kernel
theorem dX4_givenBy_58 : decode eX4_givenBy.2.1 58 = .ok (.imul, 1) := by decide +kernel
theorem dX4_givenBy_59 : decode eX4_givenBy.2.1 59 = .ok (.ireturn, 1) := by decide +kernel
theorem dX4_givenBy_60 : decode eX4_givenBy.2.1 60 = .ok (.iconst 2, 1) := by decide +kernel
theorem dX4_givenBy_61 : decode eX4_givenBy.2.1 61 = .ok (.aload_n 0, 1) := by decide +kernel
theorem dX4_givenBy_62 : decode eX4_givenBy.2.1 62 = .ok (.getfield 31, 3) := by decide +kernel
theorem dX4_givenBy_65 : decode eX4_givenBy.2.1 65 = .ok (.iload_n 1, 1) := by decide +kernel
theorem dX4_givenBy_66 : decode eX4_givenBy.2.1 66 = .ok (.iaload, 1) := by decide +kernel
theorem dX4_givenBy_67 : decode eX4_givenBy.2.1 67 = .ok (.imul, 1) := by decide +kernel
theorem dX4_givenBy_68 : decode eX4_givenBy.2.1 68 = .ok (.aload_n 0, 1) := by decide +kernel
theorem dX4_givenBy_69 : decode eX4_givenBy.2.1 69 = .ok (.getfield 22, 3) := by decide +kernel
theorem dX4_givenBy_72 : decode eX4_givenBy.2.1 72 = .ok (.iload_n 1, 1) := by decide +kernel
theorem dX4_givenBy_73 : decode eX4_givenBy.2.1 73 = .ok (.iaload, 1) := by decide +kernel
theorem dX4_givenBy_74 : decode eX4_givenBy.2.1 74 = .ok (.iadd, 1) := by decide +kernel
theorem dX4_givenBy_75 : decode eX4_givenBy.2.1 75 = .ok (.ireturn, 1) := by decide +kernel
theorem dX4_givenBy_76 : decode eX4_givenBy.2.1 76 = .ok (.aload_n 0, 1) := by decide +kernel
theorem dX4_givenBy_77 : decode eX4_givenBy.2.1 77 = .ok (.getfield 31, 3) := by decide +kernel
theorem dX4_givenBy_80 : decode eX4_givenBy.2.1 80 = .ok (.iload_n 1, 1) := by decide +kernel
theorem dX4_givenBy_81 : decode eX4_givenBy.2.1 81 = .ok (.iaload, 1) := by decide +kernel
theorem dX4_givenBy_82 : decode eX4_givenBy.2.1 82 = .ok (.ireturn, 1) := by decide +kernel
theorem dX4_givenBy_83 : decode eX4_givenBy.2.1 83 = .ok (.iconst 0, 1) := by decide +kernel
theorem dX4_givenBy_84 : decode eX4_givenBy.2.1 84 = .ok (.ireturn, 1) := by decide +kernel
theorem dX4_heightAt_0 : decode eX4_heightAt.2.1 0 = .ok (.aload_n 0, 1) := by decide +kernel
theorem dX4_heightAt_1 : decode eX4_heightAt.2.1 1 = .ok (.getfield 34, 3) := by decide +kernel
theorem dX4_heightAt_4 : decode eX4_heightAt.2.1 4 = .ok (.iload_n 1, 1) := by decide +kernel
theorem dX4_heightAt_5 : decode eX4_heightAt.2.1 5 = .ok (.iaload, 1) := by decide +kernel
theorem dX4_heightAt_6 : decode eX4_heightAt.2.1 6 = .ok (.istore_n 2, 1) := by decide +kernel
theorem dX4_heightAt_7 : decode eX4_heightAt.2.1 7 = .ok (.iload_n 2, 1) := by decide +kernel
theorem dX4_heightAt_8 : decode eX4_heightAt.2.1 8 = .ok (.ldc 64, 2) := by decide +kernel
theorem dX4_heightAt_10 : decode eX4_heightAt.2.1 10 = .ok (.if_icmp .eq 22, 3) := by decide +kernel
theorem dX4_heightAt_13 : decode eX4_heightAt.2.1 13 = .ok (.aload_n 0, 1) := by decide +kernel
theorem dX4_heightAt_14 : decode eX4_heightAt.2.1 14 = .ok (.getfield 15, 3) := by decide +kernel
theorem dX4_heightAt_17 : decode eX4_heightAt.2.1 17 = .ok (.iload_n 2, 1) := by decide +kernel
theorem dX4_heightAt_18 : decode eX4_heightAt.2.1 18 = .ok (.iaload, 1) := by decide +kernel
theorem dX4_heightAt_19 : decode eX4_heightAt.2.1 19 = .ok (.iconst 4, 1) := by decide +kernel
theorem dX4_heightAt_20 : decode eX4_heightAt.2.1 20 = .ok (.if_icmp .ne 12, 3) := by decide +kernel
theorem dX4_heightAt_23 : decode eX4_heightAt.2.1 23 = .ok (.aload_n 0, 1) := by decide +kernel
theorem dX4_heightAt_24 : decode eX4_heightAt.2.1 24 = .ok (.getfield 31, 3) := by decide +kernel
theorem dX4_heightAt_27 : decode eX4_heightAt.2.1 27 = .ok (.iload_n 2, 1) := by decide +kernel
theorem dX4_heightAt_28 : decode eX4_heightAt.2.1 28 = .ok (.iaload, 1) := by decide +kernel
theorem dX4_heightAt_29 : decode eX4_heightAt.2.1 29 = .ok (.goto 4, 3) := by decide +kernel
theorem dX4_heightAt_32 : decode eX4_heightAt.2.1 32 = .ok (.iconst 0, 1) := by decide +kernel
theorem dX4_heightAt_33 : decode eX4_heightAt.2.1 33 = .ok (.ireturn, 1) := by decide +kernel
theorem dX4_lightAt_0 : decode eX4_lightAt.2.1 0 = .ok (.aload_n 0, 1) := by decide +kernel
theorem dX4_lightAt_1 : decode eX4_lightAt.2.1 1 = .ok (.iload_n 1, 1) := by decide +kernel
theorem dX4_lightAt_2 : decode eX4_lightAt.2.1 2 = .ok (.invokevirtual 83, 3) := by decide +kernel
theorem dX4_lightAt_5 : decode eX4_lightAt.2.1 5 = .ok (.iload_n 1, 1) := by decide +kernel
theorem dX4_lightAt_6 : decode eX4_lightAt.2.1 6 = .ok (.bipush 8, 2) := by decide +kernel
theorem dX4_lightAt_8 : decode eX4_lightAt.2.1 8 = .ok (.if_icmp .ge 7, 3) := by decide +kernel
theorem dX4_lightAt_11 : decode eX4_lightAt.2.1 11 = .ok (.iconst 0, 1) := by decide +kernel
theorem dX4_lightAt_12 : decode eX4_lightAt.2.1 12 = .ok (.goto 11, 3) := by decide +kernel
theorem dX4_lightAt_15 : decode eX4_lightAt.2.1 15 = .ok (.aload_n 0, 1) := by decide +kernel
theorem dX4_lightAt_16 : decode eX4_lightAt.2.1 16 = .ok (.iload_n 1, 1) := by decide +kernel
theorem dX4_lightAt_17 : decode eX4_lightAt.2.1 17 = .ok (.bipush 8, 2) := by decide +kernel
theorem dX4_lightAt_19 : decode eX4_lightAt.2.1 19 = .ok (.isub, 1) := by decide +kernel
theorem dX4_lightAt_20 : decode eX4_lightAt.2.1 20 = .ok (.invokevirtual 83, 3) := by decide +kernel
theorem dX4_lightAt_23 : decode eX4_lightAt.2.1 23 = .ok (.isub, 1) := by decide +kernel
theorem dX4_lightAt_24 : decode eX4_lightAt.2.1 24 = .ok (.istore_n 2, 1) := by decide +kernel
theorem dX4_lightAt_25 : decode eX4_lightAt.2.1 25 = .ok (.aload_n 0, 1) := by decide +kernel
theorem dX4_lightAt_26 : decode eX4_lightAt.2.1 26 = .ok (.getfield 34, 3) := by decide +kernel
theorem dX4_lightAt_29 : decode eX4_lightAt.2.1 29 = .ok (.iload_n 1, 1) := by decide +kernel
theorem dX4_lightAt_30 : decode eX4_lightAt.2.1 30 = .ok (.iaload, 1) := by decide +kernel
theorem dX4_lightAt_31 : decode eX4_lightAt.2.1 31 = .ok (.ldc 64, 2) := by decide +kernel
theorem dX4_lightAt_33 : decode eX4_lightAt.2.1 33 = .ok (.if_icmp .ne 7, 3) := by decide +kernel
theorem dX4_lightAt_36 : decode eX4_lightAt.2.1 36 = .ok (.iconst 0, 1) := by decide +kernel
theorem dX4_lightAt_37 : decode eX4_lightAt.2.1 37 = .ok (.goto 13, 3) := by decide +kernel
theorem dX4_lightAt_40 : decode eX4_lightAt.2.1 40 = .ok (.aload_n 0, 1) := by decide +kernel
theorem dX4_lightAt_41 : decode eX4_lightAt.2.1 41 = .ok (.aload_n 0, 1) := by decide +kernel
theorem dX4_lightAt_42 : decode eX4_lightAt.2.1 42 = .ok (.getfield 34, 3) := by decide +kernel
theorem dX4_lightAt_45 : decode eX4_lightAt.2.1 45 = .ok (.iload_n 1, 1) := by decide +kernel
theorem dX4_lightAt_46 : decode eX4_lightAt.2.1 46 = .ok (.iaload, 1) := by decide +kernel
theorem dX4_lightAt_47 : decode eX4_lightAt.2.1 47 = .ok (.invokevirtual 87, 3) := by decide +kernel
theorem dX4_lightAt_50 : decode eX4_lightAt.2.1 50 = .ok (.istore_n 3, 1) := by decide +kernel
theorem dX4_lightAt_51 : decode eX4_lightAt.2.1 51 = .ok (.aload_n 0, 1) := by decide +kernel
theorem dX4_lightAt_52 : decode eX4_lightAt.2.1 52 = .ok (.getfield 49, 3) := by decide +kernel
theorem dX4_lightAt_55 : decode eX4_lightAt.2.1 55 = .ok (.iconst 0, 1) := by decide +kernel
theorem dX4_lightAt_56 : decode eX4_lightAt.2.1 56 = .ok (.iaload, 1) := by decide +kernel
theorem dX4_lightAt_57 : decode eX4_lightAt.2.1 57 = .ok (.iload_n 3, 1) := by decide +kernel
theorem dX4_lightAt_58 : decode eX4_lightAt.2.1 58 = .ok (.iadd, 1) := by decide +kernel
theorem dX4_lightAt_59 : decode eX4_lightAt.2.1 59 = .ok (.aload_n 0, 1) := by decide +kernel
theorem dX4_lightAt_60 : decode eX4_lightAt.2.1 60 = .ok (.getfield 49, 3) := by decide +kernel
theorem dX4_lightAt_63 : decode eX4_lightAt.2.1 63 = .ok (.iconst 1, 1) := by decide +kernel
theorem dX4_lightAt_64 : decode eX4_lightAt.2.1 64 = .ok (.iaload, 1) := by decide +kernel
theorem dX4_lightAt_65 : decode eX4_lightAt.2.1 65 = .ok (.iload_n 2, 1) := by decide +kernel
theorem dX4_lightAt_66 : decode eX4_lightAt.2.1 66 = .ok (.imul, 1) := by decide +kernel
theorem dX4_lightAt_67 : decode eX4_lightAt.2.1 67 = .ok (.iadd, 1) := by decide +kernel
theorem dX4_lightAt_68 : decode eX4_lightAt.2.1 68 = .ok (.bipush 99, 2) := by decide +kernel
theorem dX4_lightAt_70 : decode eX4_lightAt.2.1 70 = .ok (.invokestatic 90, 3) := by decide +kernel
theorem dX4_lightAt_73 : decode eX4_lightAt.2.1 73 = .ok (.ireturn, 1) := by decide +kernel
theorem dX4_markWas_0 : decode eX4_markWas.2.1 0 = .ok (.iconst 0, 1) := by decide +kernel
theorem dX4_markWas_1 : decode eX4_markWas.2.1 1 = .ok (.istore_n 1, 1) := by decide +kernel
theorem dX4_markWas_2 : decode eX4_markWas.2.1 2 = .ok (.iload_n 1, 1) := by decide +kernel
theorem dX4_markWas_3 : decode eX4_markWas.2.1 3 = .ok (.bipush 48, 2) := by decide +kernel
theorem dX4_markWas_5 : decode eX4_markWas.2.1 5 = .ok (.if_icmp .ge 20, 3) := by decide +kernel
theorem dX4_markWas_8 : decode eX4_markWas.2.1 8 = .ok (.aload_n 0, 1) := by decide +kernel
theorem dX4_markWas_9 : decode eX4_markWas.2.1 9 = .ok (.getfield 37, 3) := by decide +kernel
theorem dX4_markWas_12 : decode eX4_markWas.2.1 12 = .ok (.iload_n 1, 1) := by decide +kernel
theorem dX4_markWas_13 : decode eX4_markWas.2.1 13 = .ok (.aload_n 0, 1) := by decide +kernel
theorem dX4_markWas_14 : decode eX4_markWas.2.1 14 = .ok (.iload_n 1, 1) := by decide +kernel
theorem dX4_markWas_15 : decode eX4_markWas.2.1 15 = .ok (.invokevirtual 93, 3) := by decide +kernel
theorem dX4_markWas_18 : decode eX4_markWas.2.1 18 = .ok (.iastore, 1) := by decide +kernel
theorem dX4_markWas_19 : decode eX4_markWas.2.1 19 = .ok (.iinc 1 1, 3) := by decide +kernel
theorem dX4_markWas_22 : decode eX4_markWas.2.1 22 = .ok (.goto (-20), 3) := by decide +kernel
theorem dX4_markWas_25 : decode eX4_markWas.2.1 25 = .ok (.return_, 1) := by decide +kernel
theorem dX4_goOn_0 : decode eX4_goOn.2.1 0 = .ok (.aload_n 0, 1) := by decide +kernel
theorem dX4_goOn_1 : decode eX4_goOn.2.1 1 = .ok (.invokevirtual 96, 3) := by decide +kernel
theorem dX4_goOn_4 : decode eX4_goOn.2.1 4 = .ok (.iconst 0, 1) := by decide +kernel
theorem dX4_goOn_5 : decode eX4_goOn.2.1 5 = .ok (.istore_n 1, 1) := by decide +kernel
theorem dX4_goOn_6 : decode eX4_goOn.2.1 6 = .ok (.iload_n 1, 1) := by decide +kernel
theorem dX4_goOn_7 : decode eX4_goOn.2.1 7 = .ok (.aload_n 0, 1) := by decide +kernel
theorem dX4_goOn_8 : decode eX4_goOn.2.1 8 = .ok (.getfield 9, 3) := by decide +kernel
theorem dX4_goOn_11 : decode eX4_goOn.2.1 11 = .ok (.if_icmp .ge 47, 3) := by decide +kernel
theorem dX4_goOn_14 : decode eX4_goOn.2.1 14 = .ok (.aload_n 0, 1) := by decide +kernel
theorem dX4_goOn_15 : decode eX4_goOn.2.1 15 = .ok (.iload_n 1, 1) := by decide +kernel
theorem dX4_goOn_16 : decode eX4_goOn.2.1 16 = .ok (.invokevirtual 99, 3) := by decide +kernel
theorem dX4_goOn_19 : decode eX4_goOn.2.1 19 = .ok (.istore_n 2, 1) := by decide +kernel
theorem dX4_goOn_20 : decode eX4_goOn.2.1 20 = .ok (.aload_n 0, 1) := by decide +kernel
theorem dX4_goOn_21 : decode eX4_goOn.2.1 21 = .ok (.iload_n 1, 1) := by decide +kernel
theorem dX4_goOn_22 : decode eX4_goOn.2.1 22 = .ok (.invokevirtual 102, 3) := by decide +kernel
theorem dX4_goOn_25 : decode eX4_goOn.2.1 25 = .ok (.aload_n 0, 1) := by decide +kernel
theorem dX4_goOn_26 : decode eX4_goOn.2.1 26 = .ok (.getfield 31, 3) := by decide +kernel
theorem dX4_goOn_29 : decode eX4_goOn.2.1 29 = .ok (.iload_n 1, 1) := by decide +kernel
theorem dX4_goOn_30 : decode eX4_goOn.2.1 30 = .ok (.iaload, 1) := by decide +kernel
theorem dX4_goOn_31 : decode eX4_goOn.2.1 31 = .ok (.isub, 1) := by decide +kernel
theorem dX4_goOn_32 : decode eX4_goOn.2.1 32 = .ok (.istore_n 3, 1) := by decide +kernel
theorem dX4_goOn_33 : decode eX4_goOn.2.1 33 = .ok (.aload_n 0, 1) := by decide +kernel
theorem dX4_goOn_34 : decode eX4_goOn.2.1 34 = .ok (.getfield 31, 3) := by decide +kernel
theorem dX4_goOn_37 : decode eX4_goOn.2.1 37 = .ok (.iload_n 1, 1) := by decide +kernel
theorem dX4_goOn_38 : decode eX4_goOn.2.1 38 = .ok (.dup2, 1) := by decide +kernel
theorem dX4_goOn_39 : decode eX4_goOn.2.1 39 = .ok (.iaload, 1) := by decide +kernel
theorem dX4_goOn_40 : decode eX4_goOn.2.1 40 = .ok (.iload_n 2, 1) := by decide +kernel
theorem dX4_goOn_41 : decode eX4_goOn.2.1 41 = .ok (.ineg, 1) := by decide +kernel
theorem dX4_goOn_42 : decode eX4_goOn.2.1 42 = .ok (.iload_n 2, 1) := by decide +kernel
theorem dX4_goOn_43 : decode eX4_goOn.2.1 43 = .ok (.iload_n 3, 1) := by decide +kernel
theorem dX4_goOn_44 : decode eX4_goOn.2.1 44 = .ok (.invokestatic 77, 3) := by decide +kernel
theorem dX4_goOn_47 : decode eX4_goOn.2.1 47 = .ok (.invokestatic 105, 3) := by decide +kernel
theorem dX4_goOn_50 : decode eX4_goOn.2.1 50 = .ok (.iadd, 1) := by decide +kernel
theorem dX4_goOn_51 : decode eX4_goOn.2.1 51 = .ok (.iastore, 1) := by decide +kernel
theorem dX4_goOn_52 : decode eX4_goOn.2.1 52 = .ok (.iinc 1 1, 3) := by decide +kernel
theorem dX4_goOn_55 : decode eX4_goOn.2.1 55 = .ok (.goto (-49), 3) := by decide +kernel
theorem dX4_goOn_58 : decode eX4_goOn.2.1 58 = .ok (.aload_n 0, 1) := by decide +kernel
theorem dX4_goOn_59 : decode eX4_goOn.2.1 59 = .ok (.dup, 1) := by decide +kernel
theorem dX4_goOn_60 : decode eX4_goOn.2.1 60 = .ok (.getfield 52, 3) := by decide +kernel
theorem dX4_goOn_63 : decode eX4_goOn.2.1 63 = .ok (.iconst 1, 1) := by decide +kernel
theorem dX4_goOn_64 : decode eX4_goOn.2.1 64 = .ok (.iadd, 1) := by decide +kernel
theorem dX4_goOn_65 : decode eX4_goOn.2.1 65 = .ok (.putfield 52, 3) := by decide +kernel
theorem dX4_goOn_68 : decode eX4_goOn.2.1 68 = .ok (.return_, 1) := by decide +kernel
theorem dX4_settle_0 : decode eX4_settle.2.1 0 = .ok (.iconst 0, 1) := by decide +kernel
theorem dX4_settle_1 : decode eX4_settle.2.1 1 = .ok (.istore_n 1, 1) := by decide +kernel
theorem dX4_settle_2 : decode eX4_settle.2.1 2 = .ok (.iconst 0, 1) := by decide +kernel
theorem dX4_settle_3 : decode eX4_settle.2.1 3 = .ok (.istore_n 2, 1) := by decide +kernel
theorem dX4_settle_4 : decode eX4_settle.2.1 4 = .ok (.iload_n 2, 1) := by decide +kernel
theorem dX4_settle_5 : decode eX4_settle.2.1 5 = .ok (.aload_n 0, 1) := by decide +kernel
theorem dX4_settle_6 : decode eX4_settle.2.1 6 = .ok (.getfield 9, 3) := by decide +kernel
theorem dX4_settle_9 : decode eX4_settle.2.1 9 = .ok (.if_icmp .ge 36, 3) := by decide +kernel
theorem dX4_settle_12 : decode eX4_settle.2.1 12 = .ok (.aload_n 0, 1) := by decide +kernel
theorem dX4_settle_13 : decode eX4_settle.2.1 13 = .ok (.iload_n 2, 1) := by decide +kernel
theorem dX4_settle_14 : decode eX4_settle.2.1 14 = .ok (.invokevirtual 102, 3) := by decide +kernel
theorem dX4_settle_17 : decode eX4_settle.2.1 17 = .ok (.istore_n 3, 1) := by decide +kernel
theorem dX4_settle_18 : decode eX4_settle.2.1 18 = .ok (.iload_n 1, 1) := by decide +kernel
theorem dX4_settle_19 : decode eX4_settle.2.1 19 = .ok (.aload_n 0, 1) := by decide +kernel
theorem dX4_settle_20 : decode eX4_settle.2.1 20 = .ok (.getfield 31, 3) := by decide +kernel
theorem dX4_settle_23 : decode eX4_settle.2.1 23 = .ok (.iload_n 2, 1) := by decide +kernel
theorem dX4_settle_24 : decode eX4_settle.2.1 24 = .ok (.iload_n 3, 1) := by decide +kernel
theorem dX4_settle_25 : decode eX4_settle.2.1 25 = .ok (.invokestatic 108, 3) := by decide +kernel
theorem dX4_settle_28 : decode eX4_settle.2.1 28 = .ok (.iload_n 3, 1) := by decide +kernel
theorem dX4_settle_29 : decode eX4_settle.2.1 29 = .ok (.if_icmp .ne 7, 3) := by decide +kernel
theorem dX4_settle_32 : decode eX4_settle.2.1 32 = .ok (.iconst 0, 1) := by decide +kernel
theorem dX4_settle_33 : decode eX4_settle.2.1 33 = .ok (.goto 4, 3) := by decide +kernel
theorem dX4_settle_36 : decode eX4_settle.2.1 36 = .ok (.iconst 1, 1) := by decide +kernel
theorem dX4_settle_37 : decode eX4_settle.2.1 37 = .ok (.iadd, 1) := by decide +kernel
theorem dX4_settle_38 : decode eX4_settle.2.1 38 = .ok (.istore_n 1, 1) := by decide +kernel
theorem dX4_settle_39 : decode eX4_settle.2.1 39 = .ok (.iinc 2 1, 3) := by decide +kernel
theorem dX4_settle_42 : decode eX4_settle.2.1 42 = .ok (.goto (-38), 3) := by decide +kernel
theorem dX4_settle_45 : decode eX4_settle.2.1 45 = .ok (.iload_n 1, 1) := by decide +kernel
theorem dX4_settle_46 : decode eX4_settle.2.1 46 = .ok (.ireturn, 1) := by decide +kernel
theorem dX4_ticksToRest_0 : decode eX4_ticksToRest.2.1 0 = .ok (.iconst 0, 1) := by decide +kernel
theorem dX4_ticksToRest_1 : decode eX4_ticksToRest.2.1 1 = .ok (.istore_n 1, 1) := by decide +kernel
theorem dX4_ticksToRest_2 : decode eX4_ticksToRest.2.1 2 = .ok (.iconst 0, 1) := by decide +kernel
theorem dX4_ticksToRest_3 : decode eX4_ticksToRest.2.1 3 = .ok (.istore_n 2, 1) := by decide +kernel
theorem dX4_ticksToRest_4 : decode eX4_ticksToRest.2.1 4 = .ok (.iload_n 2, 1) := by decide +kernel
theorem dX4_ticksToRest_5 : decode eX4_ticksToRest.2.1 5 = .ok (.aload_n 0, 1) := by decide +kernel
theorem dX4_ticksToRest_6 : decode eX4_ticksToRest.2.1 6 = .ok (.getfield 9, 3) := by decide +kernel
theorem dX4_ticksToRest_9 : decode eX4_ticksToRest.2.1 9 = .ok (.if_icmp .ge 49, 3) := by decide +kernel
theorem dX4_ticksToRest_12 : decode eX4_ticksToRest.2.1 12 = .ok (.aload_n 0, 1) := by decide +kernel
theorem dX4_ticksToRest_13 : decode eX4_ticksToRest.2.1 13 = .ok (.iload_n 2, 1) := by decide +kernel
theorem dX4_ticksToRest_14 : decode eX4_ticksToRest.2.1 14 = .ok (.invokevirtual 99, 3) := by decide +kernel
theorem dX4_ticksToRest_17 : decode eX4_ticksToRest.2.1 17 = .ok (.istore_n 3, 1) := by decide +kernel
theorem dX4_ticksToRest_18 : decode eX4_ticksToRest.2.1 18 = .ok (.aload_n 0, 1) := by decide +kernel
theorem dX4_ticksToRest_19 : decode eX4_ticksToRest.2.1 19 = .ok (.iload_n 2, 1) := by decide +kernel
theorem dX4_ticksToRest_20 : decode eX4_ticksToRest.2.1 20 = .ok (.invokevirtual 102, 3) := by decide +kernel
theorem dX4_ticksToRest_23 : decode eX4_ticksToRest.2.1 23 = .ok (.aload_n 0, 1) := by decide +kernel
theorem dX4_ticksToRest_24 : decode eX4_ticksToRest.2.1 24 = .ok (.getfield 31, 3) := by decide +kernel
theorem dX4_ticksToRest_27 : decode eX4_ticksToRest.2.1 27 = .ok (.iload_n 2, 1) := by decide +kernel
theorem dX4_ticksToRest_28 : decode eX4_ticksToRest.2.1 28 = .ok (.iaload, 1) := by decide +kernel
theorem dX4_ticksToRest_29 : decode eX4_ticksToRest.2.1 29 = .ok (.isub, 1) := by decide +kernel
theorem dX4_ticksToRest_30 : decode eX4_ticksToRest.2.1 30 = .ok (.invokestatic 112, 3) := by decide +kernel
theorem dX4_ticksToRest_33 : decode eX4_ticksToRest.2.1 33 = .ok (.istore 4, 2) := by decide +kernel
theorem dX4_ticksToRest_35 : decode eX4_ticksToRest.2.1 35 = .ok (.iload_n 3, 1) := by decide +kernel
theorem dX4_ticksToRest_36 : decode eX4_ticksToRest.2.1 36 = .ok (.ifCond .le 16, 3) := by decide +kernel
theorem dX4_ticksToRest_39 : decode eX4_ticksToRest.2.1 39 = .ok (.iload_n 1, 1) := by decide +kernel
theorem dX4_ticksToRest_40 : decode eX4_ticksToRest.2.1 40 = .ok (.iload 4, 2) := by decide +kernel
theorem dX4_ticksToRest_42 : decode eX4_ticksToRest.2.1 42 = .ok (.iload_n 3, 1) := by decide +kernel
theorem dX4_ticksToRest_43 : decode eX4_ticksToRest.2.1 43 = .ok (.iadd, 1) := by decide +kernel
theorem dX4_ticksToRest_44 : decode eX4_ticksToRest.2.1 44 = .ok (.iconst 1, 1) := by decide +kernel
theorem dX4_ticksToRest_45 : decode eX4_ticksToRest.2.1 45 = .ok (.isub, 1) := by decide +kernel
theorem dX4_ticksToRest_46 : decode eX4_ticksToRest.2.1 46 = .ok (.iload_n 3, 1) := by decide +kernel
theorem dX4_ticksToRest_47 : decode eX4_ticksToRest.2.1 47 = .ok (.idiv, 1) := by decide +kernel
theorem dX4_ticksToRest_48 : decode eX4_ticksToRest.2.1 48 = .ok (.invokestatic 105, 3) := by decide +kernel
theorem dX4_ticksToRest_51 : decode eX4_ticksToRest.2.1 51 = .ok (.istore_n 1, 1) := by decide +kernel
theorem dX4_ticksToRest_52 : decode eX4_ticksToRest.2.1 52 = .ok (.iinc 2 1, 3) := by decide +kernel
theorem dX4_ticksToRest_55 : decode eX4_ticksToRest.2.1 55 = .ok (.goto (-51), 3) := by decide +kernel
theorem dX4_ticksToRest_58 : decode eX4_ticksToRest.2.1 58 = .ok (.iload_n 1, 1) := by decide +kernel
theorem dX4_ticksToRest_59 : decode eX4_ticksToRest.2.1 59 = .ok (.ireturn, 1) := by decide +kernel
theorem dX4_allSizes_0 : decode eX4_allSizes.2.1 0 = .ok (.iconst 0, 1) := by decide +kernel
theorem dX4_allSizes_1 : decode eX4_allSizes.2.1 1 = .ok (.istore_n 1, 1) := by decide +kernel
theorem dX4_allSizes_2 : decode eX4_allSizes.2.1 2 = .ok (.iconst 0, 1) := by decide +kernel
theorem dX4_allSizes_3 : decode eX4_allSizes.2.1 3 = .ok (.istore_n 2, 1) := by decide +kernel
theorem dX4_allSizes_4 : decode eX4_allSizes.2.1 4 = .ok (.iload_n 2, 1) := by decide +kernel
theorem dX4_allSizes_5 : decode eX4_allSizes.2.1 5 = .ok (.aload_n 0, 1) := by decide +kernel
theorem dX4_allSizes_6 : decode eX4_allSizes.2.1 6 = .ok (.getfield 9, 3) := by decide +kernel
theorem dX4_allSizes_9 : decode eX4_allSizes.2.1 9 = .ok (.if_icmp .ge 18, 3) := by decide +kernel
theorem dX4_allSizes_12 : decode eX4_allSizes.2.1 12 = .ok (.iload_n 1, 1) := by decide +kernel
theorem dX4_allSizes_13 : decode eX4_allSizes.2.1 13 = .ok (.aload_n 0, 1) := by decide +kernel
theorem dX4_allSizes_14 : decode eX4_allSizes.2.1 14 = .ok (.getfield 31, 3) := by decide +kernel
theorem dX4_allSizes_17 : decode eX4_allSizes.2.1 17 = .ok (.iload_n 2, 1) := by decide +kernel
theorem dX4_allSizes_18 : decode eX4_allSizes.2.1 18 = .ok (.iaload, 1) := by decide +kernel
theorem dX4_allSizes_19 : decode eX4_allSizes.2.1 19 = .ok (.iadd, 1) := by decide +kernel
theorem dX4_allSizes_20 : decode eX4_allSizes.2.1 20 = .ok (.istore_n 1, 1) := by decide +kernel
theorem dX4_allSizes_21 : decode eX4_allSizes.2.1 21 = .ok (.iinc 2 1, 3) := by decide +kernel
theorem dX4_allSizes_24 : decode eX4_allSizes.2.1 24 = .ok (.goto (-20), 3) := by decide +kernel
theorem dX4_allSizes_27 : decode eX4_allSizes.2.1 27 = .ok (.iload_n 1, 1) := by decide +kernel
theorem dX4_allSizes_28 : decode eX4_allSizes.2.1 28 = .ok (.ireturn, 1) := by decide +kernel
theorem dX4_partsOf_0 : decode eX4_partsOf.2.1 0 = .ok (.iconst 0, 1) := by decide +kernel
theorem dX4_partsOf_1 : decode eX4_partsOf.2.1 1 = .ok (.istore_n 2, 1) := by decide +kernel
theorem dX4_partsOf_2 : decode eX4_partsOf.2.1 2 = .ok (.iconst 0, 1) := by decide +kernel
theorem dX4_partsOf_3 : decode eX4_partsOf.2.1 3 = .ok (.istore_n 3, 1) := by decide +kernel
theorem dX4_partsOf_4 : decode eX4_partsOf.2.1 4 = .ok (.iload_n 3, 1) := by decide +kernel
theorem dX4_partsOf_5 : decode eX4_partsOf.2.1 5 = .ok (.aload_n 0, 1) := by decide +kernel
theorem dX4_partsOf_6 : decode eX4_partsOf.2.1 6 = .ok (.getfield 9, 3) := by decide +kernel
theorem dX4_partsOf_9 : decode eX4_partsOf.2.1 9 = .ok (.if_icmp .ge 27, 3) := by decide +kernel
theorem dX4_partsOf_12 : decode eX4_partsOf.2.1 12 = .ok (.iload_n 2, 1) := by decide +kernel
theorem dX4_partsOf_13 : decode eX4_partsOf.2.1 13 = .ok (.aload_n 0, 1) := by decide +kernel
theorem dX4_partsOf_14 : decode eX4_partsOf.2.1 14 = .ok (.getfield 15, 3) := by decide +kernel
theorem dX4_partsOf_17 : decode eX4_partsOf.2.1 17 = .ok (.iload_n 3, 1) := by decide +kernel
theorem dX4_partsOf_18 : decode eX4_partsOf.2.1 18 = .ok (.iaload, 1) := by decide +kernel
theorem dX4_partsOf_19 : decode eX4_partsOf.2.1 19 = .ok (.iload_n 1, 1) := by decide +kernel
theorem dX4_partsOf_20 : decode eX4_partsOf.2.1 20 = .ok (.if_icmp .ne 7, 3) := by decide +kernel
theorem dX4_partsOf_23 : decode eX4_partsOf.2.1 23 = .ok (.iconst 1, 1) := by decide +kernel
theorem dX4_partsOf_24 : decode eX4_partsOf.2.1 24 = .ok (.goto 4, 3) := by decide +kernel
theorem dX4_partsOf_27 : decode eX4_partsOf.2.1 27 = .ok (.iconst 0, 1) := by decide +kernel
theorem dX4_partsOf_28 : decode eX4_partsOf.2.1 28 = .ok (.iadd, 1) := by decide +kernel
theorem dX4_partsOf_29 : decode eX4_partsOf.2.1 29 = .ok (.istore_n 2, 1) := by decide +kernel
theorem dX4_partsOf_30 : decode eX4_partsOf.2.1 30 = .ok (.iinc 3 1, 3) := by decide +kernel
theorem dX4_partsOf_33 : decode eX4_partsOf.2.1 33 = .ok (.goto (-29), 3) := by decide +kernel
theorem dX4_partsOf_36 : decode eX4_partsOf.2.1 36 = .ok (.iload_n 2, 1) := by decide +kernel
theorem dX4_partsOf_37 : decode eX4_partsOf.2.1 37 = .ok (.ireturn, 1) := by decide +kernel
theorem dX5_init_0 : decode eX5_init.2.1 0 = .ok (.aload_n 0, 1) := by decide +kernel
theorem dX5_init_1 : decode eX5_init.2.1 1 = .ok (.invokespecial 3, 3) := by decide +kernel
theorem dX5_init_4 : decode eX5_init.2.1 4 = .ok (.aload_n 0, 1) := by decide +kernel
theorem dX5_init_5 : decode eX5_init.2.1 5 = .ok (.bipush 96, 2) := by decide +kernel
theorem dX5_init_7 : decode eX5_init.2.1 7 = .ok (.newarray .byte, 2) := by decide +kernel
theorem dX5_init_9 : decode eX5_init.2.1 9 = .ok (.putfield 9, 3) := by decide +kernel
theorem dX5_init_12 : decode eX5_init.2.1 12 = .ok (.aload_n 0, 1) := by decide +kernel
theorem dX5_init_13 : decode eX5_init.2.1 13 = .ok (.iconst 0, 1) := by decide +kernel
theorem dX5_init_14 : decode eX5_init.2.1 14 = .ok (.putfield 15, 3) := by decide +kernel
theorem dX5_init_17 : decode eX5_init.2.1 17 = .ok (.aload_n 0, 1) := by decide +kernel
theorem dX5_init_18 : decode eX5_init.2.1 18 = .ok (.iconst 0, 1) := by decide +kernel
theorem dX5_init_19 : decode eX5_init.2.1 19 = .ok (.putfield 19, 3) := by decide +kernel
theorem dX5_init_22 : decode eX5_init.2.1 22 = .ok (.aload_n 0, 1) := by decide +kernel
theorem dX5_init_23 : decode eX5_init.2.1 23 = .ok (.iconst 0, 1) := by decide +kernel
theorem dX5_init_24 : decode eX5_init.2.1 24 = .ok (.putfield 22, 3) := by decide +kernel
theorem dX5_init_27 : decode eX5_init.2.1 27 = .ok (.aload_n 0, 1) := by decide +kernel
theorem dX5_init_28 : decode eX5_init.2.1 28 = .ok (.ldc 25, 2) := by decide +kernel
theorem dX5_init_30 : decode eX5_init.2.1 30 = .ok (.putfield 27, 3) := by decide +kernel
theorem dX5_init_33 : decode eX5_init.2.1 33 = .ok (.aload_n 0, 1) := by decide +kernel
theorem dX5_init_34 : decode eX5_init.2.1 34 = .ok (.iconst 0, 1) := by decide +kernel
theorem dX5_init_35 : decode eX5_init.2.1 35 = .ok (.putfield 31, 3) := by decide +kernel
theorem dX5_init_38 : decode eX5_init.2.1 38 = .ok (.aload_n 0, 1) := by decide +kernel
theorem dX5_init_39 : decode eX5_init.2.1 39 = .ok (.bipush 96, 2) := by decide +kernel
theorem dX5_init_41 : decode eX5_init.2.1 41 = .ok (.newarray .int, 2) := by decide +kernel
theorem dX5_init_43 : decode eX5_init.2.1 43 = .ok (.putfield 34, 3) := by decide +kernel
theorem dX5_init_46 : decode eX5_init.2.1 46 = .ok (.aload_n 0, 1) := by decide +kernel
theorem dX5_init_47 : decode eX5_init.2.1 47 = .ok (.iconst 0, 1) := by decide +kernel
theorem dX5_init_48 : decode eX5_init.2.1 48 = .ok (.putfield 38, 3) := by decide +kernel
theorem dX5_init_51 : decode eX5_init.2.1 51 = .ok (.aload_n 0, 1) := by decide +kernel
theorem dX5_init_52 : decode eX5_init.2.1 52 = .ok (.iconst 0, 1) := by decide +kernel
theorem dX5_init_53 : decode eX5_init.2.1 53 = .ok (.putfield 41, 3) := by decide +kernel
theorem dX5_init_56 : decode eX5_init.2.1 56 = .ok (.aload_n 0, 1) := by decide +kernel
theorem dX5_init_57 : decode eX5_init.2.1 57 = .ok (.bipush 96, 2) := by decide +kernel
theorem dX5_init_59 : decode eX5_init.2.1 59 = .ok (.newarray .int, 2) := by decide +kernel
theorem dX5_init_61 : decode eX5_init.2.1 61 = .ok (.putfield 44, 3) := by decide +kernel
theorem dX5_init_64 : decode eX5_init.2.1 64 = .ok (.aload_n 0, 1) := by decide +kernel
theorem dX5_init_65 : decode eX5_init.2.1 65 = .ok (.iconst 0, 1) := by decide +kernel
theorem dX5_init_66 : decode eX5_init.2.1 66 = .ok (.putfield 47, 3) := by decide +kernel
theorem dX5_init_69 : decode eX5_init.2.1 69 = .ok (.aload_n 0, 1) := by decide +kernel
theorem dX5_init_70 : decode eX5_init.2.1 70 = .ok (.iconst 0, 1) := by decide +kernel
theorem dX5_init_71 : decode eX5_init.2.1 71 = .ok (.putfield 50, 3) := by decide +kernel
theorem dX5_init_74 : decode eX5_init.2.1 74 = .ok (.aload_n 0, 1) := by decide +kernel
theorem dX5_init_75 : decode eX5_init.2.1 75 = .ok (.iconst 0, 1) := by decide +kernel
theorem dX5_init_76 : decode eX5_init.2.1 76 = .ok (.putfield 53, 3) := by decide +kernel
theorem dX5_init_79 : decode eX5_init.2.1 79 = .ok (.aload_n 0, 1) := by decide +kernel
theorem dX5_init_80 : decode eX5_init.2.1 80 = .ok (.iconst 1, 1) := by decide +kernel
theorem dX5_init_81 : decode eX5_init.2.1 81 = .ok (.putfield 56, 3) := by decide +kernel
theorem dX5_init_84 : decode eX5_init.2.1 84 = .ok (.return_, 1) := by decide +kernel
theorem dX5_take_0 : decode eX5_take.2.1 0 = .ok (.bipush 24, 2) := by decide +kernel
theorem dX5_take_2 : decode eX5_take.2.1 2 = .ok (.istore_n 2, 1) := by decide +kernel
theorem dX5_take_3 : decode eX5_take.2.1 3 = .ok (.iload_n 2, 1) := by decide +kernel
theorem dX5_take_4 : decode eX5_take.2.1 4 = .ok (.ifCond .lt 29, 3) := by decide +kernel
theorem dX5_take_7 : decode eX5_take.2.1 7 = .ok (.aload_n 0, 1) := by decide +kernel
theorem dX5_take_8 : decode eX5_take.2.1 8 = .ok (.getfield 9, 3) := by decide +kernel
theorem dX5_take_11 : decode eX5_take.2.1 11 = .ok (.aload_n 0, 1) := by decide +kernel
theorem dX5_take_12 : decode eX5_take.2.1 12 = .ok (.dup, 1) := by decide +kernel
theorem dX5_take_13 : decode eX5_take.2.1 13 = .ok (.getfield 15, 3) := by decide +kernel
theorem dX5_take_16 : decode eX5_take.2.1 16 = .ok (.dup_x1, 1) := by decide +kernel
theorem dX5_take_17 : decode eX5_take.2.1 17 = .ok (.iconst 1, 1) := by decide +kernel
theorem dX5_take_18 : decode eX5_take.2.1 18 = .ok (.iadd, 1) := by decide +kernel
theorem dX5_take_19 : decode eX5_take.2.1 19 = .ok (.putfield 15, 3) := by decide +kernel
theorem dX5_take_22 : decode eX5_take.2.1 22 = .ok (.iload_n 1, 1) := by decide +kernel
theorem dX5_take_23 : decode eX5_take.2.1 23 = .ok (.iload_n 2, 1) := by decide +kernel
theorem dX5_take_24 : decode eX5_take.2.1 24 = .ok (.ishr, 1) := by decide +kernel
theorem dX5_take_25 : decode eX5_take.2.1 25 = .ok (.i2b, 1) := by decide +kernel
theorem dX5_take_26 : decode eX5_take.2.1 26 = .ok (.bastore, 1) := by decide +kernel
theorem dX5_take_27 : decode eX5_take.2.1 27 = .ok (.iinc 2 (-8), 3) := by decide +kernel
theorem dX5_take_30 : decode eX5_take.2.1 30 = .ok (.goto (-27), 3) := by decide +kernel
theorem dX5_take_33 : decode eX5_take.2.1 33 = .ok (.return_, 1) := by decide +kernel
theorem dX5_read_0 : decode eX5_read.2.1 0 = .ok (.aload_n 0, 1) := by decide +kernel
theorem dX5_read_1 : decode eX5_read.2.1 1 = .ok (.iconst 0, 1) := by decide +kernel
theorem dX5_read_2 : decode eX5_read.2.1 2 = .ok (.putfield 22, 3) := by decide +kernel
theorem dX5_read_5 : decode eX5_read.2.1 5 = .ok (.aload_n 0, 1) := by decide +kernel
theorem dX5_read_6 : decode eX5_read.2.1 6 = .ok (.iconst 0, 1) := by decide +kernel
theorem dX5_read_7 : decode eX5_read.2.1 7 = .ok (.putfield 38, 3) := by decide +kernel
theorem dX5_read_10 : decode eX5_read.2.1 10 = .ok (.aload_n 0, 1) := by decide +kernel
theorem dX5_read_11 : decode eX5_read.2.1 11 = .ok (.iconst 0, 1) := by decide +kernel
theorem dX5_read_12 : decode eX5_read.2.1 12 = .ok (.putfield 41, 3) := by decide +kernel
theorem dX5_read_15 : decode eX5_read.2.1 15 = .ok (.aload_n 0, 1) := by decide +kernel
theorem dX5_read_16 : decode eX5_read.2.1 16 = .ok (.iconst 0, 1) := by decide +kernel
theorem dX5_read_17 : decode eX5_read.2.1 17 = .ok (.putfield 47, 3) := by decide +kernel
theorem dX5_read_20 : decode eX5_read.2.1 20 = .ok (.aload_n 0, 1) := by decide +kernel
theorem dX5_read_21 : decode eX5_read.2.1 21 = .ok (.iconst 0, 1) := by decide +kernel
theorem dX5_read_22 : decode eX5_read.2.1 22 = .ok (.putfield 50, 3) := by decide +kernel
theorem dX5_read_25 : decode eX5_read.2.1 25 = .ok (.aload_n 0, 1) := by decide +kernel
theorem dX5_read_26 : decode eX5_read.2.1 26 = .ok (.iconst 0, 1) := by decide +kernel
theorem dX5_read_27 : decode eX5_read.2.1 27 = .ok (.putfield 53, 3) := by decide +kernel
theorem dX5_read_30 : decode eX5_read.2.1 30 = .ok (.aload_n 0, 1) := by decide +kernel
theorem dX5_read_31 : decode eX5_read.2.1 31 = .ok (.iconst 1, 1) := by decide +kernel
theorem dX5_read_32 : decode eX5_read.2.1 32 = .ok (.putfield 56, 3) := by decide +kernel
theorem dX5_read_35 : decode eX5_read.2.1 35 = .ok (.aload_n 0, 1) := by decide +kernel
theorem dX5_read_36 : decode eX5_read.2.1 36 = .ok (.invokevirtual 60, 3) := by decide +kernel
theorem dX5_read_39 : decode eX5_read.2.1 39 = .ok (.ifCond .ne 8, 3) := by decide +kernel
theorem dX5_read_42 : decode eX5_read.2.1 42 = .ok (.aload_n 0, 1) := by decide +kernel
theorem dX5_read_43 : decode eX5_read.2.1 43 = .ok (.getfield 19, 3) := by decide +kernel
theorem dX5_read_46 : decode eX5_read.2.1 46 = .ok (.ireturn, 1) := by decide +kernel
theorem dX5_read_47 : decode eX5_read.2.1 47 = .ok (.aload_n 0, 1) := by decide +kernel
theorem dX5_read_48 : decode eX5_read.2.1 48 = .ok (.invokevirtual 64, 3) := by decide +kernel
theorem dX5_read_51 : decode eX5_read.2.1 51 = .ok (.iconst 0, 1) := by decide +kernel
theorem dX5_read_52 : decode eX5_read.2.1 52 = .ok (.istore_n 1, 1) := by decide +kernel
theorem dX5_read_53 : decode eX5_read.2.1 53 = .ok (.iload_n 1, 1) := by decide +kernel
theorem dX5_read_54 : decode eX5_read.2.1 54 = .ok (.aload_n 0, 1) := by decide +kernel
theorem dX5_read_55 : decode eX5_read.2.1 55 = .ok (.getfield 15, 3) := by decide +kernel
theorem dX5_read_58 : decode eX5_read.2.1 58 = .ok (.if_icmp .ge 70, 3) := by decide +kernel
theorem dX5_read_61 : decode eX5_read.2.1 61 = .ok (.aload_n 0, 1) := by decide +kernel
theorem dX5_read_62 : decode eX5_read.2.1 62 = .ok (.getfield 19, 3) := by decide +kernel
theorem dX5_read_65 : decode eX5_read.2.1 65 = .ok (.aload_n 0, 1) := by decide +kernel
theorem dX5_read_66 : decode eX5_read.2.1 66 = .ok (.getfield 15, 3) := by decide +kernel
theorem dX5_read_69 : decode eX5_read.2.1 69 = .ok (.if_icmp .ge 59, 3) := by decide +kernel
theorem dX5_read_72 : decode eX5_read.2.1 72 = .ok (.aload_n 0, 1) := by decide +kernel
theorem dX5_read_73 : decode eX5_read.2.1 73 = .ok (.invokevirtual 67, 3) := by decide +kernel
theorem dX5_read_76 : decode eX5_read.2.1 76 = .ok (.ifCond .ne 31, 3) := by decide +kernel
theorem dX5_read_79 : decode eX5_read.2.1 79 = .ok (.aload_n 0, 1) := by decide +kernel
theorem dX5_read_80 : decode eX5_read.2.1 80 = .ok (.getfield 56, 3) := by decide +kernel
theorem dX5_read_83 : decode eX5_read.2.1 83 = .ok (.ifCond .eq 13, 3) := by decide +kernel
theorem dX5_read_86 : decode eX5_read.2.1 86 = .ok (.aload_n 0, 1) := by decide +kernel
theorem dX5_read_87 : decode eX5_read.2.1 87 = .ok (.invokevirtual 70, 3) := by decide +kernel
theorem dX5_read_90 : decode eX5_read.2.1 90 = .ok (.ifCond .eq 17, 3) := by decide +kernel
theorem dX5_read_93 : decode eX5_read.2.1 93 = .ok (.goto 10, 3) := by decide +kernel
theorem dX5_read_96 : decode eX5_read.2.1 96 = .ok (.aload_n 0, 1) := by decide +kernel
theorem dX5_read_97 : decode eX5_read.2.1 97 = .ok (.invokevirtual 73, 3) := by decide +kernel
theorem dX5_read_100 : decode eX5_read.2.1 100 = .ok (.ifCond .eq 7, 3) := by decide +kernel
theorem dX5_read_103 : decode eX5_read.2.1 103 = .ok (.iconst 1, 1) := by decide +kernel
theorem dX5_read_104 : decode eX5_read.2.1 104 = .ok (.goto 4, 3) := by decide +kernel
theorem dX5_read_107 : decode eX5_read.2.1 107 = .ok (.iconst 0, 1) := by decide +kernel
theorem dX5_read_108 : decode eX5_read.2.1 108 = .ok (.istore_n 2, 1) := by decide +kernel
theorem dX5_read_109 : decode eX5_read.2.1 109 = .ok (.iload_n 2, 1) := by decide +kernel
theorem dX5_read_110 : decode eX5_read.2.1 110 = .ok (.ifCond .ne 8, 3) := by decide +kernel
theorem dX5_read_113 : decode eX5_read.2.1 113 = .ok (.aload_n 0, 1) := by decide +kernel
theorem dX5_read_114 : decode eX5_read.2.1 114 = .ok (.getfield 19, 3) := by decide +kernel
theorem dX5_read_117 : decode eX5_read.2.1 117 = .ok (.ireturn, 1) := by decide +kernel
theorem dX5_read_118 : decode eX5_read.2.1 118 = .ok (.aload_n 0, 1) := by decide +kernel
theorem dX5_read_119 : decode eX5_read.2.1 119 = .ok (.invokevirtual 64, 3) := by decide +kernel
theorem dX5_read_122 : decode eX5_read.2.1 122 = .ok (.iinc 1 1, 3) := by decide +kernel
theorem dX5_read_125 : decode eX5_read.2.1 125 = .ok (.goto (-72), 3) := by decide +kernel
theorem dX5_read_128 : decode eX5_read.2.1 128 = .ok (.aload_n 0, 1) := by decide +kernel
theorem dX5_read_129 : decode eX5_read.2.1 129 = .ok (.getfield 56, 3) := by decide +kernel
theorem dX5_read_132 : decode eX5_read.2.1 132 = .ok (.ifCond .ne 10, 3) := by decide +kernel
theorem dX5_read_135 : decode eX5_read.2.1 135 = .ok (.aload_n 0, 1) := by decide +kernel
theorem dX5_read_136 : decode eX5_read.2.1 136 = .ok (.getfield 50, 3) := by decide +kernel
theorem dX5_read_139 : decode eX5_read.2.1 139 = .ok (.ifCond .le 8, 3) := by decide +kernel
theorem dX5_read_142 : decode eX5_read.2.1 142 = .ok (.aload_n 0, 1) := by decide +kernel
theorem dX5_read_143 : decode eX5_read.2.1 143 = .ok (.getfield 15, 3) := by decide +kernel
theorem dX5_read_146 : decode eX5_read.2.1 146 = .ok (.ireturn, 1) := by decide +kernel
theorem dX5_read_147 : decode eX5_read.2.1 147 = .ok (.aload_n 0, 1) := by decide +kernel
theorem dX5_read_148 : decode eX5_read.2.1 148 = .ok (.iconst 1, 1) := by decide +kernel
theorem dX5_read_149 : decode eX5_read.2.1 149 = .ok (.invokevirtual 76, 3) := by decide +kernel
theorem dX5_read_152 : decode eX5_read.2.1 152 = .ok (.iconst (-1), 1) := by decide +kernel
theorem dX5_read_153 : decode eX5_read.2.1 153 = .ok (.ireturn, 1) := by decide +kernel
theorem dX5_step_0 : decode eX5_step.2.1 0 = .ok (.aload_n 0, 1) := by decide +kernel
theorem dX5_step_1 : decode eX5_step.2.1 1 = .ok (.aload_n 0, 1) := by decide +kernel
theorem dX5_step_2 : decode eX5_step.2.1 2 = .ok (.getfield 22, 3) := by decide +kernel
theorem dX5_step_5 : decode eX5_step.2.1 5 = .ok (.putfield 19, 3) := by decide +kernel
theorem dX5_step_8 : decode eX5_step.2.1 8 = .ok (.aload_n 0, 1) := by decide +kernel
theorem dX5_step_9 : decode eX5_step.2.1 9 = .ok (.getfield 19, 3) := by decide +kernel
theorem dX5_step_12 : decode eX5_step.2.1 12 = .ok (.aload_n 0, 1) := by decide +kernel
theorem dX5_step_13 : decode eX5_step.2.1 13 = .ok (.getfield 15, 3) := by decide +kernel
theorem dX5_step_16 : decode eX5_step.2.1 16 = .ok (.if_icmp .ge 30, 3) := by decide +kernel
theorem dX5_step_19 : decode eX5_step.2.1 19 = .ok (.aload_n 0, 1) := by decide +kernel
theorem dX5_step_20 : decode eX5_step.2.1 20 = .ok (.getfield 9, 3) := by decide +kernel
theorem dX5_step_23 : decode eX5_step.2.1 23 = .ok (.aload_n 0, 1) := by decide +kernel
theorem dX5_step_24 : decode eX5_step.2.1 24 = .ok (.getfield 19, 3) := by decide +kernel
theorem dX5_step_27 : decode eX5_step.2.1 27 = .ok (.baload, 1) := by decide +kernel
theorem dX5_step_28 : decode eX5_step.2.1 28 = .ok (.bipush 32, 2) := by decide +kernel
theorem dX5_step_30 : decode eX5_step.2.1 30 = .ok (.if_icmp .ne 16, 3) := by decide +kernel
theorem dX5_step_33 : decode eX5_step.2.1 33 = .ok (.aload_n 0, 1) := by decide +kernel
theorem dX5_step_34 : decode eX5_step.2.1 34 = .ok (.dup, 1) := by decide +kernel
theorem dX5_step_35 : decode eX5_step.2.1 35 = .ok (.getfield 19, 3) := by decide +kernel
theorem dX5_step_38 : decode eX5_step.2.1 38 = .ok (.iconst 1, 1) := by decide +kernel
theorem dX5_step_39 : decode eX5_step.2.1 39 = .ok (.iadd, 1) := by decide +kernel
theorem dX5_step_40 : decode eX5_step.2.1 40 = .ok (.putfield 19, 3) := by decide +kernel
theorem dX5_step_43 : decode eX5_step.2.1 43 = .ok (.goto (-35), 3) := by decide +kernel
theorem dX5_step_46 : decode eX5_step.2.1 46 = .ok (.aload_n 0, 1) := by decide +kernel
theorem dX5_step_47 : decode eX5_step.2.1 47 = .ok (.aload_n 0, 1) := by decide +kernel
theorem dX5_step_48 : decode eX5_step.2.1 48 = .ok (.getfield 15, 3) := by decide +kernel
theorem dX5_step_51 : decode eX5_step.2.1 51 = .ok (.aload_n 0, 1) := by decide +kernel
theorem dX5_step_52 : decode eX5_step.2.1 52 = .ok (.getfield 19, 3) := by decide +kernel
theorem dX5_step_55 : decode eX5_step.2.1 55 = .ok (.iconst 1, 1) := by decide +kernel
theorem dX5_step_56 : decode eX5_step.2.1 56 = .ok (.iadd, 1) := by decide +kernel
theorem dX5_step_57 : decode eX5_step.2.1 57 = .ok (.invokestatic 80, 3) := by decide +kernel
theorem dX5_step_60 : decode eX5_step.2.1 60 = .ok (.putfield 22, 3) := by decide +kernel
theorem dX5_step_63 : decode eX5_step.2.1 63 = .ok (.aload_n 0, 1) := by decide +kernel
theorem dX5_step_64 : decode eX5_step.2.1 64 = .ok (.getfield 19, 3) := by decide +kernel
theorem dX5_step_67 : decode eX5_step.2.1 67 = .ok (.aload_n 0, 1) := by decide +kernel
theorem dX5_step_68 : decode eX5_step.2.1 68 = .ok (.getfield 15, 3) := by decide +kernel
theorem dX5_step_71 : decode eX5_step.2.1 71 = .ok (.if_icmp .ge 49, 3) := by decide +kernel
theorem dX5_step_74 : decode eX5_step.2.1 74 = .ok (.aload_n 0, 1) := by decide +kernel
theorem dX5_step_75 : decode eX5_step.2.1 75 = .ok (.aload_n 0, 1) := by decide +kernel
theorem dX5_step_76 : decode eX5_step.2.1 76 = .ok (.getfield 19, 3) := by decide +kernel
theorem dX5_step_79 : decode eX5_step.2.1 79 = .ok (.invokevirtual 86, 3) := by decide +kernel
theorem dX5_step_82 : decode eX5_step.2.1 82 = .ok (.ifCond .eq 38, 3) := by decide +kernel
theorem dX5_step_85 : decode eX5_step.2.1 85 = .ok (.aload_n 0, 1) := by decide +kernel
theorem dX5_step_86 : decode eX5_step.2.1 86 = .ok (.getfield 22, 3) := by decide +kernel
theorem dX5_step_89 : decode eX5_step.2.1 89 = .ok (.aload_n 0, 1) := by decide +kernel
theorem dX5_step_90 : decode eX5_step.2.1 90 = .ok (.getfield 15, 3) := by decide +kernel
theorem dX5_step_93 : decode eX5_step.2.1 93 = .ok (.if_icmp .ge 84, 3) := by decide +kernel
theorem dX5_step_96 : decode eX5_step.2.1 96 = .ok (.aload_n 0, 1) := by decide +kernel
theorem dX5_step_97 : decode eX5_step.2.1 97 = .ok (.aload_n 0, 1) := by decide +kernel
theorem dX5_step_98 : decode eX5_step.2.1 98 = .ok (.getfield 22, 3) := by decide +kernel
theorem dX5_step_101 : decode eX5_step.2.1 101 = .ok (.invokevirtual 86, 3) := by decide +kernel
theorem dX5_step_104 : decode eX5_step.2.1 104 = .ok (.ifCond .eq 73, 3) := by decide +kernel
theorem dX5_step_107 : decode eX5_step.2.1 107 = .ok (.aload_n 0, 1) := by decide +kernel
theorem dX5_step_108 : decode eX5_step.2.1 108 = .ok (.dup, 1) := by decide +kernel
theorem dX5_step_109 : decode eX5_step.2.1 109 = .ok (.getfield 22, 3) := by decide +kernel
theorem dX5_step_112 : decode eX5_step.2.1 112 = .ok (.iconst 1, 1) := by decide +kernel
theorem dX5_step_113 : decode eX5_step.2.1 113 = .ok (.iadd, 1) := by decide +kernel
theorem dX5_step_114 : decode eX5_step.2.1 114 = .ok (.putfield 22, 3) := by decide +kernel
theorem dX5_step_117 : decode eX5_step.2.1 117 = .ok (.goto (-32), 3) := by decide +kernel
theorem dX5_step_120 : decode eX5_step.2.1 120 = .ok (.aload_n 0, 1) := by decide +kernel
theorem dX5_step_121 : decode eX5_step.2.1 121 = .ok (.getfield 19, 3) := by decide +kernel
theorem dX5_step_124 : decode eX5_step.2.1 124 = .ok (.aload_n 0, 1) := by decide +kernel
theorem dX5_step_125 : decode eX5_step.2.1 125 = .ok (.getfield 15, 3) := by decide +kernel
theorem dX5_step_128 : decode eX5_step.2.1 128 = .ok (.if_icmp .ge 49, 3) := by decide +kernel
theorem dX5_step_131 : decode eX5_step.2.1 131 = .ok (.aload_n 0, 1) := by decide +kernel
theorem dX5_step_132 : decode eX5_step.2.1 132 = .ok (.aload_n 0, 1) := by decide +kernel
theorem dX5_step_133 : decode eX5_step.2.1 133 = .ok (.getfield 19, 3) := by decide +kernel
theorem dX5_step_136 : decode eX5_step.2.1 136 = .ok (.invokevirtual 90, 3) := by decide +kernel
theorem dX5_step_139 : decode eX5_step.2.1 139 = .ok (.ifCond .eq 38, 3) := by decide +kernel
theorem dX5_step_142 : decode eX5_step.2.1 142 = .ok (.aload_n 0, 1) := by decide +kernel
theorem dX5_step_143 : decode eX5_step.2.1 143 = .ok (.getfield 22, 3) := by decide +kernel
theorem dX5_step_146 : decode eX5_step.2.1 146 = .ok (.aload_n 0, 1) := by decide +kernel
theorem dX5_step_147 : decode eX5_step.2.1 147 = .ok (.getfield 15, 3) := by decide +kernel
theorem dX5_step_150 : decode eX5_step.2.1 150 = .ok (.if_icmp .ge 27, 3) := by decide +kernel
theorem dX5_step_153 : decode eX5_step.2.1 153 = .ok (.aload_n 0, 1) := by decide +kernel
theorem dX5_step_154 : decode eX5_step.2.1 154 = .ok (.aload_n 0, 1) := by decide +kernel
theorem dX5_step_155 : decode eX5_step.2.1 155 = .ok (.getfield 22, 3) := by decide +kernel
theorem dX5_step_158 : decode eX5_step.2.1 158 = .ok (.invokevirtual 90, 3) := by decide +kernel
theorem dX5_step_161 : decode eX5_step.2.1 161 = .ok (.ifCond .eq 16, 3) := by decide +kernel
theorem dX5_step_164 : decode eX5_step.2.1 164 = .ok (.aload_n 0, 1) := by decide +kernel
theorem dX5_step_165 : decode eX5_step.2.1 165 = .ok (.dup, 1) := by decide +kernel
theorem dX5_step_166 : decode eX5_step.2.1 166 = .ok (.getfield 22, 3) := by decide +kernel
theorem dX5_step_169 : decode eX5_step.2.1 169 = .ok (.iconst 1, 1) := by decide +kernel
theorem dX5_step_170 : decode eX5_step.2.1 170 = .ok (.iadd, 1) := by decide +kernel
theorem dX5_step_171 : decode eX5_step.2.1 171 = .ok (.putfield 22, 3) := by decide +kernel
theorem dX5_step_174 : decode eX5_step.2.1 174 = .ok (.goto (-32), 3) := by decide +kernel
theorem dX5_step_177 : decode eX5_step.2.1 177 = .ok (.return_, 1) := by decide +kernel
theorem dX5_isLetter_0 : decode eX5_isLetter.2.1 0 = .ok (.aload_n 0, 1) := by decide +kernel
theorem dX5_isLetter_1 : decode eX5_isLetter.2.1 1 = .ok (.getfield 9, 3) := by decide +kernel
theorem dX5_isLetter_4 : decode eX5_isLetter.2.1 4 = .ok (.iload_n 1, 1) := by decide +kernel
theorem dX5_isLetter_5 : decode eX5_isLetter.2.1 5 = .ok (.baload, 1) := by decide +kernel
theorem dX5_isLetter_6 : decode eX5_isLetter.2.1 6 = .ok (.bipush 97, 2) := by decide +kernel
theorem dX5_isLetter_8 : decode eX5_isLetter.2.1 8 = .ok (.if_icmp .lt 18, 3) := by decide +kernel
theorem dX5_isLetter_11 : decode eX5_isLetter.2.1 11 = .ok (.aload_n 0, 1) := by decide +kernel
theorem dX5_isLetter_12 : decode eX5_isLetter.2.1 12 = .ok (.getfield 9, 3) := by decide +kernel
theorem dX5_isLetter_15 : decode eX5_isLetter.2.1 15 = .ok (.iload_n 1, 1) := by decide +kernel
theorem dX5_isLetter_16 : decode eX5_isLetter.2.1 16 = .ok (.baload, 1) := by decide +kernel
theorem dX5_isLetter_17 : decode eX5_isLetter.2.1 17 = .ok (.bipush 122, 2) := by decide +kernel
theorem dX5_isLetter_19 : decode eX5_isLetter.2.1 19 = .ok (.if_icmp .gt 7, 3) := by decide +kernel
theorem dX5_isLetter_22 : decode eX5_isLetter.2.1 22 = .ok (.iconst 1, 1) := by decide +kernel
theorem dX5_isLetter_23 : decode eX5_isLetter.2.1 23 = .ok (.goto 4, 3) := by decide +kernel
theorem dX5_isLetter_26 : decode eX5_isLetter.2.1 26 = .ok (.iconst 0, 1) := by decide +kernel
theorem dX5_isLetter_27 : decode eX5_isLetter.2.1 27 = .ok (.ireturn, 1) := by decide +kernel
theorem dX5_isDigit_0 : decode eX5_isDigit.2.1 0 = .ok (.aload_n 0, 1) := by decide +kernel
theorem dX5_isDigit_1 : decode eX5_isDigit.2.1 1 = .ok (.getfield 9, 3) := by decide +kernel
theorem dX5_isDigit_4 : decode eX5_isDigit.2.1 4 = .ok (.iload_n 1, 1) := by decide +kernel
theorem dX5_isDigit_5 : decode eX5_isDigit.2.1 5 = .ok (.baload, 1) := by decide +kernel
theorem dX5_isDigit_6 : decode eX5_isDigit.2.1 6 = .ok (.bipush 48, 2) := by decide +kernel
theorem dX5_isDigit_8 : decode eX5_isDigit.2.1 8 = .ok (.if_icmp .lt 18, 3) := by decide +kernel
theorem dX5_isDigit_11 : decode eX5_isDigit.2.1 11 = .ok (.aload_n 0, 1) := by decide +kernel
theorem dX5_isDigit_12 : decode eX5_isDigit.2.1 12 = .ok (.getfield 9, 3) := by decide +kernel
theorem dX5_isDigit_15 : decode eX5_isDigit.2.1 15 = .ok (.iload_n 1, 1) := by decide +kernel
theorem dX5_isDigit_16 : decode eX5_isDigit.2.1 16 = .ok (.baload, 1) := by decide +kernel
theorem dX5_isDigit_17 : decode eX5_isDigit.2.1 17 = .ok (.bipush 57, 2) := by decide +kernel
theorem dX5_isDigit_19 : decode eX5_isDigit.2.1 19 = .ok (.if_icmp .gt 7, 3) := by decide +kernel
theorem dX5_isDigit_22 : decode eX5_isDigit.2.1 22 = .ok (.iconst 1, 1) := by decide +kernel
theorem dX5_isDigit_23 : decode eX5_isDigit.2.1 23 = .ok (.goto 4, 3) := by decide +kernel
theorem dX5_isDigit_26 : decode eX5_isDigit.2.1 26 = .ok (.iconst 0, 1) := by decide +kernel
theorem dX5_isDigit_27 : decode eX5_isDigit.2.1 27 = .ok (.ireturn, 1) := by decide +kernel
theorem dX5_isWord_0 : decode eX5_isWord.2.1 0 = .ok (.aload_n 0, 1) := by decide +kernel
theorem dX5_isWord_1 : decode eX5_isWord.2.1 1 = .ok (.iload_n 1, 1) := by decide +kernel
theorem dX5_isWord_2 : decode eX5_isWord.2.1 2 = .ok (.invokevirtual 86, 3) := by decide +kernel
theorem dX5_isWord_5 : decode eX5_isWord.2.1 5 = .ok (.ifCond .ne 11, 3) := by decide +kernel
theorem dX5_isWord_8 : decode eX5_isWord.2.1 8 = .ok (.aload_n 0, 1) := by decide +kernel
theorem dX5_isWord_9 : decode eX5_isWord.2.1 9 = .ok (.iload_n 1, 1) := by decide +kernel
theorem dX5_isWord_10 : decode eX5_isWord.2.1 10 = .ok (.invokevirtual 90, 3) := by decide +kernel
theorem dX5_isWord_13 : decode eX5_isWord.2.1 13 = .ok (.ifCond .eq 7, 3) := by decide +kernel
theorem dX5_isWord_16 : decode eX5_isWord.2.1 16 = .ok (.iconst 1, 1) := by decide +kernel
theorem dX5_isWord_17 : decode eX5_isWord.2.1 17 = .ok (.goto 4, 3) := by decide +kernel
theorem dX5_isWord_20 : decode eX5_isWord.2.1 20 = .ok (.iconst 0, 1) := by decide +kernel
theorem dX5_isWord_21 : decode eX5_isWord.2.1 21 = .ok (.ireturn, 1) := by decide +kernel
theorem dX5_glued_0 : decode eX5_glued.2.1 0 = .ok (.aload_n 0, 1) := by decide +kernel
theorem dX5_glued_1 : decode eX5_glued.2.1 1 = .ok (.getfield 19, 3) := by decide +kernel
theorem dX5_glued_4 : decode eX5_glued.2.1 4 = .ok (.ifCond .le 42, 3) := by decide +kernel
theorem dX5_glued_7 : decode eX5_glued.2.1 7 = .ok (.aload_n 0, 1) := by decide +kernel
theorem dX5_glued_8 : decode eX5_glued.2.1 8 = .ok (.getfield 19, 3) := by decide +kernel
theorem dX5_glued_11 : decode eX5_glued.2.1 11 = .ok (.aload_n 0, 1) := by decide +kernel
theorem dX5_glued_12 : decode eX5_glued.2.1 12 = .ok (.getfield 15, 3) := by decide +kernel
theorem dX5_glued_15 : decode eX5_glued.2.1 15 = .ok (.if_icmp .ge 31, 3) := by decide +kernel
theorem dX5_glued_18 : decode eX5_glued.2.1 18 = .ok (.aload_n 0, 1) := by decide +kernel
theorem dX5_glued_19 : decode eX5_glued.2.1 19 = .ok (.aload_n 0, 1) := by decide +kernel
theorem dX5_glued_20 : decode eX5_glued.2.1 20 = .ok (.getfield 19, 3) := by decide +kernel
theorem dX5_glued_23 : decode eX5_glued.2.1 23 = .ok (.invokevirtual 93, 3) := by decide +kernel
theorem dX5_glued_26 : decode eX5_glued.2.1 26 = .ok (.ifCond .eq 20, 3) := by decide +kernel
theorem dX5_glued_29 : decode eX5_glued.2.1 29 = .ok (.aload_n 0, 1) := by decide +kernel
theorem dX5_glued_30 : decode eX5_glued.2.1 30 = .ok (.aload_n 0, 1) := by decide +kernel
theorem dX5_glued_31 : decode eX5_glued.2.1 31 = .ok (.getfield 19, 3) := by decide +kernel
theorem dX5_glued_34 : decode eX5_glued.2.1 34 = .ok (.iconst 1, 1) := by decide +kernel
theorem dX5_glued_35 : decode eX5_glued.2.1 35 = .ok (.isub, 1) := by decide +kernel
theorem dX5_glued_36 : decode eX5_glued.2.1 36 = .ok (.invokevirtual 93, 3) := by decide +kernel
theorem dX5_glued_39 : decode eX5_glued.2.1 39 = .ok (.ifCond .eq 7, 3) := by decide +kernel
theorem dX5_glued_42 : decode eX5_glued.2.1 42 = .ok (.iconst 1, 1) := by decide +kernel
theorem dX5_glued_43 : decode eX5_glued.2.1 43 = .ok (.goto 4, 3) := by decide +kernel
theorem dX5_glued_46 : decode eX5_glued.2.1 46 = .ok (.iconst 0, 1) := by decide +kernel
theorem dX5_glued_47 : decode eX5_glued.2.1 47 = .ok (.ireturn, 1) := by decide +kernel
theorem dX5_readHead_0 : decode eX5_readHead.2.1 0 = .ok (.aload_n 0, 1) := by decide +kernel
theorem dX5_readHead_1 : decode eX5_readHead.2.1 1 = .ok (.invokevirtual 64, 3) := by decide +kernel
theorem dX5_readHead_4 : decode eX5_readHead.2.1 4 = .ok (.aload_n 0, 1) := by decide +kernel
theorem dX5_readHead_5 : decode eX5_readHead.2.1 5 = .ok (.ldc 96, 2) := by decide +kernel
theorem dX5_readHead_7 : decode eX5_readHead.2.1 7 = .ok (.invokevirtual 98, 3) := by decide +kernel
theorem dX5_readHead_10 : decode eX5_readHead.2.1 10 = .ok (.ifCond .eq 17, 3) := by decide +kernel
theorem dX5_readHead_13 : decode eX5_readHead.2.1 13 = .ok (.aload_n 0, 1) := by decide +kernel
theorem dX5_readHead_14 : decode eX5_readHead.2.1 14 = .ok (.ldc 102, 2) := by decide +kernel
theorem dX5_readHead_16 : decode eX5_readHead.2.1 16 = .ok (.putfield 27, 3) := by decide +kernel
theorem dX5_readHead_19 : decode eX5_readHead.2.1 19 = .ok (.aload_n 0, 1) := by decide +kernel
theorem dX5_readHead_20 : decode eX5_readHead.2.1 20 = .ok (.bipush 6, 2) := by decide +kernel
theorem dX5_readHead_22 : decode eX5_readHead.2.1 22 = .ok (.putfield 31, 3) := by decide +kernel
theorem dX5_readHead_25 : decode eX5_readHead.2.1 25 = .ok (.iconst 1, 1) := by decide +kernel
theorem dX5_readHead_26 : decode eX5_readHead.2.1 26 = .ok (.ireturn, 1) := by decide +kernel
theorem dX5_readHead_27 : decode eX5_readHead.2.1 27 = .ok (.aload_n 0, 1) := by decide +kernel
theorem dX5_readHead_28 : decode eX5_readHead.2.1 28 = .ok (.ldc 104, 2) := by decide +kernel
theorem dX5_readHead_30 : decode eX5_readHead.2.1 30 = .ok (.invokevirtual 98, 3) := by decide +kernel
theorem dX5_readHead_33 : decode eX5_readHead.2.1 33 = .ok (.ifCond .ne 5, 3) := by decide +kernel
theorem dX5_readHead_36 : decode eX5_readHead.2.1 36 = .ok (.iconst 0, 1) := by decide +kernel
theorem dX5_readHead_37 : decode eX5_readHead.2.1 37 = .ok (.ireturn, 1) := by decide +kernel
theorem dX5_readHead_38 : decode eX5_readHead.2.1 38 = .ok (.aload_n 0, 1) := by decide +kernel
theorem dX5_readHead_39 : decode eX5_readHead.2.1 39 = .ok (.ldc 106, 2) := by decide +kernel
theorem dX5_readHead_41 : decode eX5_readHead.2.1 41 = .ok (.putfield 27, 3) := by decide +kernel
theorem dX5_readHead_44 : decode eX5_readHead.2.1 44 = .ok (.aload_n 0, 1) := by decide +kernel
theorem dX5_readHead_45 : decode eX5_readHead.2.1 45 = .ok (.invokevirtual 64, 3) := by decide +kernel
theorem dX5_readHead_48 : decode eX5_readHead.2.1 48 = .ok (.aload_n 0, 1) := by decide +kernel
theorem dX5_readHead_49 : decode eX5_readHead.2.1 49 = .ok (.invokevirtual 67, 3) := by decide +kernel
theorem dX5_readHead_52 : decode eX5_readHead.2.1 52 = .ok (.ifCond .ne 44, 3) := by decide +kernel
theorem dX5_readHead_55 : decode eX5_readHead.2.1 55 = .ok (.aload_n 0, 1) := by decide +kernel
theorem dX5_readHead_56 : decode eX5_readHead.2.1 56 = .ok (.getfield 22, 3) := by decide +kernel
theorem dX5_readHead_59 : decode eX5_readHead.2.1 59 = .ok (.aload_n 0, 1) := by decide +kernel
theorem dX5_readHead_60 : decode eX5_readHead.2.1 60 = .ok (.getfield 19, 3) := by decide +kernel
theorem dX5_readHead_63 : decode eX5_readHead.2.1 63 = .ok (.isub, 1) := by decide +kernel
theorem dX5_readHead_64 : decode eX5_readHead.2.1 64 = .ok (.iconst 1, 1) := by decide +kernel
theorem dX5_readHead_65 : decode eX5_readHead.2.1 65 = .ok (.if_icmp .ne 31, 3) := by decide +kernel
theorem dX5_readHead_68 : decode eX5_readHead.2.1 68 = .ok (.aload_n 0, 1) := by decide +kernel
theorem dX5_readHead_69 : decode eX5_readHead.2.1 69 = .ok (.aload_n 0, 1) := by decide +kernel
theorem dX5_readHead_70 : decode eX5_readHead.2.1 70 = .ok (.getfield 19, 3) := by decide +kernel
theorem dX5_readHead_73 : decode eX5_readHead.2.1 73 = .ok (.invokevirtual 90, 3) := by decide +kernel
theorem dX5_readHead_76 : decode eX5_readHead.2.1 76 = .ok (.ifCond .eq 20, 3) := by decide +kernel
theorem dX5_readHead_79 : decode eX5_readHead.2.1 79 = .ok (.aload_n 0, 1) := by decide +kernel
theorem dX5_readHead_80 : decode eX5_readHead.2.1 80 = .ok (.getfield 9, 3) := by decide +kernel
theorem dX5_readHead_83 : decode eX5_readHead.2.1 83 = .ok (.aload_n 0, 1) := by decide +kernel
theorem dX5_readHead_84 : decode eX5_readHead.2.1 84 = .ok (.getfield 19, 3) := by decide +kernel
theorem dX5_readHead_87 : decode eX5_readHead.2.1 87 = .ok (.baload, 1) := by decide +kernel
theorem dX5_readHead_88 : decode eX5_readHead.2.1 88 = .ok (.bipush 48, 2) := by decide +kernel
theorem dX5_readHead_90 : decode eX5_readHead.2.1 90 = .ok (.isub, 1) := by decide +kernel
theorem dX5_readHead_91 : decode eX5_readHead.2.1 91 = .ok (.bipush 6, 2) := by decide +kernel
theorem dX5_readHead_93 : decode eX5_readHead.2.1 93 = .ok (.if_icmp .lt 5, 3) := by decide +kernel
theorem dX5_readHead_96 : decode eX5_readHead.2.1 96 = .ok (.iconst 0, 1) := by decide +kernel
theorem dX5_readHead_97 : decode eX5_readHead.2.1 97 = .ok (.ireturn, 1) := by decide +kernel
theorem dX5_readHead_98 : decode eX5_readHead.2.1 98 = .ok (.aload_n 0, 1) := by decide +kernel
theorem dX5_readHead_99 : decode eX5_readHead.2.1 99 = .ok (.aload_n 0, 1) := by decide +kernel
theorem dX5_readHead_100 : decode eX5_readHead.2.1 100 = .ok (.getfield 9, 3) := by decide +kernel
theorem dX5_readHead_103 : decode eX5_readHead.2.1 103 = .ok (.aload_n 0, 1) := by decide +kernel
theorem dX5_readHead_104 : decode eX5_readHead.2.1 104 = .ok (.getfield 19, 3) := by decide +kernel
theorem dX5_readHead_107 : decode eX5_readHead.2.1 107 = .ok (.baload, 1) := by decide +kernel
theorem dX5_readHead_108 : decode eX5_readHead.2.1 108 = .ok (.bipush 48, 2) := by decide +kernel
theorem dX5_readHead_110 : decode eX5_readHead.2.1 110 = .ok (.isub, 1) := by decide +kernel
theorem dX5_readHead_111 : decode eX5_readHead.2.1 111 = .ok (.putfield 31, 3) := by decide +kernel
theorem dX5_readHead_114 : decode eX5_readHead.2.1 114 = .ok (.iconst 1, 1) := by decide +kernel
theorem dX5_readHead_115 : decode eX5_readHead.2.1 115 = .ok (.ireturn, 1) := by decide +kernel
theorem dX5_spells_0 : decode eX5_spells.2.1 0 = .ok (.aload_n 0, 1) := by decide +kernel
theorem dX5_spells_1 : decode eX5_spells.2.1 1 = .ok (.getfield 22, 3) := by decide +kernel
theorem dX5_spells_4 : decode eX5_spells.2.1 4 = .ok (.aload_n 0, 1) := by decide +kernel
theorem dX5_spells_5 : decode eX5_spells.2.1 5 = .ok (.getfield 19, 3) := by decide +kernel
theorem dX5_spells_8 : decode eX5_spells.2.1 8 = .ok (.isub, 1) := by decide +kernel
theorem dX5_spells_9 : decode eX5_spells.2.1 9 = .ok (.aload_n 1, 1) := by decide +kernel
theorem dX5_spells_10 : decode eX5_spells.2.1 10 = .ok (.invokevirtual 108, 3) := by decide +kernel
theorem dX5_spells_13 : decode eX5_spells.2.1 13 = .ok (.if_icmp .eq 5, 3) := by decide +kernel
theorem dX5_spells_16 : decode eX5_spells.2.1 16 = .ok (.iconst 0, 1) := by decide +kernel
theorem dX5_spells_17 : decode eX5_spells.2.1 17 = .ok (.ireturn, 1) := by decide +kernel
theorem dX5_spells_18 : decode eX5_spells.2.1 18 = .ok (.iconst 0, 1) := by decide +kernel
theorem dX5_spells_19 : decode eX5_spells.2.1 19 = .ok (.istore_n 2, 1) := by decide +kernel
theorem dX5_spells_20 : decode eX5_spells.2.1 20 = .ok (.iload_n 2, 1) := by decide +kernel
theorem dX5_spells_21 : decode eX5_spells.2.1 21 = .ok (.aload_n 1, 1) := by decide +kernel
theorem dX5_spells_22 : decode eX5_spells.2.1 22 = .ok (.invokevirtual 108, 3) := by decide +kernel
theorem dX5_spells_25 : decode eX5_spells.2.1 25 = .ok (.if_icmp .ge 30, 3) := by decide +kernel
theorem dX5_spells_28 : decode eX5_spells.2.1 28 = .ok (.aload_n 0, 1) := by decide +kernel
theorem dX5_spells_29 : decode eX5_spells.2.1 29 = .ok (.getfield 9, 3) := by decide +kernel
theorem dX5_spells_32 : decode eX5_spells.2.1 32 = .ok (.aload_n 0, 1) := by decide +kernel
theorem dX5_spells_33 : decode eX5_spells.2.1 33 = .ok (.getfield 19, 3) := by decide +kernel
theorem dX5_spells_36 : decode eX5_spells.2.1 36 = .ok (.iload_n 2, 1) := by decide +kernel
theorem dX5_spells_37 : decode eX5_spells.2.1 37 = .ok (.iadd, 1) := by decide +kernel
theorem dX5_spells_38 : decode eX5_spells.2.1 38 = .ok (.baload, 1) := by decide +kernel
theorem dX5_spells_39 : decode eX5_spells.2.1 39 = .ok (.aload_n 1, 1) := by decide +kernel
theorem dX5_spells_40 : decode eX5_spells.2.1 40 = .ok (.iload_n 2, 1) := by decide +kernel
theorem dX5_spells_41 : decode eX5_spells.2.1 41 = .ok (.invokevirtual 113, 3) := by decide +kernel
theorem dX5_spells_44 : decode eX5_spells.2.1 44 = .ok (.if_icmp .eq 5, 3) := by decide +kernel
theorem dX5_spells_47 : decode eX5_spells.2.1 47 = .ok (.iconst 0, 1) := by decide +kernel
theorem dX5_spells_48 : decode eX5_spells.2.1 48 = .ok (.ireturn, 1) := by decide +kernel
theorem dX5_spells_49 : decode eX5_spells.2.1 49 = .ok (.iinc 2 1, 3) := by decide +kernel
theorem dX5_spells_52 : decode eX5_spells.2.1 52 = .ok (.goto (-32), 3) := by decide +kernel
theorem dX5_spells_55 : decode eX5_spells.2.1 55 = .ok (.iconst 1, 1) := by decide +kernel
theorem dX5_spells_56 : decode eX5_spells.2.1 56 = .ok (.ireturn, 1) := by decide +kernel
theorem dX5_readPiece_0 : decode eX5_readPiece.2.1 0 = .ok (.aload_n 0, 1) := by decide +kernel
theorem dX5_readPiece_1 : decode eX5_readPiece.2.1 1 = .ok (.aload_n 0, 1) := by decide +kernel
theorem dX5_readPiece_2 : decode eX5_readPiece.2.1 2 = .ok (.getfield 19, 3) := by decide +kernel
theorem dX5_readPiece_5 : decode eX5_readPiece.2.1 5 = .ok (.invokevirtual 90, 3) := by decide +kernel
theorem dX5_readPiece_8 : decode eX5_readPiece.2.1 8 = .ok (.ifCond .eq 33, 3) := by decide +kernel
theorem dX5_readPiece_11 : decode eX5_readPiece.2.1 11 = .ok (.aload_n 0, 1) := by decide +kernel
theorem dX5_readPiece_12 : decode eX5_readPiece.2.1 12 = .ok (.getfield 22, 3) := by decide +kernel
theorem dX5_readPiece_15 : decode eX5_readPiece.2.1 15 = .ok (.aload_n 0, 1) := by decide +kernel
theorem dX5_readPiece_16 : decode eX5_readPiece.2.1 16 = .ok (.getfield 19, 3) := by decide +kernel
theorem dX5_readPiece_19 : decode eX5_readPiece.2.1 19 = .ok (.isub, 1) := by decide +kernel
theorem dX5_readPiece_20 : decode eX5_readPiece.2.1 20 = .ok (.iconst 4, 1) := by decide +kernel
theorem dX5_readPiece_21 : decode eX5_readPiece.2.1 21 = .ok (.if_icmp .gt 18, 3) := by decide +kernel
theorem dX5_readPiece_24 : decode eX5_readPiece.2.1 24 = .ok (.aload_n 0, 1) := by decide +kernel
theorem dX5_readPiece_25 : decode eX5_readPiece.2.1 25 = .ok (.aload_n 0, 1) := by decide +kernel
theorem dX5_readPiece_26 : decode eX5_readPiece.2.1 26 = .ok (.invokevirtual 117, 3) := by decide +kernel
theorem dX5_readPiece_29 : decode eX5_readPiece.2.1 29 = .ok (.invokevirtual 120, 3) := by decide +kernel
theorem dX5_readPiece_32 : decode eX5_readPiece.2.1 32 = .ok (.ifCond .eq 7, 3) := by decide +kernel
theorem dX5_readPiece_35 : decode eX5_readPiece.2.1 35 = .ok (.iconst 1, 1) := by decide +kernel
theorem dX5_readPiece_36 : decode eX5_readPiece.2.1 36 = .ok (.goto 4, 3) := by decide +kernel
theorem dX5_readPiece_39 : decode eX5_readPiece.2.1 39 = .ok (.iconst 0, 1) := by decide +kernel
theorem dX5_readPiece_40 : decode eX5_readPiece.2.1 40 = .ok (.ireturn, 1) := by decide +kernel
theorem dX5_readPiece_41 : decode eX5_readPiece.2.1 41 = .ok (.aload_n 0, 1) := by decide +kernel
theorem dX5_readPiece_42 : decode eX5_readPiece.2.1 42 = .ok (.aload_n 0, 1) := by decide +kernel
theorem dX5_readPiece_43 : decode eX5_readPiece.2.1 43 = .ok (.getfield 19, 3) := by decide +kernel
theorem dX5_readPiece_46 : decode eX5_readPiece.2.1 46 = .ok (.invokevirtual 86, 3) := by decide +kernel
theorem dX5_readPiece_49 : decode eX5_readPiece.2.1 49 = .ok (.ifCond .eq 58, 3) := by decide +kernel
theorem dX5_readPiece_52 : decode eX5_readPiece.2.1 52 = .ok (.aload_n 0, 1) := by decide +kernel
theorem dX5_readPiece_53 : decode eX5_readPiece.2.1 53 = .ok (.getfield 22, 3) := by decide +kernel
theorem dX5_readPiece_56 : decode eX5_readPiece.2.1 56 = .ok (.aload_n 0, 1) := by decide +kernel
theorem dX5_readPiece_57 : decode eX5_readPiece.2.1 57 = .ok (.getfield 19, 3) := by decide +kernel
theorem dX5_readPiece_60 : decode eX5_readPiece.2.1 60 = .ok (.isub, 1) := by decide +kernel
theorem dX5_readPiece_61 : decode eX5_readPiece.2.1 61 = .ok (.iconst 1, 1) := by decide +kernel
theorem dX5_readPiece_62 : decode eX5_readPiece.2.1 62 = .ok (.if_icmp .ne 23, 3) := by decide +kernel
theorem dX5_readPiece_65 : decode eX5_readPiece.2.1 65 = .ok (.aload_n 0, 1) := by decide +kernel
theorem dX5_readPiece_66 : decode eX5_readPiece.2.1 66 = .ok (.getfield 27, 3) := by decide +kernel
theorem dX5_readPiece_69 : decode eX5_readPiece.2.1 69 = .ok (.aload_n 0, 1) := by decide +kernel
theorem dX5_readPiece_70 : decode eX5_readPiece.2.1 70 = .ok (.getfield 9, 3) := by decide +kernel
theorem dX5_readPiece_73 : decode eX5_readPiece.2.1 73 = .ok (.aload_n 0, 1) := by decide +kernel
theorem dX5_readPiece_74 : decode eX5_readPiece.2.1 74 = .ok (.getfield 19, 3) := by decide +kernel
theorem dX5_readPiece_77 : decode eX5_readPiece.2.1 77 = .ok (.baload, 1) := by decide +kernel
theorem dX5_readPiece_78 : decode eX5_readPiece.2.1 78 = .ok (.i2c, 1) := by decide +kernel
theorem dX5_readPiece_79 : decode eX5_readPiece.2.1 79 = .ok (.invokevirtual 123, 3) := by decide +kernel
theorem dX5_readPiece_82 : decode eX5_readPiece.2.1 82 = .ok (.goto 4, 3) := by decide +kernel
theorem dX5_readPiece_85 : decode eX5_readPiece.2.1 85 = .ok (.iconst (-1), 1) := by decide +kernel
theorem dX5_readPiece_86 : decode eX5_readPiece.2.1 86 = .ok (.istore_n 1, 1) := by decide +kernel
theorem dX5_readPiece_87 : decode eX5_readPiece.2.1 87 = .ok (.iload_n 1, 1) := by decide +kernel
theorem dX5_readPiece_88 : decode eX5_readPiece.2.1 88 = .ok (.ifCond .lt 17, 3) := by decide +kernel
theorem dX5_readPiece_91 : decode eX5_readPiece.2.1 91 = .ok (.aload_n 0, 1) := by decide +kernel
theorem dX5_readPiece_92 : decode eX5_readPiece.2.1 92 = .ok (.iconst (-1), 1) := by decide +kernel
theorem dX5_readPiece_93 : decode eX5_readPiece.2.1 93 = .ok (.iload_n 1, 1) := by decide +kernel
theorem dX5_readPiece_94 : decode eX5_readPiece.2.1 94 = .ok (.isub, 1) := by decide +kernel
theorem dX5_readPiece_95 : decode eX5_readPiece.2.1 95 = .ok (.invokevirtual 120, 3) := by decide +kernel
theorem dX5_readPiece_98 : decode eX5_readPiece.2.1 98 = .ok (.ifCond .eq 7, 3) := by decide +kernel
theorem dX5_readPiece_101 : decode eX5_readPiece.2.1 101 = .ok (.iconst 1, 1) := by decide +kernel
theorem dX5_readPiece_102 : decode eX5_readPiece.2.1 102 = .ok (.goto 4, 3) := by decide +kernel
theorem dX5_readPiece_105 : decode eX5_readPiece.2.1 105 = .ok (.iconst 0, 1) := by decide +kernel
theorem dX5_readPiece_106 : decode eX5_readPiece.2.1 106 = .ok (.ireturn, 1) := by decide +kernel
theorem dX5_readPiece_107 : decode eX5_readPiece.2.1 107 = .ok (.aload_n 0, 1) := by decide +kernel
theorem dX5_readPiece_108 : decode eX5_readPiece.2.1 108 = .ok (.getfield 9, 3) := by decide +kernel
theorem dX5_readPiece_111 : decode eX5_readPiece.2.1 111 = .ok (.aload_n 0, 1) := by decide +kernel
theorem dX5_readPiece_112 : decode eX5_readPiece.2.1 112 = .ok (.getfield 19, 3) := by decide +kernel
theorem dX5_readPiece_115 : decode eX5_readPiece.2.1 115 = .ok (.baload, 1) := by decide +kernel
theorem dX5_readPiece_116 : decode eX5_readPiece.2.1 116 = .ok (.bipush 33, 2) := by decide +kernel
theorem dX5_readPiece_118 : decode eX5_readPiece.2.1 118 = .ok (.if_icmp .ne 16, 3) := by decide +kernel
theorem dX5_readPiece_121 : decode eX5_readPiece.2.1 121 = .ok (.aload_n 0, 1) := by decide +kernel
theorem dX5_readPiece_122 : decode eX5_readPiece.2.1 122 = .ok (.dup, 1) := by decide +kernel
theorem dX5_readPiece_123 : decode eX5_readPiece.2.1 123 = .ok (.getfield 53, 3) := by decide +kernel
theorem dX5_readPiece_126 : decode eX5_readPiece.2.1 126 = .ok (.iconst 1, 1) := by decide +kernel
theorem dX5_readPiece_127 : decode eX5_readPiece.2.1 127 = .ok (.iadd, 1) := by decide +kernel
theorem dX5_readPiece_128 : decode eX5_readPiece.2.1 128 = .ok (.putfield 53, 3) := by decide +kernel
theorem dX5_readPiece_131 : decode eX5_readPiece.2.1 131 = .ok (.goto 32, 3) := by decide +kernel
theorem dX5_readPiece_134 : decode eX5_readPiece.2.1 134 = .ok (.aload_n 0, 1) := by decide +kernel
theorem dX5_readPiece_135 : decode eX5_readPiece.2.1 135 = .ok (.getfield 9, 3) := by decide +kernel
theorem dX5_readPiece_138 : decode eX5_readPiece.2.1 138 = .ok (.aload_n 0, 1) := by decide +kernel
theorem dX5_readPiece_139 : decode eX5_readPiece.2.1 139 = .ok (.getfield 19, 3) := by decide +kernel
theorem dX5_readPiece_142 : decode eX5_readPiece.2.1 142 = .ok (.baload, 1) := by decide +kernel
theorem dX5_readPiece_143 : decode eX5_readPiece.2.1 143 = .ok (.bipush 40, 2) := by decide +kernel
theorem dX5_readPiece_145 : decode eX5_readPiece.2.1 145 = .ok (.if_icmp .ne 16, 3) := by decide +kernel
theorem dX5_readPiece_148 : decode eX5_readPiece.2.1 148 = .ok (.aload_n 0, 1) := by decide +kernel
theorem dX5_readPiece_149 : decode eX5_readPiece.2.1 149 = .ok (.dup, 1) := by decide +kernel
theorem dX5_readPiece_150 : decode eX5_readPiece.2.1 150 = .ok (.getfield 50, 3) := by decide +kernel
theorem dX5_readPiece_153 : decode eX5_readPiece.2.1 153 = .ok (.iconst 1, 1) := by decide +kernel
theorem dX5_readPiece_154 : decode eX5_readPiece.2.1 154 = .ok (.iadd, 1) := by decide +kernel
theorem dX5_readPiece_155 : decode eX5_readPiece.2.1 155 = .ok (.putfield 50, 3) := by decide +kernel
theorem dX5_readPiece_158 : decode eX5_readPiece.2.1 158 = .ok (.goto 5, 3) := by decide +kernel
theorem dX5_readPiece_161 : decode eX5_readPiece.2.1 161 = .ok (.iconst 0, 1) := by decide +kernel
theorem dX5_readPiece_162 : decode eX5_readPiece.2.1 162 = .ok (.ireturn, 1) := by decide +kernel
theorem dX5_readPiece_163 : decode eX5_readPiece.2.1 163 = .ok (.aload_n 0, 1) := by decide +kernel
theorem dX5_readPiece_164 : decode eX5_readPiece.2.1 164 = .ok (.aload_n 0, 1) := by decide +kernel
theorem dX5_readPiece_165 : decode eX5_readPiece.2.1 165 = .ok (.getfield 9, 3) := by decide +kernel
theorem dX5_readPiece_168 : decode eX5_readPiece.2.1 168 = .ok (.aload_n 0, 1) := by decide +kernel
theorem dX5_readPiece_169 : decode eX5_readPiece.2.1 169 = .ok (.getfield 19, 3) := by decide +kernel
theorem dX5_readPiece_172 : decode eX5_readPiece.2.1 172 = .ok (.baload, 1) := by decide +kernel
theorem dX5_readPiece_173 : decode eX5_readPiece.2.1 173 = .ok (.invokevirtual 127, 3) := by decide +kernel
theorem dX5_readPiece_176 : decode eX5_readPiece.2.1 176 = .ok (.aload_n 0, 1) := by decide +kernel
theorem dX5_readPiece_177 : decode eX5_readPiece.2.1 177 = .ok (.getfield 53, 3) := by decide +kernel
theorem dX5_readPiece_180 : decode eX5_readPiece.2.1 180 = .ok (.bipush 8, 2) := by decide +kernel
theorem dX5_readPiece_182 : decode eX5_readPiece.2.1 182 = .ok (.if_icmp .gt 16, 3) := by decide +kernel
theorem dX5_readPiece_185 : decode eX5_readPiece.2.1 185 = .ok (.aload_n 0, 1) := by decide +kernel
theorem dX5_readPiece_186 : decode eX5_readPiece.2.1 186 = .ok (.getfield 50, 3) := by decide +kernel
theorem dX5_readPiece_189 : decode eX5_readPiece.2.1 189 = .ok (.bipush 8, 2) := by decide +kernel
theorem dX5_readPiece_191 : decode eX5_readPiece.2.1 191 = .ok (.if_icmp .gt 7, 3) := by decide +kernel
theorem dX5_readPiece_194 : decode eX5_readPiece.2.1 194 = .ok (.iconst 1, 1) := by decide +kernel
theorem dX5_readPiece_195 : decode eX5_readPiece.2.1 195 = .ok (.goto 4, 3) := by decide +kernel
theorem dX5_readPiece_198 : decode eX5_readPiece.2.1 198 = .ok (.iconst 0, 1) := by decide +kernel
theorem dX5_readPiece_199 : decode eX5_readPiece.2.1 199 = .ok (.ireturn, 1) := by decide +kernel
theorem dX5_hold_0 : decode eX5_hold.2.1 0 = .ok (.aload_n 0, 1) := by decide +kernel
theorem dX5_hold_1 : decode eX5_hold.2.1 1 = .ok (.getfield 47, 3) := by decide +kernel
theorem dX5_hold_4 : decode eX5_hold.2.1 4 = .ok (.bipush 96, 2) := by decide +kernel
theorem dX5_hold_6 : decode eX5_hold.2.1 6 = .ok (.if_icmp .ge 20, 3) := by decide +kernel
theorem dX5_hold_9 : decode eX5_hold.2.1 9 = .ok (.aload_n 0, 1) := by decide +kernel
theorem dX5_hold_10 : decode eX5_hold.2.1 10 = .ok (.getfield 44, 3) := by decide +kernel
theorem dX5_hold_13 : decode eX5_hold.2.1 13 = .ok (.aload_n 0, 1) := by decide +kernel
theorem dX5_hold_14 : decode eX5_hold.2.1 14 = .ok (.dup, 1) := by decide +kernel
theorem dX5_hold_15 : decode eX5_hold.2.1 15 = .ok (.getfield 47, 3) := by decide +kernel
theorem dX5_hold_18 : decode eX5_hold.2.1 18 = .ok (.dup_x1, 1) := by decide +kernel
theorem dX5_hold_19 : decode eX5_hold.2.1 19 = .ok (.iconst 1, 1) := by decide +kernel
theorem dX5_hold_20 : decode eX5_hold.2.1 20 = .ok (.iadd, 1) := by decide +kernel
theorem dX5_hold_21 : decode eX5_hold.2.1 21 = .ok (.putfield 47, 3) := by decide +kernel
theorem dX5_hold_24 : decode eX5_hold.2.1 24 = .ok (.iload_n 1, 1) := by decide +kernel
theorem dX5_hold_25 : decode eX5_hold.2.1 25 = .ok (.iastore, 1) := by decide +kernel
theorem dX5_hold_26 : decode eX5_hold.2.1 26 = .ok (.return_, 1) := by decide +kernel
theorem dX5_putDown_0 : decode eX5_putDown.2.1 0 = .ok (.aload_n 0, 1) := by decide +kernel
theorem dX5_putDown_1 : decode eX5_putDown.2.1 1 = .ok (.getfield 38, 3) := by decide +kernel
theorem dX5_putDown_4 : decode eX5_putDown.2.1 4 = .ok (.bipush 96, 2) := by decide +kernel
theorem dX5_putDown_6 : decode eX5_putDown.2.1 6 = .ok (.if_icmp .ge 20, 3) := by decide +kernel
theorem dX5_putDown_9 : decode eX5_putDown.2.1 9 = .ok (.aload_n 0, 1) := by decide +kernel
theorem dX5_putDown_10 : decode eX5_putDown.2.1 10 = .ok (.getfield 34, 3) := by decide +kernel
theorem dX5_putDown_13 : decode eX5_putDown.2.1 13 = .ok (.aload_n 0, 1) := by decide +kernel
theorem dX5_putDown_14 : decode eX5_putDown.2.1 14 = .ok (.dup, 1) := by decide +kernel
theorem dX5_putDown_15 : decode eX5_putDown.2.1 15 = .ok (.getfield 38, 3) := by decide +kernel
theorem dX5_putDown_18 : decode eX5_putDown.2.1 18 = .ok (.dup_x1, 1) := by decide +kernel
theorem dX5_putDown_19 : decode eX5_putDown.2.1 19 = .ok (.iconst 1, 1) := by decide +kernel
theorem dX5_putDown_20 : decode eX5_putDown.2.1 20 = .ok (.iadd, 1) := by decide +kernel
theorem dX5_putDown_21 : decode eX5_putDown.2.1 21 = .ok (.putfield 38, 3) := by decide +kernel
theorem dX5_putDown_24 : decode eX5_putDown.2.1 24 = .ok (.iload_n 1, 1) := by decide +kernel
theorem dX5_putDown_25 : decode eX5_putDown.2.1 25 = .ok (.iastore, 1) := by decide +kernel
theorem dX5_putDown_26 : decode eX5_putDown.2.1 26 = .ok (.return_, 1) := by decide +kernel
theorem dX5_number_0 : decode eX5_number.2.1 0 = .ok (.iconst 0, 1) := by decide +kernel
theorem dX5_number_1 : decode eX5_number.2.1 1 = .ok (.istore_n 1, 1) := by decide +kernel
theorem dX5_number_2 : decode eX5_number.2.1 2 = .ok (.aload_n 0, 1) := by decide +kernel
theorem dX5_number_3 : decode eX5_number.2.1 3 = .ok (.getfield 19, 3) := by decide +kernel
theorem dX5_number_6 : decode eX5_number.2.1 6 = .ok (.istore_n 2, 1) := by decide +kernel
theorem dX5_number_7 : decode eX5_number.2.1 7 = .ok (.iload_n 2, 1) := by decide +kernel
theorem dX5_number_8 : decode eX5_number.2.1 8 = .ok (.aload_n 0, 1) := by decide +kernel
theorem dX5_number_9 : decode eX5_number.2.1 9 = .ok (.getfield 22, 3) := by decide +kernel
theorem dX5_number_12 : decode eX5_number.2.1 12 = .ok (.if_icmp .ge 24, 3) := by decide +kernel
theorem dX5_number_15 : decode eX5_number.2.1 15 = .ok (.iload_n 1, 1) := by decide +kernel
theorem dX5_number_16 : decode eX5_number.2.1 16 = .ok (.bipush 10, 2) := by decide +kernel
theorem dX5_number_18 : decode eX5_number.2.1 18 = .ok (.imul, 1) := by decide +kernel
theorem dX5_number_19 : decode eX5_number.2.1 19 = .ok (.aload_n 0, 1) := by decide +kernel
theorem dX5_number_20 : decode eX5_number.2.1 20 = .ok (.getfield 9, 3) := by decide +kernel
theorem dX5_number_23 : decode eX5_number.2.1 23 = .ok (.iload_n 2, 1) := by decide +kernel
theorem dX5_number_24 : decode eX5_number.2.1 24 = .ok (.baload, 1) := by decide +kernel
theorem dX5_number_25 : decode eX5_number.2.1 25 = .ok (.iadd, 1) := by decide +kernel
theorem dX5_number_26 : decode eX5_number.2.1 26 = .ok (.bipush 48, 2) := by decide +kernel
theorem dX5_number_28 : decode eX5_number.2.1 28 = .ok (.isub, 1) := by decide +kernel
theorem dX5_number_29 : decode eX5_number.2.1 29 = .ok (.istore_n 1, 1) := by decide +kernel
theorem dX5_number_30 : decode eX5_number.2.1 30 = .ok (.iinc 2 1, 3) := by decide +kernel
theorem dX5_number_33 : decode eX5_number.2.1 33 = .ok (.goto (-26), 3) := by decide +kernel
theorem dX5_number_36 : decode eX5_number.2.1 36 = .ok (.iload_n 1, 1) := by decide +kernel
theorem dX5_number_37 : decode eX5_number.2.1 37 = .ok (.ireturn, 1) := by decide +kernel
theorem dX5_putOperand_0 : decode eX5_putOperand.2.1 0 = .ok (.aload_n 0, 1) := by decide +kernel
theorem dX5_putOperand_1 : decode eX5_putOperand.2.1 1 = .ok (.iload_n 1, 1) := by decide +kernel
theorem dX5_putOperand_2 : decode eX5_putOperand.2.1 2 = .ok (.invokevirtual 130, 3) := by decide +kernel
theorem dX5_putOperand_5 : decode eX5_putOperand.2.1 5 = .ok (.aload_n 0, 1) := by decide +kernel
theorem dX5_putOperand_6 : decode eX5_putOperand.2.1 6 = .ok (.dup, 1) := by decide +kernel
theorem dX5_putOperand_7 : decode eX5_putOperand.2.1 7 = .ok (.getfield 41, 3) := by decide +kernel
theorem dX5_putOperand_10 : decode eX5_putOperand.2.1 10 = .ok (.iconst 1, 1) := by decide +kernel
theorem dX5_putOperand_11 : decode eX5_putOperand.2.1 11 = .ok (.iadd, 1) := by decide +kernel
theorem dX5_putOperand_12 : decode eX5_putOperand.2.1 12 = .ok (.putfield 41, 3) := by decide +kernel
theorem dX5_putOperand_15 : decode eX5_putOperand.2.1 15 = .ok (.aload_n 0, 1) := by decide +kernel
theorem dX5_putOperand_16 : decode eX5_putOperand.2.1 16 = .ok (.invokevirtual 133, 3) := by decide +kernel
theorem dX5_putOperand_19 : decode eX5_putOperand.2.1 19 = .ok (.iconst 1, 1) := by decide +kernel
theorem dX5_putOperand_20 : decode eX5_putOperand.2.1 20 = .ok (.ireturn, 1) := by decide +kernel
theorem dX5_endPiece_0 : decode eX5_endPiece.2.1 0 = .ok (.aload_n 0, 1) := by decide +kernel
theorem dX5_endPiece_1 : decode eX5_endPiece.2.1 1 = .ok (.iconst 0, 1) := by decide +kernel
theorem dX5_endPiece_2 : decode eX5_endPiece.2.1 2 = .ok (.putfield 56, 3) := by decide +kernel
theorem dX5_endPiece_5 : decode eX5_endPiece.2.1 5 = .ok (.aload_n 0, 1) := by decide +kernel
theorem dX5_endPiece_6 : decode eX5_endPiece.2.1 6 = .ok (.getfield 47, 3) := by decide +kernel
theorem dX5_endPiece_9 : decode eX5_endPiece.2.1 9 = .ok (.ifCond .le 48, 3) := by decide +kernel
theorem dX5_endPiece_12 : decode eX5_endPiece.2.1 12 = .ok (.aload_n 0, 1) := by decide +kernel
theorem dX5_endPiece_13 : decode eX5_endPiece.2.1 13 = .ok (.getfield 44, 3) := by decide +kernel
theorem dX5_endPiece_16 : decode eX5_endPiece.2.1 16 = .ok (.aload_n 0, 1) := by decide +kernel
theorem dX5_endPiece_17 : decode eX5_endPiece.2.1 17 = .ok (.getfield 47, 3) := by decide +kernel
theorem dX5_endPiece_20 : decode eX5_endPiece.2.1 20 = .ok (.iconst 1, 1) := by decide +kernel
theorem dX5_endPiece_21 : decode eX5_endPiece.2.1 21 = .ok (.isub, 1) := by decide +kernel
theorem dX5_endPiece_22 : decode eX5_endPiece.2.1 22 = .ok (.iaload, 1) := by decide +kernel
theorem dX5_endPiece_23 : decode eX5_endPiece.2.1 23 = .ok (.bipush 33, 2) := by decide +kernel
theorem dX5_endPiece_25 : decode eX5_endPiece.2.1 25 = .ok (.if_icmp .ne 32, 3) := by decide +kernel
theorem dX5_endPiece_28 : decode eX5_endPiece.2.1 28 = .ok (.aload_n 0, 1) := by decide +kernel
theorem dX5_endPiece_29 : decode eX5_endPiece.2.1 29 = .ok (.dup, 1) := by decide +kernel
theorem dX5_endPiece_30 : decode eX5_endPiece.2.1 30 = .ok (.getfield 47, 3) := by decide +kernel
theorem dX5_endPiece_33 : decode eX5_endPiece.2.1 33 = .ok (.iconst 1, 1) := by decide +kernel
theorem dX5_endPiece_34 : decode eX5_endPiece.2.1 34 = .ok (.isub, 1) := by decide +kernel
theorem dX5_endPiece_35 : decode eX5_endPiece.2.1 35 = .ok (.putfield 47, 3) := by decide +kernel
theorem dX5_endPiece_38 : decode eX5_endPiece.2.1 38 = .ok (.aload_n 0, 1) := by decide +kernel
theorem dX5_endPiece_39 : decode eX5_endPiece.2.1 39 = .ok (.dup, 1) := by decide +kernel
theorem dX5_endPiece_40 : decode eX5_endPiece.2.1 40 = .ok (.getfield 53, 3) := by decide +kernel
theorem dX5_endPiece_43 : decode eX5_endPiece.2.1 43 = .ok (.iconst 1, 1) := by decide +kernel
theorem dX5_endPiece_44 : decode eX5_endPiece.2.1 44 = .ok (.isub, 1) := by decide +kernel
theorem dX5_endPiece_45 : decode eX5_endPiece.2.1 45 = .ok (.putfield 53, 3) := by decide +kernel
theorem dX5_endPiece_48 : decode eX5_endPiece.2.1 48 = .ok (.aload_n 0, 1) := by decide +kernel
theorem dX5_endPiece_49 : decode eX5_endPiece.2.1 49 = .ok (.bipush (-33), 2) := by decide +kernel
theorem dX5_endPiece_51 : decode eX5_endPiece.2.1 51 = .ok (.invokevirtual 130, 3) := by decide +kernel
theorem dX5_endPiece_54 : decode eX5_endPiece.2.1 54 = .ok (.goto (-49), 3) := by decide +kernel
theorem dX5_endPiece_57 : decode eX5_endPiece.2.1 57 = .ok (.return_, 1) := by decide +kernel
theorem dX5_readLink_0 : decode eX5_readLink.2.1 0 = .ok (.aload_n 0, 1) := by decide +kernel
theorem dX5_readLink_1 : decode eX5_readLink.2.1 1 = .ok (.getfield 9, 3) := by decide +kernel
theorem dX5_readLink_4 : decode eX5_readLink.2.1 4 = .ok (.aload_n 0, 1) := by decide +kernel
theorem dX5_readLink_5 : decode eX5_readLink.2.1 5 = .ok (.getfield 19, 3) := by decide +kernel
theorem dX5_readLink_8 : decode eX5_readLink.2.1 8 = .ok (.baload, 1) := by decide +kernel
theorem dX5_readLink_9 : decode eX5_readLink.2.1 9 = .ok (.bipush 41, 2) := by decide +kernel
theorem dX5_readLink_11 : decode eX5_readLink.2.1 11 = .ok (.if_icmp .ne 43, 3) := by decide +kernel
theorem dX5_readLink_14 : decode eX5_readLink.2.1 14 = .ok (.aload_n 0, 1) := by decide +kernel
theorem dX5_readLink_15 : decode eX5_readLink.2.1 15 = .ok (.getfield 50, 3) := by decide +kernel
theorem dX5_readLink_18 : decode eX5_readLink.2.1 18 = .ok (.ifCond .ne 5, 3) := by decide +kernel
theorem dX5_readLink_21 : decode eX5_readLink.2.1 21 = .ok (.iconst 0, 1) := by decide +kernel
theorem dX5_readLink_22 : decode eX5_readLink.2.1 22 = .ok (.ireturn, 1) := by decide +kernel
theorem dX5_readLink_23 : decode eX5_readLink.2.1 23 = .ok (.aload_n 0, 1) := by decide +kernel
theorem dX5_readLink_24 : decode eX5_readLink.2.1 24 = .ok (.iconst 1, 1) := by decide +kernel
theorem dX5_readLink_25 : decode eX5_readLink.2.1 25 = .ok (.invokevirtual 76, 3) := by decide +kernel
theorem dX5_readLink_28 : decode eX5_readLink.2.1 28 = .ok (.aload_n 0, 1) := by decide +kernel
theorem dX5_readLink_29 : decode eX5_readLink.2.1 29 = .ok (.dup, 1) := by decide +kernel
theorem dX5_readLink_30 : decode eX5_readLink.2.1 30 = .ok (.getfield 47, 3) := by decide +kernel
theorem dX5_readLink_33 : decode eX5_readLink.2.1 33 = .ok (.iconst 1, 1) := by decide +kernel
theorem dX5_readLink_34 : decode eX5_readLink.2.1 34 = .ok (.isub, 1) := by decide +kernel
theorem dX5_readLink_35 : decode eX5_readLink.2.1 35 = .ok (.putfield 47, 3) := by decide +kernel
theorem dX5_readLink_38 : decode eX5_readLink.2.1 38 = .ok (.aload_n 0, 1) := by decide +kernel
theorem dX5_readLink_39 : decode eX5_readLink.2.1 39 = .ok (.dup, 1) := by decide +kernel
theorem dX5_readLink_40 : decode eX5_readLink.2.1 40 = .ok (.getfield 50, 3) := by decide +kernel
theorem dX5_readLink_43 : decode eX5_readLink.2.1 43 = .ok (.iconst 1, 1) := by decide +kernel
theorem dX5_readLink_44 : decode eX5_readLink.2.1 44 = .ok (.isub, 1) := by decide +kernel
theorem dX5_readLink_45 : decode eX5_readLink.2.1 45 = .ok (.putfield 50, 3) := by decide +kernel
theorem dX5_readLink_48 : decode eX5_readLink.2.1 48 = .ok (.aload_n 0, 1) := by decide +kernel
theorem dX5_readLink_49 : decode eX5_readLink.2.1 49 = .ok (.invokevirtual 133, 3) := by decide +kernel
theorem dX5_readLink_52 : decode eX5_readLink.2.1 52 = .ok (.iconst 1, 1) := by decide +kernel
theorem dX5_readLink_53 : decode eX5_readLink.2.1 53 = .ok (.ireturn, 1) := by decide +kernel
theorem dX5_readLink_54 : decode eX5_readLink.2.1 54 = .ok (.aload_n 0, 1) := by decide +kernel
theorem dX5_readLink_55 : decode eX5_readLink.2.1 55 = .ok (.getfield 9, 3) := by decide +kernel
theorem dX5_readLink_58 : decode eX5_readLink.2.1 58 = .ok (.aload_n 0, 1) := by decide +kernel
theorem dX5_readLink_59 : decode eX5_readLink.2.1 59 = .ok (.getfield 19, 3) := by decide +kernel
theorem dX5_readLink_62 : decode eX5_readLink.2.1 62 = .ok (.baload, 1) := by decide +kernel
theorem dX5_readLink_63 : decode eX5_readLink.2.1 63 = .ok (.invokestatic 136, 3) := by decide +kernel
theorem dX5_readLink_66 : decode eX5_readLink.2.1 66 = .ok (.istore_n 1, 1) := by decide +kernel
theorem dX5_readLink_67 : decode eX5_readLink.2.1 67 = .ok (.iload_n 1, 1) := by decide +kernel
theorem dX5_readLink_68 : decode eX5_readLink.2.1 68 = .ok (.ifCond .ne 5, 3) := by decide +kernel
theorem dX5_readLink_71 : decode eX5_readLink.2.1 71 = .ok (.iconst 0, 1) := by decide +kernel
theorem dX5_readLink_72 : decode eX5_readLink.2.1 72 = .ok (.ireturn, 1) := by decide +kernel
theorem dX5_readLink_73 : decode eX5_readLink.2.1 73 = .ok (.aload_n 0, 1) := by decide +kernel
theorem dX5_readLink_74 : decode eX5_readLink.2.1 74 = .ok (.iload_n 1, 1) := by decide +kernel
theorem dX5_readLink_75 : decode eX5_readLink.2.1 75 = .ok (.iconst 1, 1) := by decide +kernel
theorem dX5_readLink_76 : decode eX5_readLink.2.1 76 = .ok (.iadd, 1) := by decide +kernel
theorem dX5_readLink_77 : decode eX5_readLink.2.1 77 = .ok (.invokevirtual 76, 3) := by decide +kernel
theorem dX5_readLink_80 : decode eX5_readLink.2.1 80 = .ok (.iload_n 1, 1) := by decide +kernel
theorem dX5_readLink_81 : decode eX5_readLink.2.1 81 = .ok (.iconst 3, 1) := by decide +kernel
theorem dX5_readLink_82 : decode eX5_readLink.2.1 82 = .ok (.if_icmp .ne 30, 3) := by decide +kernel
theorem dX5_readLink_85 : decode eX5_readLink.2.1 85 = .ok (.aload_n 0, 1) := by decide +kernel
theorem dX5_readLink_86 : decode eX5_readLink.2.1 86 = .ok (.getfield 47, 3) := by decide +kernel
theorem dX5_readLink_89 : decode eX5_readLink.2.1 89 = .ok (.ifCond .le 23, 3) := by decide +kernel
theorem dX5_readLink_92 : decode eX5_readLink.2.1 92 = .ok (.aload_n 0, 1) := by decide +kernel
theorem dX5_readLink_93 : decode eX5_readLink.2.1 93 = .ok (.getfield 44, 3) := by decide +kernel
theorem dX5_readLink_96 : decode eX5_readLink.2.1 96 = .ok (.aload_n 0, 1) := by decide +kernel
theorem dX5_readLink_97 : decode eX5_readLink.2.1 97 = .ok (.getfield 47, 3) := by decide +kernel
theorem dX5_readLink_100 : decode eX5_readLink.2.1 100 = .ok (.iconst 1, 1) := by decide +kernel
theorem dX5_readLink_101 : decode eX5_readLink.2.1 101 = .ok (.isub, 1) := by decide +kernel
theorem dX5_readLink_102 : decode eX5_readLink.2.1 102 = .ok (.iaload, 1) := by decide +kernel
theorem dX5_readLink_103 : decode eX5_readLink.2.1 103 = .ok (.invokestatic 136, 3) := by decide +kernel
theorem dX5_readLink_106 : decode eX5_readLink.2.1 106 = .ok (.iconst 3, 1) := by decide +kernel
theorem dX5_readLink_107 : decode eX5_readLink.2.1 107 = .ok (.if_icmp .ne 5, 3) := by decide +kernel
theorem dX5_readLink_110 : decode eX5_readLink.2.1 110 = .ok (.iconst 0, 1) := by decide +kernel
theorem dX5_readLink_111 : decode eX5_readLink.2.1 111 = .ok (.ireturn, 1) := by decide +kernel
theorem dX5_readLink_112 : decode eX5_readLink.2.1 112 = .ok (.aload_n 0, 1) := by decide +kernel
theorem dX5_readLink_113 : decode eX5_readLink.2.1 113 = .ok (.iload_n 1, 1) := by decide +kernel
theorem dX5_readLink_114 : decode eX5_readLink.2.1 114 = .ok (.invokevirtual 76, 3) := by decide +kernel
theorem dX5_readLink_117 : decode eX5_readLink.2.1 117 = .ok (.aload_n 0, 1) := by decide +kernel
theorem dX5_readLink_118 : decode eX5_readLink.2.1 118 = .ok (.aload_n 0, 1) := by decide +kernel
theorem dX5_readLink_119 : decode eX5_readLink.2.1 119 = .ok (.getfield 9, 3) := by decide +kernel
theorem dX5_readLink_122 : decode eX5_readLink.2.1 122 = .ok (.aload_n 0, 1) := by decide +kernel
theorem dX5_readLink_123 : decode eX5_readLink.2.1 123 = .ok (.getfield 19, 3) := by decide +kernel
theorem dX5_readLink_126 : decode eX5_readLink.2.1 126 = .ok (.baload, 1) := by decide +kernel
theorem dX5_readLink_127 : decode eX5_readLink.2.1 127 = .ok (.invokevirtual 127, 3) := by decide +kernel
theorem dX5_readLink_130 : decode eX5_readLink.2.1 130 = .ok (.aload_n 0, 1) := by decide +kernel
theorem dX5_readLink_131 : decode eX5_readLink.2.1 131 = .ok (.iconst 1, 1) := by decide +kernel
theorem dX5_readLink_132 : decode eX5_readLink.2.1 132 = .ok (.putfield 56, 3) := by decide +kernel
theorem dX5_readLink_135 : decode eX5_readLink.2.1 135 = .ok (.iconst 1, 1) := by decide +kernel
theorem dX5_readLink_136 : decode eX5_readLink.2.1 136 = .ok (.ireturn, 1) := by decide +kernel
theorem dX5_close_0 : decode eX5_close.2.1 0 = .ok (.aload_n 0, 1) := by decide +kernel
theorem dX5_close_1 : decode eX5_close.2.1 1 = .ok (.getfield 47, 3) := by decide +kernel
theorem dX5_close_4 : decode eX5_close.2.1 4 = .ok (.ifCond .le 48, 3) := by decide +kernel
theorem dX5_close_7 : decode eX5_close.2.1 7 = .ok (.aload_n 0, 1) := by decide +kernel
theorem dX5_close_8 : decode eX5_close.2.1 8 = .ok (.getfield 44, 3) := by decide +kernel
theorem dX5_close_11 : decode eX5_close.2.1 11 = .ok (.aload_n 0, 1) := by decide +kernel
theorem dX5_close_12 : decode eX5_close.2.1 12 = .ok (.getfield 47, 3) := by decide +kernel
theorem dX5_close_15 : decode eX5_close.2.1 15 = .ok (.iconst 1, 1) := by decide +kernel
theorem dX5_close_16 : decode eX5_close.2.1 16 = .ok (.isub, 1) := by decide +kernel
theorem dX5_close_17 : decode eX5_close.2.1 17 = .ok (.iaload, 1) := by decide +kernel
theorem dX5_close_18 : decode eX5_close.2.1 18 = .ok (.invokestatic 136, 3) := by decide +kernel
theorem dX5_close_21 : decode eX5_close.2.1 21 = .ok (.iload_n 1, 1) := by decide +kernel
theorem dX5_close_22 : decode eX5_close.2.1 22 = .ok (.if_icmp .lt 30, 3) := by decide +kernel
theorem dX5_close_25 : decode eX5_close.2.1 25 = .ok (.aload_n 0, 1) := by decide +kernel
theorem dX5_close_26 : decode eX5_close.2.1 26 = .ok (.dup, 1) := by decide +kernel
theorem dX5_close_27 : decode eX5_close.2.1 27 = .ok (.getfield 47, 3) := by decide +kernel
theorem dX5_close_30 : decode eX5_close.2.1 30 = .ok (.iconst 1, 1) := by decide +kernel
theorem dX5_close_31 : decode eX5_close.2.1 31 = .ok (.isub, 1) := by decide +kernel
theorem dX5_close_32 : decode eX5_close.2.1 32 = .ok (.putfield 47, 3) := by decide +kernel
theorem dX5_close_35 : decode eX5_close.2.1 35 = .ok (.aload_n 0, 1) := by decide +kernel
theorem dX5_close_36 : decode eX5_close.2.1 36 = .ok (.aload_n 0, 1) := by decide +kernel
theorem dX5_close_37 : decode eX5_close.2.1 37 = .ok (.getfield 44, 3) := by decide +kernel
theorem dX5_close_40 : decode eX5_close.2.1 40 = .ok (.aload_n 0, 1) := by decide +kernel
theorem dX5_close_41 : decode eX5_close.2.1 41 = .ok (.getfield 47, 3) := by decide +kernel
theorem dX5_close_44 : decode eX5_close.2.1 44 = .ok (.iaload, 1) := by decide +kernel
theorem dX5_close_45 : decode eX5_close.2.1 45 = .ok (.ineg, 1) := by decide +kernel
theorem dX5_close_46 : decode eX5_close.2.1 46 = .ok (.invokevirtual 130, 3) := by decide +kernel
theorem dX5_close_49 : decode eX5_close.2.1 49 = .ok (.goto (-49), 3) := by decide +kernel
theorem dX5_close_52 : decode eX5_close.2.1 52 = .ok (.return_, 1) := by decide +kernel
theorem dX5_levelOf_0 : decode eX5_levelOf.2.1 0 = .ok (.iload_n 0, 1) := by decide +kernel
theorem dX5_levelOf_1 : decode eX5_levelOf.2.1 1 = .ok (.lookupswitch 93 #[(38, 85), (42, 91), (43, 89), (45, 89), (47, 91), (60, 87), (61, 87), (62, 87), (124, 83)], 83) := by decide +kernel
theorem dX5_levelOf_84 : decode eX5_levelOf.2.1 84 = .ok (.iconst 1, 1) := by decide +kernel
theorem dX5_levelOf_85 : decode eX5_levelOf.2.1 85 = .ok (.ireturn, 1) := by decide +kernel
theorem dX5_levelOf_86 : decode eX5_levelOf.2.1 86 = .ok (.iconst 2, 1) := by decide +kernel
theorem dX5_levelOf_87 : decode eX5_levelOf.2.1 87 = .ok (.ireturn, 1) := by decide +kernel
theorem dX5_levelOf_88 : decode eX5_levelOf.2.1 88 = .ok (.iconst 3, 1) := by decide +kernel
theorem dX5_levelOf_89 : decode eX5_levelOf.2.1 89 = .ok (.ireturn, 1) := by decide +kernel
theorem dX5_levelOf_90 : decode eX5_levelOf.2.1 90 = .ok (.iconst 4, 1) := by decide +kernel
theorem dX5_levelOf_91 : decode eX5_levelOf.2.1 91 = .ok (.ireturn, 1) := by decide +kernel
theorem dX5_levelOf_92 : decode eX5_levelOf.2.1 92 = .ok (.iconst 5, 1) := by decide +kernel
theorem dX5_levelOf_93 : decode eX5_levelOf.2.1 93 = .ok (.ireturn, 1) := by decide +kernel
theorem dX5_levelOf_94 : decode eX5_levelOf.2.1 94 = .ok (.iconst 0, 1) := by decide +kernel
theorem dX5_levelOf_95 : decode eX5_levelOf.2.1 95 = .ok (.ireturn, 1) := by decide +kernel
theorem dX6_init_0 : decode eX6_init.2.1 0 = .ok (.aload_n 0, 1) := by decide +kernel
theorem dX6_init_1 : decode eX6_init.2.1 1 = .ok (.invokespecial 3, 3) := by decide +kernel
theorem dX6_init_4 : decode eX6_init.2.1 4 = .ok (.aload_n 0, 1) := by decide +kernel
theorem dX6_init_5 : decode eX6_init.2.1 5 = .ok (.bipush 14, 2) := by decide +kernel
theorem dX6_init_7 : decode eX6_init.2.1 7 = .ok (.newarray .int, 2) := by decide +kernel
theorem dX6_init_9 : decode eX6_init.2.1 9 = .ok (.putfield 9, 3) := by decide +kernel
theorem dX6_init_12 : decode eX6_init.2.1 12 = .ok (.aload_n 0, 1) := by decide +kernel
theorem dX6_init_13 : decode eX6_init.2.1 13 = .ok (.bipush 14, 2) := by decide +kernel
theorem dX6_init_15 : decode eX6_init.2.1 15 = .ok (.newarray .int, 2) := by decide +kernel
theorem dX6_init_17 : decode eX6_init.2.1 17 = .ok (.putfield 15, 3) := by decide +kernel
theorem dX6_init_20 : decode eX6_init.2.1 20 = .ok (.aload_n 0, 1) := by decide +kernel
theorem dX6_init_21 : decode eX6_init.2.1 21 = .ok (.bipush 14, 2) := by decide +kernel
theorem dX6_init_23 : decode eX6_init.2.1 23 = .ok (.newarray .int, 2) := by decide +kernel
theorem dX6_init_25 : decode eX6_init.2.1 25 = .ok (.putfield 18, 3) := by decide +kernel
theorem dX6_init_28 : decode eX6_init.2.1 28 = .ok (.aload_n 0, 1) := by decide +kernel
theorem dX6_init_29 : decode eX6_init.2.1 29 = .ok (.bipush 14, 2) := by decide +kernel
theorem dX6_init_31 : decode eX6_init.2.1 31 = .ok (.newarray .int, 2) := by decide +kernel
theorem dX6_init_33 : decode eX6_init.2.1 33 = .ok (.putfield 21, 3) := by decide +kernel
theorem dX6_init_36 : decode eX6_init.2.1 36 = .ok (.aload_n 0, 1) := by decide +kernel
theorem dX6_init_37 : decode eX6_init.2.1 37 = .ok (.bipush 14, 2) := by decide +kernel
theorem dX6_init_39 : decode eX6_init.2.1 39 = .ok (.bipush 96, 2) := by decide +kernel
theorem dX6_init_41 : decode eX6_init.2.1 41 = .ok (.multianewarray 24 2, 4) := by decide +kernel
theorem dX6_init_45 : decode eX6_init.2.1 45 = .ok (.putfield 26, 3) := by decide +kernel
theorem dX6_init_48 : decode eX6_init.2.1 48 = .ok (.aload_n 0, 1) := by decide +kernel
theorem dX6_init_49 : decode eX6_init.2.1 49 = .ok (.bipush 96, 2) := by decide +kernel
theorem dX6_init_51 : decode eX6_init.2.1 51 = .ok (.newarray .int, 2) := by decide +kernel
theorem dX6_init_53 : decode eX6_init.2.1 53 = .ok (.putfield 29, 3) := by decide +kernel
theorem dX6_init_56 : decode eX6_init.2.1 56 = .ok (.return_, 1) := by decide +kernel
theorem dX6_store_0 : decode eX6_store.2.1 0 = .ok (.aload_n 0, 1) := by decide +kernel
theorem dX6_store_1 : decode eX6_store.2.1 1 = .ok (.getfield 9, 3) := by decide +kernel
theorem dX6_store_4 : decode eX6_store.2.1 4 = .ok (.iload_n 1, 1) := by decide +kernel
theorem dX6_store_5 : decode eX6_store.2.1 5 = .ok (.aload_n 3, 1) := by decide +kernel
theorem dX6_store_6 : decode eX6_store.2.1 6 = .ok (.getfield 32, 3) := by decide +kernel
theorem dX6_store_9 : decode eX6_store.2.1 9 = .ok (.iastore, 1) := by decide +kernel
theorem dX6_store_10 : decode eX6_store.2.1 10 = .ok (.aload_n 0, 1) := by decide +kernel
theorem dX6_store_11 : decode eX6_store.2.1 11 = .ok (.getfield 15, 3) := by decide +kernel
theorem dX6_store_14 : decode eX6_store.2.1 14 = .ok (.iload_n 1, 1) := by decide +kernel
theorem dX6_store_15 : decode eX6_store.2.1 15 = .ok (.iload_n 2, 1) := by decide +kernel
theorem dX6_store_16 : decode eX6_store.2.1 16 = .ok (.iastore, 1) := by decide +kernel
theorem dX6_store_17 : decode eX6_store.2.1 17 = .ok (.aload_n 0, 1) := by decide +kernel
theorem dX6_store_18 : decode eX6_store.2.1 18 = .ok (.getfield 18, 3) := by decide +kernel
theorem dX6_store_21 : decode eX6_store.2.1 21 = .ok (.iload_n 1, 1) := by decide +kernel
theorem dX6_store_22 : decode eX6_store.2.1 22 = .ok (.aload_n 3, 1) := by decide +kernel
theorem dX6_store_23 : decode eX6_store.2.1 23 = .ok (.getfield 37, 3) := by decide +kernel
theorem dX6_store_26 : decode eX6_store.2.1 26 = .ok (.iastore, 1) := by decide +kernel
theorem dX6_store_27 : decode eX6_store.2.1 27 = .ok (.aload_n 0, 1) := by decide +kernel
theorem dX6_store_28 : decode eX6_store.2.1 28 = .ok (.getfield 21, 3) := by decide +kernel
theorem dX6_store_31 : decode eX6_store.2.1 31 = .ok (.iload_n 1, 1) := by decide +kernel
theorem dX6_store_32 : decode eX6_store.2.1 32 = .ok (.aload_n 3, 1) := by decide +kernel
theorem dX6_store_33 : decode eX6_store.2.1 33 = .ok (.getfield 39, 3) := by decide +kernel
theorem dX6_store_36 : decode eX6_store.2.1 36 = .ok (.iastore, 1) := by decide +kernel
theorem dX6_store_37 : decode eX6_store.2.1 37 = .ok (.aload_n 3, 1) := by decide +kernel
theorem dX6_store_38 : decode eX6_store.2.1 38 = .ok (.getfield 41, 3) := by decide +kernel
theorem dX6_store_41 : decode eX6_store.2.1 41 = .ok (.iconst 0, 1) := by decide +kernel
theorem dX6_store_42 : decode eX6_store.2.1 42 = .ok (.aload_n 0, 1) := by decide +kernel
theorem dX6_store_43 : decode eX6_store.2.1 43 = .ok (.getfield 26, 3) := by decide +kernel
theorem dX6_store_46 : decode eX6_store.2.1 46 = .ok (.iload_n 1, 1) := by decide +kernel
theorem dX6_store_47 : decode eX6_store.2.1 47 = .ok (.aaload, 1) := by decide +kernel
theorem dX6_store_48 : decode eX6_store.2.1 48 = .ok (.iconst 0, 1) := by decide +kernel
theorem dX6_store_49 : decode eX6_store.2.1 49 = .ok (.aload_n 3, 1) := by decide +kernel
theorem dX6_store_50 : decode eX6_store.2.1 50 = .ok (.getfield 39, 3) := by decide +kernel
theorem dX6_store_53 : decode eX6_store.2.1 53 = .ok (.invokestatic 43, 3) := by decide +kernel
theorem dX6_store_56 : decode eX6_store.2.1 56 = .ok (.return_, 1) := by decide +kernel
theorem dX6_counting_0 : decode eX6_counting.2.1 0 = .ok (.ldc 49, 2) := by decide +kernel
theorem dX6_counting_2 : decode eX6_counting.2.1 2 = .ok (.istore_n 3, 1) := by decide +kernel
theorem dX6_counting_3 : decode eX6_counting.2.1 3 = .ok (.iconst 0, 1) := by decide +kernel
theorem dX6_counting_4 : decode eX6_counting.2.1 4 = .ok (.istore 4, 2) := by decide +kernel
theorem dX6_counting_6 : decode eX6_counting.2.1 6 = .ok (.iload 4, 2) := by decide +kernel
theorem dX6_counting_8 : decode eX6_counting.2.1 8 = .ok (.aload_n 2, 1) := by decide +kernel
theorem dX6_counting_9 : decode eX6_counting.2.1 9 = .ok (.getfield 50, 3) := by decide +kernel
theorem dX6_counting_12 : decode eX6_counting.2.1 12 = .ok (.if_icmp .ge 71, 3) := by decide +kernel
theorem dX6_counting_15 : decode eX6_counting.2.1 15 = .ok (.aload_n 0, 1) := by decide +kernel
theorem dX6_counting_16 : decode eX6_counting.2.1 16 = .ok (.getfield 9, 3) := by decide +kernel
theorem dX6_counting_19 : decode eX6_counting.2.1 19 = .ok (.iload 4, 2) := by decide +kernel
theorem dX6_counting_21 : decode eX6_counting.2.1 21 = .ok (.iaload, 1) := by decide +kernel
theorem dX6_counting_22 : decode eX6_counting.2.1 22 = .ok (.iload_n 1, 1) := by decide +kernel
theorem dX6_counting_23 : decode eX6_counting.2.1 23 = .ok (.if_icmp .ne 21, 3) := by decide +kernel
theorem dX6_counting_26 : decode eX6_counting.2.1 26 = .ok (.aload_n 0, 1) := by decide +kernel
theorem dX6_counting_27 : decode eX6_counting.2.1 27 = .ok (.getfield 15, 3) := by decide +kernel
theorem dX6_counting_30 : decode eX6_counting.2.1 30 = .ok (.iload 4, 2) := by decide +kernel
theorem dX6_counting_32 : decode eX6_counting.2.1 32 = .ok (.iaload, 1) := by decide +kernel
theorem dX6_counting_33 : decode eX6_counting.2.1 33 = .ok (.aload_n 2, 1) := by decide +kernel
theorem dX6_counting_34 : decode eX6_counting.2.1 34 = .ok (.getfield 55, 3) := by decide +kernel
theorem dX6_counting_37 : decode eX6_counting.2.1 37 = .ok (.if_icmp .gt 7, 3) := by decide +kernel
theorem dX6_counting_40 : decode eX6_counting.2.1 40 = .ok (.iconst 1, 1) := by decide +kernel
theorem dX6_counting_41 : decode eX6_counting.2.1 41 = .ok (.goto 4, 3) := by decide +kernel
theorem dX6_counting_44 : decode eX6_counting.2.1 44 = .ok (.iconst 0, 1) := by decide +kernel
theorem dX6_counting_45 : decode eX6_counting.2.1 45 = .ok (.istore 5, 2) := by decide +kernel
theorem dX6_counting_47 : decode eX6_counting.2.1 47 = .ok (.iload 5, 2) := by decide +kernel
theorem dX6_counting_49 : decode eX6_counting.2.1 49 = .ok (.ifCond .eq 28, 3) := by decide +kernel
theorem dX6_counting_52 : decode eX6_counting.2.1 52 = .ok (.iload_n 3, 1) := by decide +kernel
theorem dX6_counting_53 : decode eX6_counting.2.1 53 = .ok (.ldc 49, 2) := by decide +kernel
theorem dX6_counting_55 : decode eX6_counting.2.1 55 = .ok (.if_icmp .eq 19, 3) := by decide +kernel
theorem dX6_counting_58 : decode eX6_counting.2.1 58 = .ok (.aload_n 0, 1) := by decide +kernel
theorem dX6_counting_59 : decode eX6_counting.2.1 59 = .ok (.getfield 15, 3) := by decide +kernel
theorem dX6_counting_62 : decode eX6_counting.2.1 62 = .ok (.iload 4, 2) := by decide +kernel
theorem dX6_counting_64 : decode eX6_counting.2.1 64 = .ok (.iaload, 1) := by decide +kernel
theorem dX6_counting_65 : decode eX6_counting.2.1 65 = .ok (.aload_n 0, 1) := by decide +kernel
theorem dX6_counting_66 : decode eX6_counting.2.1 66 = .ok (.getfield 15, 3) := by decide +kernel
theorem dX6_counting_69 : decode eX6_counting.2.1 69 = .ok (.iload_n 3, 1) := by decide +kernel
theorem dX6_counting_70 : decode eX6_counting.2.1 70 = .ok (.iaload, 1) := by decide +kernel
theorem dX6_counting_71 : decode eX6_counting.2.1 71 = .ok (.if_icmp .lt 6, 3) := by decide +kernel
theorem dX6_counting_74 : decode eX6_counting.2.1 74 = .ok (.iload 4, 2) := by decide +kernel
theorem dX6_counting_76 : decode eX6_counting.2.1 76 = .ok (.istore_n 3, 1) := by decide +kernel
theorem dX6_counting_77 : decode eX6_counting.2.1 77 = .ok (.iinc 4 1, 3) := by decide +kernel
theorem dX6_counting_80 : decode eX6_counting.2.1 80 = .ok (.goto (-74), 3) := by decide +kernel
theorem dX6_counting_83 : decode eX6_counting.2.1 83 = .ok (.iload_n 3, 1) := by decide +kernel
theorem dX6_counting_84 : decode eX6_counting.2.1 84 = .ok (.ireturn, 1) := by decide +kernel
theorem dX6_worth_0 : decode eX6_worth.2.1 0 = .ok (.iconst 0, 1) := by decide +kernel
theorem dX6_worth_1 : decode eX6_worth.2.1 1 = .ok (.istore 6, 2) := by decide +kernel
theorem dX6_worth_3 : decode eX6_worth.2.1 3 = .ok (.iconst 0, 1) := by decide +kernel
theorem dX6_worth_4 : decode eX6_worth.2.1 4 = .ok (.istore 7, 2) := by decide +kernel
theorem dX6_worth_6 : decode eX6_worth.2.1 6 = .ok (.iload 7, 2) := by decide +kernel
theorem dX6_worth_8 : decode eX6_worth.2.1 8 = .ok (.aload_n 0, 1) := by decide +kernel
theorem dX6_worth_9 : decode eX6_worth.2.1 9 = .ok (.getfield 21, 3) := by decide +kernel
theorem dX6_worth_12 : decode eX6_worth.2.1 12 = .ok (.iload_n 1, 1) := by decide +kernel
theorem dX6_worth_13 : decode eX6_worth.2.1 13 = .ok (.iaload, 1) := by decide +kernel
theorem dX6_worth_14 : decode eX6_worth.2.1 14 = .ok (.if_icmp .ge 176, 3) := by decide +kernel
theorem dX6_worth_17 : decode eX6_worth.2.1 17 = .ok (.aload_n 0, 1) := by decide +kernel
theorem dX6_worth_18 : decode eX6_worth.2.1 18 = .ok (.getfield 26, 3) := by decide +kernel
theorem dX6_worth_21 : decode eX6_worth.2.1 21 = .ok (.iload_n 1, 1) := by decide +kernel
theorem dX6_worth_22 : decode eX6_worth.2.1 22 = .ok (.aaload, 1) := by decide +kernel
theorem dX6_worth_23 : decode eX6_worth.2.1 23 = .ok (.iload 7, 2) := by decide +kernel
theorem dX6_worth_25 : decode eX6_worth.2.1 25 = .ok (.iaload, 1) := by decide +kernel
theorem dX6_worth_26 : decode eX6_worth.2.1 26 = .ok (.istore 8, 2) := by decide +kernel
theorem dX6_worth_28 : decode eX6_worth.2.1 28 = .ok (.iload 8, 2) := by decide +kernel
theorem dX6_worth_30 : decode eX6_worth.2.1 30 = .ok (.ifCond .lt 18, 3) := by decide +kernel
theorem dX6_worth_33 : decode eX6_worth.2.1 33 = .ok (.aload_n 0, 1) := by decide +kernel
theorem dX6_worth_34 : decode eX6_worth.2.1 34 = .ok (.getfield 29, 3) := by decide +kernel
theorem dX6_worth_37 : decode eX6_worth.2.1 37 = .ok (.iload 6, 2) := by decide +kernel
theorem dX6_worth_39 : decode eX6_worth.2.1 39 = .ok (.iinc 6 1, 3) := by decide +kernel
theorem dX6_worth_42 : decode eX6_worth.2.1 42 = .ok (.iload 8, 2) := by decide +kernel
theorem dX6_worth_44 : decode eX6_worth.2.1 44 = .ok (.iastore, 1) := by decide +kernel
theorem dX6_worth_45 : decode eX6_worth.2.1 45 = .ok (.goto 139, 3) := by decide +kernel
theorem dX6_worth_48 : decode eX6_worth.2.1 48 = .ok (.iload 8, 2) := by decide +kernel
theorem dX6_worth_50 : decode eX6_worth.2.1 50 = .ok (.bipush (-4), 2) := by decide +kernel
theorem dX6_worth_52 : decode eX6_worth.2.1 52 = .ok (.if_icmp .lt 51, 3) := by decide +kernel
theorem dX6_worth_55 : decode eX6_worth.2.1 55 = .ok (.aload_n 0, 1) := by decide +kernel
theorem dX6_worth_56 : decode eX6_worth.2.1 56 = .ok (.getfield 29, 3) := by decide +kernel
theorem dX6_worth_59 : decode eX6_worth.2.1 59 = .ok (.iload 6, 2) := by decide +kernel
theorem dX6_worth_61 : decode eX6_worth.2.1 61 = .ok (.iinc 6 1, 3) := by decide +kernel
theorem dX6_worth_64 : decode eX6_worth.2.1 64 = .ok (.iload 8, 2) := by decide +kernel
theorem dX6_worth_66 : decode eX6_worth.2.1 66 = .ok (.iconst (-1), 1) := by decide +kernel
theorem dX6_worth_67 : decode eX6_worth.2.1 67 = .ok (.if_icmp .ne 7, 3) := by decide +kernel
theorem dX6_worth_70 : decode eX6_worth.2.1 70 = .ok (.iload_n 2, 1) := by decide +kernel
theorem dX6_worth_71 : decode eX6_worth.2.1 71 = .ok (.goto 28, 3) := by decide +kernel
theorem dX6_worth_74 : decode eX6_worth.2.1 74 = .ok (.iload 8, 2) := by decide +kernel
theorem dX6_worth_76 : decode eX6_worth.2.1 76 = .ok (.bipush (-2), 2) := by decide +kernel
theorem dX6_worth_78 : decode eX6_worth.2.1 78 = .ok (.if_icmp .ne 7, 3) := by decide +kernel
theorem dX6_worth_81 : decode eX6_worth.2.1 81 = .ok (.iload_n 3, 1) := by decide +kernel
theorem dX6_worth_82 : decode eX6_worth.2.1 82 = .ok (.goto 17, 3) := by decide +kernel
theorem dX6_worth_85 : decode eX6_worth.2.1 85 = .ok (.iload 8, 2) := by decide +kernel
theorem dX6_worth_87 : decode eX6_worth.2.1 87 = .ok (.bipush (-3), 2) := by decide +kernel
theorem dX6_worth_89 : decode eX6_worth.2.1 89 = .ok (.if_icmp .ne 8, 3) := by decide +kernel
theorem dX6_worth_92 : decode eX6_worth.2.1 92 = .ok (.iload 4, 2) := by decide +kernel
theorem dX6_worth_94 : decode eX6_worth.2.1 94 = .ok (.goto 5, 3) := by decide +kernel
theorem dX6_worth_97 : decode eX6_worth.2.1 97 = .ok (.iload 5, 2) := by decide +kernel
theorem dX6_worth_99 : decode eX6_worth.2.1 99 = .ok (.iastore, 1) := by decide +kernel
theorem dX6_worth_100 : decode eX6_worth.2.1 100 = .ok (.goto 84, 3) := by decide +kernel
theorem dX6_worth_103 : decode eX6_worth.2.1 103 = .ok (.iload 8, 2) := by decide +kernel
theorem dX6_worth_105 : decode eX6_worth.2.1 105 = .ok (.bipush (-33), 2) := by decide +kernel
theorem dX6_worth_107 : decode eX6_worth.2.1 107 = .ok (.if_icmp .ne 37, 3) := by decide +kernel
theorem dX6_worth_110 : decode eX6_worth.2.1 110 = .ok (.iload 6, 2) := by decide +kernel
theorem dX6_worth_112 : decode eX6_worth.2.1 112 = .ok (.ifCond .le 32, 3) := by decide +kernel
theorem dX6_worth_115 : decode eX6_worth.2.1 115 = .ok (.aload_n 0, 1) := by decide +kernel
theorem dX6_worth_116 : decode eX6_worth.2.1 116 = .ok (.getfield 29, 3) := by decide +kernel
theorem dX6_worth_119 : decode eX6_worth.2.1 119 = .ok (.iload 6, 2) := by decide +kernel
theorem dX6_worth_121 : decode eX6_worth.2.1 121 = .ok (.iconst 1, 1) := by decide +kernel
theorem dX6_worth_122 : decode eX6_worth.2.1 122 = .ok (.isub, 1) := by decide +kernel
theorem dX6_worth_123 : decode eX6_worth.2.1 123 = .ok (.aload_n 0, 1) := by decide +kernel
theorem dX6_worth_124 : decode eX6_worth.2.1 124 = .ok (.getfield 29, 3) := by decide +kernel
theorem dX6_worth_127 : decode eX6_worth.2.1 127 = .ok (.iload 6, 2) := by decide +kernel
theorem dX6_worth_129 : decode eX6_worth.2.1 129 = .ok (.iconst 1, 1) := by decide +kernel
theorem dX6_worth_130 : decode eX6_worth.2.1 130 = .ok (.isub, 1) := by decide +kernel
theorem dX6_worth_131 : decode eX6_worth.2.1 131 = .ok (.iaload, 1) := by decide +kernel
theorem dX6_worth_132 : decode eX6_worth.2.1 132 = .ok (.ifCond .ne 7, 3) := by decide +kernel
theorem dX6_worth_135 : decode eX6_worth.2.1 135 = .ok (.iconst 1, 1) := by decide +kernel
theorem dX6_worth_136 : decode eX6_worth.2.1 136 = .ok (.goto 4, 3) := by decide +kernel
theorem dX6_worth_139 : decode eX6_worth.2.1 139 = .ok (.iconst 0, 1) := by decide +kernel
theorem dX6_worth_140 : decode eX6_worth.2.1 140 = .ok (.iastore, 1) := by decide +kernel
theorem dX6_worth_141 : decode eX6_worth.2.1 141 = .ok (.goto 43, 3) := by decide +kernel
theorem dX6_worth_144 : decode eX6_worth.2.1 144 = .ok (.iload 6, 2) := by decide +kernel
theorem dX6_worth_146 : decode eX6_worth.2.1 146 = .ok (.iconst 1, 1) := by decide +kernel
theorem dX6_worth_147 : decode eX6_worth.2.1 147 = .ok (.if_icmp .le 37, 3) := by decide +kernel
theorem dX6_worth_150 : decode eX6_worth.2.1 150 = .ok (.iinc 6 (-1), 3) := by decide +kernel
theorem dX6_worth_153 : decode eX6_worth.2.1 153 = .ok (.aload_n 0, 1) := by decide +kernel
theorem dX6_worth_154 : decode eX6_worth.2.1 154 = .ok (.getfield 29, 3) := by decide +kernel
theorem dX6_worth_157 : decode eX6_worth.2.1 157 = .ok (.iload 6, 2) := by decide +kernel
theorem dX6_worth_159 : decode eX6_worth.2.1 159 = .ok (.iconst 1, 1) := by decide +kernel
theorem dX6_worth_160 : decode eX6_worth.2.1 160 = .ok (.isub, 1) := by decide +kernel
theorem dX6_worth_161 : decode eX6_worth.2.1 161 = .ok (.iload 8, 2) := by decide +kernel
theorem dX6_worth_163 : decode eX6_worth.2.1 163 = .ok (.ineg, 1) := by decide +kernel
theorem dX6_worth_164 : decode eX6_worth.2.1 164 = .ok (.aload_n 0, 1) := by decide +kernel
theorem dX6_worth_165 : decode eX6_worth.2.1 165 = .ok (.getfield 29, 3) := by decide +kernel
theorem dX6_worth_168 : decode eX6_worth.2.1 168 = .ok (.iload 6, 2) := by decide +kernel
theorem dX6_worth_170 : decode eX6_worth.2.1 170 = .ok (.iconst 1, 1) := by decide +kernel
theorem dX6_worth_171 : decode eX6_worth.2.1 171 = .ok (.isub, 1) := by decide +kernel
theorem dX6_worth_172 : decode eX6_worth.2.1 172 = .ok (.iaload, 1) := by decide +kernel
theorem dX6_worth_173 : decode eX6_worth.2.1 173 = .ok (.aload_n 0, 1) := by decide +kernel
theorem dX6_worth_174 : decode eX6_worth.2.1 174 = .ok (.getfield 29, 3) := by decide +kernel
theorem dX6_worth_177 : decode eX6_worth.2.1 177 = .ok (.iload 6, 2) := by decide +kernel
theorem dX6_worth_179 : decode eX6_worth.2.1 179 = .ok (.iaload, 1) := by decide +kernel
theorem dX6_worth_180 : decode eX6_worth.2.1 180 = .ok (.invokestatic 58, 3) := by decide +kernel
theorem dX6_worth_183 : decode eX6_worth.2.1 183 = .ok (.iastore, 1) := by decide +kernel
theorem dX6_worth_184 : decode eX6_worth.2.1 184 = .ok (.iinc 7 1, 3) := by decide +kernel
theorem dX6_worth_187 : decode eX6_worth.2.1 187 = .ok (.goto (-181), 3) := by decide +kernel
theorem dX6_worth_190 : decode eX6_worth.2.1 190 = .ok (.aload_n 0, 1) := by decide +kernel
theorem dX6_worth_191 : decode eX6_worth.2.1 191 = .ok (.getfield 29, 3) := by decide +kernel
theorem dX6_worth_194 : decode eX6_worth.2.1 194 = .ok (.iconst 0, 1) := by decide +kernel
theorem dX6_worth_195 : decode eX6_worth.2.1 195 = .ok (.iaload, 1) := by decide +kernel
theorem dX6_worth_196 : decode eX6_worth.2.1 196 = .ok (.ireturn, 1) := by decide +kernel
theorem dX6_joined_0 : decode eX6_joined.2.1 0 = .ok (.iload_n 0, 1) := by decide +kernel
theorem dX6_joined_1 : decode eX6_joined.2.1 1 = .ok (.lookupswitch 148 #[(38, 89), (42, 144), (43, 136), (45, 140), (60, 103), (61, 114), (62, 125), (124, 75)], 75) := by decide +kernel
theorem dX6_joined_76 : decode eX6_joined.2.1 76 = .ok (.iload_n 1, 1) := by decide +kernel
theorem dX6_joined_77 : decode eX6_joined.2.1 77 = .ok (.ifCond .ne 7, 3) := by decide +kernel
theorem dX6_joined_80 : decode eX6_joined.2.1 80 = .ok (.iload_n 2, 1) := by decide +kernel
theorem dX6_joined_81 : decode eX6_joined.2.1 81 = .ok (.ifCond .eq 7, 3) := by decide +kernel
theorem dX6_joined_84 : decode eX6_joined.2.1 84 = .ok (.iconst 1, 1) := by decide +kernel
theorem dX6_joined_85 : decode eX6_joined.2.1 85 = .ok (.goto 4, 3) := by decide +kernel
theorem dX6_joined_88 : decode eX6_joined.2.1 88 = .ok (.iconst 0, 1) := by decide +kernel
theorem dX6_joined_89 : decode eX6_joined.2.1 89 = .ok (.ireturn, 1) := by decide +kernel
theorem dX6_joined_90 : decode eX6_joined.2.1 90 = .ok (.iload_n 1, 1) := by decide +kernel
theorem dX6_joined_91 : decode eX6_joined.2.1 91 = .ok (.ifCond .eq 11, 3) := by decide +kernel
theorem dX6_joined_94 : decode eX6_joined.2.1 94 = .ok (.iload_n 2, 1) := by decide +kernel
theorem dX6_joined_95 : decode eX6_joined.2.1 95 = .ok (.ifCond .eq 7, 3) := by decide +kernel
theorem dX6_joined_98 : decode eX6_joined.2.1 98 = .ok (.iconst 1, 1) := by decide +kernel
theorem dX6_joined_99 : decode eX6_joined.2.1 99 = .ok (.goto 4, 3) := by decide +kernel
theorem dX6_joined_102 : decode eX6_joined.2.1 102 = .ok (.iconst 0, 1) := by decide +kernel
theorem dX6_joined_103 : decode eX6_joined.2.1 103 = .ok (.ireturn, 1) := by decide +kernel
theorem dX6_joined_104 : decode eX6_joined.2.1 104 = .ok (.iload_n 1, 1) := by decide +kernel
theorem dX6_joined_105 : decode eX6_joined.2.1 105 = .ok (.iload_n 2, 1) := by decide +kernel
theorem dX6_joined_106 : decode eX6_joined.2.1 106 = .ok (.if_icmp .ge 7, 3) := by decide +kernel
theorem dX6_joined_109 : decode eX6_joined.2.1 109 = .ok (.iconst 1, 1) := by decide +kernel
theorem dX6_joined_110 : decode eX6_joined.2.1 110 = .ok (.goto 4, 3) := by decide +kernel
theorem dX6_joined_113 : decode eX6_joined.2.1 113 = .ok (.iconst 0, 1) := by decide +kernel
theorem dX6_joined_114 : decode eX6_joined.2.1 114 = .ok (.ireturn, 1) := by decide +kernel
theorem dX6_joined_115 : decode eX6_joined.2.1 115 = .ok (.iload_n 1, 1) := by decide +kernel
theorem dX6_joined_116 : decode eX6_joined.2.1 116 = .ok (.iload_n 2, 1) := by decide +kernel
theorem dX6_joined_117 : decode eX6_joined.2.1 117 = .ok (.if_icmp .ne 7, 3) := by decide +kernel
theorem dX6_joined_120 : decode eX6_joined.2.1 120 = .ok (.iconst 1, 1) := by decide +kernel
theorem dX6_joined_121 : decode eX6_joined.2.1 121 = .ok (.goto 4, 3) := by decide +kernel
theorem dX6_joined_124 : decode eX6_joined.2.1 124 = .ok (.iconst 0, 1) := by decide +kernel
theorem dX6_joined_125 : decode eX6_joined.2.1 125 = .ok (.ireturn, 1) := by decide +kernel
theorem dX6_joined_126 : decode eX6_joined.2.1 126 = .ok (.iload_n 1, 1) := by decide +kernel
theorem dX6_joined_127 : decode eX6_joined.2.1 127 = .ok (.iload_n 2, 1) := by decide +kernel
theorem dX6_joined_128 : decode eX6_joined.2.1 128 = .ok (.if_icmp .le 7, 3) := by decide +kernel
theorem dX6_joined_131 : decode eX6_joined.2.1 131 = .ok (.iconst 1, 1) := by decide +kernel
theorem dX6_joined_132 : decode eX6_joined.2.1 132 = .ok (.goto 4, 3) := by decide +kernel
theorem dX6_joined_135 : decode eX6_joined.2.1 135 = .ok (.iconst 0, 1) := by decide +kernel
theorem dX6_joined_136 : decode eX6_joined.2.1 136 = .ok (.ireturn, 1) := by decide +kernel
theorem dX6_joined_137 : decode eX6_joined.2.1 137 = .ok (.iload_n 1, 1) := by decide +kernel
theorem dX6_joined_138 : decode eX6_joined.2.1 138 = .ok (.iload_n 2, 1) := by decide +kernel
theorem dX6_joined_139 : decode eX6_joined.2.1 139 = .ok (.iadd, 1) := by decide +kernel
theorem dX6_joined_140 : decode eX6_joined.2.1 140 = .ok (.ireturn, 1) := by decide +kernel
theorem dX6_joined_141 : decode eX6_joined.2.1 141 = .ok (.iload_n 1, 1) := by decide +kernel
theorem dX6_joined_142 : decode eX6_joined.2.1 142 = .ok (.iload_n 2, 1) := by decide +kernel
theorem dX6_joined_143 : decode eX6_joined.2.1 143 = .ok (.isub, 1) := by decide +kernel
theorem dX6_joined_144 : decode eX6_joined.2.1 144 = .ok (.ireturn, 1) := by decide +kernel
theorem dX6_joined_145 : decode eX6_joined.2.1 145 = .ok (.iload_n 1, 1) := by decide +kernel
theorem dX6_joined_146 : decode eX6_joined.2.1 146 = .ok (.iload_n 2, 1) := by decide +kernel
theorem dX6_joined_147 : decode eX6_joined.2.1 147 = .ok (.imul, 1) := by decide +kernel
theorem dX6_joined_148 : decode eX6_joined.2.1 148 = .ok (.ireturn, 1) := by decide +kernel
theorem dX6_joined_149 : decode eX6_joined.2.1 149 = .ok (.iload_n 2, 1) := by decide +kernel
theorem dX6_joined_150 : decode eX6_joined.2.1 150 = .ok (.ifCond .ne 7, 3) := by decide +kernel
theorem dX6_joined_153 : decode eX6_joined.2.1 153 = .ok (.iconst 0, 1) := by decide +kernel
theorem dX6_joined_154 : decode eX6_joined.2.1 154 = .ok (.goto 6, 3) := by decide +kernel
theorem dX6_joined_157 : decode eX6_joined.2.1 157 = .ok (.iload_n 1, 1) := by decide +kernel
theorem dX6_joined_158 : decode eX6_joined.2.1 158 = .ok (.iload_n 2, 1) := by decide +kernel
theorem dX6_joined_159 : decode eX6_joined.2.1 159 = .ok (.idiv, 1) := by decide +kernel
theorem dX6_joined_160 : decode eX6_joined.2.1 160 = .ok (.ireturn, 1) := by decide +kernel
theorem dX7_init_0 : decode eX7_init.2.1 0 = .ok (.aload_n 0, 1) := by decide +kernel
theorem dX7_init_1 : decode eX7_init.2.1 1 = .ok (.invokespecial 1, 3) := by decide +kernel
theorem dX7_init_4 : decode eX7_init.2.1 4 = .ok (.aload_n 0, 1) := by decide +kernel
theorem dX7_init_5 : decode eX7_init.2.1 5 = .ok (.new 7, 3) := by decide +kernel
theorem dX7_init_8 : decode eX7_init.2.1 8 = .ok (.dup, 1) := by decide +kernel
theorem dX7_init_9 : decode eX7_init.2.1 9 = .ok (.invokespecial 9, 3) := by decide +kernel
theorem dX7_init_12 : decode eX7_init.2.1 12 = .ok (.putfield 10, 3) := by decide +kernel
theorem dX7_init_15 : decode eX7_init.2.1 15 = .ok (.aload_n 0, 1) := by decide +kernel
theorem dX7_init_16 : decode eX7_init.2.1 16 = .ok (.new 7, 3) := by decide +kernel
theorem dX7_init_19 : decode eX7_init.2.1 19 = .ok (.dup, 1) := by decide +kernel
theorem dX7_init_20 : decode eX7_init.2.1 20 = .ok (.invokespecial 9, 3) := by decide +kernel
theorem dX7_init_23 : decode eX7_init.2.1 23 = .ok (.putfield 16, 3) := by decide +kernel
theorem dX7_init_26 : decode eX7_init.2.1 26 = .ok (.aload_n 0, 1) := by decide +kernel
theorem dX7_init_27 : decode eX7_init.2.1 27 = .ok (.new 7, 3) := by decide +kernel
theorem dX7_init_30 : decode eX7_init.2.1 30 = .ok (.dup, 1) := by decide +kernel
theorem dX7_init_31 : decode eX7_init.2.1 31 = .ok (.invokespecial 9, 3) := by decide +kernel
theorem dX7_init_34 : decode eX7_init.2.1 34 = .ok (.putfield 19, 3) := by decide +kernel
theorem dX7_init_37 : decode eX7_init.2.1 37 = .ok (.aload_n 0, 1) := by decide +kernel
theorem dX7_init_38 : decode eX7_init.2.1 38 = .ok (.new 22, 3) := by decide +kernel
theorem dX7_init_41 : decode eX7_init.2.1 41 = .ok (.dup, 1) := by decide +kernel
theorem dX7_init_42 : decode eX7_init.2.1 42 = .ok (.invokespecial 24, 3) := by decide +kernel
theorem dX7_init_45 : decode eX7_init.2.1 45 = .ok (.putfield 25, 3) := by decide +kernel
theorem dX7_init_48 : decode eX7_init.2.1 48 = .ok (.aload_n 0, 1) := by decide +kernel
theorem dX7_init_49 : decode eX7_init.2.1 49 = .ok (.new 29, 3) := by decide +kernel
theorem dX7_init_52 : decode eX7_init.2.1 52 = .ok (.dup, 1) := by decide +kernel
theorem dX7_init_53 : decode eX7_init.2.1 53 = .ok (.invokespecial 31, 3) := by decide +kernel
theorem dX7_init_56 : decode eX7_init.2.1 56 = .ok (.putfield 32, 3) := by decide +kernel
theorem dX7_init_59 : decode eX7_init.2.1 59 = .ok (.aload_n 0, 1) := by decide +kernel
theorem dX7_init_60 : decode eX7_init.2.1 60 = .ok (.new 36, 3) := by decide +kernel
theorem dX7_init_63 : decode eX7_init.2.1 63 = .ok (.dup, 1) := by decide +kernel
theorem dX7_init_64 : decode eX7_init.2.1 64 = .ok (.invokespecial 38, 3) := by decide +kernel
theorem dX7_init_67 : decode eX7_init.2.1 67 = .ok (.putfield 39, 3) := by decide +kernel
theorem dX7_init_70 : decode eX7_init.2.1 70 = .ok (.aload_n 0, 1) := by decide +kernel
theorem dX7_init_71 : decode eX7_init.2.1 71 = .ok (.new 43, 3) := by decide +kernel
theorem dX7_init_74 : decode eX7_init.2.1 74 = .ok (.dup, 1) := by decide +kernel
theorem dX7_init_75 : decode eX7_init.2.1 75 = .ok (.invokespecial 45, 3) := by decide +kernel
theorem dX7_init_78 : decode eX7_init.2.1 78 = .ok (.putfield 46, 3) := by decide +kernel
theorem dX7_init_81 : decode eX7_init.2.1 81 = .ok (.aload_n 0, 1) := by decide +kernel
theorem dX7_init_82 : decode eX7_init.2.1 82 = .ok (.new 50, 3) := by decide +kernel
theorem dX7_init_85 : decode eX7_init.2.1 85 = .ok (.dup, 1) := by decide +kernel
theorem dX7_init_86 : decode eX7_init.2.1 86 = .ok (.invokespecial 52, 3) := by decide +kernel
theorem dX7_init_89 : decode eX7_init.2.1 89 = .ok (.putfield 53, 3) := by decide +kernel
theorem dX7_init_92 : decode eX7_init.2.1 92 = .ok (.aload_n 0, 1) := by decide +kernel
theorem dX7_init_93 : decode eX7_init.2.1 93 = .ok (.new 57, 3) := by decide +kernel
theorem dX7_init_96 : decode eX7_init.2.1 96 = .ok (.dup, 1) := by decide +kernel
theorem dX7_init_97 : decode eX7_init.2.1 97 = .ok (.invokespecial 59, 3) := by decide +kernel
theorem dX7_init_100 : decode eX7_init.2.1 100 = .ok (.putfield 60, 3) := by decide +kernel
theorem dX7_init_103 : decode eX7_init.2.1 103 = .ok (.aload_n 0, 1) := by decide +kernel
theorem dX7_init_104 : decode eX7_init.2.1 104 = .ok (.bipush 60, 2) := by decide +kernel
theorem dX7_init_106 : decode eX7_init.2.1 106 = .ok (.newarray .int, 2) := by decide +kernel
theorem dX7_init_108 : decode eX7_init.2.1 108 = .ok (.putfield 64, 3) := by decide +kernel
theorem dX7_init_111 : decode eX7_init.2.1 111 = .ok (.aload_n 0, 1) := by decide +kernel
theorem dX7_init_112 : decode eX7_init.2.1 112 = .ok (.iconst 0, 1) := by decide +kernel
theorem dX7_init_113 : decode eX7_init.2.1 113 = .ok (.putfield 68, 3) := by decide +kernel
theorem dX7_init_116 : decode eX7_init.2.1 116 = .ok (.aload_n 0, 1) := by decide +kernel
theorem dX7_init_117 : decode eX7_init.2.1 117 = .ok (.iconst 0, 1) := by decide +kernel
theorem dX7_init_118 : decode eX7_init.2.1 118 = .ok (.putfield 72, 3) := by decide +kernel
theorem dX7_init_121 : decode eX7_init.2.1 121 = .ok (.return_, 1) := by decide +kernel
theorem dX7_part_0 : decode eX7_part.2.1 0 = .ok (.iload_n 1, 1) := by decide +kernel
theorem dX7_part_1 : decode eX7_part.2.1 1 = .ok (.iconst 0, 1) := by decide +kernel
theorem dX7_part_2 : decode eX7_part.2.1 2 = .ok (.iconst 5, 1) := by decide +kernel
theorem dX7_part_3 : decode eX7_part.2.1 3 = .ok (.invokestatic 76, 3) := by decide +kernel
theorem dX7_part_6 : decode eX7_part.2.1 6 = .ok (.ifCond .eq 23, 3) := by decide +kernel
theorem dX7_part_9 : decode eX7_part.2.1 9 = .ok (.iload_n 2, 1) := by decide +kernel
theorem dX7_part_10 : decode eX7_part.2.1 10 = .ok (.iconst 0, 1) := by decide +kernel
theorem dX7_part_11 : decode eX7_part.2.1 11 = .ok (.bipush 47, 2) := by decide +kernel
theorem dX7_part_13 : decode eX7_part.2.1 13 = .ok (.invokestatic 76, 3) := by decide +kernel
theorem dX7_part_16 : decode eX7_part.2.1 16 = .ok (.ifCond .eq 13, 3) := by decide +kernel
theorem dX7_part_19 : decode eX7_part.2.1 19 = .ok (.iload_n 3, 1) := by decide +kernel
theorem dX7_part_20 : decode eX7_part.2.1 20 = .ok (.iconst 0, 1) := by decide +kernel
theorem dX7_part_21 : decode eX7_part.2.1 21 = .ok (.bipush 9, 2) := by decide +kernel
theorem dX7_part_23 : decode eX7_part.2.1 23 = .ok (.invokestatic 76, 3) := by decide +kernel
theorem dX7_part_26 : decode eX7_part.2.1 26 = .ok (.ifCond .ne 6, 3) := by decide +kernel
theorem dX7_part_29 : decode eX7_part.2.1 29 = .ok (.ldc 80, 2) := by decide +kernel
theorem dX7_part_31 : decode eX7_part.2.1 31 = .ok (.ireturn, 1) := by decide +kernel
theorem dX7_part_32 : decode eX7_part.2.1 32 = .ok (.iload 4, 2) := by decide +kernel
theorem dX7_part_34 : decode eX7_part.2.1 34 = .ok (.iconst 0, 1) := by decide +kernel
theorem dX7_part_35 : decode eX7_part.2.1 35 = .ok (.bipush 9, 2) := by decide +kernel
theorem dX7_part_37 : decode eX7_part.2.1 37 = .ok (.invokestatic 76, 3) := by decide +kernel
theorem dX7_part_40 : decode eX7_part.2.1 40 = .ok (.ifCond .eq 14, 3) := by decide +kernel
theorem dX7_part_43 : decode eX7_part.2.1 43 = .ok (.iload 5, 2) := by decide +kernel
theorem dX7_part_45 : decode eX7_part.2.1 45 = .ok (.iconst 0, 1) := by decide +kernel
theorem dX7_part_46 : decode eX7_part.2.1 46 = .ok (.bipush 9, 2) := by decide +kernel
theorem dX7_part_48 : decode eX7_part.2.1 48 = .ok (.invokestatic 76, 3) := by decide +kernel
theorem dX7_part_51 : decode eX7_part.2.1 51 = .ok (.ifCond .ne 6, 3) := by decide +kernel
theorem dX7_part_54 : decode eX7_part.2.1 54 = .ok (.ldc 80, 2) := by decide +kernel
theorem dX7_part_56 : decode eX7_part.2.1 56 = .ok (.ireturn, 1) := by decide +kernel
theorem dX7_part_57 : decode eX7_part.2.1 57 = .ok (.aload_n 0, 1) := by decide +kernel
theorem dX7_part_58 : decode eX7_part.2.1 58 = .ok (.getfield 10, 3) := by decide +kernel
theorem dX7_part_61 : decode eX7_part.2.1 61 = .ok (.getfield 81, 3) := by decide +kernel
theorem dX7_part_64 : decode eX7_part.2.1 64 = .ok (.iload_n 2, 1) := by decide +kernel
theorem dX7_part_65 : decode eX7_part.2.1 65 = .ok (.iaload, 1) := by decide +kernel
theorem dX7_part_66 : decode eX7_part.2.1 66 = .ok (.ldc 84, 2) := by decide +kernel
theorem dX7_part_68 : decode eX7_part.2.1 68 = .ok (.if_icmp .eq 6, 3) := by decide +kernel
theorem dX7_part_71 : decode eX7_part.2.1 71 = .ok (.ldc 85, 2) := by decide +kernel
theorem dX7_part_73 : decode eX7_part.2.1 73 = .ok (.ireturn, 1) := by decide +kernel
theorem dX7_part_74 : decode eX7_part.2.1 74 = .ok (.aload_n 0, 1) := by decide +kernel
theorem dX7_part_75 : decode eX7_part.2.1 75 = .ok (.getfield 10, 3) := by decide +kernel
theorem dX7_part_78 : decode eX7_part.2.1 78 = .ok (.getfield 86, 3) := by decide +kernel
theorem dX7_part_81 : decode eX7_part.2.1 81 = .ok (.bipush 48, 2) := by decide +kernel
theorem dX7_part_83 : decode eX7_part.2.1 83 = .ok (.if_icmp .lt 8, 3) := by decide +kernel
theorem dX7_part_86 : decode eX7_part.2.1 86 = .ok (.ldc 89, 2) := by decide +kernel
theorem dX7_part_88 : decode eX7_part.2.1 88 = .ok (.goto 17, 3) := by decide +kernel
theorem dX7_part_91 : decode eX7_part.2.1 91 = .ok (.aload_n 0, 1) := by decide +kernel
theorem dX7_part_92 : decode eX7_part.2.1 92 = .ok (.getfield 10, 3) := by decide +kernel
theorem dX7_part_95 : decode eX7_part.2.1 95 = .ok (.iload_n 1, 1) := by decide +kernel
theorem dX7_part_96 : decode eX7_part.2.1 96 = .ok (.iload_n 2, 1) := by decide +kernel
theorem dX7_part_97 : decode eX7_part.2.1 97 = .ok (.iload_n 3, 1) := by decide +kernel
theorem dX7_part_98 : decode eX7_part.2.1 98 = .ok (.iload 4, 2) := by decide +kernel
theorem dX7_part_100 : decode eX7_part.2.1 100 = .ok (.iload 5, 2) := by decide +kernel
theorem dX7_part_102 : decode eX7_part.2.1 102 = .ok (.invokevirtual 90, 3) := by decide +kernel
theorem dX7_part_105 : decode eX7_part.2.1 105 = .ok (.ireturn, 1) := by decide +kernel
theorem dX7_told_0 : decode eX7_told.2.1 0 = .ok (.iload_n 1, 1) := by decide +kernel
theorem dX7_told_1 : decode eX7_told.2.1 1 = .ok (.iconst 0, 1) := by decide +kernel
theorem dX7_told_2 : decode eX7_told.2.1 2 = .ok (.aload_n 0, 1) := by decide +kernel
theorem dX7_told_3 : decode eX7_told.2.1 3 = .ok (.getfield 10, 3) := by decide +kernel
theorem dX7_told_6 : decode eX7_told.2.1 6 = .ok (.getfield 86, 3) := by decide +kernel
theorem dX7_told_9 : decode eX7_told.2.1 9 = .ok (.iconst 1, 1) := by decide +kernel
theorem dX7_told_10 : decode eX7_told.2.1 10 = .ok (.isub, 1) := by decide +kernel
theorem dX7_told_11 : decode eX7_told.2.1 11 = .ok (.invokestatic 76, 3) := by decide +kernel
theorem dX7_told_14 : decode eX7_told.2.1 14 = .ok (.ifCond .ne 6, 3) := by decide +kernel
theorem dX7_told_17 : decode eX7_told.2.1 17 = .ok (.ldc 80, 2) := by decide +kernel
theorem dX7_told_19 : decode eX7_told.2.1 19 = .ok (.ireturn, 1) := by decide +kernel
theorem dX7_told_20 : decode eX7_told.2.1 20 = .ok (.iload_n 2, 1) := by decide +kernel
theorem dX7_told_21 : decode eX7_told.2.1 21 = .ok (.tableswitch 138 0 8 #[51, 61, 71, 81, 91, 101, 111, 120, 129], 51) := by decide +kernel
theorem dX7_told_72 : decode eX7_told.2.1 72 = .ok (.aload_n 0, 1) := by decide +kernel
theorem dX7_told_73 : decode eX7_told.2.1 73 = .ok (.getfield 10, 3) := by decide +kernel
theorem dX7_told_76 : decode eX7_told.2.1 76 = .ok (.getfield 94, 3) := by decide +kernel
theorem dX7_told_79 : decode eX7_told.2.1 79 = .ok (.iload_n 1, 1) := by decide +kernel
theorem dX7_told_80 : decode eX7_told.2.1 80 = .ok (.iaload, 1) := by decide +kernel
theorem dX7_told_81 : decode eX7_told.2.1 81 = .ok (.ireturn, 1) := by decide +kernel
theorem dX7_told_82 : decode eX7_told.2.1 82 = .ok (.aload_n 0, 1) := by decide +kernel
theorem dX7_told_83 : decode eX7_told.2.1 83 = .ok (.getfield 10, 3) := by decide +kernel
theorem dX7_told_86 : decode eX7_told.2.1 86 = .ok (.getfield 97, 3) := by decide +kernel
theorem dX7_told_89 : decode eX7_told.2.1 89 = .ok (.iload_n 1, 1) := by decide +kernel
theorem dX7_told_90 : decode eX7_told.2.1 90 = .ok (.iaload, 1) := by decide +kernel
theorem dX7_told_91 : decode eX7_told.2.1 91 = .ok (.ireturn, 1) := by decide +kernel
theorem dX7_told_92 : decode eX7_told.2.1 92 = .ok (.aload_n 0, 1) := by decide +kernel
theorem dX7_told_93 : decode eX7_told.2.1 93 = .ok (.getfield 10, 3) := by decide +kernel
theorem dX7_told_96 : decode eX7_told.2.1 96 = .ok (.getfield 100, 3) := by decide +kernel
theorem dX7_told_99 : decode eX7_told.2.1 99 = .ok (.iload_n 1, 1) := by decide +kernel
theorem dX7_told_100 : decode eX7_told.2.1 100 = .ok (.iaload, 1) := by decide +kernel
theorem dX7_told_101 : decode eX7_told.2.1 101 = .ok (.ireturn, 1) := by decide +kernel
theorem dX7_told_102 : decode eX7_told.2.1 102 = .ok (.aload_n 0, 1) := by decide +kernel
theorem dX7_told_103 : decode eX7_told.2.1 103 = .ok (.getfield 10, 3) := by decide +kernel
theorem dX7_told_106 : decode eX7_told.2.1 106 = .ok (.getfield 103, 3) := by decide +kernel
theorem dX7_told_109 : decode eX7_told.2.1 109 = .ok (.iload_n 1, 1) := by decide +kernel
theorem dX7_told_110 : decode eX7_told.2.1 110 = .ok (.iaload, 1) := by decide +kernel
theorem dX7_told_111 : decode eX7_told.2.1 111 = .ok (.ireturn, 1) := by decide +kernel
theorem dX7_told_112 : decode eX7_told.2.1 112 = .ok (.aload_n 0, 1) := by decide +kernel
theorem dX7_told_113 : decode eX7_told.2.1 113 = .ok (.getfield 10, 3) := by decide +kernel
theorem dX7_told_116 : decode eX7_told.2.1 116 = .ok (.getfield 106, 3) := by decide +kernel
theorem dX7_told_119 : decode eX7_told.2.1 119 = .ok (.iload_n 1, 1) := by decide +kernel
theorem dX7_told_120 : decode eX7_told.2.1 120 = .ok (.iaload, 1) := by decide +kernel
theorem dX7_told_121 : decode eX7_told.2.1 121 = .ok (.ireturn, 1) := by decide +kernel
theorem dX7_told_122 : decode eX7_told.2.1 122 = .ok (.aload_n 0, 1) := by decide +kernel
theorem dX7_told_123 : decode eX7_told.2.1 123 = .ok (.getfield 10, 3) := by decide +kernel
theorem dX7_told_126 : decode eX7_told.2.1 126 = .ok (.getfield 109, 3) := by decide +kernel
theorem dX7_told_129 : decode eX7_told.2.1 129 = .ok (.iload_n 1, 1) := by decide +kernel
theorem dX7_told_130 : decode eX7_told.2.1 130 = .ok (.iaload, 1) := by decide +kernel
theorem dX7_told_131 : decode eX7_told.2.1 131 = .ok (.ireturn, 1) := by decide +kernel
theorem dX7_told_132 : decode eX7_told.2.1 132 = .ok (.aload_n 0, 1) := by decide +kernel
theorem dX7_told_133 : decode eX7_told.2.1 133 = .ok (.getfield 10, 3) := by decide +kernel
theorem dX7_told_136 : decode eX7_told.2.1 136 = .ok (.iload_n 1, 1) := by decide +kernel
theorem dX7_told_137 : decode eX7_told.2.1 137 = .ok (.invokevirtual 112, 3) := by decide +kernel
theorem dX7_told_140 : decode eX7_told.2.1 140 = .ok (.ireturn, 1) := by decide +kernel
theorem dX7_told_141 : decode eX7_told.2.1 141 = .ok (.aload_n 0, 1) := by decide +kernel
theorem dX7_told_142 : decode eX7_told.2.1 142 = .ok (.getfield 10, 3) := by decide +kernel
theorem dX7_told_145 : decode eX7_told.2.1 145 = .ok (.iload_n 1, 1) := by decide +kernel
theorem dX7_told_146 : decode eX7_told.2.1 146 = .ok (.invokevirtual 116, 3) := by decide +kernel
theorem dX7_told_149 : decode eX7_told.2.1 149 = .ok (.ireturn, 1) := by decide +kernel
theorem dX7_told_150 : decode eX7_told.2.1 150 = .ok (.aload_n 0, 1) := by decide +kernel
theorem dX7_told_151 : decode eX7_told.2.1 151 = .ok (.getfield 10, 3) := by decide +kernel
theorem dX7_told_154 : decode eX7_told.2.1 154 = .ok (.iload_n 1, 1) := by decide +kernel
theorem dX7_told_155 : decode eX7_told.2.1 155 = .ok (.invokevirtual 119, 3) := by decide +kernel
theorem dX7_told_158 : decode eX7_told.2.1 158 = .ok (.ireturn, 1) := by decide +kernel
theorem dX7_told_159 : decode eX7_told.2.1 159 = .ok (.ldc 80, 2) := by decide +kernel
theorem dX7_told_161 : decode eX7_told.2.1 161 = .ok (.ireturn, 1) := by decide +kernel
theorem dX7_as_0 : decode eX7_as.2.1 0 = .ok (.iload_n 1, 1) := by decide +kernel
theorem dX7_as_1 : decode eX7_as.2.1 1 = .ok (.iconst 0, 1) := by decide +kernel
theorem dX7_as_2 : decode eX7_as.2.1 2 = .ok (.aload_n 0, 1) := by decide +kernel
theorem dX7_as_3 : decode eX7_as.2.1 3 = .ok (.getfield 10, 3) := by decide +kernel
theorem dX7_as_6 : decode eX7_as.2.1 6 = .ok (.getfield 86, 3) := by decide +kernel
theorem dX7_as_9 : decode eX7_as.2.1 9 = .ok (.iconst 1, 1) := by decide +kernel
theorem dX7_as_10 : decode eX7_as.2.1 10 = .ok (.isub, 1) := by decide +kernel
theorem dX7_as_11 : decode eX7_as.2.1 11 = .ok (.invokestatic 76, 3) := by decide +kernel
theorem dX7_as_14 : decode eX7_as.2.1 14 = .ok (.ifCond .eq 12, 3) := by decide +kernel
theorem dX7_as_17 : decode eX7_as.2.1 17 = .ok (.iload_n 2, 1) := by decide +kernel
theorem dX7_as_18 : decode eX7_as.2.1 18 = .ok (.iconst 0, 1) := by decide +kernel
theorem dX7_as_19 : decode eX7_as.2.1 19 = .ok (.iconst 5, 1) := by decide +kernel
theorem dX7_as_20 : decode eX7_as.2.1 20 = .ok (.invokestatic 76, 3) := by decide +kernel
theorem dX7_as_23 : decode eX7_as.2.1 23 = .ok (.ifCond .ne 6, 3) := by decide +kernel
theorem dX7_as_26 : decode eX7_as.2.1 26 = .ok (.ldc 80, 2) := by decide +kernel
theorem dX7_as_28 : decode eX7_as.2.1 28 = .ok (.ireturn, 1) := by decide +kernel
theorem dX7_as_29 : decode eX7_as.2.1 29 = .ok (.aload_n 0, 1) := by decide +kernel
theorem dX7_as_30 : decode eX7_as.2.1 30 = .ok (.getfield 10, 3) := by decide +kernel
theorem dX7_as_33 : decode eX7_as.2.1 33 = .ok (.iload_n 1, 1) := by decide +kernel
theorem dX7_as_34 : decode eX7_as.2.1 34 = .ok (.iload_n 2, 1) := by decide +kernel
theorem dX7_as_35 : decode eX7_as.2.1 35 = .ok (.invokevirtual 122, 3) := by decide +kernel
theorem dX7_as_38 : decode eX7_as.2.1 38 = .ok (.ifCond .eq 15, 3) := by decide +kernel
theorem dX7_as_41 : decode eX7_as.2.1 41 = .ok (.aload_n 0, 1) := by decide +kernel
theorem dX7_as_42 : decode eX7_as.2.1 42 = .ok (.getfield 10, 3) := by decide +kernel
theorem dX7_as_45 : decode eX7_as.2.1 45 = .ok (.getfield 100, 3) := by decide +kernel
theorem dX7_as_48 : decode eX7_as.2.1 48 = .ok (.iload_n 1, 1) := by decide +kernel
theorem dX7_as_49 : decode eX7_as.2.1 49 = .ok (.iaload, 1) := by decide +kernel
theorem dX7_as_50 : decode eX7_as.2.1 50 = .ok (.goto 5, 3) := by decide +kernel
theorem dX7_as_53 : decode eX7_as.2.1 53 = .ok (.ldc 126, 2) := by decide +kernel
theorem dX7_as_55 : decode eX7_as.2.1 55 = .ok (.ireturn, 1) := by decide +kernel
theorem dX7_dies_0 : decode eX7_dies.2.1 0 = .ok (.iload_n 1, 1) := by decide +kernel
theorem dX7_dies_1 : decode eX7_dies.2.1 1 = .ok (.iconst 0, 1) := by decide +kernel
theorem dX7_dies_2 : decode eX7_dies.2.1 2 = .ok (.aload_n 0, 1) := by decide +kernel
theorem dX7_dies_3 : decode eX7_dies.2.1 3 = .ok (.getfield 10, 3) := by decide +kernel
theorem dX7_dies_6 : decode eX7_dies.2.1 6 = .ok (.getfield 86, 3) := by decide +kernel
theorem dX7_dies_9 : decode eX7_dies.2.1 9 = .ok (.iconst 1, 1) := by decide +kernel
theorem dX7_dies_10 : decode eX7_dies.2.1 10 = .ok (.isub, 1) := by decide +kernel
theorem dX7_dies_11 : decode eX7_dies.2.1 11 = .ok (.invokestatic 76, 3) := by decide +kernel
theorem dX7_dies_14 : decode eX7_dies.2.1 14 = .ok (.ifCond .ne 6, 3) := by decide +kernel
theorem dX7_dies_17 : decode eX7_dies.2.1 17 = .ok (.ldc 80, 2) := by decide +kernel
theorem dX7_dies_19 : decode eX7_dies.2.1 19 = .ok (.ireturn, 1) := by decide +kernel
theorem dX7_dies_20 : decode eX7_dies.2.1 20 = .ok (.aload_n 0, 1) := by decide +kernel
theorem dX7_dies_21 : decode eX7_dies.2.1 21 = .ok (.getfield 10, 3) := by decide +kernel
theorem dX7_dies_24 : decode eX7_dies.2.1 24 = .ok (.getfield 94, 3) := by decide +kernel
theorem dX7_dies_27 : decode eX7_dies.2.1 27 = .ok (.iload_n 1, 1) := by decide +kernel
theorem dX7_dies_28 : decode eX7_dies.2.1 28 = .ok (.iaload, 1) := by decide +kernel
theorem dX7_dies_29 : decode eX7_dies.2.1 29 = .ok (.iconst 5, 1) := by decide +kernel
theorem dX7_dies_30 : decode eX7_dies.2.1 30 = .ok (.if_icmp .ne 6, 3) := by decide +kernel
theorem dX7_dies_33 : decode eX7_dies.2.1 33 = .ok (.ldc 85, 2) := by decide +kernel
theorem dX7_dies_35 : decode eX7_dies.2.1 35 = .ok (.ireturn, 1) := by decide +kernel
theorem dX7_dies_36 : decode eX7_dies.2.1 36 = .ok (.aload_n 0, 1) := by decide +kernel
theorem dX7_dies_37 : decode eX7_dies.2.1 37 = .ok (.getfield 10, 3) := by decide +kernel
theorem dX7_dies_40 : decode eX7_dies.2.1 40 = .ok (.getfield 94, 3) := by decide +kernel
theorem dX7_dies_43 : decode eX7_dies.2.1 43 = .ok (.iload_n 1, 1) := by decide +kernel
theorem dX7_dies_44 : decode eX7_dies.2.1 44 = .ok (.iconst 5, 1) := by decide +kernel
theorem dX7_dies_45 : decode eX7_dies.2.1 45 = .ok (.iastore, 1) := by decide +kernel
theorem dX7_dies_46 : decode eX7_dies.2.1 46 = .ok (.iconst 1, 1) := by decide +kernel
theorem dX7_dies_47 : decode eX7_dies.2.1 47 = .ok (.ireturn, 1) := by decide +kernel
theorem dX7_nerve_0 : decode eX7_nerve.2.1 0 = .ok (.iload_n 1, 1) := by decide +kernel
theorem dX7_nerve_1 : decode eX7_nerve.2.1 1 = .ok (.iconst 0, 1) := by decide +kernel
theorem dX7_nerve_2 : decode eX7_nerve.2.1 2 = .ok (.bipush 9, 2) := by decide +kernel
theorem dX7_nerve_4 : decode eX7_nerve.2.1 4 = .ok (.invokestatic 76, 3) := by decide +kernel
theorem dX7_nerve_7 : decode eX7_nerve.2.1 7 = .ok (.ifCond .ne 6, 3) := by decide +kernel
theorem dX7_nerve_10 : decode eX7_nerve.2.1 10 = .ok (.ldc 80, 2) := by decide +kernel
theorem dX7_nerve_12 : decode eX7_nerve.2.1 12 = .ok (.ireturn, 1) := by decide +kernel
theorem dX7_nerve_13 : decode eX7_nerve.2.1 13 = .ok (.iload_n 2, 1) := by decide +kernel
theorem dX7_nerve_14 : decode eX7_nerve.2.1 14 = .ok (.ifCond .ne 25, 3) := by decide +kernel
theorem dX7_nerve_17 : decode eX7_nerve.2.1 17 = .ok (.iload_n 3, 1) := by decide +kernel
theorem dX7_nerve_18 : decode eX7_nerve.2.1 18 = .ok (.iconst 0, 1) := by decide +kernel
theorem dX7_nerve_19 : decode eX7_nerve.2.1 19 = .ok (.iconst 5, 1) := by decide +kernel
theorem dX7_nerve_20 : decode eX7_nerve.2.1 20 = .ok (.invokestatic 76, 3) := by decide +kernel
theorem dX7_nerve_23 : decode eX7_nerve.2.1 23 = .ok (.ifCond .eq 16, 3) := by decide +kernel
theorem dX7_nerve_26 : decode eX7_nerve.2.1 26 = .ok (.aload_n 0, 1) := by decide +kernel
theorem dX7_nerve_27 : decode eX7_nerve.2.1 27 = .ok (.getfield 10, 3) := by decide +kernel
theorem dX7_nerve_30 : decode eX7_nerve.2.1 30 = .ok (.getfield 127, 3) := by decide +kernel
theorem dX7_nerve_33 : decode eX7_nerve.2.1 33 = .ok (.iload_n 1, 1) := by decide +kernel
theorem dX7_nerve_34 : decode eX7_nerve.2.1 34 = .ok (.iload_n 3, 1) := by decide +kernel
theorem dX7_nerve_35 : decode eX7_nerve.2.1 35 = .ok (.invokestatic 130, 3) := by decide +kernel
theorem dX7_nerve_38 : decode eX7_nerve.2.1 38 = .ok (.ireturn, 1) := by decide +kernel
theorem dX7_nerve_39 : decode eX7_nerve.2.1 39 = .ok (.iload_n 2, 1) := by decide +kernel
theorem dX7_nerve_40 : decode eX7_nerve.2.1 40 = .ok (.iconst 1, 1) := by decide +kernel
theorem dX7_nerve_41 : decode eX7_nerve.2.1 41 = .ok (.if_icmp .ne 26, 3) := by decide +kernel
theorem dX7_nerve_44 : decode eX7_nerve.2.1 44 = .ok (.iload_n 3, 1) := by decide +kernel
theorem dX7_nerve_45 : decode eX7_nerve.2.1 45 = .ok (.iconst 1, 1) := by decide +kernel
theorem dX7_nerve_46 : decode eX7_nerve.2.1 46 = .ok (.bipush 9, 2) := by decide +kernel
theorem dX7_nerve_48 : decode eX7_nerve.2.1 48 = .ok (.invokestatic 76, 3) := by decide +kernel
theorem dX7_nerve_51 : decode eX7_nerve.2.1 51 = .ok (.ifCond .eq 16, 3) := by decide +kernel
theorem dX7_nerve_54 : decode eX7_nerve.2.1 54 = .ok (.aload_n 0, 1) := by decide +kernel
theorem dX7_nerve_55 : decode eX7_nerve.2.1 55 = .ok (.getfield 10, 3) := by decide +kernel
theorem dX7_nerve_58 : decode eX7_nerve.2.1 58 = .ok (.getfield 134, 3) := by decide +kernel
theorem dX7_nerve_61 : decode eX7_nerve.2.1 61 = .ok (.iload_n 1, 1) := by decide +kernel
theorem dX7_nerve_62 : decode eX7_nerve.2.1 62 = .ok (.iload_n 3, 1) := by decide +kernel
theorem dX7_nerve_63 : decode eX7_nerve.2.1 63 = .ok (.invokestatic 130, 3) := by decide +kernel
theorem dX7_nerve_66 : decode eX7_nerve.2.1 66 = .ok (.ireturn, 1) := by decide +kernel
theorem dX7_nerve_67 : decode eX7_nerve.2.1 67 = .ok (.ldc 80, 2) := by decide +kernel
theorem dX7_nerve_69 : decode eX7_nerve.2.1 69 = .ok (.ireturn, 1) := by decide +kernel
theorem dX7_pull_0 : decode eX7_pull.2.1 0 = .ok (.iload_n 1, 1) := by decide +kernel
theorem dX7_pull_1 : decode eX7_pull.2.1 1 = .ok (.iconst 0, 1) := by decide +kernel
theorem dX7_pull_2 : decode eX7_pull.2.1 2 = .ok (.iconst 5, 1) := by decide +kernel
theorem dX7_pull_3 : decode eX7_pull.2.1 3 = .ok (.invokestatic 76, 3) := by decide +kernel
theorem dX7_pull_6 : decode eX7_pull.2.1 6 = .ok (.ifCond .eq 13, 3) := by decide +kernel
theorem dX7_pull_9 : decode eX7_pull.2.1 9 = .ok (.iload_n 2, 1) := by decide +kernel
theorem dX7_pull_10 : decode eX7_pull.2.1 10 = .ok (.iconst 0, 1) := by decide +kernel
theorem dX7_pull_11 : decode eX7_pull.2.1 11 = .ok (.bipush 9, 2) := by decide +kernel
theorem dX7_pull_13 : decode eX7_pull.2.1 13 = .ok (.invokestatic 76, 3) := by decide +kernel
theorem dX7_pull_16 : decode eX7_pull.2.1 16 = .ok (.ifCond .ne 6, 3) := by decide +kernel
theorem dX7_pull_19 : decode eX7_pull.2.1 19 = .ok (.ldc 80, 2) := by decide +kernel
theorem dX7_pull_21 : decode eX7_pull.2.1 21 = .ok (.ireturn, 1) := by decide +kernel
theorem dX7_pull_22 : decode eX7_pull.2.1 22 = .ok (.aload_n 0, 1) := by decide +kernel
theorem dX7_pull_23 : decode eX7_pull.2.1 23 = .ok (.getfield 10, 3) := by decide +kernel
theorem dX7_pull_26 : decode eX7_pull.2.1 26 = .ok (.getfield 137, 3) := by decide +kernel
theorem dX7_pull_29 : decode eX7_pull.2.1 29 = .ok (.iload_n 1, 1) := by decide +kernel
theorem dX7_pull_30 : decode eX7_pull.2.1 30 = .ok (.iload_n 2, 1) := by decide +kernel
theorem dX7_pull_31 : decode eX7_pull.2.1 31 = .ok (.invokestatic 130, 3) := by decide +kernel
theorem dX7_pull_34 : decode eX7_pull.2.1 34 = .ok (.ireturn, 1) := by decide +kernel
theorem dX7_rule_0 : decode eX7_rule.2.1 0 = .ok (.iload_n 1, 1) := by decide +kernel
theorem dX7_rule_1 : decode eX7_rule.2.1 1 = .ok (.iconst 0, 1) := by decide +kernel
theorem dX7_rule_2 : decode eX7_rule.2.1 2 = .ok (.iconst 3, 1) := by decide +kernel
theorem dX7_rule_3 : decode eX7_rule.2.1 3 = .ok (.invokestatic 76, 3) := by decide +kernel
theorem dX7_rule_6 : decode eX7_rule.2.1 6 = .ok (.ifCond .eq 20, 3) := by decide +kernel
theorem dX7_rule_9 : decode eX7_rule.2.1 9 = .ok (.iload_n 2, 1) := by decide +kernel
theorem dX7_rule_10 : decode eX7_rule.2.1 10 = .ok (.getstatic 140, 3) := by decide +kernel
theorem dX7_rule_13 : decode eX7_rule.2.1 13 = .ok (.iload_n 1, 1) := by decide +kernel
theorem dX7_rule_14 : decode eX7_rule.2.1 14 = .ok (.iaload, 1) := by decide +kernel
theorem dX7_rule_15 : decode eX7_rule.2.1 15 = .ok (.getstatic 143, 3) := by decide +kernel
theorem dX7_rule_18 : decode eX7_rule.2.1 18 = .ok (.iload_n 1, 1) := by decide +kernel
theorem dX7_rule_19 : decode eX7_rule.2.1 19 = .ok (.iaload, 1) := by decide +kernel
theorem dX7_rule_20 : decode eX7_rule.2.1 20 = .ok (.invokestatic 76, 3) := by decide +kernel
theorem dX7_rule_23 : decode eX7_rule.2.1 23 = .ok (.ifCond .ne 6, 3) := by decide +kernel
theorem dX7_rule_26 : decode eX7_rule.2.1 26 = .ok (.ldc 80, 2) := by decide +kernel
theorem dX7_rule_28 : decode eX7_rule.2.1 28 = .ok (.ireturn, 1) := by decide +kernel
theorem dX7_rule_29 : decode eX7_rule.2.1 29 = .ok (.aload_n 0, 1) := by decide +kernel
theorem dX7_rule_30 : decode eX7_rule.2.1 30 = .ok (.getfield 10, 3) := by decide +kernel
theorem dX7_rule_33 : decode eX7_rule.2.1 33 = .ok (.getfield 146, 3) := by decide +kernel
theorem dX7_rule_36 : decode eX7_rule.2.1 36 = .ok (.iload_n 1, 1) := by decide +kernel
theorem dX7_rule_37 : decode eX7_rule.2.1 37 = .ok (.iload_n 2, 1) := by decide +kernel
theorem dX7_rule_38 : decode eX7_rule.2.1 38 = .ok (.invokestatic 130, 3) := by decide +kernel
theorem dX7_rule_41 : decode eX7_rule.2.1 41 = .ok (.ireturn, 1) := by decide +kernel
theorem dX7_show_0 : decode eX7_show.2.1 0 = .ok (.iload_n 1, 1) := by decide +kernel
theorem dX7_show_1 : decode eX7_show.2.1 1 = .ok (.iconst 0, 1) := by decide +kernel
theorem dX7_show_2 : decode eX7_show.2.1 2 = .ok (.bipush 47, 2) := by decide +kernel
theorem dX7_show_4 : decode eX7_show.2.1 4 = .ok (.invokestatic 76, 3) := by decide +kernel
theorem dX7_show_7 : decode eX7_show.2.1 7 = .ok (.ifCond .ne 6, 3) := by decide +kernel
theorem dX7_show_10 : decode eX7_show.2.1 10 = .ok (.ldc 80, 2) := by decide +kernel
theorem dX7_show_12 : decode eX7_show.2.1 12 = .ok (.ireturn, 1) := by decide +kernel
theorem dX7_show_13 : decode eX7_show.2.1 13 = .ok (.iload_n 2, 1) := by decide +kernel
theorem dX7_show_14 : decode eX7_show.2.1 14 = .ok (.tableswitch 68 0 3 #[30, 39, 49, 59], 30) := by decide +kernel
theorem dX7_show_44 : decode eX7_show.2.1 44 = .ok (.aload_n 0, 1) := by decide +kernel
theorem dX7_show_45 : decode eX7_show.2.1 45 = .ok (.getfield 10, 3) := by decide +kernel
theorem dX7_show_48 : decode eX7_show.2.1 48 = .ok (.iload_n 1, 1) := by decide +kernel
theorem dX7_show_49 : decode eX7_show.2.1 49 = .ok (.invokevirtual 149, 3) := by decide +kernel
theorem dX7_show_52 : decode eX7_show.2.1 52 = .ok (.ireturn, 1) := by decide +kernel
theorem dX7_show_53 : decode eX7_show.2.1 53 = .ok (.aload_n 0, 1) := by decide +kernel
theorem dX7_show_54 : decode eX7_show.2.1 54 = .ok (.getfield 10, 3) := by decide +kernel
theorem dX7_show_57 : decode eX7_show.2.1 57 = .ok (.getfield 152, 3) := by decide +kernel
theorem dX7_show_60 : decode eX7_show.2.1 60 = .ok (.iload_n 1, 1) := by decide +kernel
theorem dX7_show_61 : decode eX7_show.2.1 61 = .ok (.iaload, 1) := by decide +kernel
theorem dX7_show_62 : decode eX7_show.2.1 62 = .ok (.ireturn, 1) := by decide +kernel
theorem dX7_show_63 : decode eX7_show.2.1 63 = .ok (.aload_n 0, 1) := by decide +kernel
theorem dX7_show_64 : decode eX7_show.2.1 64 = .ok (.getfield 10, 3) := by decide +kernel
theorem dX7_show_67 : decode eX7_show.2.1 67 = .ok (.getfield 81, 3) := by decide +kernel
theorem dX7_show_70 : decode eX7_show.2.1 70 = .ok (.iload_n 1, 1) := by decide +kernel
theorem dX7_show_71 : decode eX7_show.2.1 71 = .ok (.iaload, 1) := by decide +kernel
theorem dX7_show_72 : decode eX7_show.2.1 72 = .ok (.ireturn, 1) := by decide +kernel
theorem dX7_show_73 : decode eX7_show.2.1 73 = .ok (.aload_n 0, 1) := by decide +kernel
theorem dX7_show_74 : decode eX7_show.2.1 74 = .ok (.getfield 10, 3) := by decide +kernel
theorem dX7_show_77 : decode eX7_show.2.1 77 = .ok (.iload_n 1, 1) := by decide +kernel
theorem dX7_show_78 : decode eX7_show.2.1 78 = .ok (.invokevirtual 155, 3) := by decide +kernel
theorem dX7_show_81 : decode eX7_show.2.1 81 = .ok (.ireturn, 1) := by decide +kernel
theorem dX7_show_82 : decode eX7_show.2.1 82 = .ok (.ldc 80, 2) := by decide +kernel
theorem dX7_show_84 : decode eX7_show.2.1 84 = .ok (.ireturn, 1) := by decide +kernel
theorem dX7_tick_0 : decode eX7_tick.2.1 0 = .ok (.iload_n 1, 1) := by decide +kernel
theorem dX7_tick_1 : decode eX7_tick.2.1 1 = .ok (.iconst 1, 1) := by decide +kernel
theorem dX7_tick_2 : decode eX7_tick.2.1 2 = .ok (.bipush 60, 2) := by decide +kernel
theorem dX7_tick_4 : decode eX7_tick.2.1 4 = .ok (.invokestatic 76, 3) := by decide +kernel
theorem dX7_tick_7 : decode eX7_tick.2.1 7 = .ok (.ifCond .ne 6, 3) := by decide +kernel
theorem dX7_tick_10 : decode eX7_tick.2.1 10 = .ok (.ldc 80, 2) := by decide +kernel
theorem dX7_tick_12 : decode eX7_tick.2.1 12 = .ok (.ireturn, 1) := by decide +kernel
theorem dX7_tick_13 : decode eX7_tick.2.1 13 = .ok (.aload_n 0, 1) := by decide +kernel
theorem dX7_tick_14 : decode eX7_tick.2.1 14 = .ok (.getfield 10, 3) := by decide +kernel
theorem dX7_tick_17 : decode eX7_tick.2.1 17 = .ok (.getfield 158, 3) := by decide +kernel
theorem dX7_tick_20 : decode eX7_tick.2.1 20 = .ok (.iload_n 1, 1) := by decide +kernel
theorem dX7_tick_21 : decode eX7_tick.2.1 21 = .ok (.iadd, 1) := by decide +kernel
theorem dX7_tick_22 : decode eX7_tick.2.1 22 = .ok (.sipush 9999, 3) := by decide +kernel
theorem dX7_tick_25 : decode eX7_tick.2.1 25 = .ok (.if_icmp .le 6, 3) := by decide +kernel
theorem dX7_tick_28 : decode eX7_tick.2.1 28 = .ok (.ldc 89, 2) := by decide +kernel
theorem dX7_tick_30 : decode eX7_tick.2.1 30 = .ok (.ireturn, 1) := by decide +kernel
theorem dX7_tick_31 : decode eX7_tick.2.1 31 = .ok (.iconst 0, 1) := by decide +kernel
theorem dX7_tick_32 : decode eX7_tick.2.1 32 = .ok (.istore_n 2, 1) := by decide +kernel
theorem dX7_tick_33 : decode eX7_tick.2.1 33 = .ok (.iload_n 2, 1) := by decide +kernel
theorem dX7_tick_34 : decode eX7_tick.2.1 34 = .ok (.iload_n 1, 1) := by decide +kernel
theorem dX7_tick_35 : decode eX7_tick.2.1 35 = .ok (.if_icmp .ge 16, 3) := by decide +kernel
theorem dX7_tick_38 : decode eX7_tick.2.1 38 = .ok (.aload_n 0, 1) := by decide +kernel
theorem dX7_tick_39 : decode eX7_tick.2.1 39 = .ok (.getfield 10, 3) := by decide +kernel
theorem dX7_tick_42 : decode eX7_tick.2.1 42 = .ok (.invokevirtual 161, 3) := by decide +kernel
theorem dX7_tick_45 : decode eX7_tick.2.1 45 = .ok (.iinc 2 1, 3) := by decide +kernel
theorem dX7_tick_48 : decode eX7_tick.2.1 48 = .ok (.goto (-15), 3) := by decide +kernel
theorem dX7_tick_51 : decode eX7_tick.2.1 51 = .ok (.aload_n 0, 1) := by decide +kernel
theorem dX7_tick_52 : decode eX7_tick.2.1 52 = .ok (.getfield 10, 3) := by decide +kernel
theorem dX7_tick_55 : decode eX7_tick.2.1 55 = .ok (.getfield 158, 3) := by decide +kernel
theorem dX7_tick_58 : decode eX7_tick.2.1 58 = .ok (.ireturn, 1) := by decide +kernel
theorem dX7_rest_0 : decode eX7_rest.2.1 0 = .ok (.aload_n 0, 1) := by decide +kernel
theorem dX7_rest_1 : decode eX7_rest.2.1 1 = .ok (.getfield 10, 3) := by decide +kernel
theorem dX7_rest_4 : decode eX7_rest.2.1 4 = .ok (.invokevirtual 164, 3) := by decide +kernel
theorem dX7_rest_7 : decode eX7_rest.2.1 7 = .ok (.istore_n 1, 1) := by decide +kernel
theorem dX7_rest_8 : decode eX7_rest.2.1 8 = .ok (.aload_n 0, 1) := by decide +kernel
theorem dX7_rest_9 : decode eX7_rest.2.1 9 = .ok (.getfield 10, 3) := by decide +kernel
theorem dX7_rest_12 : decode eX7_rest.2.1 12 = .ok (.invokevirtual 168, 3) := by decide +kernel
theorem dX7_rest_15 : decode eX7_rest.2.1 15 = .ok (.iload_n 1, 1) := by decide +kernel
theorem dX7_rest_16 : decode eX7_rest.2.1 16 = .ok (.ireturn, 1) := by decide +kernel
theorem dX7_still_0 : decode eX7_still.2.1 0 = .ok (.aload_n 0, 1) := by decide +kernel
theorem dX7_still_1 : decode eX7_still.2.1 1 = .ok (.getfield 10, 3) := by decide +kernel
theorem dX7_still_4 : decode eX7_still.2.1 4 = .ok (.invokevirtual 171, 3) := by decide +kernel
theorem dX7_still_7 : decode eX7_still.2.1 7 = .ok (.ireturn, 1) := by decide +kernel
theorem dX7_change_0 : decode eX7_change.2.1 0 = .ok (.aload_n 0, 1) := by decide +kernel
theorem dX7_change_1 : decode eX7_change.2.1 1 = .ok (.getfield 19, 3) := by decide +kernel
theorem dX7_change_4 : decode eX7_change.2.1 4 = .ok (.aload_n 0, 1) := by decide +kernel
theorem dX7_change_5 : decode eX7_change.2.1 5 = .ok (.getfield 10, 3) := by decide +kernel
theorem dX7_change_8 : decode eX7_change.2.1 8 = .ok (.invokevirtual 174, 3) := by decide +kernel
theorem dX7_change_11 : decode eX7_change.2.1 11 = .ok (.aload_n 0, 1) := by decide +kernel
theorem dX7_change_12 : decode eX7_change.2.1 12 = .ok (.getfield 19, 3) := by decide +kernel
theorem dX7_change_15 : decode eX7_change.2.1 15 = .ok (.invokevirtual 171, 3) := by decide +kernel
theorem dX7_change_18 : decode eX7_change.2.1 18 = .ok (.istore_n 1, 1) := by decide +kernel
theorem dX7_change_19 : decode eX7_change.2.1 19 = .ok (.iconst 0, 1) := by decide +kernel
theorem dX7_change_20 : decode eX7_change.2.1 20 = .ok (.istore_n 2, 1) := by decide +kernel
theorem dX7_change_21 : decode eX7_change.2.1 21 = .ok (.iconst 0, 1) := by decide +kernel
theorem dX7_change_22 : decode eX7_change.2.1 22 = .ok (.istore_n 3, 1) := by decide +kernel
theorem dX7_change_23 : decode eX7_change.2.1 23 = .ok (.iload_n 3, 1) := by decide +kernel
theorem dX7_change_24 : decode eX7_change.2.1 24 = .ok (.iload_n 1, 1) := by decide +kernel
theorem dX7_change_25 : decode eX7_change.2.1 25 = .ok (.if_icmp .ge 60, 3) := by decide +kernel
theorem dX7_change_28 : decode eX7_change.2.1 28 = .ok (.aload_n 0, 1) := by decide +kernel
theorem dX7_change_29 : decode eX7_change.2.1 29 = .ok (.getfield 19, 3) := by decide +kernel
theorem dX7_change_32 : decode eX7_change.2.1 32 = .ok (.invokevirtual 161, 3) := by decide +kernel
theorem dX7_change_35 : decode eX7_change.2.1 35 = .ok (.iconst 0, 1) := by decide +kernel
theorem dX7_change_36 : decode eX7_change.2.1 36 = .ok (.istore 4, 2) := by decide +kernel
theorem dX7_change_38 : decode eX7_change.2.1 38 = .ok (.iload 4, 2) := by decide +kernel
theorem dX7_change_40 : decode eX7_change.2.1 40 = .ok (.bipush 48, 2) := by decide +kernel
theorem dX7_change_42 : decode eX7_change.2.1 42 = .ok (.if_icmp .ge 37, 3) := by decide +kernel
theorem dX7_change_45 : decode eX7_change.2.1 45 = .ok (.iload_n 2, 1) := by decide +kernel
theorem dX7_change_46 : decode eX7_change.2.1 46 = .ok (.aload_n 0, 1) := by decide +kernel
theorem dX7_change_47 : decode eX7_change.2.1 47 = .ok (.getfield 19, 3) := by decide +kernel
theorem dX7_change_50 : decode eX7_change.2.1 50 = .ok (.iload 4, 2) := by decide +kernel
theorem dX7_change_52 : decode eX7_change.2.1 52 = .ok (.invokevirtual 149, 3) := by decide +kernel
theorem dX7_change_55 : decode eX7_change.2.1 55 = .ok (.aload_n 0, 1) := by decide +kernel
theorem dX7_change_56 : decode eX7_change.2.1 56 = .ok (.getfield 19, 3) := by decide +kernel
theorem dX7_change_59 : decode eX7_change.2.1 59 = .ok (.getfield 152, 3) := by decide +kernel
theorem dX7_change_62 : decode eX7_change.2.1 62 = .ok (.iload 4, 2) := by decide +kernel
theorem dX7_change_64 : decode eX7_change.2.1 64 = .ok (.iaload, 1) := by decide +kernel
theorem dX7_change_65 : decode eX7_change.2.1 65 = .ok (.isub, 1) := by decide +kernel
theorem dX7_change_66 : decode eX7_change.2.1 66 = .ok (.invokestatic 178, 3) := by decide +kernel
theorem dX7_change_69 : decode eX7_change.2.1 69 = .ok (.invokestatic 183, 3) := by decide +kernel
theorem dX7_change_72 : decode eX7_change.2.1 72 = .ok (.istore_n 2, 1) := by decide +kernel
theorem dX7_change_73 : decode eX7_change.2.1 73 = .ok (.iinc 4 1, 3) := by decide +kernel
theorem dX7_change_76 : decode eX7_change.2.1 76 = .ok (.goto (-38), 3) := by decide +kernel
theorem dX7_change_79 : decode eX7_change.2.1 79 = .ok (.iinc 3 1, 3) := by decide +kernel
theorem dX7_change_82 : decode eX7_change.2.1 82 = .ok (.goto (-59), 3) := by decide +kernel
theorem dX7_change_85 : decode eX7_change.2.1 85 = .ok (.iload_n 2, 1) := by decide +kernel
theorem dX7_change_86 : decode eX7_change.2.1 86 = .ok (.ireturn, 1) := by decide +kernel
theorem dX7_line_0 : decode eX7_line.2.1 0 = .ok (.iload_n 1, 1) := by decide +kernel
theorem dX7_line_1 : decode eX7_line.2.1 1 = .ok (.iconst 0, 1) := by decide +kernel
theorem dX7_line_2 : decode eX7_line.2.1 2 = .ok (.bipush 23, 2) := by decide +kernel
theorem dX7_line_4 : decode eX7_line.2.1 4 = .ok (.invokestatic 76, 3) := by decide +kernel
theorem dX7_line_7 : decode eX7_line.2.1 7 = .ok (.ifCond .eq 12, 3) := by decide +kernel
theorem dX7_line_10 : decode eX7_line.2.1 10 = .ok (.iload_n 2, 1) := by decide +kernel
theorem dX7_line_11 : decode eX7_line.2.1 11 = .ok (.iconst (-1), 1) := by decide +kernel
theorem dX7_line_12 : decode eX7_line.2.1 12 = .ok (.iconst 1, 1) := by decide +kernel
theorem dX7_line_13 : decode eX7_line.2.1 13 = .ok (.invokestatic 76, 3) := by decide +kernel
theorem dX7_line_16 : decode eX7_line.2.1 16 = .ok (.ifCond .ne 6, 3) := by decide +kernel
theorem dX7_line_19 : decode eX7_line.2.1 19 = .ok (.ldc 80, 2) := by decide +kernel
theorem dX7_line_21 : decode eX7_line.2.1 21 = .ok (.ireturn, 1) := by decide +kernel
theorem dX7_line_22 : decode eX7_line.2.1 22 = .ok (.iload_n 2, 1) := by decide +kernel
theorem dX7_line_23 : decode eX7_line.2.1 23 = .ok (.iconst (-1), 1) := by decide +kernel
theorem dX7_line_24 : decode eX7_line.2.1 24 = .ok (.if_icmp .ne 14, 3) := by decide +kernel
theorem dX7_line_27 : decode eX7_line.2.1 27 = .ok (.aload_n 0, 1) := by decide +kernel
theorem dX7_line_28 : decode eX7_line.2.1 28 = .ok (.getfield 25, 3) := by decide +kernel
theorem dX7_line_31 : decode eX7_line.2.1 31 = .ok (.iload_n 1, 1) := by decide +kernel
theorem dX7_line_32 : decode eX7_line.2.1 32 = .ok (.iconst (-1), 1) := by decide +kernel
theorem dX7_line_33 : decode eX7_line.2.1 33 = .ok (.iconst 0, 1) := by decide +kernel
theorem dX7_line_34 : decode eX7_line.2.1 34 = .ok (.invokevirtual 187, 3) := by decide +kernel
theorem dX7_line_37 : decode eX7_line.2.1 37 = .ok (.ireturn, 1) := by decide +kernel
theorem dX7_line_38 : decode eX7_line.2.1 38 = .ok (.iload_n 3, 1) := by decide +kernel
theorem dX7_line_39 : decode eX7_line.2.1 39 = .ok (.bipush 24, 2) := by decide +kernel
theorem dX7_line_41 : decode eX7_line.2.1 41 = .ok (.if_icmp .le 6, 3) := by decide +kernel
theorem dX7_line_44 : decode eX7_line.2.1 44 = .ok (.ldc 80, 2) := by decide +kernel
theorem dX7_line_46 : decode eX7_line.2.1 46 = .ok (.ireturn, 1) := by decide +kernel
theorem dX7_line_47 : decode eX7_line.2.1 47 = .ok (.iload_n 3, 1) := by decide +kernel
theorem dX7_line_48 : decode eX7_line.2.1 48 = .ok (.ifCond .ge 8, 3) := by decide +kernel
theorem dX7_line_51 : decode eX7_line.2.1 51 = .ok (.ldc 191, 2) := by decide +kernel
theorem dX7_line_53 : decode eX7_line.2.1 53 = .ok (.goto 13, 3) := by decide +kernel
theorem dX7_line_56 : decode eX7_line.2.1 56 = .ok (.aload_n 0, 1) := by decide +kernel
theorem dX7_line_57 : decode eX7_line.2.1 57 = .ok (.getfield 25, 3) := by decide +kernel
theorem dX7_line_60 : decode eX7_line.2.1 60 = .ok (.iload_n 1, 1) := by decide +kernel
theorem dX7_line_61 : decode eX7_line.2.1 61 = .ok (.iload_n 2, 1) := by decide +kernel
theorem dX7_line_62 : decode eX7_line.2.1 62 = .ok (.iload_n 3, 1) := by decide +kernel
theorem dX7_line_63 : decode eX7_line.2.1 63 = .ok (.invokevirtual 187, 3) := by decide +kernel
theorem dX7_line_66 : decode eX7_line.2.1 66 = .ok (.ireturn, 1) := by decide +kernel
theorem dX7_put_0 : decode eX7_put.2.1 0 = .ok (.iload_n 1, 1) := by decide +kernel
theorem dX7_put_1 : decode eX7_put.2.1 1 = .ok (.iconst 0, 1) := by decide +kernel
theorem dX7_put_2 : decode eX7_put.2.1 2 = .ok (.bipush 23, 2) := by decide +kernel
theorem dX7_put_4 : decode eX7_put.2.1 4 = .ok (.invokestatic 76, 3) := by decide +kernel
theorem dX7_put_7 : decode eX7_put.2.1 7 = .ok (.ifCond .ne 6, 3) := by decide +kernel
theorem dX7_put_10 : decode eX7_put.2.1 10 = .ok (.ldc 80, 2) := by decide +kernel
theorem dX7_put_12 : decode eX7_put.2.1 12 = .ok (.ireturn, 1) := by decide +kernel
theorem dX7_put_13 : decode eX7_put.2.1 13 = .ok (.aload_n 0, 1) := by decide +kernel
theorem dX7_put_14 : decode eX7_put.2.1 14 = .ok (.getfield 25, 3) := by decide +kernel
theorem dX7_put_17 : decode eX7_put.2.1 17 = .ok (.getfield 192, 3) := by decide +kernel
theorem dX7_put_20 : decode eX7_put.2.1 20 = .ok (.iload_n 1, 1) := by decide +kernel
theorem dX7_put_21 : decode eX7_put.2.1 21 = .ok (.iaload, 1) := by decide +kernel
theorem dX7_put_22 : decode eX7_put.2.1 22 = .ok (.iconst (-1), 1) := by decide +kernel
theorem dX7_put_23 : decode eX7_put.2.1 23 = .ok (.if_icmp .ne 6, 3) := by decide +kernel
theorem dX7_put_26 : decode eX7_put.2.1 26 = .ok (.ldc 195, 2) := by decide +kernel
theorem dX7_put_28 : decode eX7_put.2.1 28 = .ok (.ireturn, 1) := by decide +kernel
theorem dX7_put_29 : decode eX7_put.2.1 29 = .ok (.iload_n 2, 1) := by decide +kernel
theorem dX7_put_30 : decode eX7_put.2.1 30 = .ok (.iconst 0, 1) := by decide +kernel
theorem dX7_put_31 : decode eX7_put.2.1 31 = .ok (.aload_n 0, 1) := by decide +kernel
theorem dX7_put_32 : decode eX7_put.2.1 32 = .ok (.getfield 25, 3) := by decide +kernel
theorem dX7_put_35 : decode eX7_put.2.1 35 = .ok (.getfield 196, 3) := by decide +kernel
theorem dX7_put_38 : decode eX7_put.2.1 38 = .ok (.iload_n 1, 1) := by decide +kernel
theorem dX7_put_39 : decode eX7_put.2.1 39 = .ok (.iaload, 1) := by decide +kernel
theorem dX7_put_40 : decode eX7_put.2.1 40 = .ok (.iconst 1, 1) := by decide +kernel
theorem dX7_put_41 : decode eX7_put.2.1 41 = .ok (.isub, 1) := by decide +kernel
theorem dX7_put_42 : decode eX7_put.2.1 42 = .ok (.invokestatic 76, 3) := by decide +kernel
theorem dX7_put_45 : decode eX7_put.2.1 45 = .ok (.ifCond .ne 6, 3) := by decide +kernel
theorem dX7_put_48 : decode eX7_put.2.1 48 = .ok (.ldc 199, 2) := by decide +kernel
theorem dX7_put_50 : decode eX7_put.2.1 50 = .ok (.ireturn, 1) := by decide +kernel
theorem dX7_put_51 : decode eX7_put.2.1 51 = .ok (.aload_n 0, 1) := by decide +kernel
theorem dX7_put_52 : decode eX7_put.2.1 52 = .ok (.getfield 25, 3) := by decide +kernel
theorem dX7_put_55 : decode eX7_put.2.1 55 = .ok (.getfield 200, 3) := by decide +kernel
theorem dX7_put_58 : decode eX7_put.2.1 58 = .ok (.iload_n 1, 1) := by decide +kernel
theorem dX7_put_59 : decode eX7_put.2.1 59 = .ok (.aaload, 1) := by decide +kernel
theorem dX7_put_60 : decode eX7_put.2.1 60 = .ok (.iload_n 2, 1) := by decide +kernel
theorem dX7_put_61 : decode eX7_put.2.1 61 = .ok (.aload_n 0, 1) := by decide +kernel
theorem dX7_put_62 : decode eX7_put.2.1 62 = .ok (.getfield 25, 3) := by decide +kernel
theorem dX7_put_65 : decode eX7_put.2.1 65 = .ok (.getfield 192, 3) := by decide +kernel
theorem dX7_put_68 : decode eX7_put.2.1 68 = .ok (.iload_n 1, 1) := by decide +kernel
theorem dX7_put_69 : decode eX7_put.2.1 69 = .ok (.iaload, 1) := by decide +kernel
theorem dX7_put_70 : decode eX7_put.2.1 70 = .ok (.ifCond .ne 8, 3) := by decide +kernel
theorem dX7_put_73 : decode eX7_put.2.1 73 = .ok (.iload_n 3, 1) := by decide +kernel
theorem dX7_put_74 : decode eX7_put.2.1 74 = .ok (.i2b, 1) := by decide +kernel
theorem dX7_put_75 : decode eX7_put.2.1 75 = .ok (.goto 4, 3) := by decide +kernel
theorem dX7_put_78 : decode eX7_put.2.1 78 = .ok (.iload_n 3, 1) := by decide +kernel
theorem dX7_put_79 : decode eX7_put.2.1 79 = .ok (.invokestatic 130, 3) := by decide +kernel
theorem dX7_put_82 : decode eX7_put.2.1 82 = .ok (.ireturn, 1) := by decide +kernel
theorem dX7_copy_0 : decode eX7_copy.2.1 0 = .ok (.iload_n 1, 1) := by decide +kernel
theorem dX7_copy_1 : decode eX7_copy.2.1 1 = .ok (.iconst 0, 1) := by decide +kernel
theorem dX7_copy_2 : decode eX7_copy.2.1 2 = .ok (.bipush 23, 2) := by decide +kernel
theorem dX7_copy_4 : decode eX7_copy.2.1 4 = .ok (.invokestatic 76, 3) := by decide +kernel
theorem dX7_copy_7 : decode eX7_copy.2.1 7 = .ok (.ifCond .eq 13, 3) := by decide +kernel
theorem dX7_copy_10 : decode eX7_copy.2.1 10 = .ok (.iload_n 3, 1) := by decide +kernel
theorem dX7_copy_11 : decode eX7_copy.2.1 11 = .ok (.iconst 0, 1) := by decide +kernel
theorem dX7_copy_12 : decode eX7_copy.2.1 12 = .ok (.bipush 23, 2) := by decide +kernel
theorem dX7_copy_14 : decode eX7_copy.2.1 14 = .ok (.invokestatic 76, 3) := by decide +kernel
theorem dX7_copy_17 : decode eX7_copy.2.1 17 = .ok (.ifCond .ne 6, 3) := by decide +kernel
theorem dX7_copy_20 : decode eX7_copy.2.1 20 = .ok (.ldc 80, 2) := by decide +kernel
theorem dX7_copy_22 : decode eX7_copy.2.1 22 = .ok (.ireturn, 1) := by decide +kernel
theorem dX7_copy_23 : decode eX7_copy.2.1 23 = .ok (.aload_n 0, 1) := by decide +kernel
theorem dX7_copy_24 : decode eX7_copy.2.1 24 = .ok (.getfield 25, 3) := by decide +kernel
theorem dX7_copy_27 : decode eX7_copy.2.1 27 = .ok (.getfield 192, 3) := by decide +kernel
theorem dX7_copy_30 : decode eX7_copy.2.1 30 = .ok (.iload_n 1, 1) := by decide +kernel
theorem dX7_copy_31 : decode eX7_copy.2.1 31 = .ok (.iaload, 1) := by decide +kernel
theorem dX7_copy_32 : decode eX7_copy.2.1 32 = .ok (.iconst (-1), 1) := by decide +kernel
theorem dX7_copy_33 : decode eX7_copy.2.1 33 = .ok (.if_icmp .eq 16, 3) := by decide +kernel
theorem dX7_copy_36 : decode eX7_copy.2.1 36 = .ok (.aload_n 0, 1) := by decide +kernel
theorem dX7_copy_37 : decode eX7_copy.2.1 37 = .ok (.getfield 25, 3) := by decide +kernel
theorem dX7_copy_40 : decode eX7_copy.2.1 40 = .ok (.getfield 192, 3) := by decide +kernel
theorem dX7_copy_43 : decode eX7_copy.2.1 43 = .ok (.iload_n 3, 1) := by decide +kernel
theorem dX7_copy_44 : decode eX7_copy.2.1 44 = .ok (.iaload, 1) := by decide +kernel
theorem dX7_copy_45 : decode eX7_copy.2.1 45 = .ok (.iconst (-1), 1) := by decide +kernel
theorem dX7_copy_46 : decode eX7_copy.2.1 46 = .ok (.if_icmp .ne 6, 3) := by decide +kernel
theorem dX7_copy_49 : decode eX7_copy.2.1 49 = .ok (.ldc 195, 2) := by decide +kernel
theorem dX7_copy_51 : decode eX7_copy.2.1 51 = .ok (.ireturn, 1) := by decide +kernel
theorem dX7_copy_52 : decode eX7_copy.2.1 52 = .ok (.aload_n 0, 1) := by decide +kernel
theorem dX7_copy_53 : decode eX7_copy.2.1 53 = .ok (.getfield 25, 3) := by decide +kernel
theorem dX7_copy_56 : decode eX7_copy.2.1 56 = .ok (.getfield 192, 3) := by decide +kernel
theorem dX7_copy_59 : decode eX7_copy.2.1 59 = .ok (.iload_n 1, 1) := by decide +kernel
theorem dX7_copy_60 : decode eX7_copy.2.1 60 = .ok (.iaload, 1) := by decide +kernel
theorem dX7_copy_61 : decode eX7_copy.2.1 61 = .ok (.aload_n 0, 1) := by decide +kernel
theorem dX7_copy_62 : decode eX7_copy.2.1 62 = .ok (.getfield 25, 3) := by decide +kernel
theorem dX7_copy_65 : decode eX7_copy.2.1 65 = .ok (.getfield 192, 3) := by decide +kernel
theorem dX7_copy_68 : decode eX7_copy.2.1 68 = .ok (.iload_n 3, 1) := by decide +kernel
theorem dX7_copy_69 : decode eX7_copy.2.1 69 = .ok (.iaload, 1) := by decide +kernel
theorem dX7_copy_70 : decode eX7_copy.2.1 70 = .ok (.if_icmp .eq 6, 3) := by decide +kernel
theorem dX7_copy_73 : decode eX7_copy.2.1 73 = .ok (.ldc 126, 2) := by decide +kernel
theorem dX7_copy_75 : decode eX7_copy.2.1 75 = .ok (.ireturn, 1) := by decide +kernel
theorem dX7_copy_76 : decode eX7_copy.2.1 76 = .ok (.aload_n 0, 1) := by decide +kernel
theorem dX7_copy_77 : decode eX7_copy.2.1 77 = .ok (.getfield 25, 3) := by decide +kernel
theorem dX7_copy_80 : decode eX7_copy.2.1 80 = .ok (.iload_n 1, 1) := by decide +kernel
theorem dX7_copy_81 : decode eX7_copy.2.1 81 = .ok (.iload_n 2, 1) := by decide +kernel
theorem dX7_copy_82 : decode eX7_copy.2.1 82 = .ok (.iload 5, 2) := by decide +kernel
theorem dX7_copy_84 : decode eX7_copy.2.1 84 = .ok (.invokevirtual 204, 3) := by decide +kernel
theorem dX7_copy_87 : decode eX7_copy.2.1 87 = .ok (.ifCond .eq 18, 3) := by decide +kernel
theorem dX7_copy_90 : decode eX7_copy.2.1 90 = .ok (.aload_n 0, 1) := by decide +kernel
theorem dX7_copy_91 : decode eX7_copy.2.1 91 = .ok (.getfield 25, 3) := by decide +kernel
theorem dX7_copy_94 : decode eX7_copy.2.1 94 = .ok (.iload_n 3, 1) := by decide +kernel
theorem dX7_copy_95 : decode eX7_copy.2.1 95 = .ok (.iload 4, 2) := by decide +kernel
theorem dX7_copy_97 : decode eX7_copy.2.1 97 = .ok (.iload 5, 2) := by decide +kernel
theorem dX7_copy_99 : decode eX7_copy.2.1 99 = .ok (.invokevirtual 204, 3) := by decide +kernel
theorem dX7_copy_102 : decode eX7_copy.2.1 102 = .ok (.ifCond .ne 6, 3) := by decide +kernel
theorem dX7_copy_105 : decode eX7_copy.2.1 105 = .ok (.ldc 199, 2) := by decide +kernel
theorem dX7_copy_107 : decode eX7_copy.2.1 107 = .ok (.ireturn, 1) := by decide +kernel
theorem dX7_copy_108 : decode eX7_copy.2.1 108 = .ok (.aload_n 0, 1) := by decide +kernel
theorem dX7_copy_109 : decode eX7_copy.2.1 109 = .ok (.getfield 25, 3) := by decide +kernel
theorem dX7_copy_112 : decode eX7_copy.2.1 112 = .ok (.getfield 200, 3) := by decide +kernel
theorem dX7_copy_115 : decode eX7_copy.2.1 115 = .ok (.iload_n 1, 1) := by decide +kernel
theorem dX7_copy_116 : decode eX7_copy.2.1 116 = .ok (.aaload, 1) := by decide +kernel
theorem dX7_copy_117 : decode eX7_copy.2.1 117 = .ok (.iload_n 2, 1) := by decide +kernel
theorem dX7_copy_118 : decode eX7_copy.2.1 118 = .ok (.aload_n 0, 1) := by decide +kernel
theorem dX7_copy_119 : decode eX7_copy.2.1 119 = .ok (.getfield 25, 3) := by decide +kernel
theorem dX7_copy_122 : decode eX7_copy.2.1 122 = .ok (.getfield 200, 3) := by decide +kernel
theorem dX7_copy_125 : decode eX7_copy.2.1 125 = .ok (.iload_n 3, 1) := by decide +kernel
theorem dX7_copy_126 : decode eX7_copy.2.1 126 = .ok (.aaload, 1) := by decide +kernel
theorem dX7_copy_127 : decode eX7_copy.2.1 127 = .ok (.iload 4, 2) := by decide +kernel
theorem dX7_copy_129 : decode eX7_copy.2.1 129 = .ok (.iload 5, 2) := by decide +kernel
theorem dX7_copy_131 : decode eX7_copy.2.1 131 = .ok (.invokestatic 207, 3) := by decide +kernel
theorem dX7_copy_134 : decode eX7_copy.2.1 134 = .ok (.iload 5, 2) := by decide +kernel
theorem dX7_copy_136 : decode eX7_copy.2.1 136 = .ok (.ireturn, 1) := by decide +kernel
theorem dX7_ground_0 : decode eX7_ground.2.1 0 = .ok (.iload_n 1, 1) := by decide +kernel
theorem dX7_ground_1 : decode eX7_ground.2.1 1 = .ok (.invokestatic 213, 3) := by decide +kernel
theorem dX7_ground_4 : decode eX7_ground.2.1 4 = .ok (.ifCond .eq 13, 3) := by decide +kernel
theorem dX7_ground_7 : decode eX7_ground.2.1 7 = .ok (.iload_n 2, 1) := by decide +kernel
theorem dX7_ground_8 : decode eX7_ground.2.1 8 = .ok (.iconst 0, 1) := by decide +kernel
theorem dX7_ground_9 : decode eX7_ground.2.1 9 = .ok (.bipush 47, 2) := by decide +kernel
theorem dX7_ground_11 : decode eX7_ground.2.1 11 = .ok (.invokestatic 76, 3) := by decide +kernel
theorem dX7_ground_14 : decode eX7_ground.2.1 14 = .ok (.ifCond .ne 6, 3) := by decide +kernel
theorem dX7_ground_17 : decode eX7_ground.2.1 17 = .ok (.ldc 80, 2) := by decide +kernel
theorem dX7_ground_19 : decode eX7_ground.2.1 19 = .ok (.ireturn, 1) := by decide +kernel
theorem dX7_ground_20 : decode eX7_ground.2.1 20 = .ok (.aload_n 0, 1) := by decide +kernel
theorem dX7_ground_21 : decode eX7_ground.2.1 21 = .ok (.getfield 25, 3) := by decide +kernel
theorem dX7_ground_24 : decode eX7_ground.2.1 24 = .ok (.iload_n 1, 1) := by decide +kernel
theorem dX7_ground_25 : decode eX7_ground.2.1 25 = .ok (.iload_n 2, 1) := by decide +kernel
theorem dX7_ground_26 : decode eX7_ground.2.1 26 = .ok (.invokevirtual 217, 3) := by decide +kernel
theorem dX7_ground_29 : decode eX7_ground.2.1 29 = .ok (.ireturn, 1) := by decide +kernel
theorem dX7_ask_0 : decode eX7_ask.2.1 0 = .ok (.iload_n 1, 1) := by decide +kernel
theorem dX7_ask_1 : decode eX7_ask.2.1 1 = .ok (.invokestatic 213, 3) := by decide +kernel
theorem dX7_ask_4 : decode eX7_ask.2.1 4 = .ok (.ifCond .eq 12, 3) := by decide +kernel
theorem dX7_ask_7 : decode eX7_ask.2.1 7 = .ok (.iload_n 2, 1) := by decide +kernel
theorem dX7_ask_8 : decode eX7_ask.2.1 8 = .ok (.iconst 0, 1) := by decide +kernel
theorem dX7_ask_9 : decode eX7_ask.2.1 9 = .ok (.iconst 3, 1) := by decide +kernel
theorem dX7_ask_10 : decode eX7_ask.2.1 10 = .ok (.invokestatic 76, 3) := by decide +kernel
theorem dX7_ask_13 : decode eX7_ask.2.1 13 = .ok (.ifCond .ne 6, 3) := by decide +kernel
theorem dX7_ask_16 : decode eX7_ask.2.1 16 = .ok (.ldc 80, 2) := by decide +kernel
theorem dX7_ask_18 : decode eX7_ask.2.1 18 = .ok (.ireturn, 1) := by decide +kernel
theorem dX7_ask_19 : decode eX7_ask.2.1 19 = .ok (.aload_n 0, 1) := by decide +kernel
theorem dX7_ask_20 : decode eX7_ask.2.1 20 = .ok (.getfield 25, 3) := by decide +kernel
theorem dX7_ask_23 : decode eX7_ask.2.1 23 = .ok (.iload_n 1, 1) := by decide +kernel
theorem dX7_ask_24 : decode eX7_ask.2.1 24 = .ok (.aload_n 0, 1) := by decide +kernel
theorem dX7_ask_25 : decode eX7_ask.2.1 25 = .ok (.getfield 10, 3) := by decide +kernel
theorem dX7_ask_28 : decode eX7_ask.2.1 28 = .ok (.getfield 146, 3) := by decide +kernel
theorem dX7_ask_31 : decode eX7_ask.2.1 31 = .ok (.iconst 2, 1) := by decide +kernel
theorem dX7_ask_32 : decode eX7_ask.2.1 32 = .ok (.iaload, 1) := by decide +kernel
theorem dX7_ask_33 : decode eX7_ask.2.1 33 = .ok (.invokevirtual 220, 3) := by decide +kernel
theorem dX7_ask_36 : decode eX7_ask.2.1 36 = .ok (.iload_n 2, 1) := by decide +kernel
theorem dX7_ask_37 : decode eX7_ask.2.1 37 = .ok (.iaload, 1) := by decide +kernel
theorem dX7_ask_38 : decode eX7_ask.2.1 38 = .ok (.ireturn, 1) := by decide +kernel
theorem dX7_feed_0 : decode eX7_feed.2.1 0 = .ok (.aload_n 0, 1) := by decide +kernel
theorem dX7_feed_1 : decode eX7_feed.2.1 1 = .ok (.getfield 32, 3) := by decide +kernel
theorem dX7_feed_4 : decode eX7_feed.2.1 4 = .ok (.getfield 224, 3) := by decide +kernel
theorem dX7_feed_7 : decode eX7_feed.2.1 7 = .ok (.bipush 12, 2) := by decide +kernel
theorem dX7_feed_9 : decode eX7_feed.2.1 9 = .ok (.iadd, 1) := by decide +kernel
theorem dX7_feed_10 : decode eX7_feed.2.1 10 = .ok (.bipush 96, 2) := by decide +kernel
theorem dX7_feed_12 : decode eX7_feed.2.1 12 = .ok (.if_icmp .le 6, 3) := by decide +kernel
theorem dX7_feed_15 : decode eX7_feed.2.1 15 = .ok (.ldc 89, 2) := by decide +kernel
theorem dX7_feed_17 : decode eX7_feed.2.1 17 = .ok (.ireturn, 1) := by decide +kernel
theorem dX7_feed_18 : decode eX7_feed.2.1 18 = .ok (.aload_n 0, 1) := by decide +kernel
theorem dX7_feed_19 : decode eX7_feed.2.1 19 = .ok (.getfield 32, 3) := by decide +kernel
theorem dX7_feed_22 : decode eX7_feed.2.1 22 = .ok (.iload_n 1, 1) := by decide +kernel
theorem dX7_feed_23 : decode eX7_feed.2.1 23 = .ok (.invokevirtual 226, 3) := by decide +kernel
theorem dX7_feed_26 : decode eX7_feed.2.1 26 = .ok (.aload_n 0, 1) := by decide +kernel
theorem dX7_feed_27 : decode eX7_feed.2.1 27 = .ok (.getfield 32, 3) := by decide +kernel
theorem dX7_feed_30 : decode eX7_feed.2.1 30 = .ok (.iload_n 2, 1) := by decide +kernel
theorem dX7_feed_31 : decode eX7_feed.2.1 31 = .ok (.invokevirtual 226, 3) := by decide +kernel
theorem dX7_feed_34 : decode eX7_feed.2.1 34 = .ok (.aload_n 0, 1) := by decide +kernel
theorem dX7_feed_35 : decode eX7_feed.2.1 35 = .ok (.getfield 32, 3) := by decide +kernel
theorem dX7_feed_38 : decode eX7_feed.2.1 38 = .ok (.iload_n 3, 1) := by decide +kernel
theorem dX7_feed_39 : decode eX7_feed.2.1 39 = .ok (.invokevirtual 226, 3) := by decide +kernel
theorem dX7_feed_42 : decode eX7_feed.2.1 42 = .ok (.aload_n 0, 1) := by decide +kernel
theorem dX7_feed_43 : decode eX7_feed.2.1 43 = .ok (.getfield 32, 3) := by decide +kernel
theorem dX7_feed_46 : decode eX7_feed.2.1 46 = .ok (.getfield 224, 3) := by decide +kernel
theorem dX7_feed_49 : decode eX7_feed.2.1 49 = .ok (.ireturn, 1) := by decide +kernel
theorem dX7_trim_0 : decode eX7_trim.2.1 0 = .ok (.iload_n 1, 1) := by decide +kernel
theorem dX7_trim_1 : decode eX7_trim.2.1 1 = .ok (.iconst 0, 1) := by decide +kernel
theorem dX7_trim_2 : decode eX7_trim.2.1 2 = .ok (.aload_n 0, 1) := by decide +kernel
theorem dX7_trim_3 : decode eX7_trim.2.1 3 = .ok (.getfield 32, 3) := by decide +kernel
theorem dX7_trim_6 : decode eX7_trim.2.1 6 = .ok (.getfield 224, 3) := by decide +kernel
theorem dX7_trim_9 : decode eX7_trim.2.1 9 = .ok (.invokestatic 76, 3) := by decide +kernel
theorem dX7_trim_12 : decode eX7_trim.2.1 12 = .ok (.ifCond .ne 6, 3) := by decide +kernel
theorem dX7_trim_15 : decode eX7_trim.2.1 15 = .ok (.ldc 80, 2) := by decide +kernel
theorem dX7_trim_17 : decode eX7_trim.2.1 17 = .ok (.ireturn, 1) := by decide +kernel
theorem dX7_trim_18 : decode eX7_trim.2.1 18 = .ok (.aload_n 0, 1) := by decide +kernel
theorem dX7_trim_19 : decode eX7_trim.2.1 19 = .ok (.getfield 32, 3) := by decide +kernel
theorem dX7_trim_22 : decode eX7_trim.2.1 22 = .ok (.iload_n 1, 1) := by decide +kernel
theorem dX7_trim_23 : decode eX7_trim.2.1 23 = .ok (.putfield 224, 3) := by decide +kernel
theorem dX7_trim_26 : decode eX7_trim.2.1 26 = .ok (.iload_n 1, 1) := by decide +kernel
theorem dX7_trim_27 : decode eX7_trim.2.1 27 = .ok (.ireturn, 1) := by decide +kernel
theorem dX7_text_0 : decode eX7_text.2.1 0 = .ok (.aload_n 0, 1) := by decide +kernel
theorem dX7_text_1 : decode eX7_text.2.1 1 = .ok (.getfield 32, 3) := by decide +kernel
theorem dX7_text_4 : decode eX7_text.2.1 4 = .ok (.invokevirtual 230, 3) := by decide +kernel
theorem dX7_text_7 : decode eX7_text.2.1 7 = .ok (.istore_n 2, 1) := by decide +kernel
theorem dX7_text_8 : decode eX7_text.2.1 8 = .ok (.aload_n 0, 1) := by decide +kernel
theorem dX7_text_9 : decode eX7_text.2.1 9 = .ok (.getfield 32, 3) := by decide +kernel
theorem dX7_text_12 : decode eX7_text.2.1 12 = .ok (.iconst 0, 1) := by decide +kernel
theorem dX7_text_13 : decode eX7_text.2.1 13 = .ok (.putfield 224, 3) := by decide +kernel
theorem dX7_text_16 : decode eX7_text.2.1 16 = .ok (.iload_n 1, 1) := by decide +kernel
theorem dX7_text_17 : decode eX7_text.2.1 17 = .ok (.iconst 0, 1) := by decide +kernel
theorem dX7_text_18 : decode eX7_text.2.1 18 = .ok (.sipush 9999, 3) := by decide +kernel
theorem dX7_text_21 : decode eX7_text.2.1 21 = .ok (.invokestatic 76, 3) := by decide +kernel
theorem dX7_text_24 : decode eX7_text.2.1 24 = .ok (.ifCond .ne 6, 3) := by decide +kernel
theorem dX7_text_27 : decode eX7_text.2.1 27 = .ok (.ldc 80, 2) := by decide +kernel
theorem dX7_text_29 : decode eX7_text.2.1 29 = .ok (.ireturn, 1) := by decide +kernel
theorem dX7_text_30 : decode eX7_text.2.1 30 = .ok (.iload_n 2, 1) := by decide +kernel
theorem dX7_text_31 : decode eX7_text.2.1 31 = .ok (.ifCond .lt 8, 3) := by decide +kernel
theorem dX7_text_34 : decode eX7_text.2.1 34 = .ok (.bipush (-100), 2) := by decide +kernel
theorem dX7_text_36 : decode eX7_text.2.1 36 = .ok (.iload_n 2, 1) := by decide +kernel
theorem dX7_text_37 : decode eX7_text.2.1 37 = .ok (.isub, 1) := by decide +kernel
theorem dX7_text_38 : decode eX7_text.2.1 38 = .ok (.ireturn, 1) := by decide +kernel
theorem dX7_text_39 : decode eX7_text.2.1 39 = .ok (.aload_n 0, 1) := by decide +kernel
theorem dX7_text_40 : decode eX7_text.2.1 40 = .ok (.getfield 10, 3) := by decide +kernel
theorem dX7_text_43 : decode eX7_text.2.1 43 = .ok (.getfield 233, 3) := by decide +kernel
theorem dX7_text_46 : decode eX7_text.2.1 46 = .ok (.bipush 14, 2) := by decide +kernel
theorem dX7_text_48 : decode eX7_text.2.1 48 = .ok (.if_icmp .lt 6, 3) := by decide +kernel
theorem dX7_text_51 : decode eX7_text.2.1 51 = .ok (.ldc 89, 2) := by decide +kernel
theorem dX7_text_53 : decode eX7_text.2.1 53 = .ok (.ireturn, 1) := by decide +kernel
theorem dX7_text_54 : decode eX7_text.2.1 54 = .ok (.aload_n 0, 1) := by decide +kernel
theorem dX7_text_55 : decode eX7_text.2.1 55 = .ok (.getfield 39, 3) := by decide +kernel
theorem dX7_text_58 : decode eX7_text.2.1 58 = .ok (.aload_n 0, 1) := by decide +kernel
theorem dX7_text_59 : decode eX7_text.2.1 59 = .ok (.getfield 10, 3) := by decide +kernel
theorem dX7_text_62 : decode eX7_text.2.1 62 = .ok (.getfield 233, 3) := by decide +kernel
theorem dX7_text_65 : decode eX7_text.2.1 65 = .ok (.iload_n 1, 1) := by decide +kernel
theorem dX7_text_66 : decode eX7_text.2.1 66 = .ok (.aload_n 0, 1) := by decide +kernel
theorem dX7_text_67 : decode eX7_text.2.1 67 = .ok (.getfield 32, 3) := by decide +kernel
theorem dX7_text_70 : decode eX7_text.2.1 70 = .ok (.invokevirtual 235, 3) := by decide +kernel
theorem dX7_text_73 : decode eX7_text.2.1 73 = .ok (.aload_n 0, 1) := by decide +kernel
theorem dX7_text_74 : decode eX7_text.2.1 74 = .ok (.getfield 10, 3) := by decide +kernel
theorem dX7_text_77 : decode eX7_text.2.1 77 = .ok (.dup, 1) := by decide +kernel
theorem dX7_text_78 : decode eX7_text.2.1 78 = .ok (.getfield 233, 3) := by decide +kernel
theorem dX7_text_81 : decode eX7_text.2.1 81 = .ok (.dup_x1, 1) := by decide +kernel
theorem dX7_text_82 : decode eX7_text.2.1 82 = .ok (.iconst 1, 1) := by decide +kernel
theorem dX7_text_83 : decode eX7_text.2.1 83 = .ok (.iadd, 1) := by decide +kernel
theorem dX7_text_84 : decode eX7_text.2.1 84 = .ok (.putfield 233, 3) := by decide +kernel
theorem dX7_text_87 : decode eX7_text.2.1 87 = .ok (.ireturn, 1) := by decide +kernel
theorem dX7_of_0 : decode eX7_of.2.1 0 = .ok (.iload_n 1, 1) := by decide +kernel
theorem dX7_of_1 : decode eX7_of.2.1 1 = .ok (.iconst 0, 1) := by decide +kernel
theorem dX7_of_2 : decode eX7_of.2.1 2 = .ok (.aload_n 0, 1) := by decide +kernel
theorem dX7_of_3 : decode eX7_of.2.1 3 = .ok (.getfield 10, 3) := by decide +kernel
theorem dX7_of_6 : decode eX7_of.2.1 6 = .ok (.getfield 233, 3) := by decide +kernel
theorem dX7_of_9 : decode eX7_of.2.1 9 = .ok (.iconst 1, 1) := by decide +kernel
theorem dX7_of_10 : decode eX7_of.2.1 10 = .ok (.isub, 1) := by decide +kernel
theorem dX7_of_11 : decode eX7_of.2.1 11 = .ok (.invokestatic 76, 3) := by decide +kernel
theorem dX7_of_14 : decode eX7_of.2.1 14 = .ok (.ifCond .ne 6, 3) := by decide +kernel
theorem dX7_of_17 : decode eX7_of.2.1 17 = .ok (.ldc 80, 2) := by decide +kernel
theorem dX7_of_19 : decode eX7_of.2.1 19 = .ok (.ireturn, 1) := by decide +kernel
theorem dX7_of_20 : decode eX7_of.2.1 20 = .ok (.iload_n 2, 1) := by decide +kernel
theorem dX7_of_21 : decode eX7_of.2.1 21 = .ok (.tableswitch 57 0 2 #[27, 37, 47], 27) := by decide +kernel
theorem dX7_of_48 : decode eX7_of.2.1 48 = .ok (.aload_n 0, 1) := by decide +kernel
theorem dX7_of_49 : decode eX7_of.2.1 49 = .ok (.getfield 39, 3) := by decide +kernel
theorem dX7_of_52 : decode eX7_of.2.1 52 = .ok (.getfield 239, 3) := by decide +kernel
theorem dX7_of_55 : decode eX7_of.2.1 55 = .ok (.iload_n 1, 1) := by decide +kernel
theorem dX7_of_56 : decode eX7_of.2.1 56 = .ok (.iaload, 1) := by decide +kernel
theorem dX7_of_57 : decode eX7_of.2.1 57 = .ok (.ireturn, 1) := by decide +kernel
theorem dX7_of_58 : decode eX7_of.2.1 58 = .ok (.aload_n 0, 1) := by decide +kernel
theorem dX7_of_59 : decode eX7_of.2.1 59 = .ok (.getfield 39, 3) := by decide +kernel
theorem dX7_of_62 : decode eX7_of.2.1 62 = .ok (.getfield 240, 3) := by decide +kernel
theorem dX7_of_65 : decode eX7_of.2.1 65 = .ok (.iload_n 1, 1) := by decide +kernel
theorem dX7_of_66 : decode eX7_of.2.1 66 = .ok (.iaload, 1) := by decide +kernel
theorem dX7_of_67 : decode eX7_of.2.1 67 = .ok (.ireturn, 1) := by decide +kernel
theorem dX7_of_68 : decode eX7_of.2.1 68 = .ok (.aload_n 0, 1) := by decide +kernel
theorem dX7_of_69 : decode eX7_of.2.1 69 = .ok (.getfield 39, 3) := by decide +kernel
theorem dX7_of_72 : decode eX7_of.2.1 72 = .ok (.getfield 243, 3) := by decide +kernel
theorem dX7_of_75 : decode eX7_of.2.1 75 = .ok (.iload_n 1, 1) := by decide +kernel
theorem dX7_of_76 : decode eX7_of.2.1 76 = .ok (.iaload, 1) := by decide +kernel
theorem dX7_of_77 : decode eX7_of.2.1 77 = .ok (.ireturn, 1) := by decide +kernel
theorem dX7_of_78 : decode eX7_of.2.1 78 = .ok (.ldc 80, 2) := by decide +kernel
theorem dX7_of_80 : decode eX7_of.2.1 80 = .ok (.ireturn, 1) := by decide +kernel
theorem dX7_why_0 : decode eX7_why.2.1 0 = .ok (.iload_n 1, 1) := by decide +kernel
theorem dX7_why_1 : decode eX7_why.2.1 1 = .ok (.iconst 0, 1) := by decide +kernel
theorem dX7_why_2 : decode eX7_why.2.1 2 = .ok (.bipush 6, 2) := by decide +kernel
theorem dX7_why_4 : decode eX7_why.2.1 4 = .ok (.invokestatic 76, 3) := by decide +kernel
theorem dX7_why_7 : decode eX7_why.2.1 7 = .ok (.ifCond .eq 18, 3) := by decide +kernel
theorem dX7_why_10 : decode eX7_why.2.1 10 = .ok (.aload_n 0, 1) := by decide +kernel
theorem dX7_why_11 : decode eX7_why.2.1 11 = .ok (.getfield 39, 3) := by decide +kernel
theorem dX7_why_14 : decode eX7_why.2.1 14 = .ok (.iload_n 1, 1) := by decide +kernel
theorem dX7_why_15 : decode eX7_why.2.1 15 = .ok (.aload_n 0, 1) := by decide +kernel
theorem dX7_why_16 : decode eX7_why.2.1 16 = .ok (.getfield 10, 3) := by decide +kernel
theorem dX7_why_19 : decode eX7_why.2.1 19 = .ok (.invokevirtual 246, 3) := by decide +kernel
theorem dX7_why_22 : decode eX7_why.2.1 22 = .ok (.goto 5, 3) := by decide +kernel
theorem dX7_why_25 : decode eX7_why.2.1 25 = .ok (.ldc 80, 2) := by decide +kernel
theorem dX7_why_27 : decode eX7_why.2.1 27 = .ok (.ireturn, 1) := by decide +kernel
theorem dX7_gives_0 : decode eX7_gives.2.1 0 = .ok (.iload_n 1, 1) := by decide +kernel
theorem dX7_gives_1 : decode eX7_gives.2.1 1 = .ok (.iconst 0, 1) := by decide +kernel
theorem dX7_gives_2 : decode eX7_gives.2.1 2 = .ok (.bipush 6, 2) := by decide +kernel
theorem dX7_gives_4 : decode eX7_gives.2.1 4 = .ok (.invokestatic 76, 3) := by decide +kernel
theorem dX7_gives_7 : decode eX7_gives.2.1 7 = .ok (.ifCond .ne 6, 3) := by decide +kernel
theorem dX7_gives_10 : decode eX7_gives.2.1 10 = .ok (.ldc 80, 2) := by decide +kernel
theorem dX7_gives_12 : decode eX7_gives.2.1 12 = .ok (.ireturn, 1) := by decide +kernel
theorem dX7_gives_13 : decode eX7_gives.2.1 13 = .ok (.aload_n 0, 1) := by decide +kernel
theorem dX7_gives_14 : decode eX7_gives.2.1 14 = .ok (.getfield 39, 3) := by decide +kernel
theorem dX7_gives_17 : decode eX7_gives.2.1 17 = .ok (.iload_n 1, 1) := by decide +kernel
theorem dX7_gives_18 : decode eX7_gives.2.1 18 = .ok (.aload_n 0, 1) := by decide +kernel
theorem dX7_gives_19 : decode eX7_gives.2.1 19 = .ok (.getfield 10, 3) := by decide +kernel
theorem dX7_gives_22 : decode eX7_gives.2.1 22 = .ok (.invokevirtual 246, 3) := by decide +kernel
theorem dX7_gives_25 : decode eX7_gives.2.1 25 = .ok (.istore 6, 2) := by decide +kernel
theorem dX7_gives_27 : decode eX7_gives.2.1 27 = .ok (.iload 6, 2) := by decide +kernel
theorem dX7_gives_29 : decode eX7_gives.2.1 29 = .ok (.ldc 84, 2) := by decide +kernel
theorem dX7_gives_31 : decode eX7_gives.2.1 31 = .ok (.if_icmp .ne 8, 3) := by decide +kernel
theorem dX7_gives_34 : decode eX7_gives.2.1 34 = .ok (.ldc 84, 2) := by decide +kernel
theorem dX7_gives_36 : decode eX7_gives.2.1 36 = .ok (.goto 18, 3) := by decide +kernel
theorem dX7_gives_39 : decode eX7_gives.2.1 39 = .ok (.aload_n 0, 1) := by decide +kernel
theorem dX7_gives_40 : decode eX7_gives.2.1 40 = .ok (.getfield 39, 3) := by decide +kernel
theorem dX7_gives_43 : decode eX7_gives.2.1 43 = .ok (.iload 6, 2) := by decide +kernel
theorem dX7_gives_45 : decode eX7_gives.2.1 45 = .ok (.iload_n 2, 1) := by decide +kernel
theorem dX7_gives_46 : decode eX7_gives.2.1 46 = .ok (.iload_n 3, 1) := by decide +kernel
theorem dX7_gives_47 : decode eX7_gives.2.1 47 = .ok (.iload 4, 2) := by decide +kernel
theorem dX7_gives_49 : decode eX7_gives.2.1 49 = .ok (.iload 5, 2) := by decide +kernel
theorem dX7_gives_51 : decode eX7_gives.2.1 51 = .ok (.invokevirtual 250, 3) := by decide +kernel
theorem dX7_gives_54 : decode eX7_gives.2.1 54 = .ok (.ireturn, 1) := by decide +kernel
theorem dX7_habit_0 : decode eX7_habit.2.1 0 = .ok (.iload_n 1, 1) := by decide +kernel
theorem dX7_habit_1 : decode eX7_habit.2.1 1 = .ok (.invokestatic 213, 3) := by decide +kernel
theorem dX7_habit_4 : decode eX7_habit.2.1 4 = .ok (.ifCond .ne 6, 3) := by decide +kernel
theorem dX7_habit_7 : decode eX7_habit.2.1 7 = .ok (.ldc 80, 2) := by decide +kernel
theorem dX7_habit_9 : decode eX7_habit.2.1 9 = .ok (.ireturn, 1) := by decide +kernel
theorem dX7_habit_10 : decode eX7_habit.2.1 10 = .ok (.aload_n 0, 1) := by decide +kernel
theorem dX7_habit_11 : decode eX7_habit.2.1 11 = .ok (.getfield 25, 3) := by decide +kernel
theorem dX7_habit_14 : decode eX7_habit.2.1 14 = .ok (.iload_n 1, 1) := by decide +kernel
theorem dX7_habit_15 : decode eX7_habit.2.1 15 = .ok (.aload_n 0, 1) := by decide +kernel
theorem dX7_habit_16 : decode eX7_habit.2.1 16 = .ok (.getfield 10, 3) := by decide +kernel
theorem dX7_habit_19 : decode eX7_habit.2.1 19 = .ok (.getfield 146, 3) := by decide +kernel
theorem dX7_habit_22 : decode eX7_habit.2.1 22 = .ok (.iconst 2, 1) := by decide +kernel
theorem dX7_habit_23 : decode eX7_habit.2.1 23 = .ok (.iaload, 1) := by decide +kernel
theorem dX7_habit_24 : decode eX7_habit.2.1 24 = .ok (.invokevirtual 220, 3) := by decide +kernel
theorem dX7_habit_27 : decode eX7_habit.2.1 27 = .ok (.astore_n 2, 1) := by decide +kernel
theorem dX7_habit_28 : decode eX7_habit.2.1 28 = .ok (.iconst 0, 1) := by decide +kernel
theorem dX7_habit_29 : decode eX7_habit.2.1 29 = .ok (.istore_n 3, 1) := by decide +kernel
theorem dX7_habit_30 : decode eX7_habit.2.1 30 = .ok (.iconst 0, 1) := by decide +kernel
theorem dX7_habit_31 : decode eX7_habit.2.1 31 = .ok (.istore 4, 2) := by decide +kernel
theorem dX7_habit_33 : decode eX7_habit.2.1 33 = .ok (.iload 4, 2) := by decide +kernel
theorem dX7_habit_35 : decode eX7_habit.2.1 35 = .ok (.bipush 6, 2) := by decide +kernel
theorem dX7_habit_37 : decode eX7_habit.2.1 37 = .ok (.if_icmp .ge 86, 3) := by decide +kernel
theorem dX7_habit_40 : decode eX7_habit.2.1 40 = .ok (.aload_n 0, 1) := by decide +kernel
theorem dX7_habit_41 : decode eX7_habit.2.1 41 = .ok (.getfield 39, 3) := by decide +kernel
theorem dX7_habit_44 : decode eX7_habit.2.1 44 = .ok (.iload 4, 2) := by decide +kernel
theorem dX7_habit_46 : decode eX7_habit.2.1 46 = .ok (.aload_n 0, 1) := by decide +kernel
theorem dX7_habit_47 : decode eX7_habit.2.1 47 = .ok (.getfield 10, 3) := by decide +kernel
theorem dX7_habit_50 : decode eX7_habit.2.1 50 = .ok (.invokevirtual 246, 3) := by decide +kernel
theorem dX7_habit_53 : decode eX7_habit.2.1 53 = .ok (.istore 5, 2) := by decide +kernel
theorem dX7_habit_55 : decode eX7_habit.2.1 55 = .ok (.iload 5, 2) := by decide +kernel
theorem dX7_habit_57 : decode eX7_habit.2.1 57 = .ok (.ldc 84, 2) := by decide +kernel
theorem dX7_habit_59 : decode eX7_habit.2.1 59 = .ok (.if_icmp .eq 58, 3) := by decide +kernel
theorem dX7_habit_62 : decode eX7_habit.2.1 62 = .ok (.aload_n 0, 1) := by decide +kernel
theorem dX7_habit_63 : decode eX7_habit.2.1 63 = .ok (.getfield 39, 3) := by decide +kernel
theorem dX7_habit_66 : decode eX7_habit.2.1 66 = .ok (.iload 5, 2) := by decide +kernel
theorem dX7_habit_68 : decode eX7_habit.2.1 68 = .ok (.aload_n 2, 1) := by decide +kernel
theorem dX7_habit_69 : decode eX7_habit.2.1 69 = .ok (.iconst 0, 1) := by decide +kernel
theorem dX7_habit_70 : decode eX7_habit.2.1 70 = .ok (.iaload, 1) := by decide +kernel
theorem dX7_habit_71 : decode eX7_habit.2.1 71 = .ok (.aload_n 2, 1) := by decide +kernel
theorem dX7_habit_72 : decode eX7_habit.2.1 72 = .ok (.iconst 1, 1) := by decide +kernel
theorem dX7_habit_73 : decode eX7_habit.2.1 73 = .ok (.iaload, 1) := by decide +kernel
theorem dX7_habit_74 : decode eX7_habit.2.1 74 = .ok (.aload_n 2, 1) := by decide +kernel
theorem dX7_habit_75 : decode eX7_habit.2.1 75 = .ok (.iconst 2, 1) := by decide +kernel
theorem dX7_habit_76 : decode eX7_habit.2.1 76 = .ok (.iaload, 1) := by decide +kernel
theorem dX7_habit_77 : decode eX7_habit.2.1 77 = .ok (.aload_n 2, 1) := by decide +kernel
theorem dX7_habit_78 : decode eX7_habit.2.1 78 = .ok (.iconst 3, 1) := by decide +kernel
theorem dX7_habit_79 : decode eX7_habit.2.1 79 = .ok (.iaload, 1) := by decide +kernel
theorem dX7_habit_80 : decode eX7_habit.2.1 80 = .ok (.invokevirtual 250, 3) := by decide +kernel
theorem dX7_habit_83 : decode eX7_habit.2.1 83 = .ok (.bipush 9, 2) := by decide +kernel
theorem dX7_habit_85 : decode eX7_habit.2.1 85 = .ok (.invokestatic 253, 3) := by decide +kernel
theorem dX7_habit_88 : decode eX7_habit.2.1 88 = .ok (.istore 6, 2) := by decide +kernel
theorem dX7_habit_90 : decode eX7_habit.2.1 90 = .ok (.iload_n 3, 1) := by decide +kernel
theorem dX7_habit_91 : decode eX7_habit.2.1 91 = .ok (.aload_n 0, 1) := by decide +kernel
theorem dX7_habit_92 : decode eX7_habit.2.1 92 = .ok (.getfield 10, 3) := by decide +kernel
theorem dX7_habit_95 : decode eX7_habit.2.1 95 = .ok (.getfield 137, 3) := by decide +kernel
theorem dX7_habit_98 : decode eX7_habit.2.1 98 = .ok (.iload 4, 2) := by decide +kernel
theorem dX7_habit_100 : decode eX7_habit.2.1 100 = .ok (.iload 6, 2) := by decide +kernel
theorem dX7_habit_102 : decode eX7_habit.2.1 102 = .ok (.invokestatic 130, 3) := by decide +kernel
theorem dX7_habit_105 : decode eX7_habit.2.1 105 = .ok (.iload 6, 2) := by decide +kernel
theorem dX7_habit_107 : decode eX7_habit.2.1 107 = .ok (.if_icmp .ne 7, 3) := by decide +kernel
theorem dX7_habit_110 : decode eX7_habit.2.1 110 = .ok (.iconst 0, 1) := by decide +kernel
theorem dX7_habit_111 : decode eX7_habit.2.1 111 = .ok (.goto 4, 3) := by decide +kernel
theorem dX7_habit_114 : decode eX7_habit.2.1 114 = .ok (.iconst 1, 1) := by decide +kernel
theorem dX7_habit_115 : decode eX7_habit.2.1 115 = .ok (.iadd, 1) := by decide +kernel
theorem dX7_habit_116 : decode eX7_habit.2.1 116 = .ok (.istore_n 3, 1) := by decide +kernel
theorem dX7_habit_117 : decode eX7_habit.2.1 117 = .ok (.iinc 4 1, 3) := by decide +kernel
theorem dX7_habit_120 : decode eX7_habit.2.1 120 = .ok (.goto (-87), 3) := by decide +kernel
theorem dX7_habit_123 : decode eX7_habit.2.1 123 = .ok (.iload_n 3, 1) := by decide +kernel
theorem dX7_habit_124 : decode eX7_habit.2.1 124 = .ok (.ireturn, 1) := by decide +kernel
theorem dX7_seen_0 : decode eX7_seen.2.1 0 = .ok (.iload_n 1, 1) := by decide +kernel
theorem dX7_seen_1 : decode eX7_seen.2.1 1 = .ok (.invokestatic 213, 3) := by decide +kernel
theorem dX7_seen_4 : decode eX7_seen.2.1 4 = .ok (.ifCond .eq 13, 3) := by decide +kernel
theorem dX7_seen_7 : decode eX7_seen.2.1 7 = .ok (.iload_n 2, 1) := by decide +kernel
theorem dX7_seen_8 : decode eX7_seen.2.1 8 = .ok (.iconst 0, 1) := by decide +kernel
theorem dX7_seen_9 : decode eX7_seen.2.1 9 = .ok (.bipush 47, 2) := by decide +kernel
theorem dX7_seen_11 : decode eX7_seen.2.1 11 = .ok (.invokestatic 76, 3) := by decide +kernel
theorem dX7_seen_14 : decode eX7_seen.2.1 14 = .ok (.ifCond .ne 6, 3) := by decide +kernel
theorem dX7_seen_17 : decode eX7_seen.2.1 17 = .ok (.ldc 80, 2) := by decide +kernel
theorem dX7_seen_19 : decode eX7_seen.2.1 19 = .ok (.ireturn, 1) := by decide +kernel
theorem dX7_seen_20 : decode eX7_seen.2.1 20 = .ok (.aload_n 0, 1) := by decide +kernel
theorem dX7_seen_21 : decode eX7_seen.2.1 21 = .ok (.aload_n 0, 1) := by decide +kernel
theorem dX7_seen_22 : decode eX7_seen.2.1 22 = .ok (.getfield 10, 3) := by decide +kernel
theorem dX7_seen_25 : decode eX7_seen.2.1 25 = .ok (.iload_n 1, 1) := by decide +kernel
theorem dX7_seen_26 : decode eX7_seen.2.1 26 = .ok (.invokevirtual 256, 3) := by decide +kernel
theorem dX7_seen_29 : decode eX7_seen.2.1 29 = .ok (.aload_n 0, 1) := by decide +kernel
theorem dX7_seen_30 : decode eX7_seen.2.1 30 = .ok (.getfield 46, 3) := by decide +kernel
theorem dX7_seen_33 : decode eX7_seen.2.1 33 = .ok (.iload_n 2, 1) := by decide +kernel
theorem dX7_seen_34 : decode eX7_seen.2.1 34 = .ok (.aload_n 0, 1) := by decide +kernel
theorem dX7_seen_35 : decode eX7_seen.2.1 35 = .ok (.getfield 39, 3) := by decide +kernel
theorem dX7_seen_38 : decode eX7_seen.2.1 38 = .ok (.aload_n 0, 1) := by decide +kernel
theorem dX7_seen_39 : decode eX7_seen.2.1 39 = .ok (.getfield 39, 3) := by decide +kernel
theorem dX7_seen_42 : decode eX7_seen.2.1 42 = .ok (.bipush 6, 2) := by decide +kernel
theorem dX7_seen_44 : decode eX7_seen.2.1 44 = .ok (.aload_n 0, 1) := by decide +kernel
theorem dX7_seen_45 : decode eX7_seen.2.1 45 = .ok (.getfield 10, 3) := by decide +kernel
theorem dX7_seen_48 : decode eX7_seen.2.1 48 = .ok (.invokevirtual 246, 3) := by decide +kernel
theorem dX7_seen_51 : decode eX7_seen.2.1 51 = .ok (.invokevirtual 260, 3) := by decide +kernel
theorem dX7_seen_54 : decode eX7_seen.2.1 54 = .ok (.ifCond .eq 7, 3) := by decide +kernel
theorem dX7_seen_57 : decode eX7_seen.2.1 57 = .ok (.iconst 1, 1) := by decide +kernel
theorem dX7_seen_58 : decode eX7_seen.2.1 58 = .ok (.goto 4, 3) := by decide +kernel
theorem dX7_seen_61 : decode eX7_seen.2.1 61 = .ok (.iconst 0, 1) := by decide +kernel
theorem dX7_seen_62 : decode eX7_seen.2.1 62 = .ok (.ireturn, 1) := by decide +kernel
theorem dX7_beast_0 : decode eX7_beast.2.1 0 = .ok (.iload_n 1, 1) := by decide +kernel
theorem dX7_beast_1 : decode eX7_beast.2.1 1 = .ok (.invokestatic 213, 3) := by decide +kernel
theorem dX7_beast_4 : decode eX7_beast.2.1 4 = .ok (.ifCond .eq 12, 3) := by decide +kernel
theorem dX7_beast_7 : decode eX7_beast.2.1 7 = .ok (.iload_n 2, 1) := by decide +kernel
theorem dX7_beast_8 : decode eX7_beast.2.1 8 = .ok (.iconst 0, 1) := by decide +kernel
theorem dX7_beast_9 : decode eX7_beast.2.1 9 = .ok (.iconst 4, 1) := by decide +kernel
theorem dX7_beast_10 : decode eX7_beast.2.1 10 = .ok (.invokestatic 76, 3) := by decide +kernel
theorem dX7_beast_13 : decode eX7_beast.2.1 13 = .ok (.ifCond .ne 6, 3) := by decide +kernel
theorem dX7_beast_16 : decode eX7_beast.2.1 16 = .ok (.ldc 80, 2) := by decide +kernel
theorem dX7_beast_18 : decode eX7_beast.2.1 18 = .ok (.ireturn, 1) := by decide +kernel
theorem dX7_beast_19 : decode eX7_beast.2.1 19 = .ok (.aload_n 0, 1) := by decide +kernel
theorem dX7_beast_20 : decode eX7_beast.2.1 20 = .ok (.aload_n 0, 1) := by decide +kernel
theorem dX7_beast_21 : decode eX7_beast.2.1 21 = .ok (.getfield 10, 3) := by decide +kernel
theorem dX7_beast_24 : decode eX7_beast.2.1 24 = .ok (.iload_n 1, 1) := by decide +kernel
theorem dX7_beast_25 : decode eX7_beast.2.1 25 = .ok (.invokevirtual 264, 3) := by decide +kernel
theorem dX7_beast_28 : decode eX7_beast.2.1 28 = .ok (.istore_n 3, 1) := by decide +kernel
theorem dX7_beast_29 : decode eX7_beast.2.1 29 = .ok (.aload_n 0, 1) := by decide +kernel
theorem dX7_beast_30 : decode eX7_beast.2.1 30 = .ok (.getfield 46, 3) := by decide +kernel
theorem dX7_beast_33 : decode eX7_beast.2.1 33 = .ok (.invokevirtual 268, 3) := by decide +kernel
theorem dX7_beast_36 : decode eX7_beast.2.1 36 = .ok (.iload_n 2, 1) := by decide +kernel
theorem dX7_beast_37 : decode eX7_beast.2.1 37 = .ok (.tableswitch 74 0 3 #[31, 33, 41, 49], 31) := by decide +kernel
theorem dX7_beast_68 : decode eX7_beast.2.1 68 = .ok (.iload_n 3, 1) := by decide +kernel
theorem dX7_beast_69 : decode eX7_beast.2.1 69 = .ok (.ireturn, 1) := by decide +kernel
theorem dX7_beast_70 : decode eX7_beast.2.1 70 = .ok (.aload_n 0, 1) := by decide +kernel
theorem dX7_beast_71 : decode eX7_beast.2.1 71 = .ok (.getfield 46, 3) := by decide +kernel
theorem dX7_beast_74 : decode eX7_beast.2.1 74 = .ok (.getfield 271, 3) := by decide +kernel
theorem dX7_beast_77 : decode eX7_beast.2.1 77 = .ok (.ireturn, 1) := by decide +kernel
theorem dX7_beast_78 : decode eX7_beast.2.1 78 = .ok (.aload_n 0, 1) := by decide +kernel
theorem dX7_beast_79 : decode eX7_beast.2.1 79 = .ok (.getfield 46, 3) := by decide +kernel
theorem dX7_beast_82 : decode eX7_beast.2.1 82 = .ok (.getfield 274, 3) := by decide +kernel
theorem dX7_beast_85 : decode eX7_beast.2.1 85 = .ok (.ireturn, 1) := by decide +kernel
theorem dX7_beast_86 : decode eX7_beast.2.1 86 = .ok (.aload_n 0, 1) := by decide +kernel
theorem dX7_beast_87 : decode eX7_beast.2.1 87 = .ok (.getfield 46, 3) := by decide +kernel
theorem dX7_beast_90 : decode eX7_beast.2.1 90 = .ok (.getfield 271, 3) := by decide +kernel
theorem dX7_beast_93 : decode eX7_beast.2.1 93 = .ok (.aload_n 0, 1) := by decide +kernel
theorem dX7_beast_94 : decode eX7_beast.2.1 94 = .ok (.getfield 10, 3) := by decide +kernel
theorem dX7_beast_97 : decode eX7_beast.2.1 97 = .ok (.getfield 146, 3) := by decide +kernel
theorem dX7_beast_100 : decode eX7_beast.2.1 100 = .ok (.iconst 3, 1) := by decide +kernel
theorem dX7_beast_101 : decode eX7_beast.2.1 101 = .ok (.iaload, 1) := by decide +kernel
theorem dX7_beast_102 : decode eX7_beast.2.1 102 = .ok (.if_icmp .lt 7, 3) := by decide +kernel
theorem dX7_beast_105 : decode eX7_beast.2.1 105 = .ok (.iconst 1, 1) := by decide +kernel
theorem dX7_beast_106 : decode eX7_beast.2.1 106 = .ok (.goto 4, 3) := by decide +kernel
theorem dX7_beast_109 : decode eX7_beast.2.1 109 = .ok (.iconst 0, 1) := by decide +kernel
theorem dX7_beast_110 : decode eX7_beast.2.1 110 = .ok (.ireturn, 1) := by decide +kernel
theorem dX7_beast_111 : decode eX7_beast.2.1 111 = .ok (.aload_n 0, 1) := by decide +kernel
theorem dX7_beast_112 : decode eX7_beast.2.1 112 = .ok (.getfield 46, 3) := by decide +kernel
theorem dX7_beast_115 : decode eX7_beast.2.1 115 = .ok (.getfield 277, 3) := by decide +kernel
theorem dX7_beast_118 : decode eX7_beast.2.1 118 = .ok (.ireturn, 1) := by decide +kernel
theorem dX7_hide_0 : decode eX7_hide.2.1 0 = .ok (.iload_n 1, 1) := by decide +kernel
theorem dX7_hide_1 : decode eX7_hide.2.1 1 = .ok (.invokestatic 213, 3) := by decide +kernel
theorem dX7_hide_4 : decode eX7_hide.2.1 4 = .ok (.ifCond .eq 23, 3) := by decide +kernel
theorem dX7_hide_7 : decode eX7_hide.2.1 7 = .ok (.aload_n 0, 1) := by decide +kernel
theorem dX7_hide_8 : decode eX7_hide.2.1 8 = .ok (.getfield 53, 3) := by decide +kernel
theorem dX7_hide_11 : decode eX7_hide.2.1 11 = .ok (.iload_n 2, 1) := by decide +kernel
theorem dX7_hide_12 : decode eX7_hide.2.1 12 = .ok (.invokevirtual 280, 3) := by decide +kernel
theorem dX7_hide_15 : decode eX7_hide.2.1 15 = .ok (.ifCond .eq 12, 3) := by decide +kernel
theorem dX7_hide_18 : decode eX7_hide.2.1 18 = .ok (.iload_n 3, 1) := by decide +kernel
theorem dX7_hide_19 : decode eX7_hide.2.1 19 = .ok (.iconst 0, 1) := by decide +kernel
theorem dX7_hide_20 : decode eX7_hide.2.1 20 = .ok (.iconst 1, 1) := by decide +kernel
theorem dX7_hide_21 : decode eX7_hide.2.1 21 = .ok (.invokestatic 76, 3) := by decide +kernel
theorem dX7_hide_24 : decode eX7_hide.2.1 24 = .ok (.ifCond .ne 6, 3) := by decide +kernel
theorem dX7_hide_27 : decode eX7_hide.2.1 27 = .ok (.ldc 80, 2) := by decide +kernel
theorem dX7_hide_29 : decode eX7_hide.2.1 29 = .ok (.ireturn, 1) := by decide +kernel
theorem dX7_hide_30 : decode eX7_hide.2.1 30 = .ok (.aload_n 0, 1) := by decide +kernel
theorem dX7_hide_31 : decode eX7_hide.2.1 31 = .ok (.getfield 53, 3) := by decide +kernel
theorem dX7_hide_34 : decode eX7_hide.2.1 34 = .ok (.aload_n 0, 1) := by decide +kernel
theorem dX7_hide_35 : decode eX7_hide.2.1 35 = .ok (.getfield 10, 3) := by decide +kernel
theorem dX7_hide_38 : decode eX7_hide.2.1 38 = .ok (.aload_n 0, 1) := by decide +kernel
theorem dX7_hide_39 : decode eX7_hide.2.1 39 = .ok (.getfield 25, 3) := by decide +kernel
theorem dX7_hide_42 : decode eX7_hide.2.1 42 = .ok (.iload_n 1, 1) := by decide +kernel
theorem dX7_hide_43 : decode eX7_hide.2.1 43 = .ok (.invokevirtual 283, 3) := by decide +kernel
theorem dX7_hide_46 : decode eX7_hide.2.1 46 = .ok (.aload_n 0, 1) := by decide +kernel
theorem dX7_hide_47 : decode eX7_hide.2.1 47 = .ok (.getfield 53, 3) := by decide +kernel
theorem dX7_hide_50 : decode eX7_hide.2.1 50 = .ok (.aload_n 0, 1) := by decide +kernel
theorem dX7_hide_51 : decode eX7_hide.2.1 51 = .ok (.getfield 39, 3) := by decide +kernel
theorem dX7_hide_54 : decode eX7_hide.2.1 54 = .ok (.aload_n 0, 1) := by decide +kernel
theorem dX7_hide_55 : decode eX7_hide.2.1 55 = .ok (.getfield 39, 3) := by decide +kernel
theorem dX7_hide_58 : decode eX7_hide.2.1 58 = .ok (.bipush 6, 2) := by decide +kernel
theorem dX7_hide_60 : decode eX7_hide.2.1 60 = .ok (.aload_n 0, 1) := by decide +kernel
theorem dX7_hide_61 : decode eX7_hide.2.1 61 = .ok (.getfield 10, 3) := by decide +kernel
theorem dX7_hide_64 : decode eX7_hide.2.1 64 = .ok (.invokevirtual 246, 3) := by decide +kernel
theorem dX7_hide_67 : decode eX7_hide.2.1 67 = .ok (.invokevirtual 287, 3) := by decide +kernel
theorem dX7_hide_70 : decode eX7_hide.2.1 70 = .ok (.iload_n 3, 1) := by decide +kernel
theorem dX7_hide_71 : decode eX7_hide.2.1 71 = .ok (.ifCond .ne 13, 3) := by decide +kernel
theorem dX7_hide_74 : decode eX7_hide.2.1 74 = .ok (.aload_n 0, 1) := by decide +kernel
theorem dX7_hide_75 : decode eX7_hide.2.1 75 = .ok (.getfield 53, 3) := by decide +kernel
theorem dX7_hide_78 : decode eX7_hide.2.1 78 = .ok (.getfield 291, 3) := by decide +kernel
theorem dX7_hide_81 : decode eX7_hide.2.1 81 = .ok (.goto 10, 3) := by decide +kernel
theorem dX7_hide_84 : decode eX7_hide.2.1 84 = .ok (.aload_n 0, 1) := by decide +kernel
theorem dX7_hide_85 : decode eX7_hide.2.1 85 = .ok (.getfield 53, 3) := by decide +kernel
theorem dX7_hide_88 : decode eX7_hide.2.1 88 = .ok (.getfield 294, 3) := by decide +kernel
theorem dX7_hide_91 : decode eX7_hide.2.1 91 = .ok (.ireturn, 1) := by decide +kernel
theorem dX7_misses_0 : decode eX7_misses.2.1 0 = .ok (.iload_n 1, 1) := by decide +kernel
theorem dX7_misses_1 : decode eX7_misses.2.1 1 = .ok (.invokestatic 213, 3) := by decide +kernel
theorem dX7_misses_4 : decode eX7_misses.2.1 4 = .ok (.ifCond .eq 23, 3) := by decide +kernel
theorem dX7_misses_7 : decode eX7_misses.2.1 7 = .ok (.aload_n 0, 1) := by decide +kernel
theorem dX7_misses_8 : decode eX7_misses.2.1 8 = .ok (.getfield 53, 3) := by decide +kernel
theorem dX7_misses_11 : decode eX7_misses.2.1 11 = .ok (.iload_n 2, 1) := by decide +kernel
theorem dX7_misses_12 : decode eX7_misses.2.1 12 = .ok (.invokevirtual 280, 3) := by decide +kernel
theorem dX7_misses_15 : decode eX7_misses.2.1 15 = .ok (.ifCond .eq 12, 3) := by decide +kernel
theorem dX7_misses_18 : decode eX7_misses.2.1 18 = .ok (.iload_n 3, 1) := by decide +kernel
theorem dX7_misses_19 : decode eX7_misses.2.1 19 = .ok (.iconst 0, 1) := by decide +kernel
theorem dX7_misses_20 : decode eX7_misses.2.1 20 = .ok (.iconst 1, 1) := by decide +kernel
theorem dX7_misses_21 : decode eX7_misses.2.1 21 = .ok (.invokestatic 76, 3) := by decide +kernel
theorem dX7_misses_24 : decode eX7_misses.2.1 24 = .ok (.ifCond .ne 6, 3) := by decide +kernel
theorem dX7_misses_27 : decode eX7_misses.2.1 27 = .ok (.ldc 80, 2) := by decide +kernel
theorem dX7_misses_29 : decode eX7_misses.2.1 29 = .ok (.ireturn, 1) := by decide +kernel
theorem dX7_misses_30 : decode eX7_misses.2.1 30 = .ok (.aload_n 0, 1) := by decide +kernel
theorem dX7_misses_31 : decode eX7_misses.2.1 31 = .ok (.getfield 53, 3) := by decide +kernel
theorem dX7_misses_34 : decode eX7_misses.2.1 34 = .ok (.aload_n 0, 1) := by decide +kernel
theorem dX7_misses_35 : decode eX7_misses.2.1 35 = .ok (.getfield 10, 3) := by decide +kernel
theorem dX7_misses_38 : decode eX7_misses.2.1 38 = .ok (.aload_n 0, 1) := by decide +kernel
theorem dX7_misses_39 : decode eX7_misses.2.1 39 = .ok (.getfield 25, 3) := by decide +kernel
theorem dX7_misses_42 : decode eX7_misses.2.1 42 = .ok (.iload_n 1, 1) := by decide +kernel
theorem dX7_misses_43 : decode eX7_misses.2.1 43 = .ok (.invokevirtual 283, 3) := by decide +kernel
theorem dX7_misses_46 : decode eX7_misses.2.1 46 = .ok (.aload_n 0, 1) := by decide +kernel
theorem dX7_misses_47 : decode eX7_misses.2.1 47 = .ok (.getfield 53, 3) := by decide +kernel
theorem dX7_misses_50 : decode eX7_misses.2.1 50 = .ok (.invokevirtual 297, 3) := by decide +kernel
theorem dX7_misses_53 : decode eX7_misses.2.1 53 = .ok (.iload_n 3, 1) := by decide +kernel
theorem dX7_misses_54 : decode eX7_misses.2.1 54 = .ok (.ifCond .ne 13, 3) := by decide +kernel
theorem dX7_misses_57 : decode eX7_misses.2.1 57 = .ok (.aload_n 0, 1) := by decide +kernel
theorem dX7_misses_58 : decode eX7_misses.2.1 58 = .ok (.getfield 53, 3) := by decide +kernel
theorem dX7_misses_61 : decode eX7_misses.2.1 61 = .ok (.getfield 291, 3) := by decide +kernel
theorem dX7_misses_64 : decode eX7_misses.2.1 64 = .ok (.goto 10, 3) := by decide +kernel
theorem dX7_misses_67 : decode eX7_misses.2.1 67 = .ok (.aload_n 0, 1) := by decide +kernel
theorem dX7_misses_68 : decode eX7_misses.2.1 68 = .ok (.getfield 53, 3) := by decide +kernel
theorem dX7_misses_71 : decode eX7_misses.2.1 71 = .ok (.getfield 294, 3) := by decide +kernel
theorem dX7_misses_74 : decode eX7_misses.2.1 74 = .ok (.ireturn, 1) := by decide +kernel
theorem dX7_half_0 : decode eX7_half.2.1 0 = .ok (.iload_n 1, 1) := by decide +kernel
theorem dX7_half_1 : decode eX7_half.2.1 1 = .ok (.invokestatic 213, 3) := by decide +kernel
theorem dX7_half_4 : decode eX7_half.2.1 4 = .ok (.ifCond .eq 12, 3) := by decide +kernel
theorem dX7_half_7 : decode eX7_half.2.1 7 = .ok (.iload_n 2, 1) := by decide +kernel
theorem dX7_half_8 : decode eX7_half.2.1 8 = .ok (.iconst 0, 1) := by decide +kernel
theorem dX7_half_9 : decode eX7_half.2.1 9 = .ok (.iconst 5, 1) := by decide +kernel
theorem dX7_half_10 : decode eX7_half.2.1 10 = .ok (.invokestatic 76, 3) := by decide +kernel
theorem dX7_half_13 : decode eX7_half.2.1 13 = .ok (.ifCond .ne 6, 3) := by decide +kernel
theorem dX7_half_16 : decode eX7_half.2.1 16 = .ok (.ldc 80, 2) := by decide +kernel
theorem dX7_half_18 : decode eX7_half.2.1 18 = .ok (.ireturn, 1) := by decide +kernel
theorem dX7_half_19 : decode eX7_half.2.1 19 = .ok (.aload_n 0, 1) := by decide +kernel
theorem dX7_half_20 : decode eX7_half.2.1 20 = .ok (.getfield 25, 3) := by decide +kernel
theorem dX7_half_23 : decode eX7_half.2.1 23 = .ok (.iload_n 1, 1) := by decide +kernel
theorem dX7_half_24 : decode eX7_half.2.1 24 = .ok (.aload_n 0, 1) := by decide +kernel
theorem dX7_half_25 : decode eX7_half.2.1 25 = .ok (.getfield 10, 3) := by decide +kernel
theorem dX7_half_28 : decode eX7_half.2.1 28 = .ok (.getfield 146, 3) := by decide +kernel
theorem dX7_half_31 : decode eX7_half.2.1 31 = .ok (.iconst 2, 1) := by decide +kernel
theorem dX7_half_32 : decode eX7_half.2.1 32 = .ok (.iaload, 1) := by decide +kernel
theorem dX7_half_33 : decode eX7_half.2.1 33 = .ok (.invokevirtual 220, 3) := by decide +kernel
theorem dX7_half_36 : decode eX7_half.2.1 36 = .ok (.iconst 0, 1) := by decide +kernel
theorem dX7_half_37 : decode eX7_half.2.1 37 = .ok (.iaload, 1) := by decide +kernel
theorem dX7_half_38 : decode eX7_half.2.1 38 = .ok (.istore_n 3, 1) := by decide +kernel
theorem dX7_half_39 : decode eX7_half.2.1 39 = .ok (.iconst 0, 1) := by decide +kernel
theorem dX7_half_40 : decode eX7_half.2.1 40 = .ok (.istore 4, 2) := by decide +kernel
theorem dX7_half_42 : decode eX7_half.2.1 42 = .ok (.iconst 0, 1) := by decide +kernel
theorem dX7_half_43 : decode eX7_half.2.1 43 = .ok (.istore 5, 2) := by decide +kernel
theorem dX7_half_45 : decode eX7_half.2.1 45 = .ok (.iload 5, 2) := by decide +kernel
theorem dX7_half_47 : decode eX7_half.2.1 47 = .ok (.aload_n 0, 1) := by decide +kernel
theorem dX7_half_48 : decode eX7_half.2.1 48 = .ok (.getfield 10, 3) := by decide +kernel
theorem dX7_half_51 : decode eX7_half.2.1 51 = .ok (.getfield 86, 3) := by decide +kernel
theorem dX7_half_54 : decode eX7_half.2.1 54 = .ok (.if_icmp .ge 63, 3) := by decide +kernel
theorem dX7_half_57 : decode eX7_half.2.1 57 = .ok (.aload_n 0, 1) := by decide +kernel
theorem dX7_half_58 : decode eX7_half.2.1 58 = .ok (.getfield 10, 3) := by decide +kernel
theorem dX7_half_61 : decode eX7_half.2.1 61 = .ok (.getfield 127, 3) := by decide +kernel
theorem dX7_half_64 : decode eX7_half.2.1 64 = .ok (.aload_n 0, 1) := by decide +kernel
theorem dX7_half_65 : decode eX7_half.2.1 65 = .ok (.getfield 10, 3) := by decide +kernel
theorem dX7_half_68 : decode eX7_half.2.1 68 = .ok (.getfield 106, 3) := by decide +kernel
theorem dX7_half_71 : decode eX7_half.2.1 71 = .ok (.iload 5, 2) := by decide +kernel
theorem dX7_half_73 : decode eX7_half.2.1 73 = .ok (.iaload, 1) := by decide +kernel
theorem dX7_half_74 : decode eX7_half.2.1 74 = .ok (.iaload, 1) := by decide +kernel
theorem dX7_half_75 : decode eX7_half.2.1 75 = .ok (.iload_n 2, 1) := by decide +kernel
theorem dX7_half_76 : decode eX7_half.2.1 76 = .ok (.if_icmp .ne 35, 3) := by decide +kernel
theorem dX7_half_79 : decode eX7_half.2.1 79 = .ok (.iload 4, 2) := by decide +kernel
theorem dX7_half_81 : decode eX7_half.2.1 81 = .ok (.aload_n 0, 1) := by decide +kernel
theorem dX7_half_82 : decode eX7_half.2.1 82 = .ok (.getfield 25, 3) := by decide +kernel
theorem dX7_half_85 : decode eX7_half.2.1 85 = .ok (.iload_n 1, 1) := by decide +kernel
theorem dX7_half_86 : decode eX7_half.2.1 86 = .ok (.aload_n 0, 1) := by decide +kernel
theorem dX7_half_87 : decode eX7_half.2.1 87 = .ok (.getfield 10, 3) := by decide +kernel
theorem dX7_half_90 : decode eX7_half.2.1 90 = .ok (.getfield 97, 3) := by decide +kernel
theorem dX7_half_93 : decode eX7_half.2.1 93 = .ok (.iload 5, 2) := by decide +kernel
theorem dX7_half_95 : decode eX7_half.2.1 95 = .ok (.iaload, 1) := by decide +kernel
theorem dX7_half_96 : decode eX7_half.2.1 96 = .ok (.invokevirtual 217, 3) := by decide +kernel
theorem dX7_half_99 : decode eX7_half.2.1 99 = .ok (.iload_n 3, 1) := by decide +kernel
theorem dX7_half_100 : decode eX7_half.2.1 100 = .ok (.if_icmp .le 7, 3) := by decide +kernel
theorem dX7_half_103 : decode eX7_half.2.1 103 = .ok (.iconst 1, 1) := by decide +kernel
theorem dX7_half_104 : decode eX7_half.2.1 104 = .ok (.goto 4, 3) := by decide +kernel
theorem dX7_half_107 : decode eX7_half.2.1 107 = .ok (.iconst (-1), 1) := by decide +kernel
theorem dX7_half_108 : decode eX7_half.2.1 108 = .ok (.iadd, 1) := by decide +kernel
theorem dX7_half_109 : decode eX7_half.2.1 109 = .ok (.istore 4, 2) := by decide +kernel
theorem dX7_half_111 : decode eX7_half.2.1 111 = .ok (.iinc 5 1, 3) := by decide +kernel
theorem dX7_half_114 : decode eX7_half.2.1 114 = .ok (.goto (-69), 3) := by decide +kernel
theorem dX7_half_117 : decode eX7_half.2.1 117 = .ok (.iload 4, 2) := by decide +kernel
theorem dX7_half_119 : decode eX7_half.2.1 119 = .ok (.ireturn, 1) := by decide +kernel
theorem dX7_learn_0 : decode eX7_learn.2.1 0 = .ok (.iload_n 1, 1) := by decide +kernel
theorem dX7_learn_1 : decode eX7_learn.2.1 1 = .ok (.invokestatic 213, 3) := by decide +kernel
theorem dX7_learn_4 : decode eX7_learn.2.1 4 = .ok (.ifCond .eq 13, 3) := by decide +kernel
theorem dX7_learn_7 : decode eX7_learn.2.1 7 = .ok (.iload_n 2, 1) := by decide +kernel
theorem dX7_learn_8 : decode eX7_learn.2.1 8 = .ok (.iconst 0, 1) := by decide +kernel
theorem dX7_learn_9 : decode eX7_learn.2.1 9 = .ok (.bipush 9, 2) := by decide +kernel
theorem dX7_learn_11 : decode eX7_learn.2.1 11 = .ok (.invokestatic 76, 3) := by decide +kernel
theorem dX7_learn_14 : decode eX7_learn.2.1 14 = .ok (.ifCond .ne 6, 3) := by decide +kernel
theorem dX7_learn_17 : decode eX7_learn.2.1 17 = .ok (.ldc 80, 2) := by decide +kernel
theorem dX7_learn_19 : decode eX7_learn.2.1 19 = .ok (.ireturn, 1) := by decide +kernel
theorem dX7_learn_20 : decode eX7_learn.2.1 20 = .ok (.aload_n 0, 1) := by decide +kernel
theorem dX7_learn_21 : decode eX7_learn.2.1 21 = .ok (.getfield 10, 3) := by decide +kernel
theorem dX7_learn_24 : decode eX7_learn.2.1 24 = .ok (.getfield 300, 3) := by decide +kernel
theorem dX7_learn_27 : decode eX7_learn.2.1 27 = .ok (.bipush 8, 2) := by decide +kernel
theorem dX7_learn_29 : decode eX7_learn.2.1 29 = .ok (.if_icmp .lt 6, 3) := by decide +kernel
theorem dX7_learn_32 : decode eX7_learn.2.1 32 = .ok (.ldc 89, 2) := by decide +kernel
theorem dX7_learn_34 : decode eX7_learn.2.1 34 = .ok (.ireturn, 1) := by decide +kernel
theorem dX7_learn_35 : decode eX7_learn.2.1 35 = .ok (.aload_n 0, 1) := by decide +kernel
theorem dX7_learn_36 : decode eX7_learn.2.1 36 = .ok (.getfield 60, 3) := by decide +kernel
theorem dX7_learn_39 : decode eX7_learn.2.1 39 = .ok (.getfield 303, 3) := by decide +kernel
theorem dX7_learn_42 : decode eX7_learn.2.1 42 = .ok (.aload_n 0, 1) := by decide +kernel
theorem dX7_learn_43 : decode eX7_learn.2.1 43 = .ok (.getfield 10, 3) := by decide +kernel
theorem dX7_learn_46 : decode eX7_learn.2.1 46 = .ok (.getfield 300, 3) := by decide +kernel
theorem dX7_learn_49 : decode eX7_learn.2.1 49 = .ok (.iload_n 2, 1) := by decide +kernel
theorem dX7_learn_50 : decode eX7_learn.2.1 50 = .ok (.iastore, 1) := by decide +kernel
theorem dX7_learn_51 : decode eX7_learn.2.1 51 = .ok (.aload_n 0, 1) := by decide +kernel
theorem dX7_learn_52 : decode eX7_learn.2.1 52 = .ok (.getfield 25, 3) := by decide +kernel
theorem dX7_learn_55 : decode eX7_learn.2.1 55 = .ok (.iload_n 1, 1) := by decide +kernel
theorem dX7_learn_56 : decode eX7_learn.2.1 56 = .ok (.aload_n 0, 1) := by decide +kernel
theorem dX7_learn_57 : decode eX7_learn.2.1 57 = .ok (.getfield 10, 3) := by decide +kernel
theorem dX7_learn_60 : decode eX7_learn.2.1 60 = .ok (.getfield 146, 3) := by decide +kernel
theorem dX7_learn_63 : decode eX7_learn.2.1 63 = .ok (.iconst 2, 1) := by decide +kernel
theorem dX7_learn_64 : decode eX7_learn.2.1 64 = .ok (.iaload, 1) := by decide +kernel
theorem dX7_learn_65 : decode eX7_learn.2.1 65 = .ok (.invokevirtual 220, 3) := by decide +kernel
theorem dX7_learn_68 : decode eX7_learn.2.1 68 = .ok (.iconst 0, 1) := by decide +kernel
theorem dX7_learn_69 : decode eX7_learn.2.1 69 = .ok (.aload_n 0, 1) := by decide +kernel
theorem dX7_learn_70 : decode eX7_learn.2.1 70 = .ok (.getfield 60, 3) := by decide +kernel
theorem dX7_learn_73 : decode eX7_learn.2.1 73 = .ok (.getfield 306, 3) := by decide +kernel
theorem dX7_learn_76 : decode eX7_learn.2.1 76 = .ok (.aload_n 0, 1) := by decide +kernel
theorem dX7_learn_77 : decode eX7_learn.2.1 77 = .ok (.getfield 10, 3) := by decide +kernel
theorem dX7_learn_80 : decode eX7_learn.2.1 80 = .ok (.getfield 300, 3) := by decide +kernel
theorem dX7_learn_83 : decode eX7_learn.2.1 83 = .ok (.aaload, 1) := by decide +kernel
theorem dX7_learn_84 : decode eX7_learn.2.1 84 = .ok (.iconst 0, 1) := by decide +kernel
theorem dX7_learn_85 : decode eX7_learn.2.1 85 = .ok (.iconst 4, 1) := by decide +kernel
theorem dX7_learn_86 : decode eX7_learn.2.1 86 = .ok (.invokestatic 207, 3) := by decide +kernel
theorem dX7_learn_89 : decode eX7_learn.2.1 89 = .ok (.aload_n 0, 1) := by decide +kernel
theorem dX7_learn_90 : decode eX7_learn.2.1 90 = .ok (.getfield 10, 3) := by decide +kernel
theorem dX7_learn_93 : decode eX7_learn.2.1 93 = .ok (.dup, 1) := by decide +kernel
theorem dX7_learn_94 : decode eX7_learn.2.1 94 = .ok (.getfield 300, 3) := by decide +kernel
theorem dX7_learn_97 : decode eX7_learn.2.1 97 = .ok (.dup_x1, 1) := by decide +kernel
theorem dX7_learn_98 : decode eX7_learn.2.1 98 = .ok (.iconst 1, 1) := by decide +kernel
theorem dX7_learn_99 : decode eX7_learn.2.1 99 = .ok (.iadd, 1) := by decide +kernel
theorem dX7_learn_100 : decode eX7_learn.2.1 100 = .ok (.putfield 300, 3) := by decide +kernel
theorem dX7_learn_103 : decode eX7_learn.2.1 103 = .ok (.ireturn, 1) := by decide +kernel
theorem dX7_apart_0 : decode eX7_apart.2.1 0 = .ok (.iload_n 1, 1) := by decide +kernel
theorem dX7_apart_1 : decode eX7_apart.2.1 1 = .ok (.iconst 0, 1) := by decide +kernel
theorem dX7_apart_2 : decode eX7_apart.2.1 2 = .ok (.bipush 15, 2) := by decide +kernel
theorem dX7_apart_4 : decode eX7_apart.2.1 4 = .ok (.invokestatic 76, 3) := by decide +kernel
theorem dX7_apart_7 : decode eX7_apart.2.1 7 = .ok (.ifCond .ne 6, 3) := by decide +kernel
theorem dX7_apart_10 : decode eX7_apart.2.1 10 = .ok (.ldc 80, 2) := by decide +kernel
theorem dX7_apart_12 : decode eX7_apart.2.1 12 = .ok (.ireturn, 1) := by decide +kernel
theorem dX7_apart_13 : decode eX7_apart.2.1 13 = .ok (.aload_n 0, 1) := by decide +kernel
theorem dX7_apart_14 : decode eX7_apart.2.1 14 = .ok (.getfield 60, 3) := by decide +kernel
theorem dX7_apart_17 : decode eX7_apart.2.1 17 = .ok (.iload_n 1, 1) := by decide +kernel
theorem dX7_apart_18 : decode eX7_apart.2.1 18 = .ok (.aload_n 0, 1) := by decide +kernel
theorem dX7_apart_19 : decode eX7_apart.2.1 19 = .ok (.getfield 10, 3) := by decide +kernel
theorem dX7_apart_22 : decode eX7_apart.2.1 22 = .ok (.getfield 300, 3) := by decide +kernel
theorem dX7_apart_25 : decode eX7_apart.2.1 25 = .ok (.invokevirtual 309, 3) := by decide +kernel
theorem dX7_apart_28 : decode eX7_apart.2.1 28 = .ok (.ifCond .eq 7, 3) := by decide +kernel
theorem dX7_apart_31 : decode eX7_apart.2.1 31 = .ok (.iconst 1, 1) := by decide +kernel
theorem dX7_apart_32 : decode eX7_apart.2.1 32 = .ok (.goto 4, 3) := by decide +kernel
theorem dX7_apart_35 : decode eX7_apart.2.1 35 = .ok (.iconst 0, 1) := by decide +kernel
theorem dX7_apart_36 : decode eX7_apart.2.1 36 = .ok (.ireturn, 1) := by decide +kernel
theorem dX7_fewest_0 : decode eX7_fewest.2.1 0 = .ok (.ldc 84, 2) := by decide +kernel
theorem dX7_fewest_2 : decode eX7_fewest.2.1 2 = .ok (.istore_n 1, 1) := by decide +kernel
theorem dX7_fewest_3 : decode eX7_fewest.2.1 3 = .ok (.iconst 0, 1) := by decide +kernel
theorem dX7_fewest_4 : decode eX7_fewest.2.1 4 = .ok (.istore_n 2, 1) := by decide +kernel
theorem dX7_fewest_5 : decode eX7_fewest.2.1 5 = .ok (.iload_n 2, 1) := by decide +kernel
theorem dX7_fewest_6 : decode eX7_fewest.2.1 6 = .ok (.bipush 15, 2) := by decide +kernel
theorem dX7_fewest_8 : decode eX7_fewest.2.1 8 = .ok (.if_icmp .gt 56, 3) := by decide +kernel
theorem dX7_fewest_11 : decode eX7_fewest.2.1 11 = .ok (.iload_n 1, 1) := by decide +kernel
theorem dX7_fewest_12 : decode eX7_fewest.2.1 12 = .ok (.ldc 84, 2) := by decide +kernel
theorem dX7_fewest_14 : decode eX7_fewest.2.1 14 = .ok (.if_icmp .eq 14, 3) := by decide +kernel
theorem dX7_fewest_17 : decode eX7_fewest.2.1 17 = .ok (.iload_n 2, 1) := by decide +kernel
theorem dX7_fewest_18 : decode eX7_fewest.2.1 18 = .ok (.invokestatic 312, 3) := by decide +kernel
theorem dX7_fewest_21 : decode eX7_fewest.2.1 21 = .ok (.iload_n 1, 1) := by decide +kernel
theorem dX7_fewest_22 : decode eX7_fewest.2.1 22 = .ok (.invokestatic 312, 3) := by decide +kernel
theorem dX7_fewest_25 : decode eX7_fewest.2.1 25 = .ok (.if_icmp .ge 7, 3) := by decide +kernel
theorem dX7_fewest_28 : decode eX7_fewest.2.1 28 = .ok (.iconst 1, 1) := by decide +kernel
theorem dX7_fewest_29 : decode eX7_fewest.2.1 29 = .ok (.goto 4, 3) := by decide +kernel
theorem dX7_fewest_32 : decode eX7_fewest.2.1 32 = .ok (.iconst 0, 1) := by decide +kernel
theorem dX7_fewest_33 : decode eX7_fewest.2.1 33 = .ok (.istore_n 3, 1) := by decide +kernel
theorem dX7_fewest_34 : decode eX7_fewest.2.1 34 = .ok (.iload_n 3, 1) := by decide +kernel
theorem dX7_fewest_35 : decode eX7_fewest.2.1 35 = .ok (.ifCond .eq 23, 3) := by decide +kernel
theorem dX7_fewest_38 : decode eX7_fewest.2.1 38 = .ok (.aload_n 0, 1) := by decide +kernel
theorem dX7_fewest_39 : decode eX7_fewest.2.1 39 = .ok (.getfield 60, 3) := by decide +kernel
theorem dX7_fewest_42 : decode eX7_fewest.2.1 42 = .ok (.iload_n 2, 1) := by decide +kernel
theorem dX7_fewest_43 : decode eX7_fewest.2.1 43 = .ok (.aload_n 0, 1) := by decide +kernel
theorem dX7_fewest_44 : decode eX7_fewest.2.1 44 = .ok (.getfield 10, 3) := by decide +kernel
theorem dX7_fewest_47 : decode eX7_fewest.2.1 47 = .ok (.getfield 300, 3) := by decide +kernel
theorem dX7_fewest_50 : decode eX7_fewest.2.1 50 = .ok (.invokevirtual 309, 3) := by decide +kernel
theorem dX7_fewest_53 : decode eX7_fewest.2.1 53 = .ok (.ifCond .eq 5, 3) := by decide +kernel
theorem dX7_fewest_56 : decode eX7_fewest.2.1 56 = .ok (.iload_n 2, 1) := by decide +kernel
theorem dX7_fewest_57 : decode eX7_fewest.2.1 57 = .ok (.istore_n 1, 1) := by decide +kernel
theorem dX7_fewest_58 : decode eX7_fewest.2.1 58 = .ok (.iinc 2 1, 3) := by decide +kernel
theorem dX7_fewest_61 : decode eX7_fewest.2.1 61 = .ok (.goto (-56), 3) := by decide +kernel
theorem dX7_fewest_64 : decode eX7_fewest.2.1 64 = .ok (.iload_n 1, 1) := by decide +kernel
theorem dX7_fewest_65 : decode eX7_fewest.2.1 65 = .ok (.ireturn, 1) := by decide +kernel
theorem dX7_watch_0 : decode eX7_watch.2.1 0 = .ok (.iload_n 1, 1) := by decide +kernel
theorem dX7_watch_1 : decode eX7_watch.2.1 1 = .ok (.iconst 0, 1) := by decide +kernel
theorem dX7_watch_2 : decode eX7_watch.2.1 2 = .ok (.ldc_w 317, 3) := by decide +kernel
theorem dX7_watch_5 : decode eX7_watch.2.1 5 = .ok (.invokestatic 76, 3) := by decide +kernel
theorem dX7_watch_8 : decode eX7_watch.2.1 8 = .ok (.ifCond .ne 6, 3) := by decide +kernel
theorem dX7_watch_11 : decode eX7_watch.2.1 11 = .ok (.ldc 80, 2) := by decide +kernel
theorem dX7_watch_13 : decode eX7_watch.2.1 13 = .ok (.ireturn, 1) := by decide +kernel
theorem dX7_watch_14 : decode eX7_watch.2.1 14 = .ok (.aload_n 0, 1) := by decide +kernel
theorem dX7_watch_15 : decode eX7_watch.2.1 15 = .ok (.getfield 10, 3) := by decide +kernel
theorem dX7_watch_18 : decode eX7_watch.2.1 18 = .ok (.getfield 318, 3) := by decide +kernel
theorem dX7_watch_21 : decode eX7_watch.2.1 21 = .ok (.bipush 12, 2) := by decide +kernel
theorem dX7_watch_23 : decode eX7_watch.2.1 23 = .ok (.if_icmp .lt 6, 3) := by decide +kernel
theorem dX7_watch_26 : decode eX7_watch.2.1 26 = .ok (.ldc 89, 2) := by decide +kernel
theorem dX7_watch_28 : decode eX7_watch.2.1 28 = .ok (.ireturn, 1) := by decide +kernel
theorem dX7_watch_29 : decode eX7_watch.2.1 29 = .ok (.aload_n 0, 1) := by decide +kernel
theorem dX7_watch_30 : decode eX7_watch.2.1 30 = .ok (.getfield 60, 3) := by decide +kernel
theorem dX7_watch_33 : decode eX7_watch.2.1 33 = .ok (.getfield 321, 3) := by decide +kernel
theorem dX7_watch_36 : decode eX7_watch.2.1 36 = .ok (.aload_n 0, 1) := by decide +kernel
theorem dX7_watch_37 : decode eX7_watch.2.1 37 = .ok (.getfield 10, 3) := by decide +kernel
theorem dX7_watch_40 : decode eX7_watch.2.1 40 = .ok (.getfield 318, 3) := by decide +kernel
theorem dX7_watch_43 : decode eX7_watch.2.1 43 = .ok (.iload_n 1, 1) := by decide +kernel
theorem dX7_watch_44 : decode eX7_watch.2.1 44 = .ok (.iastore, 1) := by decide +kernel
theorem dX7_watch_45 : decode eX7_watch.2.1 45 = .ok (.aload_n 0, 1) := by decide +kernel
theorem dX7_watch_46 : decode eX7_watch.2.1 46 = .ok (.getfield 10, 3) := by decide +kernel
theorem dX7_watch_49 : decode eX7_watch.2.1 49 = .ok (.dup, 1) := by decide +kernel
theorem dX7_watch_50 : decode eX7_watch.2.1 50 = .ok (.getfield 318, 3) := by decide +kernel
theorem dX7_watch_53 : decode eX7_watch.2.1 53 = .ok (.dup_x1, 1) := by decide +kernel
theorem dX7_watch_54 : decode eX7_watch.2.1 54 = .ok (.iconst 1, 1) := by decide +kernel
theorem dX7_watch_55 : decode eX7_watch.2.1 55 = .ok (.iadd, 1) := by decide +kernel
theorem dX7_watch_56 : decode eX7_watch.2.1 56 = .ok (.putfield 318, 3) := by decide +kernel
theorem dX7_watch_59 : decode eX7_watch.2.1 59 = .ok (.ireturn, 1) := by decide +kernel
theorem dX7_alike_0 : decode eX7_alike.2.1 0 = .ok (.iload_n 1, 1) := by decide +kernel
theorem dX7_alike_1 : decode eX7_alike.2.1 1 = .ok (.iconst 0, 1) := by decide +kernel
theorem dX7_alike_2 : decode eX7_alike.2.1 2 = .ok (.bipush 28, 2) := by decide +kernel
theorem dX7_alike_4 : decode eX7_alike.2.1 4 = .ok (.invokestatic 76, 3) := by decide +kernel
theorem dX7_alike_7 : decode eX7_alike.2.1 7 = .ok (.ifCond .eq 18, 3) := by decide +kernel
theorem dX7_alike_10 : decode eX7_alike.2.1 10 = .ok (.iload_n 2, 1) := by decide +kernel
theorem dX7_alike_11 : decode eX7_alike.2.1 11 = .ok (.iconst 0, 1) := by decide +kernel
theorem dX7_alike_12 : decode eX7_alike.2.1 12 = .ok (.bipush 28, 2) := by decide +kernel
theorem dX7_alike_14 : decode eX7_alike.2.1 14 = .ok (.invokestatic 76, 3) := by decide +kernel
theorem dX7_alike_17 : decode eX7_alike.2.1 17 = .ok (.ifCond .eq 8, 3) := by decide +kernel
theorem dX7_alike_20 : decode eX7_alike.2.1 20 = .ok (.iload_n 1, 1) := by decide +kernel
theorem dX7_alike_21 : decode eX7_alike.2.1 21 = .ok (.iload_n 2, 1) := by decide +kernel
theorem dX7_alike_22 : decode eX7_alike.2.1 22 = .ok (.if_icmp .ne 6, 3) := by decide +kernel
theorem dX7_alike_25 : decode eX7_alike.2.1 25 = .ok (.ldc 80, 2) := by decide +kernel
theorem dX7_alike_27 : decode eX7_alike.2.1 27 = .ok (.ireturn, 1) := by decide +kernel
theorem dX7_alike_28 : decode eX7_alike.2.1 28 = .ok (.aload_n 0, 1) := by decide +kernel
theorem dX7_alike_29 : decode eX7_alike.2.1 29 = .ok (.getfield 60, 3) := by decide +kernel
theorem dX7_alike_32 : decode eX7_alike.2.1 32 = .ok (.iload_n 1, 1) := by decide +kernel
theorem dX7_alike_33 : decode eX7_alike.2.1 33 = .ok (.aload_n 0, 1) := by decide +kernel
theorem dX7_alike_34 : decode eX7_alike.2.1 34 = .ok (.getfield 10, 3) := by decide +kernel
theorem dX7_alike_37 : decode eX7_alike.2.1 37 = .ok (.getfield 318, 3) := by decide +kernel
theorem dX7_alike_40 : decode eX7_alike.2.1 40 = .ok (.ldc 84, 2) := by decide +kernel
theorem dX7_alike_42 : decode eX7_alike.2.1 42 = .ok (.invokevirtual 324, 3) := by decide +kernel
theorem dX7_alike_45 : decode eX7_alike.2.1 45 = .ok (.aload_n 0, 1) := by decide +kernel
theorem dX7_alike_46 : decode eX7_alike.2.1 46 = .ok (.getfield 60, 3) := by decide +kernel
theorem dX7_alike_49 : decode eX7_alike.2.1 49 = .ok (.iload_n 2, 1) := by decide +kernel
theorem dX7_alike_50 : decode eX7_alike.2.1 50 = .ok (.aload_n 0, 1) := by decide +kernel
theorem dX7_alike_51 : decode eX7_alike.2.1 51 = .ok (.getfield 10, 3) := by decide +kernel
theorem dX7_alike_54 : decode eX7_alike.2.1 54 = .ok (.getfield 318, 3) := by decide +kernel
theorem dX7_alike_57 : decode eX7_alike.2.1 57 = .ok (.ldc 84, 2) := by decide +kernel
theorem dX7_alike_59 : decode eX7_alike.2.1 59 = .ok (.invokevirtual 324, 3) := by decide +kernel
theorem dX7_alike_62 : decode eX7_alike.2.1 62 = .ok (.if_icmp .ne 7, 3) := by decide +kernel
theorem dX7_alike_65 : decode eX7_alike.2.1 65 = .ok (.iconst 1, 1) := by decide +kernel
theorem dX7_alike_66 : decode eX7_alike.2.1 66 = .ok (.goto 4, 3) := by decide +kernel
theorem dX7_alike_69 : decode eX7_alike.2.1 69 = .ok (.iconst 0, 1) := by decide +kernel
theorem dX7_alike_70 : decode eX7_alike.2.1 70 = .ok (.ireturn, 1) := by decide +kernel
theorem dX7_kinds_0 : decode eX7_kinds.2.1 0 = .ok (.iload_n 1, 1) := by decide +kernel
theorem dX7_kinds_1 : decode eX7_kinds.2.1 1 = .ok (.iconst (-1), 1) := by decide +kernel
theorem dX7_kinds_2 : decode eX7_kinds.2.1 2 = .ok (.aload_n 0, 1) := by decide +kernel
theorem dX7_kinds_3 : decode eX7_kinds.2.1 3 = .ok (.getfield 10, 3) := by decide +kernel
theorem dX7_kinds_6 : decode eX7_kinds.2.1 6 = .ok (.getfield 318, 3) := by decide +kernel
theorem dX7_kinds_9 : decode eX7_kinds.2.1 9 = .ok (.iconst 1, 1) := by decide +kernel
theorem dX7_kinds_10 : decode eX7_kinds.2.1 10 = .ok (.isub, 1) := by decide +kernel
theorem dX7_kinds_11 : decode eX7_kinds.2.1 11 = .ok (.invokestatic 76, 3) := by decide +kernel
theorem dX7_kinds_14 : decode eX7_kinds.2.1 14 = .ok (.ifCond .eq 18, 3) := by decide +kernel
theorem dX7_kinds_17 : decode eX7_kinds.2.1 17 = .ok (.aload_n 0, 1) := by decide +kernel
theorem dX7_kinds_18 : decode eX7_kinds.2.1 18 = .ok (.getfield 60, 3) := by decide +kernel
theorem dX7_kinds_21 : decode eX7_kinds.2.1 21 = .ok (.aload_n 0, 1) := by decide +kernel
theorem dX7_kinds_22 : decode eX7_kinds.2.1 22 = .ok (.getfield 10, 3) := by decide +kernel
theorem dX7_kinds_25 : decode eX7_kinds.2.1 25 = .ok (.iload_n 1, 1) := by decide +kernel
theorem dX7_kinds_26 : decode eX7_kinds.2.1 26 = .ok (.invokevirtual 327, 3) := by decide +kernel
theorem dX7_kinds_29 : decode eX7_kinds.2.1 29 = .ok (.goto 5, 3) := by decide +kernel
theorem dX7_kinds_32 : decode eX7_kinds.2.1 32 = .ok (.ldc 80, 2) := by decide +kernel
theorem dX7_kinds_34 : decode eX7_kinds.2.1 34 = .ok (.ireturn, 1) := by decide +kernel
theorem dX7_parts_0 : decode eX7_parts.2.1 0 = .ok (.ldc 84, 2) := by decide +kernel
theorem dX7_parts_2 : decode eX7_parts.2.1 2 = .ok (.istore_n 1, 1) := by decide +kernel
theorem dX7_parts_3 : decode eX7_parts.2.1 3 = .ok (.bipush 30, 2) := by decide +kernel
theorem dX7_parts_5 : decode eX7_parts.2.1 5 = .ok (.istore_n 2, 1) := by decide +kernel
theorem dX7_parts_6 : decode eX7_parts.2.1 6 = .ok (.iconst 0, 1) := by decide +kernel
theorem dX7_parts_7 : decode eX7_parts.2.1 7 = .ok (.istore_n 3, 1) := by decide +kernel
theorem dX7_parts_8 : decode eX7_parts.2.1 8 = .ok (.iload_n 3, 1) := by decide +kernel
theorem dX7_parts_9 : decode eX7_parts.2.1 9 = .ok (.aload_n 0, 1) := by decide +kernel
theorem dX7_parts_10 : decode eX7_parts.2.1 10 = .ok (.getfield 10, 3) := by decide +kernel
theorem dX7_parts_13 : decode eX7_parts.2.1 13 = .ok (.getfield 318, 3) := by decide +kernel
theorem dX7_parts_16 : decode eX7_parts.2.1 16 = .ok (.if_icmp .ge 34, 3) := by decide +kernel
theorem dX7_parts_19 : decode eX7_parts.2.1 19 = .ok (.aload_n 0, 1) := by decide +kernel
theorem dX7_parts_20 : decode eX7_parts.2.1 20 = .ok (.getfield 60, 3) := by decide +kernel
theorem dX7_parts_23 : decode eX7_parts.2.1 23 = .ok (.aload_n 0, 1) := by decide +kernel
theorem dX7_parts_24 : decode eX7_parts.2.1 24 = .ok (.getfield 10, 3) := by decide +kernel
theorem dX7_parts_27 : decode eX7_parts.2.1 27 = .ok (.iload_n 3, 1) := by decide +kernel
theorem dX7_parts_28 : decode eX7_parts.2.1 28 = .ok (.invokevirtual 327, 3) := by decide +kernel
theorem dX7_parts_31 : decode eX7_parts.2.1 31 = .ok (.istore 4, 2) := by decide +kernel
theorem dX7_parts_33 : decode eX7_parts.2.1 33 = .ok (.iload 4, 2) := by decide +kernel
theorem dX7_parts_35 : decode eX7_parts.2.1 35 = .ok (.iload_n 2, 1) := by decide +kernel
theorem dX7_parts_36 : decode eX7_parts.2.1 36 = .ok (.if_icmp .ge 8, 3) := by decide +kernel
theorem dX7_parts_39 : decode eX7_parts.2.1 39 = .ok (.iload 4, 2) := by decide +kernel
theorem dX7_parts_41 : decode eX7_parts.2.1 41 = .ok (.istore_n 2, 1) := by decide +kernel
theorem dX7_parts_42 : decode eX7_parts.2.1 42 = .ok (.iload_n 3, 1) := by decide +kernel
theorem dX7_parts_43 : decode eX7_parts.2.1 43 = .ok (.istore_n 1, 1) := by decide +kernel
theorem dX7_parts_44 : decode eX7_parts.2.1 44 = .ok (.iinc 3 1, 3) := by decide +kernel
theorem dX7_parts_47 : decode eX7_parts.2.1 47 = .ok (.goto (-39), 3) := by decide +kernel
theorem dX7_parts_50 : decode eX7_parts.2.1 50 = .ok (.iload_n 1, 1) := by decide +kernel
theorem dX7_parts_51 : decode eX7_parts.2.1 51 = .ok (.ireturn, 1) := by decide +kernel
theorem dX7_tell_0 : decode eX7_tell.2.1 0 = .ok (.aload_n 0, 1) := by decide +kernel
theorem dX7_tell_1 : decode eX7_tell.2.1 1 = .ok (.getfield 68, 3) := by decide +kernel
theorem dX7_tell_4 : decode eX7_tell.2.1 4 = .ok (.bipush 60, 2) := by decide +kernel
theorem dX7_tell_6 : decode eX7_tell.2.1 6 = .ok (.if_icmp .lt 6, 3) := by decide +kernel
theorem dX7_tell_9 : decode eX7_tell.2.1 9 = .ok (.ldc 89, 2) := by decide +kernel
theorem dX7_tell_11 : decode eX7_tell.2.1 11 = .ok (.ireturn, 1) := by decide +kernel
theorem dX7_tell_12 : decode eX7_tell.2.1 12 = .ok (.aload_n 0, 1) := by decide +kernel
theorem dX7_tell_13 : decode eX7_tell.2.1 13 = .ok (.getfield 64, 3) := by decide +kernel
theorem dX7_tell_16 : decode eX7_tell.2.1 16 = .ok (.aload_n 0, 1) := by decide +kernel
theorem dX7_tell_17 : decode eX7_tell.2.1 17 = .ok (.dup, 1) := by decide +kernel
theorem dX7_tell_18 : decode eX7_tell.2.1 18 = .ok (.getfield 68, 3) := by decide +kernel
theorem dX7_tell_21 : decode eX7_tell.2.1 21 = .ok (.dup_x1, 1) := by decide +kernel
theorem dX7_tell_22 : decode eX7_tell.2.1 22 = .ok (.iconst 1, 1) := by decide +kernel
theorem dX7_tell_23 : decode eX7_tell.2.1 23 = .ok (.iadd, 1) := by decide +kernel
theorem dX7_tell_24 : decode eX7_tell.2.1 24 = .ok (.putfield 68, 3) := by decide +kernel
theorem dX7_tell_27 : decode eX7_tell.2.1 27 = .ok (.iload_n 1, 1) := by decide +kernel
theorem dX7_tell_28 : decode eX7_tell.2.1 28 = .ok (.iastore, 1) := by decide +kernel
theorem dX7_tell_29 : decode eX7_tell.2.1 29 = .ok (.aload_n 0, 1) := by decide +kernel
theorem dX7_tell_30 : decode eX7_tell.2.1 30 = .ok (.getfield 68, 3) := by decide +kernel
theorem dX7_tell_33 : decode eX7_tell.2.1 33 = .ok (.ireturn, 1) := by decide +kernel
theorem dX7_check_0 : decode eX7_check.2.1 0 = .ok (.aload_n 0, 1) := by decide +kernel
theorem dX7_check_1 : decode eX7_check.2.1 1 = .ok (.getfield 68, 3) := by decide +kernel
theorem dX7_check_4 : decode eX7_check.2.1 4 = .ok (.istore_n 2, 1) := by decide +kernel
theorem dX7_check_5 : decode eX7_check.2.1 5 = .ok (.aload_n 0, 1) := by decide +kernel
theorem dX7_check_6 : decode eX7_check.2.1 6 = .ok (.iconst 0, 1) := by decide +kernel
theorem dX7_check_7 : decode eX7_check.2.1 7 = .ok (.putfield 68, 3) := by decide +kernel
theorem dX7_check_10 : decode eX7_check.2.1 10 = .ok (.iload_n 1, 1) := by decide +kernel
theorem dX7_check_11 : decode eX7_check.2.1 11 = .ok (.iconst 1, 1) := by decide +kernel
theorem dX7_check_12 : decode eX7_check.2.1 12 = .ok (.bipush 30, 2) := by decide +kernel
theorem dX7_check_14 : decode eX7_check.2.1 14 = .ok (.invokestatic 76, 3) := by decide +kernel
theorem dX7_check_17 : decode eX7_check.2.1 17 = .ok (.ifCond .ne 6, 3) := by decide +kernel
theorem dX7_check_20 : decode eX7_check.2.1 20 = .ok (.ldc 80, 2) := by decide +kernel
theorem dX7_check_22 : decode eX7_check.2.1 22 = .ok (.ireturn, 1) := by decide +kernel
theorem dX7_check_23 : decode eX7_check.2.1 23 = .ok (.aload_n 0, 1) := by decide +kernel
theorem dX7_check_24 : decode eX7_check.2.1 24 = .ok (.getfield 72, 3) := by decide +kernel
theorem dX7_check_27 : decode eX7_check.2.1 27 = .ok (.ifCond .ne 6, 3) := by decide +kernel
theorem dX7_check_30 : decode eX7_check.2.1 30 = .ok (.ldc 85, 2) := by decide +kernel
theorem dX7_check_32 : decode eX7_check.2.1 32 = .ok (.ireturn, 1) := by decide +kernel
theorem dX7_check_33 : decode eX7_check.2.1 33 = .ok (.aload_n 0, 1) := by decide +kernel
theorem dX7_check_34 : decode eX7_check.2.1 34 = .ok (.getfield 19, 3) := by decide +kernel
theorem dX7_check_37 : decode eX7_check.2.1 37 = .ok (.aload_n 0, 1) := by decide +kernel
theorem dX7_check_38 : decode eX7_check.2.1 38 = .ok (.getfield 16, 3) := by decide +kernel
theorem dX7_check_41 : decode eX7_check.2.1 41 = .ok (.invokevirtual 174, 3) := by decide +kernel
theorem dX7_check_44 : decode eX7_check.2.1 44 = .ok (.iconst 0, 1) := by decide +kernel
theorem dX7_check_45 : decode eX7_check.2.1 45 = .ok (.istore_n 3, 1) := by decide +kernel
theorem dX7_check_46 : decode eX7_check.2.1 46 = .ok (.iconst 0, 1) := by decide +kernel
theorem dX7_check_47 : decode eX7_check.2.1 47 = .ok (.istore 4, 2) := by decide +kernel
theorem dX7_check_49 : decode eX7_check.2.1 49 = .ok (.iload 4, 2) := by decide +kernel
theorem dX7_check_51 : decode eX7_check.2.1 51 = .ok (.iconst 2, 1) := by decide +kernel
theorem dX7_check_52 : decode eX7_check.2.1 52 = .ok (.iload_n 1, 1) := by decide +kernel
theorem dX7_check_53 : decode eX7_check.2.1 53 = .ok (.imul, 1) := by decide +kernel
theorem dX7_check_54 : decode eX7_check.2.1 54 = .ok (.if_icmp .ge 80, 3) := by decide +kernel
theorem dX7_check_57 : decode eX7_check.2.1 57 = .ok (.aload_n 0, 1) := by decide +kernel
theorem dX7_check_58 : decode eX7_check.2.1 58 = .ok (.getfield 19, 3) := by decide +kernel
theorem dX7_check_61 : decode eX7_check.2.1 61 = .ok (.invokevirtual 161, 3) := by decide +kernel
theorem dX7_check_64 : decode eX7_check.2.1 64 = .ok (.iload_n 3, 1) := by decide +kernel
theorem dX7_check_65 : decode eX7_check.2.1 65 = .ok (.iload 4, 2) := by decide +kernel
theorem dX7_check_67 : decode eX7_check.2.1 67 = .ok (.if_icmp .ne 27, 3) := by decide +kernel
theorem dX7_check_70 : decode eX7_check.2.1 70 = .ok (.iload_n 3, 1) := by decide +kernel
theorem dX7_check_71 : decode eX7_check.2.1 71 = .ok (.iload_n 2, 1) := by decide +kernel
theorem dX7_check_72 : decode eX7_check.2.1 72 = .ok (.if_icmp .ge 22, 3) := by decide +kernel
theorem dX7_check_75 : decode eX7_check.2.1 75 = .ok (.aload_n 0, 1) := by decide +kernel
theorem dX7_check_76 : decode eX7_check.2.1 76 = .ok (.getfield 64, 3) := by decide +kernel
theorem dX7_check_79 : decode eX7_check.2.1 79 = .ok (.iload_n 3, 1) := by decide +kernel
theorem dX7_check_80 : decode eX7_check.2.1 80 = .ok (.iaload, 1) := by decide +kernel
theorem dX7_check_81 : decode eX7_check.2.1 81 = .ok (.aload_n 0, 1) := by decide +kernel
theorem dX7_check_82 : decode eX7_check.2.1 82 = .ok (.getfield 19, 3) := by decide +kernel
theorem dX7_check_85 : decode eX7_check.2.1 85 = .ok (.invokevirtual 330, 3) := by decide +kernel
theorem dX7_check_88 : decode eX7_check.2.1 88 = .ok (.if_icmp .ne 6, 3) := by decide +kernel
theorem dX7_check_91 : decode eX7_check.2.1 91 = .ok (.iinc 3 1, 3) := by decide +kernel
theorem dX7_check_94 : decode eX7_check.2.1 94 = .ok (.iload_n 3, 1) := by decide +kernel
theorem dX7_check_95 : decode eX7_check.2.1 95 = .ok (.iload 4, 2) := by decide +kernel
theorem dX7_check_97 : decode eX7_check.2.1 97 = .ok (.iconst 1, 1) := by decide +kernel
theorem dX7_check_98 : decode eX7_check.2.1 98 = .ok (.iadd, 1) := by decide +kernel
theorem dX7_check_99 : decode eX7_check.2.1 99 = .ok (.if_icmp .ne 29, 3) := by decide +kernel
theorem dX7_check_102 : decode eX7_check.2.1 102 = .ok (.iload_n 3, 1) := by decide +kernel
theorem dX7_check_103 : decode eX7_check.2.1 103 = .ok (.iload_n 2, 1) := by decide +kernel
theorem dX7_check_104 : decode eX7_check.2.1 104 = .ok (.if_icmp .ge 24, 3) := by decide +kernel
theorem dX7_check_107 : decode eX7_check.2.1 107 = .ok (.aload_n 0, 1) := by decide +kernel
theorem dX7_check_108 : decode eX7_check.2.1 108 = .ok (.getfield 64, 3) := by decide +kernel
theorem dX7_check_111 : decode eX7_check.2.1 111 = .ok (.iload_n 3, 1) := by decide +kernel
theorem dX7_check_112 : decode eX7_check.2.1 112 = .ok (.iaload, 1) := by decide +kernel
theorem dX7_check_113 : decode eX7_check.2.1 113 = .ok (.aload_n 0, 1) := by decide +kernel
theorem dX7_check_114 : decode eX7_check.2.1 114 = .ok (.aload_n 0, 1) := by decide +kernel
theorem dX7_check_115 : decode eX7_check.2.1 115 = .ok (.getfield 19, 3) := by decide +kernel
theorem dX7_check_118 : decode eX7_check.2.1 118 = .ok (.iconst 0, 1) := by decide +kernel
theorem dX7_check_119 : decode eX7_check.2.1 119 = .ok (.invokevirtual 264, 3) := by decide +kernel
theorem dX7_check_122 : decode eX7_check.2.1 122 = .ok (.if_icmp .ne 6, 3) := by decide +kernel
theorem dX7_check_125 : decode eX7_check.2.1 125 = .ok (.iinc 3 1, 3) := by decide +kernel
theorem dX7_check_128 : decode eX7_check.2.1 128 = .ok (.iinc 4 2, 3) := by decide +kernel
theorem dX7_check_131 : decode eX7_check.2.1 131 = .ok (.goto (-82), 3) := by decide +kernel
theorem dX7_check_134 : decode eX7_check.2.1 134 = .ok (.iload_n 3, 1) := by decide +kernel
theorem dX7_check_135 : decode eX7_check.2.1 135 = .ok (.iconst 2, 1) := by decide +kernel
theorem dX7_check_136 : decode eX7_check.2.1 136 = .ok (.iload_n 1, 1) := by decide +kernel
theorem dX7_check_137 : decode eX7_check.2.1 137 = .ok (.imul, 1) := by decide +kernel
theorem dX7_check_138 : decode eX7_check.2.1 138 = .ok (.if_icmp .ne 14, 3) := by decide +kernel
theorem dX7_check_141 : decode eX7_check.2.1 141 = .ok (.iload_n 2, 1) := by decide +kernel
theorem dX7_check_142 : decode eX7_check.2.1 142 = .ok (.iconst 2, 1) := by decide +kernel
theorem dX7_check_143 : decode eX7_check.2.1 143 = .ok (.iload_n 1, 1) := by decide +kernel
theorem dX7_check_144 : decode eX7_check.2.1 144 = .ok (.imul, 1) := by decide +kernel
theorem dX7_check_145 : decode eX7_check.2.1 145 = .ok (.if_icmp .ne 7, 3) := by decide +kernel
theorem dX7_check_148 : decode eX7_check.2.1 148 = .ok (.iconst 0, 1) := by decide +kernel
theorem dX7_check_149 : decode eX7_check.2.1 149 = .ok (.goto 6, 3) := by decide +kernel
theorem dX7_check_152 : decode eX7_check.2.1 152 = .ok (.iconst 1, 1) := by decide +kernel
theorem dX7_check_153 : decode eX7_check.2.1 153 = .ok (.iload_n 3, 1) := by decide +kernel
theorem dX7_check_154 : decode eX7_check.2.1 154 = .ok (.iadd, 1) := by decide +kernel
theorem dX7_check_155 : decode eX7_check.2.1 155 = .ok (.ireturn, 1) := by decide +kernel
theorem dX7_keep_0 : decode eX7_keep.2.1 0 = .ok (.aload_n 0, 1) := by decide +kernel
theorem dX7_keep_1 : decode eX7_keep.2.1 1 = .ok (.getfield 16, 3) := by decide +kernel
theorem dX7_keep_4 : decode eX7_keep.2.1 4 = .ok (.aload_n 0, 1) := by decide +kernel
theorem dX7_keep_5 : decode eX7_keep.2.1 5 = .ok (.getfield 10, 3) := by decide +kernel
theorem dX7_keep_8 : decode eX7_keep.2.1 8 = .ok (.invokevirtual 174, 3) := by decide +kernel
theorem dX7_keep_11 : decode eX7_keep.2.1 11 = .ok (.aload_n 0, 1) := by decide +kernel
theorem dX7_keep_12 : decode eX7_keep.2.1 12 = .ok (.iconst 1, 1) := by decide +kernel
theorem dX7_keep_13 : decode eX7_keep.2.1 13 = .ok (.putfield 72, 3) := by decide +kernel
theorem dX7_keep_16 : decode eX7_keep.2.1 16 = .ok (.aload_n 0, 1) := by decide +kernel
theorem dX7_keep_17 : decode eX7_keep.2.1 17 = .ok (.getfield 10, 3) := by decide +kernel
theorem dX7_keep_20 : decode eX7_keep.2.1 20 = .ok (.getfield 158, 3) := by decide +kernel
theorem dX7_keep_23 : decode eX7_keep.2.1 23 = .ok (.ireturn, 1) := by decide +kernel
theorem dX7_back_0 : decode eX7_back.2.1 0 = .ok (.aload_n 0, 1) := by decide +kernel
theorem dX7_back_1 : decode eX7_back.2.1 1 = .ok (.getfield 72, 3) := by decide +kernel
theorem dX7_back_4 : decode eX7_back.2.1 4 = .ok (.ifCond .ne 6, 3) := by decide +kernel
theorem dX7_back_7 : decode eX7_back.2.1 7 = .ok (.ldc 85, 2) := by decide +kernel
theorem dX7_back_9 : decode eX7_back.2.1 9 = .ok (.ireturn, 1) := by decide +kernel
theorem dX7_back_10 : decode eX7_back.2.1 10 = .ok (.aload_n 0, 1) := by decide +kernel
theorem dX7_back_11 : decode eX7_back.2.1 11 = .ok (.getfield 10, 3) := by decide +kernel
theorem dX7_back_14 : decode eX7_back.2.1 14 = .ok (.aload_n 0, 1) := by decide +kernel
theorem dX7_back_15 : decode eX7_back.2.1 15 = .ok (.getfield 16, 3) := by decide +kernel
theorem dX7_back_18 : decode eX7_back.2.1 18 = .ok (.invokevirtual 174, 3) := by decide +kernel
theorem dX7_back_21 : decode eX7_back.2.1 21 = .ok (.aload_n 0, 1) := by decide +kernel
theorem dX7_back_22 : decode eX7_back.2.1 22 = .ok (.getfield 10, 3) := by decide +kernel
theorem dX7_back_25 : decode eX7_back.2.1 25 = .ok (.getfield 158, 3) := by decide +kernel
theorem dX7_back_28 : decode eX7_back.2.1 28 = .ok (.ireturn, 1) := by decide +kernel
theorem dX7_count_0 : decode eX7_count.2.1 0 = .ok (.iload_n 1, 1) := by decide +kernel
theorem dX7_count_1 : decode eX7_count.2.1 1 = .ok (.tableswitch 149 0 13 #[71, 79, 79, 79, 79, 79, 88, 96, 104, 112, 120, 128, 133, 141], 71) := by decide +kernel
theorem dX7_count_72 : decode eX7_count.2.1 72 = .ok (.aload_n 0, 1) := by decide +kernel
theorem dX7_count_73 : decode eX7_count.2.1 73 = .ok (.getfield 10, 3) := by decide +kernel
theorem dX7_count_76 : decode eX7_count.2.1 76 = .ok (.getfield 86, 3) := by decide +kernel
theorem dX7_count_79 : decode eX7_count.2.1 79 = .ok (.ireturn, 1) := by decide +kernel
theorem dX7_count_80 : decode eX7_count.2.1 80 = .ok (.aload_n 0, 1) := by decide +kernel
theorem dX7_count_81 : decode eX7_count.2.1 81 = .ok (.getfield 10, 3) := by decide +kernel
theorem dX7_count_84 : decode eX7_count.2.1 84 = .ok (.iload_n 1, 1) := by decide +kernel
theorem dX7_count_85 : decode eX7_count.2.1 85 = .ok (.invokevirtual 333, 3) := by decide +kernel
theorem dX7_count_88 : decode eX7_count.2.1 88 = .ok (.ireturn, 1) := by decide +kernel
theorem dX7_count_89 : decode eX7_count.2.1 89 = .ok (.aload_n 0, 1) := by decide +kernel
theorem dX7_count_90 : decode eX7_count.2.1 90 = .ok (.getfield 10, 3) := by decide +kernel
theorem dX7_count_93 : decode eX7_count.2.1 93 = .ok (.invokevirtual 330, 3) := by decide +kernel
theorem dX7_count_96 : decode eX7_count.2.1 96 = .ok (.ireturn, 1) := by decide +kernel
theorem dX7_count_97 : decode eX7_count.2.1 97 = .ok (.aload_n 0, 1) := by decide +kernel
theorem dX7_count_98 : decode eX7_count.2.1 98 = .ok (.getfield 10, 3) := by decide +kernel
theorem dX7_count_101 : decode eX7_count.2.1 101 = .ok (.getfield 233, 3) := by decide +kernel
theorem dX7_count_104 : decode eX7_count.2.1 104 = .ok (.ireturn, 1) := by decide +kernel
theorem dX7_count_105 : decode eX7_count.2.1 105 = .ok (.aload_n 0, 1) := by decide +kernel
theorem dX7_count_106 : decode eX7_count.2.1 106 = .ok (.getfield 10, 3) := by decide +kernel
theorem dX7_count_109 : decode eX7_count.2.1 109 = .ok (.getfield 300, 3) := by decide +kernel
theorem dX7_count_112 : decode eX7_count.2.1 112 = .ok (.ireturn, 1) := by decide +kernel
theorem dX7_count_113 : decode eX7_count.2.1 113 = .ok (.aload_n 0, 1) := by decide +kernel
theorem dX7_count_114 : decode eX7_count.2.1 114 = .ok (.getfield 10, 3) := by decide +kernel
theorem dX7_count_117 : decode eX7_count.2.1 117 = .ok (.getfield 318, 3) := by decide +kernel
theorem dX7_count_120 : decode eX7_count.2.1 120 = .ok (.ireturn, 1) := by decide +kernel
theorem dX7_count_121 : decode eX7_count.2.1 121 = .ok (.aload_n 0, 1) := by decide +kernel
theorem dX7_count_122 : decode eX7_count.2.1 122 = .ok (.getfield 25, 3) := by decide +kernel
theorem dX7_count_125 : decode eX7_count.2.1 125 = .ok (.invokevirtual 336, 3) := by decide +kernel
theorem dX7_count_128 : decode eX7_count.2.1 128 = .ok (.ireturn, 1) := by decide +kernel
theorem dX7_count_129 : decode eX7_count.2.1 129 = .ok (.aload_n 0, 1) := by decide +kernel
theorem dX7_count_130 : decode eX7_count.2.1 130 = .ok (.getfield 68, 3) := by decide +kernel
theorem dX7_count_133 : decode eX7_count.2.1 133 = .ok (.ireturn, 1) := by decide +kernel
theorem dX7_count_134 : decode eX7_count.2.1 134 = .ok (.aload_n 0, 1) := by decide +kernel
theorem dX7_count_135 : decode eX7_count.2.1 135 = .ok (.getfield 32, 3) := by decide +kernel
theorem dX7_count_138 : decode eX7_count.2.1 138 = .ok (.getfield 224, 3) := by decide +kernel
theorem dX7_count_141 : decode eX7_count.2.1 141 = .ok (.ireturn, 1) := by decide +kernel
theorem dX7_count_142 : decode eX7_count.2.1 142 = .ok (.aload_n 0, 1) := by decide +kernel
theorem dX7_count_143 : decode eX7_count.2.1 143 = .ok (.getfield 10, 3) := by decide +kernel
theorem dX7_count_146 : decode eX7_count.2.1 146 = .ok (.getfield 158, 3) := by decide +kernel
theorem dX7_count_149 : decode eX7_count.2.1 149 = .ok (.ireturn, 1) := by decide +kernel
theorem dX7_count_150 : decode eX7_count.2.1 150 = .ok (.ldc 80, 2) := by decide +kernel
theorem dX7_count_152 : decode eX7_count.2.1 152 = .ok (.ireturn, 1) := by decide +kernel
theorem dX7_lookAt_0 : decode eX7_lookAt.2.1 0 = .ok (.aload_n 0, 1) := by decide +kernel
theorem dX7_lookAt_1 : decode eX7_lookAt.2.1 1 = .ok (.getfield 46, 3) := by decide +kernel
theorem dX7_lookAt_4 : decode eX7_lookAt.2.1 4 = .ok (.aload_n 0, 1) := by decide +kernel
theorem dX7_lookAt_5 : decode eX7_lookAt.2.1 5 = .ok (.getfield 25, 3) := by decide +kernel
theorem dX7_lookAt_8 : decode eX7_lookAt.2.1 8 = .ok (.iload_n 2, 1) := by decide +kernel
theorem dX7_lookAt_9 : decode eX7_lookAt.2.1 9 = .ok (.invokevirtual 339, 3) := by decide +kernel
theorem dX7_lookAt_12 : decode eX7_lookAt.2.1 12 = .ok (.aload_n 0, 1) := by decide +kernel
theorem dX7_lookAt_13 : decode eX7_lookAt.2.1 13 = .ok (.getfield 46, 3) := by decide +kernel
theorem dX7_lookAt_16 : decode eX7_lookAt.2.1 16 = .ok (.aload_n 1, 1) := by decide +kernel
theorem dX7_lookAt_17 : decode eX7_lookAt.2.1 17 = .ok (.invokevirtual 343, 3) := by decide +kernel
theorem dX7_lookAt_20 : decode eX7_lookAt.2.1 20 = .ok (.aload_n 0, 1) := by decide +kernel
theorem dX7_lookAt_21 : decode eX7_lookAt.2.1 21 = .ok (.getfield 46, 3) := by decide +kernel
theorem dX7_lookAt_24 : decode eX7_lookAt.2.1 24 = .ok (.aload_n 1, 1) := by decide +kernel
theorem dX7_lookAt_25 : decode eX7_lookAt.2.1 25 = .ok (.invokevirtual 346, 3) := by decide +kernel
theorem dX7_lookAt_28 : decode eX7_lookAt.2.1 28 = .ok (.aload_n 0, 1) := by decide +kernel
theorem dX7_lookAt_29 : decode eX7_lookAt.2.1 29 = .ok (.getfield 46, 3) := by decide +kernel
theorem dX7_lookAt_32 : decode eX7_lookAt.2.1 32 = .ok (.aload_n 1, 1) := by decide +kernel
theorem dX7_lookAt_33 : decode eX7_lookAt.2.1 33 = .ok (.getfield 146, 3) := by decide +kernel
theorem dX7_lookAt_36 : decode eX7_lookAt.2.1 36 = .ok (.iconst 2, 1) := by decide +kernel
theorem dX7_lookAt_37 : decode eX7_lookAt.2.1 37 = .ok (.iaload, 1) := by decide +kernel
theorem dX7_lookAt_38 : decode eX7_lookAt.2.1 38 = .ok (.invokevirtual 349, 3) := by decide +kernel
theorem dX7_lookAt_41 : decode eX7_lookAt.2.1 41 = .ok (.return_, 1) := by decide +kernel
theorem dX7_spotAll_0 : decode eX7_spotAll.2.1 0 = .ok (.aload_n 0, 1) := by decide +kernel
theorem dX7_spotAll_1 : decode eX7_spotAll.2.1 1 = .ok (.aload_n 1, 1) := by decide +kernel
theorem dX7_spotAll_2 : decode eX7_spotAll.2.1 2 = .ok (.iload_n 2, 1) := by decide +kernel
theorem dX7_spotAll_3 : decode eX7_spotAll.2.1 3 = .ok (.invokevirtual 256, 3) := by decide +kernel
theorem dX7_spotAll_6 : decode eX7_spotAll.2.1 6 = .ok (.aload_n 0, 1) := by decide +kernel
theorem dX7_spotAll_7 : decode eX7_spotAll.2.1 7 = .ok (.getfield 46, 3) := by decide +kernel
theorem dX7_spotAll_10 : decode eX7_spotAll.2.1 10 = .ok (.aload_n 0, 1) := by decide +kernel
theorem dX7_spotAll_11 : decode eX7_spotAll.2.1 11 = .ok (.getfield 39, 3) := by decide +kernel
theorem dX7_spotAll_14 : decode eX7_spotAll.2.1 14 = .ok (.aload_n 0, 1) := by decide +kernel
theorem dX7_spotAll_15 : decode eX7_spotAll.2.1 15 = .ok (.getfield 39, 3) := by decide +kernel
theorem dX7_spotAll_18 : decode eX7_spotAll.2.1 18 = .ok (.bipush 6, 2) := by decide +kernel
theorem dX7_spotAll_20 : decode eX7_spotAll.2.1 20 = .ok (.aload_n 1, 1) := by decide +kernel
theorem dX7_spotAll_21 : decode eX7_spotAll.2.1 21 = .ok (.invokevirtual 246, 3) := by decide +kernel
theorem dX7_spotAll_24 : decode eX7_spotAll.2.1 24 = .ok (.invokevirtual 352, 3) := by decide +kernel
theorem dX7_spotAll_27 : decode eX7_spotAll.2.1 27 = .ok (.ireturn, 1) := by decide +kernel
theorem dX7_within_0 : decode eX7_within.2.1 0 = .ok (.iload_n 0, 1) := by decide +kernel
theorem dX7_within_1 : decode eX7_within.2.1 1 = .ok (.iload_n 1, 1) := by decide +kernel
theorem dX7_within_2 : decode eX7_within.2.1 2 = .ok (.if_icmp .lt 12, 3) := by decide +kernel
theorem dX7_within_5 : decode eX7_within.2.1 5 = .ok (.iload_n 0, 1) := by decide +kernel
theorem dX7_within_6 : decode eX7_within.2.1 6 = .ok (.iload_n 2, 1) := by decide +kernel
theorem dX7_within_7 : decode eX7_within.2.1 7 = .ok (.if_icmp .gt 7, 3) := by decide +kernel
theorem dX7_within_10 : decode eX7_within.2.1 10 = .ok (.iconst 1, 1) := by decide +kernel
theorem dX7_within_11 : decode eX7_within.2.1 11 = .ok (.goto 4, 3) := by decide +kernel
theorem dX7_within_14 : decode eX7_within.2.1 14 = .ok (.iconst 0, 1) := by decide +kernel
theorem dX7_within_15 : decode eX7_within.2.1 15 = .ok (.ireturn, 1) := by decide +kernel
theorem dX7_isGround_0 : decode eX7_isGround.2.1 0 = .ok (.iload_n 0, 1) := by decide +kernel
theorem dX7_isGround_1 : decode eX7_isGround.2.1 1 = .ok (.iconst 0, 1) := by decide +kernel
theorem dX7_isGround_2 : decode eX7_isGround.2.1 2 = .ok (.iconst 3, 1) := by decide +kernel
theorem dX7_isGround_3 : decode eX7_isGround.2.1 3 = .ok (.invokestatic 76, 3) := by decide +kernel
theorem dX7_isGround_6 : decode eX7_isGround.2.1 6 = .ok (.ireturn, 1) := by decide +kernel
theorem dX7_held_0 : decode eX7_held.2.1 0 = .ok (.iconst 0, 1) := by decide +kernel
theorem dX7_held_1 : decode eX7_held.2.1 1 = .ok (.iload_n 1, 1) := by decide +kernel
theorem dX7_held_2 : decode eX7_held.2.1 2 = .ok (.iload_n 0, 1) := by decide +kernel
theorem dX7_held_3 : decode eX7_held.2.1 3 = .ok (.invokestatic 355, 3) := by decide +kernel
theorem dX7_held_6 : decode eX7_held.2.1 6 = .ok (.invokestatic 183, 3) := by decide +kernel
theorem dX7_held_9 : decode eX7_held.2.1 9 = .ok (.ireturn, 1) := by decide +kernel
theorem dX7_replaced_0 : decode eX7_replaced.2.1 0 = .ok (.aload_n 0, 1) := by decide +kernel
theorem dX7_replaced_1 : decode eX7_replaced.2.1 1 = .ok (.iload_n 1, 1) := by decide +kernel
theorem dX7_replaced_2 : decode eX7_replaced.2.1 2 = .ok (.iaload, 1) := by decide +kernel
theorem dX7_replaced_3 : decode eX7_replaced.2.1 3 = .ok (.istore_n 3, 1) := by decide +kernel
theorem dX7_replaced_4 : decode eX7_replaced.2.1 4 = .ok (.aload_n 0, 1) := by decide +kernel
theorem dX7_replaced_5 : decode eX7_replaced.2.1 5 = .ok (.iload_n 1, 1) := by decide +kernel
theorem dX7_replaced_6 : decode eX7_replaced.2.1 6 = .ok (.iload_n 2, 1) := by decide +kernel
theorem dX7_replaced_7 : decode eX7_replaced.2.1 7 = .ok (.iastore, 1) := by decide +kernel
theorem dX7_replaced_8 : decode eX7_replaced.2.1 8 = .ok (.iload_n 3, 1) := by decide +kernel
theorem dX7_replaced_9 : decode eX7_replaced.2.1 9 = .ok (.ireturn, 1) := by decide +kernel
theorem dX7_beside_0 : decode eX7_beside.2.1 0 = .ok (.iload_n 0, 1) := by decide +kernel
theorem dX7_beside_1 : decode eX7_beside.2.1 1 = .ok (.bipush 8, 2) := by decide +kernel
theorem dX7_beside_3 : decode eX7_beside.2.1 3 = .ok (.irem, 1) := by decide +kernel
theorem dX7_beside_4 : decode eX7_beside.2.1 4 = .ok (.istore_n 2, 1) := by decide +kernel
theorem dX7_beside_5 : decode eX7_beside.2.1 5 = .ok (.iload_n 1, 1) := by decide +kernel
theorem dX7_beside_6 : decode eX7_beside.2.1 6 = .ok (.tableswitch 70 0 2 #[26, 39, 54], 26) := by decide +kernel
theorem dX7_beside_32 : decode eX7_beside.2.1 32 = .ok (.iload_n 2, 1) := by decide +kernel
theorem dX7_beside_33 : decode eX7_beside.2.1 33 = .ok (.ifCond .le 9, 3) := by decide +kernel
theorem dX7_beside_36 : decode eX7_beside.2.1 36 = .ok (.iload_n 0, 1) := by decide +kernel
theorem dX7_beside_37 : decode eX7_beside.2.1 37 = .ok (.iconst 1, 1) := by decide +kernel
theorem dX7_beside_38 : decode eX7_beside.2.1 38 = .ok (.isub, 1) := by decide +kernel
theorem dX7_beside_39 : decode eX7_beside.2.1 39 = .ok (.goto 5, 3) := by decide +kernel
theorem dX7_beside_42 : decode eX7_beside.2.1 42 = .ok (.ldc 84, 2) := by decide +kernel
theorem dX7_beside_44 : decode eX7_beside.2.1 44 = .ok (.ireturn, 1) := by decide +kernel
theorem dX7_beside_45 : decode eX7_beside.2.1 45 = .ok (.iload_n 2, 1) := by decide +kernel
theorem dX7_beside_46 : decode eX7_beside.2.1 46 = .ok (.bipush 7, 2) := by decide +kernel
theorem dX7_beside_48 : decode eX7_beside.2.1 48 = .ok (.if_icmp .ge 9, 3) := by decide +kernel
theorem dX7_beside_51 : decode eX7_beside.2.1 51 = .ok (.iload_n 0, 1) := by decide +kernel
theorem dX7_beside_52 : decode eX7_beside.2.1 52 = .ok (.iconst 1, 1) := by decide +kernel
theorem dX7_beside_53 : decode eX7_beside.2.1 53 = .ok (.iadd, 1) := by decide +kernel
theorem dX7_beside_54 : decode eX7_beside.2.1 54 = .ok (.goto 5, 3) := by decide +kernel
theorem dX7_beside_57 : decode eX7_beside.2.1 57 = .ok (.ldc 84, 2) := by decide +kernel
theorem dX7_beside_59 : decode eX7_beside.2.1 59 = .ok (.ireturn, 1) := by decide +kernel
theorem dX7_beside_60 : decode eX7_beside.2.1 60 = .ok (.iload_n 0, 1) := by decide +kernel
theorem dX7_beside_61 : decode eX7_beside.2.1 61 = .ok (.bipush 8, 2) := by decide +kernel
theorem dX7_beside_63 : decode eX7_beside.2.1 63 = .ok (.if_icmp .lt 10, 3) := by decide +kernel
theorem dX7_beside_66 : decode eX7_beside.2.1 66 = .ok (.iload_n 0, 1) := by decide +kernel
theorem dX7_beside_67 : decode eX7_beside.2.1 67 = .ok (.bipush 8, 2) := by decide +kernel
theorem dX7_beside_69 : decode eX7_beside.2.1 69 = .ok (.isub, 1) := by decide +kernel
theorem dX7_beside_70 : decode eX7_beside.2.1 70 = .ok (.goto 5, 3) := by decide +kernel
theorem dX7_beside_73 : decode eX7_beside.2.1 73 = .ok (.ldc 84, 2) := by decide +kernel
theorem dX7_beside_75 : decode eX7_beside.2.1 75 = .ok (.ireturn, 1) := by decide +kernel
theorem dX7_beside_76 : decode eX7_beside.2.1 76 = .ok (.iload_n 0, 1) := by decide +kernel
theorem dX7_beside_77 : decode eX7_beside.2.1 77 = .ok (.bipush 40, 2) := by decide +kernel
theorem dX7_beside_79 : decode eX7_beside.2.1 79 = .ok (.if_icmp .ge 10, 3) := by decide +kernel
theorem dX7_beside_82 : decode eX7_beside.2.1 82 = .ok (.iload_n 0, 1) := by decide +kernel
theorem dX7_beside_83 : decode eX7_beside.2.1 83 = .ok (.bipush 8, 2) := by decide +kernel
theorem dX7_beside_85 : decode eX7_beside.2.1 85 = .ok (.iadd, 1) := by decide +kernel
theorem dX7_beside_86 : decode eX7_beside.2.1 86 = .ok (.goto 5, 3) := by decide +kernel
theorem dX7_beside_89 : decode eX7_beside.2.1 89 = .ok (.ldc 84, 2) := by decide +kernel
theorem dX7_beside_91 : decode eX7_beside.2.1 91 = .ok (.ireturn, 1) := by decide +kernel
theorem dX8_init_0 : decode eX8_init.2.1 0 = .ok (.aload_n 0, 1) := by decide +kernel
theorem dX8_init_1 : decode eX8_init.2.1 1 = .ok (.invokespecial 1, 3) := by decide +kernel
theorem dX8_init_4 : decode eX8_init.2.1 4 = .ok (.aload_n 0, 1) := by decide +kernel
theorem dX8_init_5 : decode eX8_init.2.1 5 = .ok (.sipush 3450, 3) := by decide +kernel
theorem dX8_init_8 : decode eX8_init.2.1 8 = .ok (.newarray .int, 2) := by decide +kernel
theorem dX8_init_10 : decode eX8_init.2.1 10 = .ok (.putfield 7, 3) := by decide +kernel
theorem dX8_init_13 : decode eX8_init.2.1 13 = .ok (.aload_n 0, 1) := by decide +kernel
theorem dX8_init_14 : decode eX8_init.2.1 14 = .ok (.sipush 3450, 3) := by decide +kernel
theorem dX8_init_17 : decode eX8_init.2.1 17 = .ok (.newarray .int, 2) := by decide +kernel
theorem dX8_init_19 : decode eX8_init.2.1 19 = .ok (.putfield 13, 3) := by decide +kernel
theorem dX8_init_22 : decode eX8_init.2.1 22 = .ok (.aload_n 0, 1) := by decide +kernel
theorem dX8_init_23 : decode eX8_init.2.1 23 = .ok (.sipush 3450, 3) := by decide +kernel
theorem dX8_init_26 : decode eX8_init.2.1 26 = .ok (.newarray .int, 2) := by decide +kernel
theorem dX8_init_28 : decode eX8_init.2.1 28 = .ok (.putfield 16, 3) := by decide +kernel
theorem dX8_init_31 : decode eX8_init.2.1 31 = .ok (.aload_n 0, 1) := by decide +kernel
theorem dX8_init_32 : decode eX8_init.2.1 32 = .ok (.bipush 24, 2) := by decide +kernel
theorem dX8_init_34 : decode eX8_init.2.1 34 = .ok (.newarray .int, 2) := by decide +kernel
theorem dX8_init_36 : decode eX8_init.2.1 36 = .ok (.putfield 19, 3) := by decide +kernel
theorem dX8_init_39 : decode eX8_init.2.1 39 = .ok (.aload_n 0, 1) := by decide +kernel
theorem dX8_init_40 : decode eX8_init.2.1 40 = .ok (.bipush 24, 2) := by decide +kernel
theorem dX8_init_42 : decode eX8_init.2.1 42 = .ok (.newarray .int, 2) := by decide +kernel
theorem dX8_init_44 : decode eX8_init.2.1 44 = .ok (.putfield 22, 3) := by decide +kernel
theorem dX8_init_47 : decode eX8_init.2.1 47 = .ok (.aload_n 0, 1) := by decide +kernel
theorem dX8_init_48 : decode eX8_init.2.1 48 = .ok (.sipush 576, 3) := by decide +kernel
theorem dX8_init_51 : decode eX8_init.2.1 51 = .ok (.newarray .int, 2) := by decide +kernel
theorem dX8_init_53 : decode eX8_init.2.1 53 = .ok (.putfield 25, 3) := by decide +kernel
theorem dX8_init_56 : decode eX8_init.2.1 56 = .ok (.aload_n 0, 1) := by decide +kernel
theorem dX8_init_57 : decode eX8_init.2.1 57 = .ok (.bipush 48, 2) := by decide +kernel
theorem dX8_init_59 : decode eX8_init.2.1 59 = .ok (.newarray .int, 2) := by decide +kernel
theorem dX8_init_61 : decode eX8_init.2.1 61 = .ok (.putfield 28, 3) := by decide +kernel
theorem dX8_init_64 : decode eX8_init.2.1 64 = .ok (.aload_n 0, 1) := by decide +kernel
theorem dX8_init_65 : decode eX8_init.2.1 65 = .ok (.bipush 48, 2) := by decide +kernel
theorem dX8_init_67 : decode eX8_init.2.1 67 = .ok (.newarray .int, 2) := by decide +kernel
theorem dX8_init_69 : decode eX8_init.2.1 69 = .ok (.putfield 31, 3) := by decide +kernel
theorem dX8_init_72 : decode eX8_init.2.1 72 = .ok (.aload_n 0, 1) := by decide +kernel
theorem dX8_init_73 : decode eX8_init.2.1 73 = .ok (.bipush 24, 2) := by decide +kernel
theorem dX8_init_75 : decode eX8_init.2.1 75 = .ok (.newarray .int, 2) := by decide +kernel
theorem dX8_init_77 : decode eX8_init.2.1 77 = .ok (.putfield 34, 3) := by decide +kernel
theorem dX8_init_80 : decode eX8_init.2.1 80 = .ok (.aload_n 0, 1) := by decide +kernel
theorem dX8_init_81 : decode eX8_init.2.1 81 = .ok (.bipush 96, 2) := by decide +kernel
theorem dX8_init_83 : decode eX8_init.2.1 83 = .ok (.newarray .int, 2) := by decide +kernel
theorem dX8_init_85 : decode eX8_init.2.1 85 = .ok (.putfield 37, 3) := by decide +kernel
theorem dX8_init_88 : decode eX8_init.2.1 88 = .ok (.aload_n 0, 1) := by decide +kernel
theorem dX8_init_89 : decode eX8_init.2.1 89 = .ok (.sipush 128, 3) := by decide +kernel
theorem dX8_init_92 : decode eX8_init.2.1 92 = .ok (.newarray .int, 2) := by decide +kernel
theorem dX8_init_94 : decode eX8_init.2.1 94 = .ok (.putfield 40, 3) := by decide +kernel
theorem dX8_init_97 : decode eX8_init.2.1 97 = .ok (.aload_n 0, 1) := by decide +kernel
theorem dX8_init_98 : decode eX8_init.2.1 98 = .ok (.bipush 100, 2) := by decide +kernel
theorem dX8_init_100 : decode eX8_init.2.1 100 = .ok (.newarray .int, 2) := by decide +kernel
theorem dX8_init_102 : decode eX8_init.2.1 102 = .ok (.putfield 43, 3) := by decide +kernel
theorem dX8_init_105 : decode eX8_init.2.1 105 = .ok (.aload_n 0, 1) := by decide +kernel
theorem dX8_init_106 : decode eX8_init.2.1 106 = .ok (.bipush 48, 2) := by decide +kernel
theorem dX8_init_108 : decode eX8_init.2.1 108 = .ok (.newarray .boolean, 2) := by decide +kernel
theorem dX8_init_110 : decode eX8_init.2.1 110 = .ok (.putfield 46, 3) := by decide +kernel
theorem dX8_init_113 : decode eX8_init.2.1 113 = .ok (.aload_n 0, 1) := by decide +kernel
theorem dX8_init_114 : decode eX8_init.2.1 114 = .ok (.bipush 48, 2) := by decide +kernel
theorem dX8_init_116 : decode eX8_init.2.1 116 = .ok (.newarray .int, 2) := by decide +kernel
theorem dX8_init_118 : decode eX8_init.2.1 118 = .ok (.putfield 50, 3) := by decide +kernel
theorem dX8_init_121 : decode eX8_init.2.1 121 = .ok (.aload_n 0, 1) := by decide +kernel
theorem dX8_init_122 : decode eX8_init.2.1 122 = .ok (.sipush 24000, 3) := by decide +kernel
theorem dX8_init_125 : decode eX8_init.2.1 125 = .ok (.newarray .byte, 2) := by decide +kernel
theorem dX8_init_127 : decode eX8_init.2.1 127 = .ok (.putfield 53, 3) := by decide +kernel
theorem dX8_init_130 : decode eX8_init.2.1 130 = .ok (.aload_n 0, 1) := by decide +kernel
theorem dX8_init_131 : decode eX8_init.2.1 131 = .ok (.bipush 48, 2) := by decide +kernel
theorem dX8_init_133 : decode eX8_init.2.1 133 = .ok (.newarray .int, 2) := by decide +kernel
theorem dX8_init_135 : decode eX8_init.2.1 135 = .ok (.putfield 57, 3) := by decide +kernel
theorem dX8_init_138 : decode eX8_init.2.1 138 = .ok (.aload_n 0, 1) := by decide +kernel
theorem dX8_init_139 : decode eX8_init.2.1 139 = .ok (.bipush 60, 2) := by decide +kernel
theorem dX8_init_141 : decode eX8_init.2.1 141 = .ok (.newarray .int, 2) := by decide +kernel
theorem dX8_init_143 : decode eX8_init.2.1 143 = .ok (.putfield 60, 3) := by decide +kernel
theorem dX8_init_146 : decode eX8_init.2.1 146 = .ok (.aload_n 0, 1) := by decide +kernel
theorem dX8_init_147 : decode eX8_init.2.1 147 = .ok (.bipush 60, 2) := by decide +kernel
theorem dX8_init_149 : decode eX8_init.2.1 149 = .ok (.newarray .int, 2) := by decide +kernel
theorem dX8_init_151 : decode eX8_init.2.1 151 = .ok (.putfield 63, 3) := by decide +kernel
theorem dX8_init_154 : decode eX8_init.2.1 154 = .ok (.aload_n 0, 1) := by decide +kernel
theorem dX8_init_155 : decode eX8_init.2.1 155 = .ok (.getfield 7, 3) := by decide +kernel
theorem dX8_init_158 : decode eX8_init.2.1 158 = .ok (.iconst 2, 1) := by decide +kernel
theorem dX8_init_159 : decode eX8_init.2.1 159 = .ok (.bipush 50, 2) := by decide +kernel
theorem dX8_init_161 : decode eX8_init.2.1 161 = .ok (.iastore, 1) := by decide +kernel
theorem dX8_init_162 : decode eX8_init.2.1 162 = .ok (.aload_n 0, 1) := by decide +kernel
theorem dX8_init_163 : decode eX8_init.2.1 163 = .ok (.getfield 7, 3) := by decide +kernel
theorem dX8_init_166 : decode eX8_init.2.1 166 = .ok (.iconst 4, 1) := by decide +kernel
theorem dX8_init_167 : decode eX8_init.2.1 167 = .ok (.bipush 20, 2) := by decide +kernel
theorem dX8_init_169 : decode eX8_init.2.1 169 = .ok (.iastore, 1) := by decide +kernel
theorem dX8_init_170 : decode eX8_init.2.1 170 = .ok (.aload_n 0, 1) := by decide +kernel
theorem dX8_init_171 : decode eX8_init.2.1 171 = .ok (.getfield 7, 3) := by decide +kernel
theorem dX8_init_174 : decode eX8_init.2.1 174 = .ok (.iconst 5, 1) := by decide +kernel
theorem dX8_init_175 : decode eX8_init.2.1 175 = .ok (.bipush 6, 2) := by decide +kernel
theorem dX8_init_177 : decode eX8_init.2.1 177 = .ok (.iastore, 1) := by decide +kernel
theorem dX8_init_178 : decode eX8_init.2.1 178 = .ok (.iconst 0, 1) := by decide +kernel
theorem dX8_init_179 : decode eX8_init.2.1 179 = .ok (.istore_n 1, 1) := by decide +kernel
theorem dX8_init_180 : decode eX8_init.2.1 180 = .ok (.iload_n 1, 1) := by decide +kernel
theorem dX8_init_181 : decode eX8_init.2.1 181 = .ok (.bipush 10, 2) := by decide +kernel
theorem dX8_init_183 : decode eX8_init.2.1 183 = .ok (.if_icmp .ge 23, 3) := by decide +kernel
theorem dX8_init_186 : decode eX8_init.2.1 186 = .ok (.aload_n 0, 1) := by decide +kernel
theorem dX8_init_187 : decode eX8_init.2.1 187 = .ok (.getfield 7, 3) := by decide +kernel
theorem dX8_init_190 : decode eX8_init.2.1 190 = .ok (.bipush 10, 2) := by decide +kernel
theorem dX8_init_192 : decode eX8_init.2.1 192 = .ok (.iconst 2, 1) := by decide +kernel
theorem dX8_init_193 : decode eX8_init.2.1 193 = .ok (.iload_n 1, 1) := by decide +kernel
theorem dX8_init_194 : decode eX8_init.2.1 194 = .ok (.imul, 1) := by decide +kernel
theorem dX8_init_195 : decode eX8_init.2.1 195 = .ok (.iadd, 1) := by decide +kernel
theorem dX8_init_196 : decode eX8_init.2.1 196 = .ok (.iconst 1, 1) := by decide +kernel
theorem dX8_init_197 : decode eX8_init.2.1 197 = .ok (.iadd, 1) := by decide +kernel
theorem dX8_init_198 : decode eX8_init.2.1 198 = .ok (.iconst 5, 1) := by decide +kernel
theorem dX8_init_199 : decode eX8_init.2.1 199 = .ok (.iastore, 1) := by decide +kernel
theorem dX8_init_200 : decode eX8_init.2.1 200 = .ok (.iinc 1 1, 3) := by decide +kernel
theorem dX8_init_203 : decode eX8_init.2.1 203 = .ok (.goto (-23), 3) := by decide +kernel
theorem dX8_init_206 : decode eX8_init.2.1 206 = .ok (.iconst 0, 1) := by decide +kernel
theorem dX8_init_207 : decode eX8_init.2.1 207 = .ok (.istore_n 1, 1) := by decide +kernel
theorem dX8_init_208 : decode eX8_init.2.1 208 = .ok (.iload_n 1, 1) := by decide +kernel
theorem dX8_init_209 : decode eX8_init.2.1 209 = .ok (.bipush 48, 2) := by decide +kernel
theorem dX8_init_211 : decode eX8_init.2.1 211 = .ok (.if_icmp .ge 20, 3) := by decide +kernel
theorem dX8_init_214 : decode eX8_init.2.1 214 = .ok (.aload_n 0, 1) := by decide +kernel
theorem dX8_init_215 : decode eX8_init.2.1 215 = .ok (.getfield 7, 3) := by decide +kernel
theorem dX8_init_218 : decode eX8_init.2.1 218 = .ok (.bipush 40, 2) := by decide +kernel
theorem dX8_init_220 : decode eX8_init.2.1 220 = .ok (.iload_n 1, 1) := by decide +kernel
theorem dX8_init_221 : decode eX8_init.2.1 221 = .ok (.iadd, 1) := by decide +kernel
theorem dX8_init_222 : decode eX8_init.2.1 222 = .ok (.bipush 50, 2) := by decide +kernel
theorem dX8_init_224 : decode eX8_init.2.1 224 = .ok (.iastore, 1) := by decide +kernel
theorem dX8_init_225 : decode eX8_init.2.1 225 = .ok (.iinc 1 1, 3) := by decide +kernel
theorem dX8_init_228 : decode eX8_init.2.1 228 = .ok (.goto (-20), 3) := by decide +kernel
theorem dX8_init_231 : decode eX8_init.2.1 231 = .ok (.iconst 0, 1) := by decide +kernel
theorem dX8_init_232 : decode eX8_init.2.1 232 = .ok (.istore_n 1, 1) := by decide +kernel
theorem dX8_init_233 : decode eX8_init.2.1 233 = .ok (.iload_n 1, 1) := by decide +kernel
theorem dX8_init_234 : decode eX8_init.2.1 234 = .ok (.bipush 24, 2) := by decide +kernel
theorem dX8_init_236 : decode eX8_init.2.1 236 = .ok (.if_icmp .ge 16, 3) := by decide +kernel
theorem dX8_init_239 : decode eX8_init.2.1 239 = .ok (.aload_n 0, 1) := by decide +kernel
theorem dX8_init_240 : decode eX8_init.2.1 240 = .ok (.getfield 19, 3) := by decide +kernel
theorem dX8_init_243 : decode eX8_init.2.1 243 = .ok (.iload_n 1, 1) := by decide +kernel
theorem dX8_init_244 : decode eX8_init.2.1 244 = .ok (.iconst (-1), 1) := by decide +kernel
theorem dX8_init_245 : decode eX8_init.2.1 245 = .ok (.iastore, 1) := by decide +kernel
theorem dX8_init_246 : decode eX8_init.2.1 246 = .ok (.iinc 1 1, 3) := by decide +kernel
theorem dX8_init_249 : decode eX8_init.2.1 249 = .ok (.goto (-16), 3) := by decide +kernel
theorem dX8_init_252 : decode eX8_init.2.1 252 = .ok (.return_, 1) := by decide +kernel
theorem dX8_isIn_0 : decode eX8_isIn.2.1 0 = .ok (.lload_n 0, 1) := by decide +kernel
theorem dX8_isIn_1 : decode eX8_isIn.2.1 1 = .ok (.lload_n 2, 1) := by decide +kernel
theorem dX8_isIn_2 : decode eX8_isIn.2.1 2 = .ok (.lcmp, 1) := by decide +kernel
theorem dX8_isIn_3 : decode eX8_isIn.2.1 3 = .ok (.ifCond .lt 14, 3) := by decide +kernel
theorem dX8_isIn_6 : decode eX8_isIn.2.1 6 = .ok (.lload_n 0, 1) := by decide +kernel
theorem dX8_isIn_7 : decode eX8_isIn.2.1 7 = .ok (.lload 4, 2) := by decide +kernel
theorem dX8_isIn_9 : decode eX8_isIn.2.1 9 = .ok (.lcmp, 1) := by decide +kernel
theorem dX8_isIn_10 : decode eX8_isIn.2.1 10 = .ok (.ifCond .gt 7, 3) := by decide +kernel
theorem dX8_isIn_13 : decode eX8_isIn.2.1 13 = .ok (.iconst 1, 1) := by decide +kernel
theorem dX8_isIn_14 : decode eX8_isIn.2.1 14 = .ok (.goto 4, 3) := by decide +kernel
theorem dX8_isIn_17 : decode eX8_isIn.2.1 17 = .ok (.iconst 0, 1) := by decide +kernel
theorem dX8_isIn_18 : decode eX8_isIn.2.1 18 = .ok (.ireturn, 1) := by decide +kernel
theorem dX8_orNone_0 : decode eX8_orNone.2.1 0 = .ok (.iload_n 0, 1) := by decide +kernel
theorem dX8_orNone_1 : decode eX8_orNone.2.1 1 = .ok (.ifCond .ge 8, 3) := by decide +kernel
theorem dX8_orNone_4 : decode eX8_orNone.2.1 4 = .ok (.ldc 66, 2) := by decide +kernel
theorem dX8_orNone_6 : decode eX8_orNone.2.1 6 = .ok (.goto 4, 3) := by decide +kernel
theorem dX8_orNone_9 : decode eX8_orNone.2.1 9 = .ok (.iload_n 0, 1) := by decide +kernel
theorem dX8_orNone_10 : decode eX8_orNone.2.1 10 = .ok (.ireturn, 1) := by decide +kernel
theorem dX8_least_0 : decode eX8_least.2.1 0 = .ok (.iload_n 0, 1) := by decide +kernel
theorem dX8_least_1 : decode eX8_least.2.1 1 = .ok (.iload_n 1, 1) := by decide +kernel
theorem dX8_least_2 : decode eX8_least.2.1 2 = .ok (.if_icmp .ge 7, 3) := by decide +kernel
theorem dX8_least_5 : decode eX8_least.2.1 5 = .ok (.iload_n 0, 1) := by decide +kernel
theorem dX8_least_6 : decode eX8_least.2.1 6 = .ok (.goto 4, 3) := by decide +kernel
theorem dX8_least_9 : decode eX8_least.2.1 9 = .ok (.iload_n 1, 1) := by decide +kernel
theorem dX8_least_10 : decode eX8_least.2.1 10 = .ok (.ireturn, 1) := by decide +kernel
theorem dX8_size_0 : decode eX8_size.2.1 0 = .ok (.iload_n 0, 1) := by decide +kernel
theorem dX8_size_1 : decode eX8_size.2.1 1 = .ok (.ifCond .ge 8, 3) := by decide +kernel
theorem dX8_size_4 : decode eX8_size.2.1 4 = .ok (.iload_n 0, 1) := by decide +kernel
theorem dX8_size_5 : decode eX8_size.2.1 5 = .ok (.ineg, 1) := by decide +kernel
theorem dX8_size_6 : decode eX8_size.2.1 6 = .ok (.goto 4, 3) := by decide +kernel
theorem dX8_size_9 : decode eX8_size.2.1 9 = .ok (.iload_n 0, 1) := by decide +kernel
theorem dX8_size_10 : decode eX8_size.2.1 10 = .ok (.ireturn, 1) := by decide +kernel
theorem dX8_held_0 : decode eX8_held.2.1 0 = .ok (.iload_n 0, 1) := by decide +kernel
theorem dX8_held_1 : decode eX8_held.2.1 1 = .ok (.ifCond .ge 7, 3) := by decide +kernel
theorem dX8_held_4 : decode eX8_held.2.1 4 = .ok (.iconst 0, 1) := by decide +kernel
theorem dX8_held_5 : decode eX8_held.2.1 5 = .ok (.goto 13, 3) := by decide +kernel
theorem dX8_held_8 : decode eX8_held.2.1 8 = .ok (.iload_n 0, 1) := by decide +kernel
theorem dX8_held_9 : decode eX8_held.2.1 9 = .ok (.iload_n 1, 1) := by decide +kernel
theorem dX8_held_10 : decode eX8_held.2.1 10 = .ok (.if_icmp .le 7, 3) := by decide +kernel
theorem dX8_held_13 : decode eX8_held.2.1 13 = .ok (.iload_n 1, 1) := by decide +kernel
theorem dX8_held_14 : decode eX8_held.2.1 14 = .ok (.goto 4, 3) := by decide +kernel
theorem dX8_held_17 : decode eX8_held.2.1 17 = .ok (.iload_n 0, 1) := by decide +kernel
theorem dX8_held_18 : decode eX8_held.2.1 18 = .ok (.ireturn, 1) := by decide +kernel
theorem dX8_becomes_0 : decode eX8_becomes.2.1 0 = .ok (.aload_n 0, 1) := by decide +kernel
theorem dX8_becomes_1 : decode eX8_becomes.2.1 1 = .ok (.iconst 0, 1) := by decide +kernel
theorem dX8_becomes_2 : decode eX8_becomes.2.1 2 = .ok (.putfield 67, 3) := by decide +kernel
theorem dX8_becomes_5 : decode eX8_becomes.2.1 5 = .ok (.aload_n 0, 1) := by decide +kernel
theorem dX8_becomes_6 : decode eX8_becomes.2.1 6 = .ok (.getfield 7, 3) := by decide +kernel
theorem dX8_becomes_9 : decode eX8_becomes.2.1 9 = .ok (.iload_n 1, 1) := by decide +kernel
theorem dX8_becomes_10 : decode eX8_becomes.2.1 10 = .ok (.iaload, 1) := by decide +kernel
theorem dX8_becomes_11 : decode eX8_becomes.2.1 11 = .ok (.istore_n 3, 1) := by decide +kernel
theorem dX8_becomes_12 : decode eX8_becomes.2.1 12 = .ok (.aload_n 0, 1) := by decide +kernel
theorem dX8_becomes_13 : decode eX8_becomes.2.1 13 = .ok (.getfield 7, 3) := by decide +kernel
theorem dX8_becomes_16 : decode eX8_becomes.2.1 16 = .ok (.iload_n 1, 1) := by decide +kernel
theorem dX8_becomes_17 : decode eX8_becomes.2.1 17 = .ok (.iload_n 2, 1) := by decide +kernel
theorem dX8_becomes_18 : decode eX8_becomes.2.1 18 = .ok (.iastore, 1) := by decide +kernel
theorem dX8_becomes_19 : decode eX8_becomes.2.1 19 = .ok (.iload_n 3, 1) := by decide +kernel
theorem dX8_becomes_20 : decode eX8_becomes.2.1 20 = .ok (.ireturn, 1) := by decide +kernel
theorem dX8_partAt_0 : decode eX8_partAt.2.1 0 = .ok (.bipush 90, 2) := by decide +kernel
theorem dX8_partAt_2 : decode eX8_partAt.2.1 2 = .ok (.bipush 6, 2) := by decide +kernel
theorem dX8_partAt_4 : decode eX8_partAt.2.1 4 = .ok (.iload_n 1, 1) := by decide +kernel
theorem dX8_partAt_5 : decode eX8_partAt.2.1 5 = .ok (.imul, 1) := by decide +kernel
theorem dX8_partAt_6 : decode eX8_partAt.2.1 6 = .ok (.iadd, 1) := by decide +kernel
theorem dX8_partAt_7 : decode eX8_partAt.2.1 7 = .ok (.ireturn, 1) := by decide +kernel
theorem dX8_textAt_0 : decode eX8_textAt.2.1 0 = .ok (.sipush 440, 3) := by decide +kernel
theorem dX8_textAt_3 : decode eX8_textAt.2.1 3 = .ok (.sipush 200, 3) := by decide +kernel
theorem dX8_textAt_6 : decode eX8_textAt.2.1 6 = .ok (.iload_n 1, 1) := by decide +kernel
theorem dX8_textAt_7 : decode eX8_textAt.2.1 7 = .ok (.imul, 1) := by decide +kernel
theorem dX8_textAt_8 : decode eX8_textAt.2.1 8 = .ok (.iadd, 1) := by decide +kernel
theorem dX8_textAt_9 : decode eX8_textAt.2.1 9 = .ok (.ireturn, 1) := by decide +kernel
theorem dX8_isPart_0 : decode eX8_isPart.2.1 0 = .ok (.iload_n 1, 1) := by decide +kernel
theorem dX8_isPart_1 : decode eX8_isPart.2.1 1 = .ok (.i2l, 1) := by decide +kernel
theorem dX8_isPart_2 : decode eX8_isPart.2.1 2 = .ok (.lconst 0, 1) := by decide +kernel
theorem dX8_isPart_3 : decode eX8_isPart.2.1 3 = .ok (.aload_n 0, 1) := by decide +kernel
theorem dX8_isPart_4 : decode eX8_isPart.2.1 4 = .ok (.getfield 7, 3) := by decide +kernel
theorem dX8_isPart_7 : decode eX8_isPart.2.1 7 = .ok (.iconst 0, 1) := by decide +kernel
theorem dX8_isPart_8 : decode eX8_isPart.2.1 8 = .ok (.iaload, 1) := by decide +kernel
theorem dX8_isPart_9 : decode eX8_isPart.2.1 9 = .ok (.iconst 1, 1) := by decide +kernel
theorem dX8_isPart_10 : decode eX8_isPart.2.1 10 = .ok (.isub, 1) := by decide +kernel
theorem dX8_isPart_11 : decode eX8_isPart.2.1 11 = .ok (.i2l, 1) := by decide +kernel
theorem dX8_isPart_12 : decode eX8_isPart.2.1 12 = .ok (.invokestatic 71, 3) := by decide +kernel
theorem dX8_isPart_15 : decode eX8_isPart.2.1 15 = .ok (.ireturn, 1) := by decide +kernel
theorem dX8_isText_0 : decode eX8_isText.2.1 0 = .ok (.iload_n 1, 1) := by decide +kernel
theorem dX8_isText_1 : decode eX8_isText.2.1 1 = .ok (.i2l, 1) := by decide +kernel
theorem dX8_isText_2 : decode eX8_isText.2.1 2 = .ok (.lconst 0, 1) := by decide +kernel
theorem dX8_isText_3 : decode eX8_isText.2.1 3 = .ok (.aload_n 0, 1) := by decide +kernel
theorem dX8_isText_4 : decode eX8_isText.2.1 4 = .ok (.getfield 7, 3) := by decide +kernel
theorem dX8_isText_7 : decode eX8_isText.2.1 7 = .ok (.bipush 6, 2) := by decide +kernel
theorem dX8_isText_9 : decode eX8_isText.2.1 9 = .ok (.iaload, 1) := by decide +kernel
theorem dX8_isText_10 : decode eX8_isText.2.1 10 = .ok (.iconst 1, 1) := by decide +kernel
theorem dX8_isText_11 : decode eX8_isText.2.1 11 = .ok (.isub, 1) := by decide +kernel
theorem dX8_isText_12 : decode eX8_isText.2.1 12 = .ok (.i2l, 1) := by decide +kernel
theorem dX8_isText_13 : decode eX8_isText.2.1 13 = .ok (.invokestatic 71, 3) := by decide +kernel
theorem dX8_isText_16 : decode eX8_isText.2.1 16 = .ok (.ireturn, 1) := by decide +kernel
theorem dX8_isPlace_0 : decode eX8_isPlace.2.1 0 = .ok (.iload_n 0, 1) := by decide +kernel
theorem dX8_isPlace_1 : decode eX8_isPlace.2.1 1 = .ok (.i2l, 1) := by decide +kernel
theorem dX8_isPlace_2 : decode eX8_isPlace.2.1 2 = .ok (.lconst 0, 1) := by decide +kernel
theorem dX8_isPlace_3 : decode eX8_isPlace.2.1 3 = .ok (.ldc2_w 75, 3) := by decide +kernel
theorem dX8_isPlace_6 : decode eX8_isPlace.2.1 6 = .ok (.invokestatic 71, 3) := by decide +kernel
theorem dX8_isPlace_9 : decode eX8_isPlace.2.1 9 = .ok (.ireturn, 1) := by decide +kernel
theorem dX8_isGround_0 : decode eX8_isGround.2.1 0 = .ok (.iload_n 0, 1) := by decide +kernel
theorem dX8_isGround_1 : decode eX8_isGround.2.1 1 = .ok (.i2l, 1) := by decide +kernel
theorem dX8_isGround_2 : decode eX8_isGround.2.1 2 = .ok (.lconst 0, 1) := by decide +kernel
theorem dX8_isGround_3 : decode eX8_isGround.2.1 3 = .ok (.ldc2_w 77, 3) := by decide +kernel
theorem dX8_isGround_6 : decode eX8_isGround.2.1 6 = .ok (.invokestatic 71, 3) := by decide +kernel
theorem dX8_isGround_9 : decode eX8_isGround.2.1 9 = .ok (.ireturn, 1) := by decide +kernel
theorem dX8_isGroup_0 : decode eX8_isGroup.2.1 0 = .ok (.iload_n 0, 1) := by decide +kernel
theorem dX8_isGroup_1 : decode eX8_isGroup.2.1 1 = .ok (.i2l, 1) := by decide +kernel
theorem dX8_isGroup_2 : decode eX8_isGroup.2.1 2 = .ok (.lconst 0, 1) := by decide +kernel
theorem dX8_isGroup_3 : decode eX8_isGroup.2.1 3 = .ok (.ldc2_w 79, 3) := by decide +kernel
theorem dX8_isGroup_6 : decode eX8_isGroup.2.1 6 = .ok (.invokestatic 71, 3) := by decide +kernel
theorem dX8_isGroup_9 : decode eX8_isGroup.2.1 9 = .ok (.ireturn, 1) := by decide +kernel
theorem dX8_onPlace_0 : decode eX8_onPlace.2.1 0 = .ok (.iconst (-1), 1) := by decide +kernel
theorem dX8_onPlace_1 : decode eX8_onPlace.2.1 1 = .ok (.istore_n 2, 1) := by decide +kernel
theorem dX8_onPlace_2 : decode eX8_onPlace.2.1 2 = .ok (.iconst 0, 1) := by decide +kernel
theorem dX8_onPlace_3 : decode eX8_onPlace.2.1 3 = .ok (.istore_n 3, 1) := by decide +kernel
theorem dX8_onPlace_4 : decode eX8_onPlace.2.1 4 = .ok (.iload_n 3, 1) := by decide +kernel
theorem dX8_onPlace_5 : decode eX8_onPlace.2.1 5 = .ok (.aload_n 0, 1) := by decide +kernel
theorem dX8_onPlace_6 : decode eX8_onPlace.2.1 6 = .ok (.getfield 7, 3) := by decide +kernel
theorem dX8_onPlace_9 : decode eX8_onPlace.2.1 9 = .ok (.iconst 0, 1) := by decide +kernel
theorem dX8_onPlace_10 : decode eX8_onPlace.2.1 10 = .ok (.iaload, 1) := by decide +kernel
theorem dX8_onPlace_11 : decode eX8_onPlace.2.1 11 = .ok (.if_icmp .ge 31, 3) := by decide +kernel
theorem dX8_onPlace_14 : decode eX8_onPlace.2.1 14 = .ok (.aload_n 0, 1) := by decide +kernel
theorem dX8_onPlace_15 : decode eX8_onPlace.2.1 15 = .ok (.getfield 7, 3) := by decide +kernel
theorem dX8_onPlace_18 : decode eX8_onPlace.2.1 18 = .ok (.aload_n 0, 1) := by decide +kernel
theorem dX8_onPlace_19 : decode eX8_onPlace.2.1 19 = .ok (.iload_n 3, 1) := by decide +kernel
theorem dX8_onPlace_20 : decode eX8_onPlace.2.1 20 = .ok (.invokevirtual 81, 3) := by decide +kernel
theorem dX8_onPlace_23 : decode eX8_onPlace.2.1 23 = .ok (.iconst 1, 1) := by decide +kernel
theorem dX8_onPlace_24 : decode eX8_onPlace.2.1 24 = .ok (.iadd, 1) := by decide +kernel
theorem dX8_onPlace_25 : decode eX8_onPlace.2.1 25 = .ok (.iaload, 1) := by decide +kernel
theorem dX8_onPlace_26 : decode eX8_onPlace.2.1 26 = .ok (.iload_n 1, 1) := by decide +kernel
theorem dX8_onPlace_27 : decode eX8_onPlace.2.1 27 = .ok (.if_icmp .ne 7, 3) := by decide +kernel
theorem dX8_onPlace_30 : decode eX8_onPlace.2.1 30 = .ok (.iload_n 3, 1) := by decide +kernel
theorem dX8_onPlace_31 : decode eX8_onPlace.2.1 31 = .ok (.goto 4, 3) := by decide +kernel
theorem dX8_onPlace_34 : decode eX8_onPlace.2.1 34 = .ok (.iload_n 2, 1) := by decide +kernel
theorem dX8_onPlace_35 : decode eX8_onPlace.2.1 35 = .ok (.istore_n 2, 1) := by decide +kernel
theorem dX8_onPlace_36 : decode eX8_onPlace.2.1 36 = .ok (.iinc 3 1, 3) := by decide +kernel
theorem dX8_onPlace_39 : decode eX8_onPlace.2.1 39 = .ok (.goto (-35), 3) := by decide +kernel
theorem dX8_onPlace_42 : decode eX8_onPlace.2.1 42 = .ok (.iload_n 2, 1) := by decide +kernel
theorem dX8_onPlace_43 : decode eX8_onPlace.2.1 43 = .ok (.ireturn, 1) := by decide +kernel
theorem dX8_part_0 : decode eX8_part.2.1 0 = .ok (.iload_n 1, 1) := by decide +kernel
theorem dX8_part_1 : decode eX8_part.2.1 1 = .ok (.i2l, 1) := by decide +kernel
theorem dX8_part_2 : decode eX8_part.2.1 2 = .ok (.lconst 0, 1) := by decide +kernel
theorem dX8_part_3 : decode eX8_part.2.1 3 = .ok (.ldc2_w 79, 3) := by decide +kernel
theorem dX8_part_6 : decode eX8_part.2.1 6 = .ok (.invokestatic 71, 3) := by decide +kernel
theorem dX8_part_9 : decode eX8_part.2.1 9 = .ok (.ifCond .eq 48, 3) := by decide +kernel
theorem dX8_part_12 : decode eX8_part.2.1 12 = .ok (.iload_n 2, 1) := by decide +kernel
theorem dX8_part_13 : decode eX8_part.2.1 13 = .ok (.invokestatic 85, 3) := by decide +kernel
theorem dX8_part_16 : decode eX8_part.2.1 16 = .ok (.ifCond .eq 41, 3) := by decide +kernel
theorem dX8_part_19 : decode eX8_part.2.1 19 = .ok (.iload_n 3, 1) := by decide +kernel
theorem dX8_part_20 : decode eX8_part.2.1 20 = .ok (.i2l, 1) := by decide +kernel
theorem dX8_part_21 : decode eX8_part.2.1 21 = .ok (.lconst 0, 1) := by decide +kernel
theorem dX8_part_22 : decode eX8_part.2.1 22 = .ok (.ldc2_w 89, 3) := by decide +kernel
theorem dX8_part_25 : decode eX8_part.2.1 25 = .ok (.invokestatic 71, 3) := by decide +kernel
theorem dX8_part_28 : decode eX8_part.2.1 28 = .ok (.ifCond .eq 29, 3) := by decide +kernel
theorem dX8_part_31 : decode eX8_part.2.1 31 = .ok (.iload 4, 2) := by decide +kernel
theorem dX8_part_33 : decode eX8_part.2.1 33 = .ok (.i2l, 1) := by decide +kernel
theorem dX8_part_34 : decode eX8_part.2.1 34 = .ok (.lconst 0, 1) := by decide +kernel
theorem dX8_part_35 : decode eX8_part.2.1 35 = .ok (.ldc2_w 89, 3) := by decide +kernel
theorem dX8_part_38 : decode eX8_part.2.1 38 = .ok (.invokestatic 71, 3) := by decide +kernel
theorem dX8_part_41 : decode eX8_part.2.1 41 = .ok (.ifCond .eq 16, 3) := by decide +kernel
theorem dX8_part_44 : decode eX8_part.2.1 44 = .ok (.iload 5, 2) := by decide +kernel
theorem dX8_part_46 : decode eX8_part.2.1 46 = .ok (.i2l, 1) := by decide +kernel
theorem dX8_part_47 : decode eX8_part.2.1 47 = .ok (.lconst 0, 1) := by decide +kernel
theorem dX8_part_48 : decode eX8_part.2.1 48 = .ok (.ldc2_w 89, 3) := by decide +kernel
theorem dX8_part_51 : decode eX8_part.2.1 51 = .ok (.invokestatic 71, 3) := by decide +kernel
theorem dX8_part_54 : decode eX8_part.2.1 54 = .ok (.ifCond .ne 6, 3) := by decide +kernel
theorem dX8_part_57 : decode eX8_part.2.1 57 = .ok (.ldc 91, 2) := by decide +kernel
theorem dX8_part_59 : decode eX8_part.2.1 59 = .ok (.ireturn, 1) := by decide +kernel
theorem dX8_part_60 : decode eX8_part.2.1 60 = .ok (.aload_n 0, 1) := by decide +kernel
theorem dX8_part_61 : decode eX8_part.2.1 61 = .ok (.iload_n 2, 1) := by decide +kernel
theorem dX8_part_62 : decode eX8_part.2.1 62 = .ok (.invokevirtual 92, 3) := by decide +kernel
theorem dX8_part_65 : decode eX8_part.2.1 65 = .ok (.ifCond .lt 6, 3) := by decide +kernel
theorem dX8_part_68 : decode eX8_part.2.1 68 = .ok (.ldc 95, 2) := by decide +kernel
theorem dX8_part_70 : decode eX8_part.2.1 70 = .ok (.ireturn, 1) := by decide +kernel
theorem dX8_part_71 : decode eX8_part.2.1 71 = .ok (.aload_n 0, 1) := by decide +kernel
theorem dX8_part_72 : decode eX8_part.2.1 72 = .ok (.getfield 7, 3) := by decide +kernel
theorem dX8_part_75 : decode eX8_part.2.1 75 = .ok (.iconst 0, 1) := by decide +kernel
theorem dX8_part_76 : decode eX8_part.2.1 76 = .ok (.iaload, 1) := by decide +kernel
theorem dX8_part_77 : decode eX8_part.2.1 77 = .ok (.bipush 48, 2) := by decide +kernel
theorem dX8_part_79 : decode eX8_part.2.1 79 = .ok (.if_icmp .ne 6, 3) := by decide +kernel
theorem dX8_part_82 : decode eX8_part.2.1 82 = .ok (.ldc 96, 2) := by decide +kernel
theorem dX8_part_84 : decode eX8_part.2.1 84 = .ok (.ireturn, 1) := by decide +kernel
theorem dX8_part_85 : decode eX8_part.2.1 85 = .ok (.aload_n 0, 1) := by decide +kernel
theorem dX8_part_86 : decode eX8_part.2.1 86 = .ok (.aload_n 0, 1) := by decide +kernel
theorem dX8_part_87 : decode eX8_part.2.1 87 = .ok (.getfield 7, 3) := by decide +kernel
theorem dX8_part_90 : decode eX8_part.2.1 90 = .ok (.iconst 0, 1) := by decide +kernel
theorem dX8_part_91 : decode eX8_part.2.1 91 = .ok (.iaload, 1) := by decide +kernel
theorem dX8_part_92 : decode eX8_part.2.1 92 = .ok (.invokevirtual 81, 3) := by decide +kernel
theorem dX8_part_95 : decode eX8_part.2.1 95 = .ok (.istore 6, 2) := by decide +kernel
theorem dX8_part_97 : decode eX8_part.2.1 97 = .ok (.aload_n 0, 1) := by decide +kernel
theorem dX8_part_98 : decode eX8_part.2.1 98 = .ok (.getfield 7, 3) := by decide +kernel
theorem dX8_part_101 : decode eX8_part.2.1 101 = .ok (.iload 6, 2) := by decide +kernel
theorem dX8_part_103 : decode eX8_part.2.1 103 = .ok (.iload_n 1, 1) := by decide +kernel
theorem dX8_part_104 : decode eX8_part.2.1 104 = .ok (.iastore, 1) := by decide +kernel
theorem dX8_part_105 : decode eX8_part.2.1 105 = .ok (.aload_n 0, 1) := by decide +kernel
theorem dX8_part_106 : decode eX8_part.2.1 106 = .ok (.getfield 7, 3) := by decide +kernel
theorem dX8_part_109 : decode eX8_part.2.1 109 = .ok (.iload 6, 2) := by decide +kernel
theorem dX8_part_111 : decode eX8_part.2.1 111 = .ok (.iconst 1, 1) := by decide +kernel
theorem dX8_part_112 : decode eX8_part.2.1 112 = .ok (.iadd, 1) := by decide +kernel
theorem dX8_part_113 : decode eX8_part.2.1 113 = .ok (.iload_n 2, 1) := by decide +kernel
theorem dX8_part_114 : decode eX8_part.2.1 114 = .ok (.iastore, 1) := by decide +kernel
theorem dX8_part_115 : decode eX8_part.2.1 115 = .ok (.aload_n 0, 1) := by decide +kernel
theorem dX8_part_116 : decode eX8_part.2.1 116 = .ok (.getfield 7, 3) := by decide +kernel
theorem dX8_part_119 : decode eX8_part.2.1 119 = .ok (.iload 6, 2) := by decide +kernel
theorem dX8_part_121 : decode eX8_part.2.1 121 = .ok (.iconst 2, 1) := by decide +kernel
theorem dX8_part_122 : decode eX8_part.2.1 122 = .ok (.iadd, 1) := by decide +kernel
theorem dX8_part_123 : decode eX8_part.2.1 123 = .ok (.iload_n 3, 1) := by decide +kernel
theorem dX8_part_124 : decode eX8_part.2.1 124 = .ok (.iastore, 1) := by decide +kernel
theorem dX8_part_125 : decode eX8_part.2.1 125 = .ok (.aload_n 0, 1) := by decide +kernel
theorem dX8_part_126 : decode eX8_part.2.1 126 = .ok (.getfield 7, 3) := by decide +kernel
theorem dX8_part_129 : decode eX8_part.2.1 129 = .ok (.iload 6, 2) := by decide +kernel
theorem dX8_part_131 : decode eX8_part.2.1 131 = .ok (.iconst 3, 1) := by decide +kernel
theorem dX8_part_132 : decode eX8_part.2.1 132 = .ok (.iadd, 1) := by decide +kernel
theorem dX8_part_133 : decode eX8_part.2.1 133 = .ok (.iload 4, 2) := by decide +kernel
theorem dX8_part_135 : decode eX8_part.2.1 135 = .ok (.iastore, 1) := by decide +kernel
theorem dX8_part_136 : decode eX8_part.2.1 136 = .ok (.aload_n 0, 1) := by decide +kernel
theorem dX8_part_137 : decode eX8_part.2.1 137 = .ok (.getfield 7, 3) := by decide +kernel
theorem dX8_part_140 : decode eX8_part.2.1 140 = .ok (.iload 6, 2) := by decide +kernel
theorem dX8_part_142 : decode eX8_part.2.1 142 = .ok (.iconst 4, 1) := by decide +kernel
theorem dX8_part_143 : decode eX8_part.2.1 143 = .ok (.iadd, 1) := by decide +kernel
theorem dX8_part_144 : decode eX8_part.2.1 144 = .ok (.iload 5, 2) := by decide +kernel
theorem dX8_part_146 : decode eX8_part.2.1 146 = .ok (.iastore, 1) := by decide +kernel
theorem dX8_part_147 : decode eX8_part.2.1 147 = .ok (.aload_n 0, 1) := by decide +kernel
theorem dX8_part_148 : decode eX8_part.2.1 148 = .ok (.getfield 7, 3) := by decide +kernel
theorem dX8_part_151 : decode eX8_part.2.1 151 = .ok (.iload 6, 2) := by decide +kernel
theorem dX8_part_153 : decode eX8_part.2.1 153 = .ok (.iconst 5, 1) := by decide +kernel
theorem dX8_part_154 : decode eX8_part.2.1 154 = .ok (.iadd, 1) := by decide +kernel
theorem dX8_part_155 : decode eX8_part.2.1 155 = .ok (.iconst 0, 1) := by decide +kernel
theorem dX8_part_156 : decode eX8_part.2.1 156 = .ok (.iastore, 1) := by decide +kernel
theorem dX8_part_157 : decode eX8_part.2.1 157 = .ok (.aload_n 0, 1) := by decide +kernel
theorem dX8_part_158 : decode eX8_part.2.1 158 = .ok (.getfield 7, 3) := by decide +kernel
theorem dX8_part_161 : decode eX8_part.2.1 161 = .ok (.iconst 0, 1) := by decide +kernel
theorem dX8_part_162 : decode eX8_part.2.1 162 = .ok (.dup2, 1) := by decide +kernel
theorem dX8_part_163 : decode eX8_part.2.1 163 = .ok (.iaload, 1) := by decide +kernel
theorem dX8_part_164 : decode eX8_part.2.1 164 = .ok (.iconst 1, 1) := by decide +kernel
theorem dX8_part_165 : decode eX8_part.2.1 165 = .ok (.iadd, 1) := by decide +kernel
theorem dX8_part_166 : decode eX8_part.2.1 166 = .ok (.iastore, 1) := by decide +kernel
theorem dX8_part_167 : decode eX8_part.2.1 167 = .ok (.aload_n 0, 1) := by decide +kernel
theorem dX8_part_168 : decode eX8_part.2.1 168 = .ok (.iconst 0, 1) := by decide +kernel
theorem dX8_part_169 : decode eX8_part.2.1 169 = .ok (.putfield 67, 3) := by decide +kernel
theorem dX8_part_172 : decode eX8_part.2.1 172 = .ok (.aload_n 0, 1) := by decide +kernel
theorem dX8_part_173 : decode eX8_part.2.1 173 = .ok (.getfield 7, 3) := by decide +kernel
theorem dX8_part_176 : decode eX8_part.2.1 176 = .ok (.iconst 0, 1) := by decide +kernel
theorem dX8_part_177 : decode eX8_part.2.1 177 = .ok (.iaload, 1) := by decide +kernel
theorem dX8_part_178 : decode eX8_part.2.1 178 = .ok (.iconst 1, 1) := by decide +kernel
theorem dX8_part_179 : decode eX8_part.2.1 179 = .ok (.isub, 1) := by decide +kernel
theorem dX8_part_180 : decode eX8_part.2.1 180 = .ok (.ireturn, 1) := by decide +kernel
theorem dX8_groupOf_0 : decode eX8_groupOf.2.1 0 = .ok (.aload_n 0, 1) := by decide +kernel
theorem dX8_groupOf_1 : decode eX8_groupOf.2.1 1 = .ok (.getfield 7, 3) := by decide +kernel
theorem dX8_groupOf_4 : decode eX8_groupOf.2.1 4 = .ok (.bipush 10, 2) := by decide +kernel
theorem dX8_groupOf_6 : decode eX8_groupOf.2.1 6 = .ok (.iconst 2, 1) := by decide +kernel
theorem dX8_groupOf_7 : decode eX8_groupOf.2.1 7 = .ok (.aload_n 0, 1) := by decide +kernel
theorem dX8_groupOf_8 : decode eX8_groupOf.2.1 8 = .ok (.getfield 7, 3) := by decide +kernel
theorem dX8_groupOf_11 : decode eX8_groupOf.2.1 11 = .ok (.aload_n 0, 1) := by decide +kernel
theorem dX8_groupOf_12 : decode eX8_groupOf.2.1 12 = .ok (.iload_n 1, 1) := by decide +kernel
theorem dX8_groupOf_13 : decode eX8_groupOf.2.1 13 = .ok (.invokevirtual 81, 3) := by decide +kernel
theorem dX8_groupOf_16 : decode eX8_groupOf.2.1 16 = .ok (.iconst 4, 1) := by decide +kernel
theorem dX8_groupOf_17 : decode eX8_groupOf.2.1 17 = .ok (.iadd, 1) := by decide +kernel
theorem dX8_groupOf_18 : decode eX8_groupOf.2.1 18 = .ok (.iaload, 1) := by decide +kernel
theorem dX8_groupOf_19 : decode eX8_groupOf.2.1 19 = .ok (.imul, 1) := by decide +kernel
theorem dX8_groupOf_20 : decode eX8_groupOf.2.1 20 = .ok (.iadd, 1) := by decide +kernel
theorem dX8_groupOf_21 : decode eX8_groupOf.2.1 21 = .ok (.iaload, 1) := by decide +kernel
theorem dX8_groupOf_22 : decode eX8_groupOf.2.1 22 = .ok (.ireturn, 1) := by decide +kernel
theorem dX8_aimOf_0 : decode eX8_aimOf.2.1 0 = .ok (.aload_n 0, 1) := by decide +kernel
theorem dX8_aimOf_1 : decode eX8_aimOf.2.1 1 = .ok (.iload_n 1, 1) := by decide +kernel
theorem dX8_aimOf_2 : decode eX8_aimOf.2.1 2 = .ok (.invokevirtual 81, 3) := by decide +kernel
theorem dX8_aimOf_5 : decode eX8_aimOf.2.1 5 = .ok (.istore_n 2, 1) := by decide +kernel
theorem dX8_aimOf_6 : decode eX8_aimOf.2.1 6 = .ok (.aload_n 0, 1) := by decide +kernel
theorem dX8_aimOf_7 : decode eX8_aimOf.2.1 7 = .ok (.getfield 7, 3) := by decide +kernel
theorem dX8_aimOf_10 : decode eX8_aimOf.2.1 10 = .ok (.iload_n 2, 1) := by decide +kernel
theorem dX8_aimOf_11 : decode eX8_aimOf.2.1 11 = .ok (.iconst 3, 1) := by decide +kernel
theorem dX8_aimOf_12 : decode eX8_aimOf.2.1 12 = .ok (.iadd, 1) := by decide +kernel
theorem dX8_aimOf_13 : decode eX8_aimOf.2.1 13 = .ok (.iaload, 1) := by decide +kernel
theorem dX8_aimOf_14 : decode eX8_aimOf.2.1 14 = .ok (.aload_n 0, 1) := by decide +kernel
theorem dX8_aimOf_15 : decode eX8_aimOf.2.1 15 = .ok (.getfield 7, 3) := by decide +kernel
theorem dX8_aimOf_18 : decode eX8_aimOf.2.1 18 = .ok (.bipush 30, 2) := by decide +kernel
theorem dX8_aimOf_20 : decode eX8_aimOf.2.1 20 = .ok (.aload_n 0, 1) := by decide +kernel
theorem dX8_aimOf_21 : decode eX8_aimOf.2.1 21 = .ok (.iload_n 1, 1) := by decide +kernel
theorem dX8_aimOf_22 : decode eX8_aimOf.2.1 22 = .ok (.invokevirtual 97, 3) := by decide +kernel
theorem dX8_aimOf_25 : decode eX8_aimOf.2.1 25 = .ok (.iadd, 1) := by decide +kernel
theorem dX8_aimOf_26 : decode eX8_aimOf.2.1 26 = .ok (.iaload, 1) := by decide +kernel
theorem dX8_aimOf_27 : decode eX8_aimOf.2.1 27 = .ok (.aload_n 0, 1) := by decide +kernel
theorem dX8_aimOf_28 : decode eX8_aimOf.2.1 28 = .ok (.getfield 7, 3) := by decide +kernel
theorem dX8_aimOf_31 : decode eX8_aimOf.2.1 31 = .ok (.bipush 10, 2) := by decide +kernel
theorem dX8_aimOf_33 : decode eX8_aimOf.2.1 33 = .ok (.iconst 2, 1) := by decide +kernel
theorem dX8_aimOf_34 : decode eX8_aimOf.2.1 34 = .ok (.aload_n 0, 1) := by decide +kernel
theorem dX8_aimOf_35 : decode eX8_aimOf.2.1 35 = .ok (.getfield 7, 3) := by decide +kernel
theorem dX8_aimOf_38 : decode eX8_aimOf.2.1 38 = .ok (.iload_n 2, 1) := by decide +kernel
theorem dX8_aimOf_39 : decode eX8_aimOf.2.1 39 = .ok (.iconst 4, 1) := by decide +kernel
theorem dX8_aimOf_40 : decode eX8_aimOf.2.1 40 = .ok (.iadd, 1) := by decide +kernel
theorem dX8_aimOf_41 : decode eX8_aimOf.2.1 41 = .ok (.iaload, 1) := by decide +kernel
theorem dX8_aimOf_42 : decode eX8_aimOf.2.1 42 = .ok (.imul, 1) := by decide +kernel
theorem dX8_aimOf_43 : decode eX8_aimOf.2.1 43 = .ok (.iadd, 1) := by decide +kernel
theorem dX8_aimOf_44 : decode eX8_aimOf.2.1 44 = .ok (.iconst 1, 1) := by decide +kernel
theorem dX8_aimOf_45 : decode eX8_aimOf.2.1 45 = .ok (.iadd, 1) := by decide +kernel
theorem dX8_aimOf_46 : decode eX8_aimOf.2.1 46 = .ok (.iaload, 1) := by decide +kernel
theorem dX8_aimOf_47 : decode eX8_aimOf.2.1 47 = .ok (.imul, 1) := by decide +kernel
theorem dX8_aimOf_48 : decode eX8_aimOf.2.1 48 = .ok (.iconst 5, 1) := by decide +kernel
theorem dX8_aimOf_49 : decode eX8_aimOf.2.1 49 = .ok (.idiv, 1) := by decide +kernel
theorem dX8_aimOf_50 : decode eX8_aimOf.2.1 50 = .ok (.invokestatic 100, 3) := by decide +kernel
theorem dX8_aimOf_53 : decode eX8_aimOf.2.1 53 = .ok (.istore_n 3, 1) := by decide +kernel
theorem dX8_aimOf_54 : decode eX8_aimOf.2.1 54 = .ok (.aload_n 0, 1) := by decide +kernel
theorem dX8_aimOf_55 : decode eX8_aimOf.2.1 55 = .ok (.getfield 7, 3) := by decide +kernel
theorem dX8_aimOf_58 : decode eX8_aimOf.2.1 58 = .ok (.iload_n 2, 1) := by decide +kernel
theorem dX8_aimOf_59 : decode eX8_aimOf.2.1 59 = .ok (.iaload, 1) := by decide +kernel
theorem dX8_aimOf_60 : decode eX8_aimOf.2.1 60 = .ok (.tableswitch 65 2 5 #[32, 43, 52, 56], 32) := by decide +kernel
theorem dX8_aimOf_92 : decode eX8_aimOf.2.1 92 = .ok (.aload_n 0, 1) := by decide +kernel
theorem dX8_aimOf_93 : decode eX8_aimOf.2.1 93 = .ok (.getfield 7, 3) := by decide +kernel
theorem dX8_aimOf_96 : decode eX8_aimOf.2.1 96 = .ok (.iload_n 2, 1) := by decide +kernel
theorem dX8_aimOf_97 : decode eX8_aimOf.2.1 97 = .ok (.iconst 3, 1) := by decide +kernel
theorem dX8_aimOf_98 : decode eX8_aimOf.2.1 98 = .ok (.iadd, 1) := by decide +kernel
theorem dX8_aimOf_99 : decode eX8_aimOf.2.1 99 = .ok (.iaload, 1) := by decide +kernel
theorem dX8_aimOf_100 : decode eX8_aimOf.2.1 100 = .ok (.iload_n 3, 1) := by decide +kernel
theorem dX8_aimOf_101 : decode eX8_aimOf.2.1 101 = .ok (.isub, 1) := by decide +kernel
theorem dX8_aimOf_102 : decode eX8_aimOf.2.1 102 = .ok (.ireturn, 1) := by decide +kernel
theorem dX8_aimOf_103 : decode eX8_aimOf.2.1 103 = .ok (.aload_n 0, 1) := by decide +kernel
theorem dX8_aimOf_104 : decode eX8_aimOf.2.1 104 = .ok (.getfield 7, 3) := by decide +kernel
theorem dX8_aimOf_107 : decode eX8_aimOf.2.1 107 = .ok (.iload_n 2, 1) := by decide +kernel
theorem dX8_aimOf_108 : decode eX8_aimOf.2.1 108 = .ok (.iconst 3, 1) := by decide +kernel
theorem dX8_aimOf_109 : decode eX8_aimOf.2.1 109 = .ok (.iadd, 1) := by decide +kernel
theorem dX8_aimOf_110 : decode eX8_aimOf.2.1 110 = .ok (.iaload, 1) := by decide +kernel
theorem dX8_aimOf_111 : decode eX8_aimOf.2.1 111 = .ok (.ireturn, 1) := by decide +kernel
theorem dX8_aimOf_112 : decode eX8_aimOf.2.1 112 = .ok (.iload_n 3, 1) := by decide +kernel
theorem dX8_aimOf_113 : decode eX8_aimOf.2.1 113 = .ok (.iconst 2, 1) := by decide +kernel
theorem dX8_aimOf_114 : decode eX8_aimOf.2.1 114 = .ok (.idiv, 1) := by decide +kernel
theorem dX8_aimOf_115 : decode eX8_aimOf.2.1 115 = .ok (.ireturn, 1) := by decide +kernel
theorem dX8_aimOf_116 : decode eX8_aimOf.2.1 116 = .ok (.aload_n 0, 1) := by decide +kernel
theorem dX8_aimOf_117 : decode eX8_aimOf.2.1 117 = .ok (.getfield 7, 3) := by decide +kernel
theorem dX8_aimOf_120 : decode eX8_aimOf.2.1 120 = .ok (.iload_n 2, 1) := by decide +kernel
theorem dX8_aimOf_121 : decode eX8_aimOf.2.1 121 = .ok (.iconst 5, 1) := by decide +kernel
theorem dX8_aimOf_122 : decode eX8_aimOf.2.1 122 = .ok (.iadd, 1) := by decide +kernel
theorem dX8_aimOf_123 : decode eX8_aimOf.2.1 123 = .ok (.iaload, 1) := by decide +kernel
theorem dX8_aimOf_124 : decode eX8_aimOf.2.1 124 = .ok (.ireturn, 1) := by decide +kernel
theorem dX8_aimOf_125 : decode eX8_aimOf.2.1 125 = .ok (.iload_n 3, 1) := by decide +kernel
theorem dX8_aimOf_126 : decode eX8_aimOf.2.1 126 = .ok (.ireturn, 1) := by decide +kernel
theorem dX8_paceOf_0 : decode eX8_paceOf.2.1 0 = .ok (.aload_n 0, 1) := by decide +kernel
theorem dX8_paceOf_1 : decode eX8_paceOf.2.1 1 = .ok (.iload_n 1, 1) := by decide +kernel
theorem dX8_paceOf_2 : decode eX8_paceOf.2.1 2 = .ok (.invokevirtual 81, 3) := by decide +kernel
theorem dX8_paceOf_5 : decode eX8_paceOf.2.1 5 = .ok (.istore_n 2, 1) := by decide +kernel
theorem dX8_paceOf_6 : decode eX8_paceOf.2.1 6 = .ok (.aload_n 0, 1) := by decide +kernel
theorem dX8_paceOf_7 : decode eX8_paceOf.2.1 7 = .ok (.getfield 7, 3) := by decide +kernel
theorem dX8_paceOf_10 : decode eX8_paceOf.2.1 10 = .ok (.iload_n 2, 1) := by decide +kernel
theorem dX8_paceOf_11 : decode eX8_paceOf.2.1 11 = .ok (.iaload, 1) := by decide +kernel
theorem dX8_paceOf_12 : decode eX8_paceOf.2.1 12 = .ok (.tableswitch 61 1 5 #[36, 54, 56, 61, 59], 36) := by decide +kernel
theorem dX8_paceOf_48 : decode eX8_paceOf.2.1 48 = .ok (.aload_n 0, 1) := by decide +kernel
theorem dX8_paceOf_49 : decode eX8_paceOf.2.1 49 = .ok (.getfield 7, 3) := by decide +kernel
theorem dX8_paceOf_52 : decode eX8_paceOf.2.1 52 = .ok (.iload_n 2, 1) := by decide +kernel
theorem dX8_paceOf_53 : decode eX8_paceOf.2.1 53 = .ok (.iconst 2, 1) := by decide +kernel
theorem dX8_paceOf_54 : decode eX8_paceOf.2.1 54 = .ok (.iadd, 1) := by decide +kernel
theorem dX8_paceOf_55 : decode eX8_paceOf.2.1 55 = .ok (.iaload, 1) := by decide +kernel
theorem dX8_paceOf_56 : decode eX8_paceOf.2.1 56 = .ok (.iconst 4, 1) := by decide +kernel
theorem dX8_paceOf_57 : decode eX8_paceOf.2.1 57 = .ok (.if_icmp .le 7, 3) := by decide +kernel
theorem dX8_paceOf_60 : decode eX8_paceOf.2.1 60 = .ok (.iconst 2, 1) := by decide +kernel
theorem dX8_paceOf_61 : decode eX8_paceOf.2.1 61 = .ok (.goto 4, 3) := by decide +kernel
theorem dX8_paceOf_64 : decode eX8_paceOf.2.1 64 = .ok (.iconst 1, 1) := by decide +kernel
theorem dX8_paceOf_65 : decode eX8_paceOf.2.1 65 = .ok (.ireturn, 1) := by decide +kernel
theorem dX8_paceOf_66 : decode eX8_paceOf.2.1 66 = .ok (.iconst 2, 1) := by decide +kernel
theorem dX8_paceOf_67 : decode eX8_paceOf.2.1 67 = .ok (.ireturn, 1) := by decide +kernel
theorem dX8_paceOf_68 : decode eX8_paceOf.2.1 68 = .ok (.bipush 9, 2) := by decide +kernel
theorem dX8_paceOf_70 : decode eX8_paceOf.2.1 70 = .ok (.ireturn, 1) := by decide +kernel
theorem dX8_paceOf_71 : decode eX8_paceOf.2.1 71 = .ok (.iconst 0, 1) := by decide +kernel
theorem dX8_paceOf_72 : decode eX8_paceOf.2.1 72 = .ok (.ireturn, 1) := by decide +kernel
theorem dX8_paceOf_73 : decode eX8_paceOf.2.1 73 = .ok (.iconst 1, 1) := by decide +kernel
theorem dX8_paceOf_74 : decode eX8_paceOf.2.1 74 = .ok (.ireturn, 1) := by decide +kernel
theorem dX8_givesOf_0 : decode eX8_givesOf.2.1 0 = .ok (.aload_n 0, 1) := by decide +kernel
theorem dX8_givesOf_1 : decode eX8_givesOf.2.1 1 = .ok (.iload_n 1, 1) := by decide +kernel
theorem dX8_givesOf_2 : decode eX8_givesOf.2.1 2 = .ok (.invokevirtual 81, 3) := by decide +kernel
theorem dX8_givesOf_5 : decode eX8_givesOf.2.1 5 = .ok (.istore_n 2, 1) := by decide +kernel
theorem dX8_givesOf_6 : decode eX8_givesOf.2.1 6 = .ok (.aload_n 0, 1) := by decide +kernel
theorem dX8_givesOf_7 : decode eX8_givesOf.2.1 7 = .ok (.getfield 7, 3) := by decide +kernel
theorem dX8_givesOf_10 : decode eX8_givesOf.2.1 10 = .ok (.iload_n 2, 1) := by decide +kernel
theorem dX8_givesOf_11 : decode eX8_givesOf.2.1 11 = .ok (.iconst 5, 1) := by decide +kernel
theorem dX8_givesOf_12 : decode eX8_givesOf.2.1 12 = .ok (.iadd, 1) := by decide +kernel
theorem dX8_givesOf_13 : decode eX8_givesOf.2.1 13 = .ok (.iaload, 1) := by decide +kernel
theorem dX8_givesOf_14 : decode eX8_givesOf.2.1 14 = .ok (.istore_n 3, 1) := by decide +kernel
theorem dX8_givesOf_15 : decode eX8_givesOf.2.1 15 = .ok (.aload_n 0, 1) := by decide +kernel
theorem dX8_givesOf_16 : decode eX8_givesOf.2.1 16 = .ok (.getfield 7, 3) := by decide +kernel
theorem dX8_givesOf_19 : decode eX8_givesOf.2.1 19 = .ok (.iload_n 2, 1) := by decide +kernel
theorem dX8_givesOf_20 : decode eX8_givesOf.2.1 20 = .ok (.iaload, 1) := by decide +kernel
theorem dX8_givesOf_21 : decode eX8_givesOf.2.1 21 = .ok (.tableswitch 62 1 4 #[31, 43, 47, 60], 31) := by decide +kernel
theorem dX8_givesOf_52 : decode eX8_givesOf.2.1 52 = .ok (.aload_n 0, 1) := by decide +kernel
theorem dX8_givesOf_53 : decode eX8_givesOf.2.1 53 = .ok (.getfield 7, 3) := by decide +kernel
theorem dX8_givesOf_56 : decode eX8_givesOf.2.1 56 = .ok (.iload_n 2, 1) := by decide +kernel
theorem dX8_givesOf_57 : decode eX8_givesOf.2.1 57 = .ok (.iconst 2, 1) := by decide +kernel
theorem dX8_givesOf_58 : decode eX8_givesOf.2.1 58 = .ok (.iadd, 1) := by decide +kernel
theorem dX8_givesOf_59 : decode eX8_givesOf.2.1 59 = .ok (.iaload, 1) := by decide +kernel
theorem dX8_givesOf_60 : decode eX8_givesOf.2.1 60 = .ok (.ineg, 1) := by decide +kernel
theorem dX8_givesOf_61 : decode eX8_givesOf.2.1 61 = .ok (.iload_n 3, 1) := by decide +kernel
theorem dX8_givesOf_62 : decode eX8_givesOf.2.1 62 = .ok (.imul, 1) := by decide +kernel
theorem dX8_givesOf_63 : decode eX8_givesOf.2.1 63 = .ok (.ireturn, 1) := by decide +kernel
theorem dX8_givesOf_64 : decode eX8_givesOf.2.1 64 = .ok (.iconst 2, 1) := by decide +kernel
theorem dX8_givesOf_65 : decode eX8_givesOf.2.1 65 = .ok (.iload_n 3, 1) := by decide +kernel
theorem dX8_givesOf_66 : decode eX8_givesOf.2.1 66 = .ok (.imul, 1) := by decide +kernel
theorem dX8_givesOf_67 : decode eX8_givesOf.2.1 67 = .ok (.ireturn, 1) := by decide +kernel
theorem dX8_givesOf_68 : decode eX8_givesOf.2.1 68 = .ok (.iconst 2, 1) := by decide +kernel
theorem dX8_givesOf_69 : decode eX8_givesOf.2.1 69 = .ok (.iload_n 3, 1) := by decide +kernel
theorem dX8_givesOf_70 : decode eX8_givesOf.2.1 70 = .ok (.imul, 1) := by decide +kernel
theorem dX8_givesOf_71 : decode eX8_givesOf.2.1 71 = .ok (.aload_n 0, 1) := by decide +kernel
theorem dX8_givesOf_72 : decode eX8_givesOf.2.1 72 = .ok (.getfield 7, 3) := by decide +kernel
theorem dX8_givesOf_75 : decode eX8_givesOf.2.1 75 = .ok (.iload_n 2, 1) := by decide +kernel
theorem dX8_givesOf_76 : decode eX8_givesOf.2.1 76 = .ok (.iconst 2, 1) := by decide +kernel
theorem dX8_givesOf_77 : decode eX8_givesOf.2.1 77 = .ok (.iadd, 1) := by decide +kernel
theorem dX8_givesOf_78 : decode eX8_givesOf.2.1 78 = .ok (.iaload, 1) := by decide +kernel
theorem dX8_givesOf_79 : decode eX8_givesOf.2.1 79 = .ok (.iadd, 1) := by decide +kernel
theorem dX8_givesOf_80 : decode eX8_givesOf.2.1 80 = .ok (.ireturn, 1) := by decide +kernel
theorem dX8_givesOf_81 : decode eX8_givesOf.2.1 81 = .ok (.iload_n 3, 1) := by decide +kernel
theorem dX8_givesOf_82 : decode eX8_givesOf.2.1 82 = .ok (.ireturn, 1) := by decide +kernel
theorem dX8_givesOf_83 : decode eX8_givesOf.2.1 83 = .ok (.iconst 0, 1) := by decide +kernel
theorem dX8_givesOf_84 : decode eX8_givesOf.2.1 84 = .ok (.ireturn, 1) := by decide +kernel
theorem dX8_told_0 : decode eX8_told.2.1 0 = .ok (.aload_n 0, 1) := by decide +kernel
theorem dX8_told_1 : decode eX8_told.2.1 1 = .ok (.iload_n 1, 1) := by decide +kernel
theorem dX8_told_2 : decode eX8_told.2.1 2 = .ok (.invokevirtual 104, 3) := by decide +kernel
theorem dX8_told_5 : decode eX8_told.2.1 5 = .ok (.ifCond .ne 6, 3) := by decide +kernel
theorem dX8_told_8 : decode eX8_told.2.1 8 = .ok (.ldc 91, 2) := by decide +kernel
theorem dX8_told_10 : decode eX8_told.2.1 10 = .ok (.ireturn, 1) := by decide +kernel
theorem dX8_told_11 : decode eX8_told.2.1 11 = .ok (.iload_n 2, 1) := by decide +kernel
theorem dX8_told_12 : decode eX8_told.2.1 12 = .ok (.tableswitch 83 0 8 #[52, 52, 52, 52, 52, 52, 65, 71, 77], 52) := by decide +kernel
theorem dX8_told_64 : decode eX8_told.2.1 64 = .ok (.aload_n 0, 1) := by decide +kernel
theorem dX8_told_65 : decode eX8_told.2.1 65 = .ok (.getfield 7, 3) := by decide +kernel
theorem dX8_told_68 : decode eX8_told.2.1 68 = .ok (.aload_n 0, 1) := by decide +kernel
theorem dX8_told_69 : decode eX8_told.2.1 69 = .ok (.iload_n 1, 1) := by decide +kernel
theorem dX8_told_70 : decode eX8_told.2.1 70 = .ok (.invokevirtual 81, 3) := by decide +kernel
theorem dX8_told_73 : decode eX8_told.2.1 73 = .ok (.iload_n 2, 1) := by decide +kernel
theorem dX8_told_74 : decode eX8_told.2.1 74 = .ok (.iadd, 1) := by decide +kernel
theorem dX8_told_75 : decode eX8_told.2.1 75 = .ok (.iaload, 1) := by decide +kernel
theorem dX8_told_76 : decode eX8_told.2.1 76 = .ok (.ireturn, 1) := by decide +kernel
theorem dX8_told_77 : decode eX8_told.2.1 77 = .ok (.aload_n 0, 1) := by decide +kernel
theorem dX8_told_78 : decode eX8_told.2.1 78 = .ok (.iload_n 1, 1) := by decide +kernel
theorem dX8_told_79 : decode eX8_told.2.1 79 = .ok (.invokevirtual 107, 3) := by decide +kernel
theorem dX8_told_82 : decode eX8_told.2.1 82 = .ok (.ireturn, 1) := by decide +kernel
theorem dX8_told_83 : decode eX8_told.2.1 83 = .ok (.aload_n 0, 1) := by decide +kernel
theorem dX8_told_84 : decode eX8_told.2.1 84 = .ok (.iload_n 1, 1) := by decide +kernel
theorem dX8_told_85 : decode eX8_told.2.1 85 = .ok (.invokevirtual 110, 3) := by decide +kernel
theorem dX8_told_88 : decode eX8_told.2.1 88 = .ok (.ireturn, 1) := by decide +kernel
theorem dX8_told_89 : decode eX8_told.2.1 89 = .ok (.aload_n 0, 1) := by decide +kernel
theorem dX8_told_90 : decode eX8_told.2.1 90 = .ok (.iload_n 1, 1) := by decide +kernel
theorem dX8_told_91 : decode eX8_told.2.1 91 = .ok (.invokevirtual 113, 3) := by decide +kernel
theorem dX8_told_94 : decode eX8_told.2.1 94 = .ok (.ireturn, 1) := by decide +kernel
theorem dX8_told_95 : decode eX8_told.2.1 95 = .ok (.ldc 91, 2) := by decide +kernel
theorem dX8_told_97 : decode eX8_told.2.1 97 = .ok (.ireturn, 1) := by decide +kernel
theorem dX8_as_0 : decode eX8_as.2.1 0 = .ok (.aload_n 0, 1) := by decide +kernel
theorem dX8_as_1 : decode eX8_as.2.1 1 = .ok (.iload_n 1, 1) := by decide +kernel
theorem dX8_as_2 : decode eX8_as.2.1 2 = .ok (.invokevirtual 104, 3) := by decide +kernel
theorem dX8_as_5 : decode eX8_as.2.1 5 = .ok (.ifCond .eq 15, 3) := by decide +kernel
theorem dX8_as_8 : decode eX8_as.2.1 8 = .ok (.iload_n 2, 1) := by decide +kernel
theorem dX8_as_9 : decode eX8_as.2.1 9 = .ok (.i2l, 1) := by decide +kernel
theorem dX8_as_10 : decode eX8_as.2.1 10 = .ok (.lconst 0, 1) := by decide +kernel
theorem dX8_as_11 : decode eX8_as.2.1 11 = .ok (.ldc2_w 79, 3) := by decide +kernel
theorem dX8_as_14 : decode eX8_as.2.1 14 = .ok (.invokestatic 71, 3) := by decide +kernel
theorem dX8_as_17 : decode eX8_as.2.1 17 = .ok (.ifCond .ne 6, 3) := by decide +kernel
theorem dX8_as_20 : decode eX8_as.2.1 20 = .ok (.ldc 91, 2) := by decide +kernel
theorem dX8_as_22 : decode eX8_as.2.1 22 = .ok (.ireturn, 1) := by decide +kernel
theorem dX8_as_23 : decode eX8_as.2.1 23 = .ok (.aload_n 0, 1) := by decide +kernel
theorem dX8_as_24 : decode eX8_as.2.1 24 = .ok (.getfield 7, 3) := by decide +kernel
theorem dX8_as_27 : decode eX8_as.2.1 27 = .ok (.aload_n 0, 1) := by decide +kernel
theorem dX8_as_28 : decode eX8_as.2.1 28 = .ok (.iload_n 1, 1) := by decide +kernel
theorem dX8_as_29 : decode eX8_as.2.1 29 = .ok (.invokevirtual 81, 3) := by decide +kernel
theorem dX8_as_32 : decode eX8_as.2.1 32 = .ok (.iaload, 1) := by decide +kernel
theorem dX8_as_33 : decode eX8_as.2.1 33 = .ok (.istore_n 3, 1) := by decide +kernel
theorem dX8_as_34 : decode eX8_as.2.1 34 = .ok (.iload_n 2, 1) := by decide +kernel
theorem dX8_as_35 : decode eX8_as.2.1 35 = .ok (.ifCond .eq 18, 3) := by decide +kernel
theorem dX8_as_38 : decode eX8_as.2.1 38 = .ok (.iload_n 2, 1) := by decide +kernel
theorem dX8_as_39 : decode eX8_as.2.1 39 = .ok (.iload_n 3, 1) := by decide +kernel
theorem dX8_as_40 : decode eX8_as.2.1 40 = .ok (.if_icmp .eq 13, 3) := by decide +kernel
theorem dX8_as_43 : decode eX8_as.2.1 43 = .ok (.iload_n 2, 1) := by decide +kernel
theorem dX8_as_44 : decode eX8_as.2.1 44 = .ok (.iconst 2, 1) := by decide +kernel
theorem dX8_as_45 : decode eX8_as.2.1 45 = .ok (.if_icmp .ne 23, 3) := by decide +kernel
theorem dX8_as_48 : decode eX8_as.2.1 48 = .ok (.iload_n 3, 1) := by decide +kernel
theorem dX8_as_49 : decode eX8_as.2.1 49 = .ok (.iconst 3, 1) := by decide +kernel
theorem dX8_as_50 : decode eX8_as.2.1 50 = .ok (.if_icmp .ne 18, 3) := by decide +kernel
theorem dX8_as_53 : decode eX8_as.2.1 53 = .ok (.aload_n 0, 1) := by decide +kernel
theorem dX8_as_54 : decode eX8_as.2.1 54 = .ok (.getfield 7, 3) := by decide +kernel
theorem dX8_as_57 : decode eX8_as.2.1 57 = .ok (.aload_n 0, 1) := by decide +kernel
theorem dX8_as_58 : decode eX8_as.2.1 58 = .ok (.iload_n 1, 1) := by decide +kernel
theorem dX8_as_59 : decode eX8_as.2.1 59 = .ok (.invokevirtual 81, 3) := by decide +kernel
theorem dX8_as_62 : decode eX8_as.2.1 62 = .ok (.iconst 2, 1) := by decide +kernel
theorem dX8_as_63 : decode eX8_as.2.1 63 = .ok (.iadd, 1) := by decide +kernel
theorem dX8_as_64 : decode eX8_as.2.1 64 = .ok (.iaload, 1) := by decide +kernel
theorem dX8_as_65 : decode eX8_as.2.1 65 = .ok (.goto 5, 3) := by decide +kernel
theorem dX8_as_68 : decode eX8_as.2.1 68 = .ok (.ldc 116, 2) := by decide +kernel
theorem dX8_as_70 : decode eX8_as.2.1 70 = .ok (.ireturn, 1) := by decide +kernel
theorem dX8_dies_0 : decode eX8_dies.2.1 0 = .ok (.aload_n 0, 1) := by decide +kernel
theorem dX8_dies_1 : decode eX8_dies.2.1 1 = .ok (.iload_n 1, 1) := by decide +kernel
theorem dX8_dies_2 : decode eX8_dies.2.1 2 = .ok (.invokevirtual 104, 3) := by decide +kernel
theorem dX8_dies_5 : decode eX8_dies.2.1 5 = .ok (.ifCond .ne 6, 3) := by decide +kernel
theorem dX8_dies_8 : decode eX8_dies.2.1 8 = .ok (.ldc 91, 2) := by decide +kernel
theorem dX8_dies_10 : decode eX8_dies.2.1 10 = .ok (.ireturn, 1) := by decide +kernel
theorem dX8_dies_11 : decode eX8_dies.2.1 11 = .ok (.aload_n 0, 1) := by decide +kernel
theorem dX8_dies_12 : decode eX8_dies.2.1 12 = .ok (.getfield 7, 3) := by decide +kernel
theorem dX8_dies_15 : decode eX8_dies.2.1 15 = .ok (.aload_n 0, 1) := by decide +kernel
theorem dX8_dies_16 : decode eX8_dies.2.1 16 = .ok (.iload_n 1, 1) := by decide +kernel
theorem dX8_dies_17 : decode eX8_dies.2.1 17 = .ok (.invokevirtual 81, 3) := by decide +kernel
theorem dX8_dies_20 : decode eX8_dies.2.1 20 = .ok (.iaload, 1) := by decide +kernel
theorem dX8_dies_21 : decode eX8_dies.2.1 21 = .ok (.iconst 5, 1) := by decide +kernel
theorem dX8_dies_22 : decode eX8_dies.2.1 22 = .ok (.if_icmp .ne 6, 3) := by decide +kernel
theorem dX8_dies_25 : decode eX8_dies.2.1 25 = .ok (.ldc 95, 2) := by decide +kernel
theorem dX8_dies_27 : decode eX8_dies.2.1 27 = .ok (.ireturn, 1) := by decide +kernel
theorem dX8_dies_28 : decode eX8_dies.2.1 28 = .ok (.aload_n 0, 1) := by decide +kernel
theorem dX8_dies_29 : decode eX8_dies.2.1 29 = .ok (.getfield 7, 3) := by decide +kernel
theorem dX8_dies_32 : decode eX8_dies.2.1 32 = .ok (.aload_n 0, 1) := by decide +kernel
theorem dX8_dies_33 : decode eX8_dies.2.1 33 = .ok (.iload_n 1, 1) := by decide +kernel
theorem dX8_dies_34 : decode eX8_dies.2.1 34 = .ok (.invokevirtual 81, 3) := by decide +kernel
theorem dX8_dies_37 : decode eX8_dies.2.1 37 = .ok (.iconst 5, 1) := by decide +kernel
theorem dX8_dies_38 : decode eX8_dies.2.1 38 = .ok (.iastore, 1) := by decide +kernel
theorem dX8_dies_39 : decode eX8_dies.2.1 39 = .ok (.aload_n 0, 1) := by decide +kernel
theorem dX8_dies_40 : decode eX8_dies.2.1 40 = .ok (.iconst 0, 1) := by decide +kernel
theorem dX8_dies_41 : decode eX8_dies.2.1 41 = .ok (.putfield 67, 3) := by decide +kernel
theorem dX8_dies_44 : decode eX8_dies.2.1 44 = .ok (.iconst 1, 1) := by decide +kernel
theorem dX8_dies_45 : decode eX8_dies.2.1 45 = .ok (.ireturn, 1) := by decide +kernel
theorem dX8_nerve_0 : decode eX8_nerve.2.1 0 = .ok (.iload_n 2, 1) := by decide +kernel
theorem dX8_nerve_1 : decode eX8_nerve.2.1 1 = .ok (.ifCond .ne 10, 3) := by decide +kernel
theorem dX8_nerve_4 : decode eX8_nerve.2.1 4 = .ok (.iload_n 3, 1) := by decide +kernel
theorem dX8_nerve_5 : decode eX8_nerve.2.1 5 = .ok (.invokestatic 117, 3) := by decide +kernel
theorem dX8_nerve_8 : decode eX8_nerve.2.1 8 = .ok (.goto 25, 3) := by decide +kernel
theorem dX8_nerve_11 : decode eX8_nerve.2.1 11 = .ok (.iload_n 2, 1) := by decide +kernel
theorem dX8_nerve_12 : decode eX8_nerve.2.1 12 = .ok (.iconst 1, 1) := by decide +kernel
theorem dX8_nerve_13 : decode eX8_nerve.2.1 13 = .ok (.if_icmp .ne 19, 3) := by decide +kernel
theorem dX8_nerve_16 : decode eX8_nerve.2.1 16 = .ok (.iload_n 3, 1) := by decide +kernel
theorem dX8_nerve_17 : decode eX8_nerve.2.1 17 = .ok (.i2l, 1) := by decide +kernel
theorem dX8_nerve_18 : decode eX8_nerve.2.1 18 = .ok (.lconst 1, 1) := by decide +kernel
theorem dX8_nerve_19 : decode eX8_nerve.2.1 19 = .ok (.ldc2_w 89, 3) := by decide +kernel
theorem dX8_nerve_22 : decode eX8_nerve.2.1 22 = .ok (.invokestatic 71, 3) := by decide +kernel
theorem dX8_nerve_25 : decode eX8_nerve.2.1 25 = .ok (.ifCond .eq 7, 3) := by decide +kernel
theorem dX8_nerve_28 : decode eX8_nerve.2.1 28 = .ok (.iconst 1, 1) := by decide +kernel
theorem dX8_nerve_29 : decode eX8_nerve.2.1 29 = .ok (.goto 4, 3) := by decide +kernel
theorem dX8_nerve_32 : decode eX8_nerve.2.1 32 = .ok (.iconst 0, 1) := by decide +kernel
theorem dX8_nerve_33 : decode eX8_nerve.2.1 33 = .ok (.istore 4, 2) := by decide +kernel
theorem dX8_nerve_35 : decode eX8_nerve.2.1 35 = .ok (.iload_n 1, 1) := by decide +kernel
theorem dX8_nerve_36 : decode eX8_nerve.2.1 36 = .ok (.i2l, 1) := by decide +kernel
theorem dX8_nerve_37 : decode eX8_nerve.2.1 37 = .ok (.lconst 0, 1) := by decide +kernel
theorem dX8_nerve_38 : decode eX8_nerve.2.1 38 = .ok (.ldc2_w 89, 3) := by decide +kernel
theorem dX8_nerve_41 : decode eX8_nerve.2.1 41 = .ok (.invokestatic 71, 3) := by decide +kernel
theorem dX8_nerve_44 : decode eX8_nerve.2.1 44 = .ok (.ifCond .eq 24, 3) := by decide +kernel
theorem dX8_nerve_47 : decode eX8_nerve.2.1 47 = .ok (.iload 4, 2) := by decide +kernel
theorem dX8_nerve_49 : decode eX8_nerve.2.1 49 = .ok (.ifCond .eq 19, 3) := by decide +kernel
theorem dX8_nerve_52 : decode eX8_nerve.2.1 52 = .ok (.aload_n 0, 1) := by decide +kernel
theorem dX8_nerve_53 : decode eX8_nerve.2.1 53 = .ok (.bipush 10, 2) := by decide +kernel
theorem dX8_nerve_55 : decode eX8_nerve.2.1 55 = .ok (.iconst 2, 1) := by decide +kernel
theorem dX8_nerve_56 : decode eX8_nerve.2.1 56 = .ok (.iload_n 1, 1) := by decide +kernel
theorem dX8_nerve_57 : decode eX8_nerve.2.1 57 = .ok (.imul, 1) := by decide +kernel
theorem dX8_nerve_58 : decode eX8_nerve.2.1 58 = .ok (.iadd, 1) := by decide +kernel
theorem dX8_nerve_59 : decode eX8_nerve.2.1 59 = .ok (.iload_n 2, 1) := by decide +kernel
theorem dX8_nerve_60 : decode eX8_nerve.2.1 60 = .ok (.iadd, 1) := by decide +kernel
theorem dX8_nerve_61 : decode eX8_nerve.2.1 61 = .ok (.iload_n 3, 1) := by decide +kernel
theorem dX8_nerve_62 : decode eX8_nerve.2.1 62 = .ok (.invokevirtual 120, 3) := by decide +kernel
theorem dX8_nerve_65 : decode eX8_nerve.2.1 65 = .ok (.goto 5, 3) := by decide +kernel
theorem dX8_nerve_68 : decode eX8_nerve.2.1 68 = .ok (.ldc 91, 2) := by decide +kernel
theorem dX8_nerve_70 : decode eX8_nerve.2.1 70 = .ok (.ireturn, 1) := by decide +kernel
theorem dX8_pull_0 : decode eX8_pull.2.1 0 = .ok (.iload_n 1, 1) := by decide +kernel
theorem dX8_pull_1 : decode eX8_pull.2.1 1 = .ok (.invokestatic 117, 3) := by decide +kernel
theorem dX8_pull_4 : decode eX8_pull.2.1 4 = .ok (.ifCond .eq 27, 3) := by decide +kernel
theorem dX8_pull_7 : decode eX8_pull.2.1 7 = .ok (.iload_n 2, 1) := by decide +kernel
theorem dX8_pull_8 : decode eX8_pull.2.1 8 = .ok (.i2l, 1) := by decide +kernel
theorem dX8_pull_9 : decode eX8_pull.2.1 9 = .ok (.lconst 0, 1) := by decide +kernel
theorem dX8_pull_10 : decode eX8_pull.2.1 10 = .ok (.ldc2_w 89, 3) := by decide +kernel
theorem dX8_pull_13 : decode eX8_pull.2.1 13 = .ok (.invokestatic 71, 3) := by decide +kernel
theorem dX8_pull_16 : decode eX8_pull.2.1 16 = .ok (.ifCond .eq 15, 3) := by decide +kernel
theorem dX8_pull_19 : decode eX8_pull.2.1 19 = .ok (.aload_n 0, 1) := by decide +kernel
theorem dX8_pull_20 : decode eX8_pull.2.1 20 = .ok (.bipush 30, 2) := by decide +kernel
theorem dX8_pull_22 : decode eX8_pull.2.1 22 = .ok (.iload_n 1, 1) := by decide +kernel
theorem dX8_pull_23 : decode eX8_pull.2.1 23 = .ok (.iadd, 1) := by decide +kernel
theorem dX8_pull_24 : decode eX8_pull.2.1 24 = .ok (.iload_n 2, 1) := by decide +kernel
theorem dX8_pull_25 : decode eX8_pull.2.1 25 = .ok (.invokevirtual 120, 3) := by decide +kernel
theorem dX8_pull_28 : decode eX8_pull.2.1 28 = .ok (.goto 5, 3) := by decide +kernel
theorem dX8_pull_31 : decode eX8_pull.2.1 31 = .ok (.ldc 91, 2) := by decide +kernel
theorem dX8_pull_33 : decode eX8_pull.2.1 33 = .ok (.ireturn, 1) := by decide +kernel
theorem dX8_rule_0 : decode eX8_rule.2.1 0 = .ok (.iload_n 1, 1) := by decide +kernel
theorem dX8_rule_1 : decode eX8_rule.2.1 1 = .ok (.ifCond .ne 15, 3) := by decide +kernel
theorem dX8_rule_4 : decode eX8_rule.2.1 4 = .ok (.iload_n 2, 1) := by decide +kernel
theorem dX8_rule_5 : decode eX8_rule.2.1 5 = .ok (.i2l, 1) := by decide +kernel
theorem dX8_rule_6 : decode eX8_rule.2.1 6 = .ok (.lconst 0, 1) := by decide +kernel
theorem dX8_rule_7 : decode eX8_rule.2.1 7 = .ok (.ldc2_w 123, 3) := by decide +kernel
theorem dX8_rule_10 : decode eX8_rule.2.1 10 = .ok (.invokestatic 71, 3) := by decide +kernel
theorem dX8_rule_13 : decode eX8_rule.2.1 13 = .ok (.goto 59, 3) := by decide +kernel
theorem dX8_rule_16 : decode eX8_rule.2.1 16 = .ok (.iload_n 1, 1) := by decide +kernel
theorem dX8_rule_17 : decode eX8_rule.2.1 17 = .ok (.iconst 1, 1) := by decide +kernel
theorem dX8_rule_18 : decode eX8_rule.2.1 18 = .ok (.if_icmp .ne 15, 3) := by decide +kernel
theorem dX8_rule_21 : decode eX8_rule.2.1 21 = .ok (.iload_n 2, 1) := by decide +kernel
theorem dX8_rule_22 : decode eX8_rule.2.1 22 = .ok (.i2l, 1) := by decide +kernel
theorem dX8_rule_23 : decode eX8_rule.2.1 23 = .ok (.lconst 0, 1) := by decide +kernel
theorem dX8_rule_24 : decode eX8_rule.2.1 24 = .ok (.ldc2_w 89, 3) := by decide +kernel
theorem dX8_rule_27 : decode eX8_rule.2.1 27 = .ok (.invokestatic 71, 3) := by decide +kernel
theorem dX8_rule_30 : decode eX8_rule.2.1 30 = .ok (.goto 42, 3) := by decide +kernel
theorem dX8_rule_33 : decode eX8_rule.2.1 33 = .ok (.iload_n 1, 1) := by decide +kernel
theorem dX8_rule_34 : decode eX8_rule.2.1 34 = .ok (.iconst 2, 1) := by decide +kernel
theorem dX8_rule_35 : decode eX8_rule.2.1 35 = .ok (.if_icmp .ne 15, 3) := by decide +kernel
theorem dX8_rule_38 : decode eX8_rule.2.1 38 = .ok (.iload_n 2, 1) := by decide +kernel
theorem dX8_rule_39 : decode eX8_rule.2.1 39 = .ok (.i2l, 1) := by decide +kernel
theorem dX8_rule_40 : decode eX8_rule.2.1 40 = .ok (.lconst 1, 1) := by decide +kernel
theorem dX8_rule_41 : decode eX8_rule.2.1 41 = .ok (.ldc2_w 123, 3) := by decide +kernel
theorem dX8_rule_44 : decode eX8_rule.2.1 44 = .ok (.invokestatic 71, 3) := by decide +kernel
theorem dX8_rule_47 : decode eX8_rule.2.1 47 = .ok (.goto 25, 3) := by decide +kernel
theorem dX8_rule_50 : decode eX8_rule.2.1 50 = .ok (.iload_n 1, 1) := by decide +kernel
theorem dX8_rule_51 : decode eX8_rule.2.1 51 = .ok (.iconst 3, 1) := by decide +kernel
theorem dX8_rule_52 : decode eX8_rule.2.1 52 = .ok (.if_icmp .ne 19, 3) := by decide +kernel
theorem dX8_rule_55 : decode eX8_rule.2.1 55 = .ok (.iload_n 2, 1) := by decide +kernel
theorem dX8_rule_56 : decode eX8_rule.2.1 56 = .ok (.i2l, 1) := by decide +kernel
theorem dX8_rule_57 : decode eX8_rule.2.1 57 = .ok (.lconst 1, 1) := by decide +kernel
theorem dX8_rule_58 : decode eX8_rule.2.1 58 = .ok (.ldc2_w 125, 3) := by decide +kernel
theorem dX8_rule_61 : decode eX8_rule.2.1 61 = .ok (.invokestatic 71, 3) := by decide +kernel
theorem dX8_rule_64 : decode eX8_rule.2.1 64 = .ok (.ifCond .eq 7, 3) := by decide +kernel
theorem dX8_rule_67 : decode eX8_rule.2.1 67 = .ok (.iconst 1, 1) := by decide +kernel
theorem dX8_rule_68 : decode eX8_rule.2.1 68 = .ok (.goto 4, 3) := by decide +kernel
theorem dX8_rule_71 : decode eX8_rule.2.1 71 = .ok (.iconst 0, 1) := by decide +kernel
theorem dX8_rule_72 : decode eX8_rule.2.1 72 = .ok (.istore_n 3, 1) := by decide +kernel
theorem dX8_rule_73 : decode eX8_rule.2.1 73 = .ok (.iload_n 3, 1) := by decide +kernel
theorem dX8_rule_74 : decode eX8_rule.2.1 74 = .ok (.ifCond .eq 14, 3) := by decide +kernel
theorem dX8_rule_77 : decode eX8_rule.2.1 77 = .ok (.aload_n 0, 1) := by decide +kernel
theorem dX8_rule_78 : decode eX8_rule.2.1 78 = .ok (.iconst 2, 1) := by decide +kernel
theorem dX8_rule_79 : decode eX8_rule.2.1 79 = .ok (.iload_n 1, 1) := by decide +kernel
theorem dX8_rule_80 : decode eX8_rule.2.1 80 = .ok (.iadd, 1) := by decide +kernel
theorem dX8_rule_81 : decode eX8_rule.2.1 81 = .ok (.iload_n 2, 1) := by decide +kernel
theorem dX8_rule_82 : decode eX8_rule.2.1 82 = .ok (.invokevirtual 120, 3) := by decide +kernel
theorem dX8_rule_85 : decode eX8_rule.2.1 85 = .ok (.goto 5, 3) := by decide +kernel
theorem dX8_rule_88 : decode eX8_rule.2.1 88 = .ok (.ldc 91, 2) := by decide +kernel
theorem dX8_rule_90 : decode eX8_rule.2.1 90 = .ok (.ireturn, 1) := by decide +kernel
theorem dX8_findLight_0 : decode eX8_findLight.2.1 0 = .ok (.iconst 0, 1) := by decide +kernel
theorem dX8_findLight_1 : decode eX8_findLight.2.1 1 = .ok (.istore_n 1, 1) := by decide +kernel
theorem dX8_findLight_2 : decode eX8_findLight.2.1 2 = .ok (.iload_n 1, 1) := by decide +kernel
theorem dX8_findLight_3 : decode eX8_findLight.2.1 3 = .ok (.bipush 48, 2) := by decide +kernel
theorem dX8_findLight_5 : decode eX8_findLight.2.1 5 = .ok (.if_icmp .ge 28, 3) := by decide +kernel
theorem dX8_findLight_8 : decode eX8_findLight.2.1 8 = .ok (.aload_n 0, 1) := by decide +kernel
theorem dX8_findLight_9 : decode eX8_findLight.2.1 9 = .ok (.getfield 28, 3) := by decide +kernel
theorem dX8_findLight_12 : decode eX8_findLight.2.1 12 = .ok (.iload_n 1, 1) := by decide +kernel
theorem dX8_findLight_13 : decode eX8_findLight.2.1 13 = .ok (.aload_n 0, 1) := by decide +kernel
theorem dX8_findLight_14 : decode eX8_findLight.2.1 14 = .ok (.getfield 7, 3) := by decide +kernel
theorem dX8_findLight_17 : decode eX8_findLight.2.1 17 = .ok (.iconst 2, 1) := by decide +kernel
theorem dX8_findLight_18 : decode eX8_findLight.2.1 18 = .ok (.iaload, 1) := by decide +kernel
theorem dX8_findLight_19 : decode eX8_findLight.2.1 19 = .ok (.iastore, 1) := by decide +kernel
theorem dX8_findLight_20 : decode eX8_findLight.2.1 20 = .ok (.aload_n 0, 1) := by decide +kernel
theorem dX8_findLight_21 : decode eX8_findLight.2.1 21 = .ok (.getfield 31, 3) := by decide +kernel
theorem dX8_findLight_24 : decode eX8_findLight.2.1 24 = .ok (.iload_n 1, 1) := by decide +kernel
theorem dX8_findLight_25 : decode eX8_findLight.2.1 25 = .ok (.iconst 0, 1) := by decide +kernel
theorem dX8_findLight_26 : decode eX8_findLight.2.1 26 = .ok (.iastore, 1) := by decide +kernel
theorem dX8_findLight_27 : decode eX8_findLight.2.1 27 = .ok (.iinc 1 1, 3) := by decide +kernel
theorem dX8_findLight_30 : decode eX8_findLight.2.1 30 = .ok (.goto (-28), 3) := by decide +kernel
theorem dX8_findLight_33 : decode eX8_findLight.2.1 33 = .ok (.iconst 0, 1) := by decide +kernel
theorem dX8_findLight_34 : decode eX8_findLight.2.1 34 = .ok (.istore_n 1, 1) := by decide +kernel
theorem dX8_findLight_35 : decode eX8_findLight.2.1 35 = .ok (.iload_n 1, 1) := by decide +kernel
theorem dX8_findLight_36 : decode eX8_findLight.2.1 36 = .ok (.aload_n 0, 1) := by decide +kernel
theorem dX8_findLight_37 : decode eX8_findLight.2.1 37 = .ok (.getfield 7, 3) := by decide +kernel
theorem dX8_findLight_40 : decode eX8_findLight.2.1 40 = .ok (.iconst 0, 1) := by decide +kernel
theorem dX8_findLight_41 : decode eX8_findLight.2.1 41 = .ok (.iaload, 1) := by decide +kernel
theorem dX8_findLight_42 : decode eX8_findLight.2.1 42 = .ok (.if_icmp .ge 72, 3) := by decide +kernel
theorem dX8_findLight_45 : decode eX8_findLight.2.1 45 = .ok (.aload_n 0, 1) := by decide +kernel
theorem dX8_findLight_46 : decode eX8_findLight.2.1 46 = .ok (.getfield 7, 3) := by decide +kernel
theorem dX8_findLight_49 : decode eX8_findLight.2.1 49 = .ok (.aload_n 0, 1) := by decide +kernel
theorem dX8_findLight_50 : decode eX8_findLight.2.1 50 = .ok (.iload_n 1, 1) := by decide +kernel
theorem dX8_findLight_51 : decode eX8_findLight.2.1 51 = .ok (.invokevirtual 81, 3) := by decide +kernel
theorem dX8_findLight_54 : decode eX8_findLight.2.1 54 = .ok (.iconst 1, 1) := by decide +kernel
theorem dX8_findLight_55 : decode eX8_findLight.2.1 55 = .ok (.iadd, 1) := by decide +kernel
theorem dX8_findLight_56 : decode eX8_findLight.2.1 56 = .ok (.iaload, 1) := by decide +kernel
theorem dX8_findLight_57 : decode eX8_findLight.2.1 57 = .ok (.istore_n 2, 1) := by decide +kernel
theorem dX8_findLight_58 : decode eX8_findLight.2.1 58 = .ok (.aload_n 0, 1) := by decide +kernel
theorem dX8_findLight_59 : decode eX8_findLight.2.1 59 = .ok (.getfield 28, 3) := by decide +kernel
theorem dX8_findLight_62 : decode eX8_findLight.2.1 62 = .ok (.iload_n 2, 1) := by decide +kernel
theorem dX8_findLight_63 : decode eX8_findLight.2.1 63 = .ok (.dup2, 1) := by decide +kernel
theorem dX8_findLight_64 : decode eX8_findLight.2.1 64 = .ok (.iaload, 1) := by decide +kernel
theorem dX8_findLight_65 : decode eX8_findLight.2.1 65 = .ok (.aload_n 0, 1) := by decide +kernel
theorem dX8_findLight_66 : decode eX8_findLight.2.1 66 = .ok (.iload_n 1, 1) := by decide +kernel
theorem dX8_findLight_67 : decode eX8_findLight.2.1 67 = .ok (.invokevirtual 113, 3) := by decide +kernel
theorem dX8_findLight_70 : decode eX8_findLight.2.1 70 = .ok (.iadd, 1) := by decide +kernel
theorem dX8_findLight_71 : decode eX8_findLight.2.1 71 = .ok (.iastore, 1) := by decide +kernel
theorem dX8_findLight_72 : decode eX8_findLight.2.1 72 = .ok (.aload_n 0, 1) := by decide +kernel
theorem dX8_findLight_73 : decode eX8_findLight.2.1 73 = .ok (.getfield 31, 3) := by decide +kernel
theorem dX8_findLight_76 : decode eX8_findLight.2.1 76 = .ok (.iload_n 2, 1) := by decide +kernel
theorem dX8_findLight_77 : decode eX8_findLight.2.1 77 = .ok (.aload_n 0, 1) := by decide +kernel
theorem dX8_findLight_78 : decode eX8_findLight.2.1 78 = .ok (.getfield 7, 3) := by decide +kernel
theorem dX8_findLight_81 : decode eX8_findLight.2.1 81 = .ok (.aload_n 0, 1) := by decide +kernel
theorem dX8_findLight_82 : decode eX8_findLight.2.1 82 = .ok (.iload_n 1, 1) := by decide +kernel
theorem dX8_findLight_83 : decode eX8_findLight.2.1 83 = .ok (.invokevirtual 81, 3) := by decide +kernel
theorem dX8_findLight_86 : decode eX8_findLight.2.1 86 = .ok (.iaload, 1) := by decide +kernel
theorem dX8_findLight_87 : decode eX8_findLight.2.1 87 = .ok (.iconst 4, 1) := by decide +kernel
theorem dX8_findLight_88 : decode eX8_findLight.2.1 88 = .ok (.if_icmp .ne 18, 3) := by decide +kernel
theorem dX8_findLight_91 : decode eX8_findLight.2.1 91 = .ok (.aload_n 0, 1) := by decide +kernel
theorem dX8_findLight_92 : decode eX8_findLight.2.1 92 = .ok (.getfield 7, 3) := by decide +kernel
theorem dX8_findLight_95 : decode eX8_findLight.2.1 95 = .ok (.aload_n 0, 1) := by decide +kernel
theorem dX8_findLight_96 : decode eX8_findLight.2.1 96 = .ok (.iload_n 1, 1) := by decide +kernel
theorem dX8_findLight_97 : decode eX8_findLight.2.1 97 = .ok (.invokevirtual 81, 3) := by decide +kernel
theorem dX8_findLight_100 : decode eX8_findLight.2.1 100 = .ok (.iconst 5, 1) := by decide +kernel
theorem dX8_findLight_101 : decode eX8_findLight.2.1 101 = .ok (.iadd, 1) := by decide +kernel
theorem dX8_findLight_102 : decode eX8_findLight.2.1 102 = .ok (.iaload, 1) := by decide +kernel
theorem dX8_findLight_103 : decode eX8_findLight.2.1 103 = .ok (.goto 4, 3) := by decide +kernel
theorem dX8_findLight_106 : decode eX8_findLight.2.1 106 = .ok (.iconst 0, 1) := by decide +kernel
theorem dX8_findLight_107 : decode eX8_findLight.2.1 107 = .ok (.iastore, 1) := by decide +kernel
theorem dX8_findLight_108 : decode eX8_findLight.2.1 108 = .ok (.iinc 1 1, 3) := by decide +kernel
theorem dX8_findLight_111 : decode eX8_findLight.2.1 111 = .ok (.goto (-76), 3) := by decide +kernel
theorem dX8_findLight_114 : decode eX8_findLight.2.1 114 = .ok (.iconst 0, 1) := by decide +kernel
theorem dX8_findLight_115 : decode eX8_findLight.2.1 115 = .ok (.istore_n 1, 1) := by decide +kernel
theorem dX8_findLight_116 : decode eX8_findLight.2.1 116 = .ok (.iload_n 1, 1) := by decide +kernel
theorem dX8_findLight_117 : decode eX8_findLight.2.1 117 = .ok (.bipush 48, 2) := by decide +kernel
theorem dX8_findLight_119 : decode eX8_findLight.2.1 119 = .ok (.if_icmp .ge 60, 3) := by decide +kernel
theorem dX8_findLight_122 : decode eX8_findLight.2.1 122 = .ok (.aload_n 0, 1) := by decide +kernel
theorem dX8_findLight_123 : decode eX8_findLight.2.1 123 = .ok (.getfield 28, 3) := by decide +kernel
theorem dX8_findLight_126 : decode eX8_findLight.2.1 126 = .ok (.iload_n 1, 1) := by decide +kernel
theorem dX8_findLight_127 : decode eX8_findLight.2.1 127 = .ok (.aload_n 0, 1) := by decide +kernel
theorem dX8_findLight_128 : decode eX8_findLight.2.1 128 = .ok (.getfield 28, 3) := by decide +kernel
theorem dX8_findLight_131 : decode eX8_findLight.2.1 131 = .ok (.iload_n 1, 1) := by decide +kernel
theorem dX8_findLight_132 : decode eX8_findLight.2.1 132 = .ok (.iaload, 1) := by decide +kernel
theorem dX8_findLight_133 : decode eX8_findLight.2.1 133 = .ok (.aload_n 0, 1) := by decide +kernel
theorem dX8_findLight_134 : decode eX8_findLight.2.1 134 = .ok (.getfield 7, 3) := by decide +kernel
theorem dX8_findLight_137 : decode eX8_findLight.2.1 137 = .ok (.iconst 3, 1) := by decide +kernel
theorem dX8_findLight_138 : decode eX8_findLight.2.1 138 = .ok (.iaload, 1) := by decide +kernel
theorem dX8_findLight_139 : decode eX8_findLight.2.1 139 = .ok (.aload_n 0, 1) := by decide +kernel
theorem dX8_findLight_140 : decode eX8_findLight.2.1 140 = .ok (.getfield 31, 3) := by decide +kernel
theorem dX8_findLight_143 : decode eX8_findLight.2.1 143 = .ok (.iload_n 1, 1) := by decide +kernel
theorem dX8_findLight_144 : decode eX8_findLight.2.1 144 = .ok (.iaload, 1) := by decide +kernel
theorem dX8_findLight_145 : decode eX8_findLight.2.1 145 = .ok (.iload_n 1, 1) := by decide +kernel
theorem dX8_findLight_146 : decode eX8_findLight.2.1 146 = .ok (.bipush 8, 2) := by decide +kernel
theorem dX8_findLight_148 : decode eX8_findLight.2.1 148 = .ok (.if_icmp .ge 7, 3) := by decide +kernel
theorem dX8_findLight_151 : decode eX8_findLight.2.1 151 = .ok (.iconst 0, 1) := by decide +kernel
theorem dX8_findLight_152 : decode eX8_findLight.2.1 152 = .ok (.goto 12, 3) := by decide +kernel
theorem dX8_findLight_155 : decode eX8_findLight.2.1 155 = .ok (.aload_n 0, 1) := by decide +kernel
theorem dX8_findLight_156 : decode eX8_findLight.2.1 156 = .ok (.getfield 31, 3) := by decide +kernel
theorem dX8_findLight_159 : decode eX8_findLight.2.1 159 = .ok (.iload_n 1, 1) := by decide +kernel
theorem dX8_findLight_160 : decode eX8_findLight.2.1 160 = .ok (.bipush 8, 2) := by decide +kernel
theorem dX8_findLight_162 : decode eX8_findLight.2.1 162 = .ok (.isub, 1) := by decide +kernel
theorem dX8_findLight_163 : decode eX8_findLight.2.1 163 = .ok (.iaload, 1) := by decide +kernel
theorem dX8_findLight_164 : decode eX8_findLight.2.1 164 = .ok (.isub, 1) := by decide +kernel
theorem dX8_findLight_165 : decode eX8_findLight.2.1 165 = .ok (.imul, 1) := by decide +kernel
theorem dX8_findLight_166 : decode eX8_findLight.2.1 166 = .ok (.iadd, 1) := by decide +kernel
theorem dX8_findLight_167 : decode eX8_findLight.2.1 167 = .ok (.bipush 99, 2) := by decide +kernel
theorem dX8_findLight_169 : decode eX8_findLight.2.1 169 = .ok (.invokestatic 127, 3) := by decide +kernel
theorem dX8_findLight_172 : decode eX8_findLight.2.1 172 = .ok (.iastore, 1) := by decide +kernel
theorem dX8_findLight_173 : decode eX8_findLight.2.1 173 = .ok (.iinc 1 1, 3) := by decide +kernel
theorem dX8_findLight_176 : decode eX8_findLight.2.1 176 = .ok (.goto (-60), 3) := by decide +kernel
theorem dX8_findLight_179 : decode eX8_findLight.2.1 179 = .ok (.return_, 1) := by decide +kernel
theorem dX8_show_0 : decode eX8_show.2.1 0 = .ok (.iload_n 1, 1) := by decide +kernel
theorem dX8_show_1 : decode eX8_show.2.1 1 = .ok (.invokestatic 85, 3) := by decide +kernel
theorem dX8_show_4 : decode eX8_show.2.1 4 = .ok (.ifCond .eq 15, 3) := by decide +kernel
theorem dX8_show_7 : decode eX8_show.2.1 7 = .ok (.iload_n 2, 1) := by decide +kernel
theorem dX8_show_8 : decode eX8_show.2.1 8 = .ok (.i2l, 1) := by decide +kernel
theorem dX8_show_9 : decode eX8_show.2.1 9 = .ok (.lconst 0, 1) := by decide +kernel
theorem dX8_show_10 : decode eX8_show.2.1 10 = .ok (.ldc2_w 77, 3) := by decide +kernel
theorem dX8_show_13 : decode eX8_show.2.1 13 = .ok (.invokestatic 71, 3) := by decide +kernel
theorem dX8_show_16 : decode eX8_show.2.1 16 = .ok (.ifCond .ne 6, 3) := by decide +kernel
theorem dX8_show_19 : decode eX8_show.2.1 19 = .ok (.ldc 91, 2) := by decide +kernel
theorem dX8_show_21 : decode eX8_show.2.1 21 = .ok (.ireturn, 1) := by decide +kernel
theorem dX8_show_22 : decode eX8_show.2.1 22 = .ok (.aload_n 0, 1) := by decide +kernel
theorem dX8_show_23 : decode eX8_show.2.1 23 = .ok (.invokevirtual 130, 3) := by decide +kernel
theorem dX8_show_26 : decode eX8_show.2.1 26 = .ok (.iload_n 2, 1) := by decide +kernel
theorem dX8_show_27 : decode eX8_show.2.1 27 = .ok (.ifCond .ne 12, 3) := by decide +kernel
theorem dX8_show_30 : decode eX8_show.2.1 30 = .ok (.aload_n 0, 1) := by decide +kernel
theorem dX8_show_31 : decode eX8_show.2.1 31 = .ok (.getfield 28, 3) := by decide +kernel
theorem dX8_show_34 : decode eX8_show.2.1 34 = .ok (.iload_n 1, 1) := by decide +kernel
theorem dX8_show_35 : decode eX8_show.2.1 35 = .ok (.iaload, 1) := by decide +kernel
theorem dX8_show_36 : decode eX8_show.2.1 36 = .ok (.goto 42, 3) := by decide +kernel
theorem dX8_show_39 : decode eX8_show.2.1 39 = .ok (.iload_n 2, 1) := by decide +kernel
theorem dX8_show_40 : decode eX8_show.2.1 40 = .ok (.iconst 1, 1) := by decide +kernel
theorem dX8_show_41 : decode eX8_show.2.1 41 = .ok (.if_icmp .ne 15, 3) := by decide +kernel
theorem dX8_show_44 : decode eX8_show.2.1 44 = .ok (.aload_n 0, 1) := by decide +kernel
theorem dX8_show_45 : decode eX8_show.2.1 45 = .ok (.getfield 7, 3) := by decide +kernel
theorem dX8_show_48 : decode eX8_show.2.1 48 = .ok (.bipush 40, 2) := by decide +kernel
theorem dX8_show_50 : decode eX8_show.2.1 50 = .ok (.iload_n 1, 1) := by decide +kernel
theorem dX8_show_51 : decode eX8_show.2.1 51 = .ok (.iadd, 1) := by decide +kernel
theorem dX8_show_52 : decode eX8_show.2.1 52 = .ok (.iaload, 1) := by decide +kernel
theorem dX8_show_53 : decode eX8_show.2.1 53 = .ok (.goto 25, 3) := by decide +kernel
theorem dX8_show_56 : decode eX8_show.2.1 56 = .ok (.iload_n 2, 1) := by decide +kernel
theorem dX8_show_57 : decode eX8_show.2.1 57 = .ok (.iconst 2, 1) := by decide +kernel
theorem dX8_show_58 : decode eX8_show.2.1 58 = .ok (.if_icmp .ne 14, 3) := by decide +kernel
theorem dX8_show_61 : decode eX8_show.2.1 61 = .ok (.aload_n 0, 1) := by decide +kernel
theorem dX8_show_62 : decode eX8_show.2.1 62 = .ok (.iload_n 1, 1) := by decide +kernel
theorem dX8_show_63 : decode eX8_show.2.1 63 = .ok (.invokevirtual 92, 3) := by decide +kernel
theorem dX8_show_66 : decode eX8_show.2.1 66 = .ok (.invokestatic 133, 3) := by decide +kernel
theorem dX8_show_69 : decode eX8_show.2.1 69 = .ok (.goto 9, 3) := by decide +kernel
theorem dX8_show_72 : decode eX8_show.2.1 72 = .ok (.aload_n 0, 1) := by decide +kernel
theorem dX8_show_73 : decode eX8_show.2.1 73 = .ok (.getfield 31, 3) := by decide +kernel
theorem dX8_show_76 : decode eX8_show.2.1 76 = .ok (.iload_n 1, 1) := by decide +kernel
theorem dX8_show_77 : decode eX8_show.2.1 77 = .ok (.iaload, 1) := by decide +kernel
theorem dX8_show_78 : decode eX8_show.2.1 78 = .ok (.ireturn, 1) := by decide +kernel
theorem dX8_wasIsLight_0 : decode eX8_wasIsLight.2.1 0 = .ok (.aload_n 0, 1) := by decide +kernel
theorem dX8_wasIsLight_1 : decode eX8_wasIsLight.2.1 1 = .ok (.invokevirtual 130, 3) := by decide +kernel
theorem dX8_wasIsLight_4 : decode eX8_wasIsLight.2.1 4 = .ok (.iconst 0, 1) := by decide +kernel
theorem dX8_wasIsLight_5 : decode eX8_wasIsLight.2.1 5 = .ok (.istore_n 1, 1) := by decide +kernel
theorem dX8_wasIsLight_6 : decode eX8_wasIsLight.2.1 6 = .ok (.iload_n 1, 1) := by decide +kernel
theorem dX8_wasIsLight_7 : decode eX8_wasIsLight.2.1 7 = .ok (.bipush 48, 2) := by decide +kernel
theorem dX8_wasIsLight_9 : decode eX8_wasIsLight.2.1 9 = .ok (.if_icmp .ge 24, 3) := by decide +kernel
theorem dX8_wasIsLight_12 : decode eX8_wasIsLight.2.1 12 = .ok (.aload_n 0, 1) := by decide +kernel
theorem dX8_wasIsLight_13 : decode eX8_wasIsLight.2.1 13 = .ok (.getfield 7, 3) := by decide +kernel
theorem dX8_wasIsLight_16 : decode eX8_wasIsLight.2.1 16 = .ok (.bipush 40, 2) := by decide +kernel
theorem dX8_wasIsLight_18 : decode eX8_wasIsLight.2.1 18 = .ok (.iload_n 1, 1) := by decide +kernel
theorem dX8_wasIsLight_19 : decode eX8_wasIsLight.2.1 19 = .ok (.iadd, 1) := by decide +kernel
theorem dX8_wasIsLight_20 : decode eX8_wasIsLight.2.1 20 = .ok (.aload_n 0, 1) := by decide +kernel
theorem dX8_wasIsLight_21 : decode eX8_wasIsLight.2.1 21 = .ok (.getfield 28, 3) := by decide +kernel
theorem dX8_wasIsLight_24 : decode eX8_wasIsLight.2.1 24 = .ok (.iload_n 1, 1) := by decide +kernel
theorem dX8_wasIsLight_25 : decode eX8_wasIsLight.2.1 25 = .ok (.iaload, 1) := by decide +kernel
theorem dX8_wasIsLight_26 : decode eX8_wasIsLight.2.1 26 = .ok (.iastore, 1) := by decide +kernel
theorem dX8_wasIsLight_27 : decode eX8_wasIsLight.2.1 27 = .ok (.iinc 1 1, 3) := by decide +kernel
theorem dX8_wasIsLight_30 : decode eX8_wasIsLight.2.1 30 = .ok (.goto (-24), 3) := by decide +kernel
theorem dX8_wasIsLight_33 : decode eX8_wasIsLight.2.1 33 = .ok (.return_, 1) := by decide +kernel
theorem dX8_oneTick_0 : decode eX8_oneTick.2.1 0 = .ok (.aload_n 0, 1) := by decide +kernel
theorem dX8_oneTick_1 : decode eX8_oneTick.2.1 1 = .ok (.invokevirtual 136, 3) := by decide +kernel
theorem dX8_oneTick_4 : decode eX8_oneTick.2.1 4 = .ok (.iconst 0, 1) := by decide +kernel
theorem dX8_oneTick_5 : decode eX8_oneTick.2.1 5 = .ok (.istore_n 1, 1) := by decide +kernel
theorem dX8_oneTick_6 : decode eX8_oneTick.2.1 6 = .ok (.iload_n 1, 1) := by decide +kernel
theorem dX8_oneTick_7 : decode eX8_oneTick.2.1 7 = .ok (.aload_n 0, 1) := by decide +kernel
theorem dX8_oneTick_8 : decode eX8_oneTick.2.1 8 = .ok (.getfield 7, 3) := by decide +kernel
theorem dX8_oneTick_11 : decode eX8_oneTick.2.1 11 = .ok (.iconst 0, 1) := by decide +kernel
theorem dX8_oneTick_12 : decode eX8_oneTick.2.1 12 = .ok (.iaload, 1) := by decide +kernel
theorem dX8_oneTick_13 : decode eX8_oneTick.2.1 13 = .ok (.if_icmp .ge 65, 3) := by decide +kernel
theorem dX8_oneTick_16 : decode eX8_oneTick.2.1 16 = .ok (.aload_n 0, 1) := by decide +kernel
theorem dX8_oneTick_17 : decode eX8_oneTick.2.1 17 = .ok (.iload_n 1, 1) := by decide +kernel
theorem dX8_oneTick_18 : decode eX8_oneTick.2.1 18 = .ok (.invokevirtual 81, 3) := by decide +kernel
theorem dX8_oneTick_21 : decode eX8_oneTick.2.1 21 = .ok (.iconst 5, 1) := by decide +kernel
theorem dX8_oneTick_22 : decode eX8_oneTick.2.1 22 = .ok (.iadd, 1) := by decide +kernel
theorem dX8_oneTick_23 : decode eX8_oneTick.2.1 23 = .ok (.istore_n 2, 1) := by decide +kernel
theorem dX8_oneTick_24 : decode eX8_oneTick.2.1 24 = .ok (.aload_n 0, 1) := by decide +kernel
theorem dX8_oneTick_25 : decode eX8_oneTick.2.1 25 = .ok (.iload_n 1, 1) := by decide +kernel
theorem dX8_oneTick_26 : decode eX8_oneTick.2.1 26 = .ok (.invokevirtual 107, 3) := by decide +kernel
theorem dX8_oneTick_29 : decode eX8_oneTick.2.1 29 = .ok (.aload_n 0, 1) := by decide +kernel
theorem dX8_oneTick_30 : decode eX8_oneTick.2.1 30 = .ok (.getfield 7, 3) := by decide +kernel
theorem dX8_oneTick_33 : decode eX8_oneTick.2.1 33 = .ok (.iload_n 2, 1) := by decide +kernel
theorem dX8_oneTick_34 : decode eX8_oneTick.2.1 34 = .ok (.iaload, 1) := by decide +kernel
theorem dX8_oneTick_35 : decode eX8_oneTick.2.1 35 = .ok (.isub, 1) := by decide +kernel
theorem dX8_oneTick_36 : decode eX8_oneTick.2.1 36 = .ok (.istore_n 3, 1) := by decide +kernel
theorem dX8_oneTick_37 : decode eX8_oneTick.2.1 37 = .ok (.iload_n 3, 1) := by decide +kernel
theorem dX8_oneTick_38 : decode eX8_oneTick.2.1 38 = .ok (.invokestatic 139, 3) := by decide +kernel
theorem dX8_oneTick_41 : decode eX8_oneTick.2.1 41 = .ok (.aload_n 0, 1) := by decide +kernel
theorem dX8_oneTick_42 : decode eX8_oneTick.2.1 42 = .ok (.iload_n 1, 1) := by decide +kernel
theorem dX8_oneTick_43 : decode eX8_oneTick.2.1 43 = .ok (.invokevirtual 110, 3) := by decide +kernel
theorem dX8_oneTick_46 : decode eX8_oneTick.2.1 46 = .ok (.invokestatic 100, 3) := by decide +kernel
theorem dX8_oneTick_49 : decode eX8_oneTick.2.1 49 = .ok (.istore 4, 2) := by decide +kernel
theorem dX8_oneTick_51 : decode eX8_oneTick.2.1 51 = .ok (.aload_n 0, 1) := by decide +kernel
theorem dX8_oneTick_52 : decode eX8_oneTick.2.1 52 = .ok (.getfield 7, 3) := by decide +kernel
theorem dX8_oneTick_55 : decode eX8_oneTick.2.1 55 = .ok (.iload_n 2, 1) := by decide +kernel
theorem dX8_oneTick_56 : decode eX8_oneTick.2.1 56 = .ok (.dup2, 1) := by decide +kernel
theorem dX8_oneTick_57 : decode eX8_oneTick.2.1 57 = .ok (.iaload, 1) := by decide +kernel
theorem dX8_oneTick_58 : decode eX8_oneTick.2.1 58 = .ok (.iload_n 3, 1) := by decide +kernel
theorem dX8_oneTick_59 : decode eX8_oneTick.2.1 59 = .ok (.ifCond .ge 9, 3) := by decide +kernel
theorem dX8_oneTick_62 : decode eX8_oneTick.2.1 62 = .ok (.iload 4, 2) := by decide +kernel
theorem dX8_oneTick_64 : decode eX8_oneTick.2.1 64 = .ok (.ineg, 1) := by decide +kernel
theorem dX8_oneTick_65 : decode eX8_oneTick.2.1 65 = .ok (.goto 5, 3) := by decide +kernel
theorem dX8_oneTick_68 : decode eX8_oneTick.2.1 68 = .ok (.iload 4, 2) := by decide +kernel
theorem dX8_oneTick_70 : decode eX8_oneTick.2.1 70 = .ok (.iadd, 1) := by decide +kernel
theorem dX8_oneTick_71 : decode eX8_oneTick.2.1 71 = .ok (.iastore, 1) := by decide +kernel
theorem dX8_oneTick_72 : decode eX8_oneTick.2.1 72 = .ok (.iinc 1 1, 3) := by decide +kernel
theorem dX8_oneTick_75 : decode eX8_oneTick.2.1 75 = .ok (.goto (-69), 3) := by decide +kernel
theorem dX8_oneTick_78 : decode eX8_oneTick.2.1 78 = .ok (.aload_n 0, 1) := by decide +kernel
theorem dX8_oneTick_79 : decode eX8_oneTick.2.1 79 = .ok (.getfield 7, 3) := by decide +kernel
theorem dX8_oneTick_82 : decode eX8_oneTick.2.1 82 = .ok (.iconst 1, 1) := by decide +kernel
theorem dX8_oneTick_83 : decode eX8_oneTick.2.1 83 = .ok (.dup2, 1) := by decide +kernel
theorem dX8_oneTick_84 : decode eX8_oneTick.2.1 84 = .ok (.iaload, 1) := by decide +kernel
theorem dX8_oneTick_85 : decode eX8_oneTick.2.1 85 = .ok (.iconst 1, 1) := by decide +kernel
theorem dX8_oneTick_86 : decode eX8_oneTick.2.1 86 = .ok (.iadd, 1) := by decide +kernel
theorem dX8_oneTick_87 : decode eX8_oneTick.2.1 87 = .ok (.iastore, 1) := by decide +kernel
theorem dX8_oneTick_88 : decode eX8_oneTick.2.1 88 = .ok (.aload_n 0, 1) := by decide +kernel
theorem dX8_oneTick_89 : decode eX8_oneTick.2.1 89 = .ok (.iconst 0, 1) := by decide +kernel
theorem dX8_oneTick_90 : decode eX8_oneTick.2.1 90 = .ok (.putfield 67, 3) := by decide +kernel
theorem dX8_oneTick_93 : decode eX8_oneTick.2.1 93 = .ok (.return_, 1) := by decide +kernel
theorem dX8_tick_0 : decode eX8_tick.2.1 0 = .ok (.iload_n 1, 1) := by decide +kernel
theorem dX8_tick_1 : decode eX8_tick.2.1 1 = .ok (.i2l, 1) := by decide +kernel
theorem dX8_tick_2 : decode eX8_tick.2.1 2 = .ok (.lconst 1, 1) := by decide +kernel
theorem dX8_tick_3 : decode eX8_tick.2.1 3 = .ok (.ldc2_w 142, 3) := by decide +kernel
theorem dX8_tick_6 : decode eX8_tick.2.1 6 = .ok (.invokestatic 71, 3) := by decide +kernel
theorem dX8_tick_9 : decode eX8_tick.2.1 9 = .ok (.ifCond .ne 6, 3) := by decide +kernel
theorem dX8_tick_12 : decode eX8_tick.2.1 12 = .ok (.ldc 91, 2) := by decide +kernel
theorem dX8_tick_14 : decode eX8_tick.2.1 14 = .ok (.ireturn, 1) := by decide +kernel
theorem dX8_tick_15 : decode eX8_tick.2.1 15 = .ok (.aload_n 0, 1) := by decide +kernel
theorem dX8_tick_16 : decode eX8_tick.2.1 16 = .ok (.getfield 7, 3) := by decide +kernel
theorem dX8_tick_19 : decode eX8_tick.2.1 19 = .ok (.iconst 1, 1) := by decide +kernel
theorem dX8_tick_20 : decode eX8_tick.2.1 20 = .ok (.iaload, 1) := by decide +kernel
theorem dX8_tick_21 : decode eX8_tick.2.1 21 = .ok (.iload_n 1, 1) := by decide +kernel
theorem dX8_tick_22 : decode eX8_tick.2.1 22 = .ok (.iadd, 1) := by decide +kernel
theorem dX8_tick_23 : decode eX8_tick.2.1 23 = .ok (.sipush 9999, 3) := by decide +kernel
theorem dX8_tick_26 : decode eX8_tick.2.1 26 = .ok (.if_icmp .le 6, 3) := by decide +kernel
theorem dX8_tick_29 : decode eX8_tick.2.1 29 = .ok (.ldc 96, 2) := by decide +kernel
theorem dX8_tick_31 : decode eX8_tick.2.1 31 = .ok (.ireturn, 1) := by decide +kernel
theorem dX8_tick_32 : decode eX8_tick.2.1 32 = .ok (.iconst 0, 1) := by decide +kernel
theorem dX8_tick_33 : decode eX8_tick.2.1 33 = .ok (.istore_n 2, 1) := by decide +kernel
theorem dX8_tick_34 : decode eX8_tick.2.1 34 = .ok (.iload_n 2, 1) := by decide +kernel
theorem dX8_tick_35 : decode eX8_tick.2.1 35 = .ok (.iload_n 1, 1) := by decide +kernel
theorem dX8_tick_36 : decode eX8_tick.2.1 36 = .ok (.if_icmp .ge 13, 3) := by decide +kernel
theorem dX8_tick_39 : decode eX8_tick.2.1 39 = .ok (.aload_n 0, 1) := by decide +kernel
theorem dX8_tick_40 : decode eX8_tick.2.1 40 = .ok (.invokevirtual 144, 3) := by decide +kernel
theorem dX8_tick_43 : decode eX8_tick.2.1 43 = .ok (.iinc 2 1, 3) := by decide +kernel
theorem dX8_tick_46 : decode eX8_tick.2.1 46 = .ok (.goto (-12), 3) := by decide +kernel
theorem dX8_tick_49 : decode eX8_tick.2.1 49 = .ok (.aload_n 0, 1) := by decide +kernel
theorem dX8_tick_50 : decode eX8_tick.2.1 50 = .ok (.getfield 7, 3) := by decide +kernel
theorem dX8_tick_53 : decode eX8_tick.2.1 53 = .ok (.iconst 1, 1) := by decide +kernel
theorem dX8_tick_54 : decode eX8_tick.2.1 54 = .ok (.iaload, 1) := by decide +kernel
theorem dX8_tick_55 : decode eX8_tick.2.1 55 = .ok (.ireturn, 1) := by decide +kernel
theorem dX8_settle_0 : decode eX8_settle.2.1 0 = .ok (.iconst 0, 1) := by decide +kernel
theorem dX8_settle_1 : decode eX8_settle.2.1 1 = .ok (.istore_n 1, 1) := by decide +kernel
theorem dX8_settle_2 : decode eX8_settle.2.1 2 = .ok (.iconst 0, 1) := by decide +kernel
theorem dX8_settle_3 : decode eX8_settle.2.1 3 = .ok (.istore_n 2, 1) := by decide +kernel
theorem dX8_settle_4 : decode eX8_settle.2.1 4 = .ok (.iload_n 2, 1) := by decide +kernel
theorem dX8_settle_5 : decode eX8_settle.2.1 5 = .ok (.aload_n 0, 1) := by decide +kernel
theorem dX8_settle_6 : decode eX8_settle.2.1 6 = .ok (.getfield 7, 3) := by decide +kernel
theorem dX8_settle_9 : decode eX8_settle.2.1 9 = .ok (.iconst 0, 1) := by decide +kernel
theorem dX8_settle_10 : decode eX8_settle.2.1 10 = .ok (.iaload, 1) := by decide +kernel
theorem dX8_settle_11 : decode eX8_settle.2.1 11 = .ok (.if_icmp .ge 52, 3) := by decide +kernel
theorem dX8_settle_14 : decode eX8_settle.2.1 14 = .ok (.aload_n 0, 1) := by decide +kernel
theorem dX8_settle_15 : decode eX8_settle.2.1 15 = .ok (.iload_n 2, 1) := by decide +kernel
theorem dX8_settle_16 : decode eX8_settle.2.1 16 = .ok (.invokevirtual 107, 3) := by decide +kernel
theorem dX8_settle_19 : decode eX8_settle.2.1 19 = .ok (.istore_n 3, 1) := by decide +kernel
theorem dX8_settle_20 : decode eX8_settle.2.1 20 = .ok (.iload_n 1, 1) := by decide +kernel
theorem dX8_settle_21 : decode eX8_settle.2.1 21 = .ok (.aload_n 0, 1) := by decide +kernel
theorem dX8_settle_22 : decode eX8_settle.2.1 22 = .ok (.getfield 7, 3) := by decide +kernel
theorem dX8_settle_25 : decode eX8_settle.2.1 25 = .ok (.aload_n 0, 1) := by decide +kernel
theorem dX8_settle_26 : decode eX8_settle.2.1 26 = .ok (.iload_n 2, 1) := by decide +kernel
theorem dX8_settle_27 : decode eX8_settle.2.1 27 = .ok (.invokevirtual 81, 3) := by decide +kernel
theorem dX8_settle_30 : decode eX8_settle.2.1 30 = .ok (.iconst 5, 1) := by decide +kernel
theorem dX8_settle_31 : decode eX8_settle.2.1 31 = .ok (.iadd, 1) := by decide +kernel
theorem dX8_settle_32 : decode eX8_settle.2.1 32 = .ok (.iaload, 1) := by decide +kernel
theorem dX8_settle_33 : decode eX8_settle.2.1 33 = .ok (.iload_n 3, 1) := by decide +kernel
theorem dX8_settle_34 : decode eX8_settle.2.1 34 = .ok (.if_icmp .ne 7, 3) := by decide +kernel
theorem dX8_settle_37 : decode eX8_settle.2.1 37 = .ok (.iconst 0, 1) := by decide +kernel
theorem dX8_settle_38 : decode eX8_settle.2.1 38 = .ok (.goto 4, 3) := by decide +kernel
theorem dX8_settle_41 : decode eX8_settle.2.1 41 = .ok (.iconst 1, 1) := by decide +kernel
theorem dX8_settle_42 : decode eX8_settle.2.1 42 = .ok (.iadd, 1) := by decide +kernel
theorem dX8_settle_43 : decode eX8_settle.2.1 43 = .ok (.istore_n 1, 1) := by decide +kernel
theorem dX8_settle_44 : decode eX8_settle.2.1 44 = .ok (.aload_n 0, 1) := by decide +kernel
theorem dX8_settle_45 : decode eX8_settle.2.1 45 = .ok (.getfield 7, 3) := by decide +kernel
theorem dX8_settle_48 : decode eX8_settle.2.1 48 = .ok (.aload_n 0, 1) := by decide +kernel
theorem dX8_settle_49 : decode eX8_settle.2.1 49 = .ok (.iload_n 2, 1) := by decide +kernel
theorem dX8_settle_50 : decode eX8_settle.2.1 50 = .ok (.invokevirtual 81, 3) := by decide +kernel
theorem dX8_settle_53 : decode eX8_settle.2.1 53 = .ok (.iconst 5, 1) := by decide +kernel
theorem dX8_settle_54 : decode eX8_settle.2.1 54 = .ok (.iadd, 1) := by decide +kernel
theorem dX8_settle_55 : decode eX8_settle.2.1 55 = .ok (.iload_n 3, 1) := by decide +kernel
theorem dX8_settle_56 : decode eX8_settle.2.1 56 = .ok (.iastore, 1) := by decide +kernel
theorem dX8_settle_57 : decode eX8_settle.2.1 57 = .ok (.iinc 2 1, 3) := by decide +kernel
theorem dX8_settle_60 : decode eX8_settle.2.1 60 = .ok (.goto (-56), 3) := by decide +kernel
theorem dX8_settle_63 : decode eX8_settle.2.1 63 = .ok (.iload_n 1, 1) := by decide +kernel
theorem dX8_settle_64 : decode eX8_settle.2.1 64 = .ok (.ireturn, 1) := by decide +kernel
theorem dX8_rest_0 : decode eX8_rest.2.1 0 = .ok (.aload_n 0, 1) := by decide +kernel
theorem dX8_rest_1 : decode eX8_rest.2.1 1 = .ok (.iconst 0, 1) := by decide +kernel
theorem dX8_rest_2 : decode eX8_rest.2.1 2 = .ok (.putfield 67, 3) := by decide +kernel
theorem dX8_rest_5 : decode eX8_rest.2.1 5 = .ok (.aload_n 0, 1) := by decide +kernel
theorem dX8_rest_6 : decode eX8_rest.2.1 6 = .ok (.invokevirtual 147, 3) := by decide +kernel
theorem dX8_rest_9 : decode eX8_rest.2.1 9 = .ok (.istore_n 1, 1) := by decide +kernel
theorem dX8_rest_10 : decode eX8_rest.2.1 10 = .ok (.aload_n 0, 1) := by decide +kernel
theorem dX8_rest_11 : decode eX8_rest.2.1 11 = .ok (.invokevirtual 136, 3) := by decide +kernel
theorem dX8_rest_14 : decode eX8_rest.2.1 14 = .ok (.iload_n 1, 1) := by decide +kernel
theorem dX8_rest_15 : decode eX8_rest.2.1 15 = .ok (.ireturn, 1) := by decide +kernel
theorem dX8_still_0 : decode eX8_still.2.1 0 = .ok (.iconst 0, 1) := by decide +kernel
theorem dX8_still_1 : decode eX8_still.2.1 1 = .ok (.istore_n 1, 1) := by decide +kernel
theorem dX8_still_2 : decode eX8_still.2.1 2 = .ok (.iconst 0, 1) := by decide +kernel
theorem dX8_still_3 : decode eX8_still.2.1 3 = .ok (.istore_n 2, 1) := by decide +kernel
theorem dX8_still_4 : decode eX8_still.2.1 4 = .ok (.iload_n 2, 1) := by decide +kernel
theorem dX8_still_5 : decode eX8_still.2.1 5 = .ok (.aload_n 0, 1) := by decide +kernel
theorem dX8_still_6 : decode eX8_still.2.1 6 = .ok (.getfield 7, 3) := by decide +kernel
theorem dX8_still_9 : decode eX8_still.2.1 9 = .ok (.iconst 0, 1) := by decide +kernel
theorem dX8_still_10 : decode eX8_still.2.1 10 = .ok (.iaload, 1) := by decide +kernel
theorem dX8_still_11 : decode eX8_still.2.1 11 = .ok (.if_icmp .ge 69, 3) := by decide +kernel
theorem dX8_still_14 : decode eX8_still.2.1 14 = .ok (.aload_n 0, 1) := by decide +kernel
theorem dX8_still_15 : decode eX8_still.2.1 15 = .ok (.iload_n 2, 1) := by decide +kernel
theorem dX8_still_16 : decode eX8_still.2.1 16 = .ok (.invokevirtual 107, 3) := by decide +kernel
theorem dX8_still_19 : decode eX8_still.2.1 19 = .ok (.aload_n 0, 1) := by decide +kernel
theorem dX8_still_20 : decode eX8_still.2.1 20 = .ok (.getfield 7, 3) := by decide +kernel
theorem dX8_still_23 : decode eX8_still.2.1 23 = .ok (.aload_n 0, 1) := by decide +kernel
theorem dX8_still_24 : decode eX8_still.2.1 24 = .ok (.iload_n 2, 1) := by decide +kernel
theorem dX8_still_25 : decode eX8_still.2.1 25 = .ok (.invokevirtual 81, 3) := by decide +kernel
theorem dX8_still_28 : decode eX8_still.2.1 28 = .ok (.iconst 5, 1) := by decide +kernel
theorem dX8_still_29 : decode eX8_still.2.1 29 = .ok (.iadd, 1) := by decide +kernel
theorem dX8_still_30 : decode eX8_still.2.1 30 = .ok (.iaload, 1) := by decide +kernel
theorem dX8_still_31 : decode eX8_still.2.1 31 = .ok (.isub, 1) := by decide +kernel
theorem dX8_still_32 : decode eX8_still.2.1 32 = .ok (.invokestatic 139, 3) := by decide +kernel
theorem dX8_still_35 : decode eX8_still.2.1 35 = .ok (.istore_n 3, 1) := by decide +kernel
theorem dX8_still_36 : decode eX8_still.2.1 36 = .ok (.iload_n 3, 1) := by decide +kernel
theorem dX8_still_37 : decode eX8_still.2.1 37 = .ok (.ifCond .ne 7, 3) := by decide +kernel
theorem dX8_still_40 : decode eX8_still.2.1 40 = .ok (.iconst 0, 1) := by decide +kernel
theorem dX8_still_41 : decode eX8_still.2.1 41 = .ok (.goto 18, 3) := by decide +kernel
theorem dX8_still_44 : decode eX8_still.2.1 44 = .ok (.iload_n 3, 1) := by decide +kernel
theorem dX8_still_45 : decode eX8_still.2.1 45 = .ok (.aload_n 0, 1) := by decide +kernel
theorem dX8_still_46 : decode eX8_still.2.1 46 = .ok (.iload_n 2, 1) := by decide +kernel
theorem dX8_still_47 : decode eX8_still.2.1 47 = .ok (.invokevirtual 110, 3) := by decide +kernel
theorem dX8_still_50 : decode eX8_still.2.1 50 = .ok (.iadd, 1) := by decide +kernel
theorem dX8_still_51 : decode eX8_still.2.1 51 = .ok (.iconst 1, 1) := by decide +kernel
theorem dX8_still_52 : decode eX8_still.2.1 52 = .ok (.isub, 1) := by decide +kernel
theorem dX8_still_53 : decode eX8_still.2.1 53 = .ok (.aload_n 0, 1) := by decide +kernel
theorem dX8_still_54 : decode eX8_still.2.1 54 = .ok (.iload_n 2, 1) := by decide +kernel
theorem dX8_still_55 : decode eX8_still.2.1 55 = .ok (.invokevirtual 110, 3) := by decide +kernel
theorem dX8_still_58 : decode eX8_still.2.1 58 = .ok (.idiv, 1) := by decide +kernel
theorem dX8_still_59 : decode eX8_still.2.1 59 = .ok (.istore 4, 2) := by decide +kernel
theorem dX8_still_61 : decode eX8_still.2.1 61 = .ok (.iload 4, 2) := by decide +kernel
theorem dX8_still_63 : decode eX8_still.2.1 63 = .ok (.iload_n 1, 1) := by decide +kernel
theorem dX8_still_64 : decode eX8_still.2.1 64 = .ok (.if_icmp .le 8, 3) := by decide +kernel
theorem dX8_still_67 : decode eX8_still.2.1 67 = .ok (.iload 4, 2) := by decide +kernel
theorem dX8_still_69 : decode eX8_still.2.1 69 = .ok (.goto 4, 3) := by decide +kernel
theorem dX8_still_72 : decode eX8_still.2.1 72 = .ok (.iload_n 1, 1) := by decide +kernel
theorem dX8_still_73 : decode eX8_still.2.1 73 = .ok (.istore_n 1, 1) := by decide +kernel
theorem dX8_still_74 : decode eX8_still.2.1 74 = .ok (.iinc 2 1, 3) := by decide +kernel
theorem dX8_still_77 : decode eX8_still.2.1 77 = .ok (.goto (-73), 3) := by decide +kernel
theorem dX8_still_80 : decode eX8_still.2.1 80 = .ok (.iload_n 1, 1) := by decide +kernel
theorem dX8_still_81 : decode eX8_still.2.1 81 = .ok (.ireturn, 1) := by decide +kernel
theorem dX8_setAside_0 : decode eX8_setAside.2.1 0 = .ok (.iconst 0, 1) := by decide +kernel
theorem dX8_setAside_1 : decode eX8_setAside.2.1 1 = .ok (.istore_n 3, 1) := by decide +kernel
theorem dX8_setAside_2 : decode eX8_setAside.2.1 2 = .ok (.iload_n 3, 1) := by decide +kernel
theorem dX8_setAside_3 : decode eX8_setAside.2.1 3 = .ok (.sipush 3450, 3) := by decide +kernel
theorem dX8_setAside_6 : decode eX8_setAside.2.1 6 = .ok (.if_icmp .ge 15, 3) := by decide +kernel
theorem dX8_setAside_9 : decode eX8_setAside.2.1 9 = .ok (.aload_n 2, 1) := by decide +kernel
theorem dX8_setAside_10 : decode eX8_setAside.2.1 10 = .ok (.iload_n 3, 1) := by decide +kernel
theorem dX8_setAside_11 : decode eX8_setAside.2.1 11 = .ok (.aload_n 1, 1) := by decide +kernel
theorem dX8_setAside_12 : decode eX8_setAside.2.1 12 = .ok (.iload_n 3, 1) := by decide +kernel
theorem dX8_setAside_13 : decode eX8_setAside.2.1 13 = .ok (.iaload, 1) := by decide +kernel
theorem dX8_setAside_14 : decode eX8_setAside.2.1 14 = .ok (.iastore, 1) := by decide +kernel
theorem dX8_setAside_15 : decode eX8_setAside.2.1 15 = .ok (.iinc 3 1, 3) := by decide +kernel
theorem dX8_setAside_18 : decode eX8_setAside.2.1 18 = .ok (.goto (-16), 3) := by decide +kernel
theorem dX8_setAside_21 : decode eX8_setAside.2.1 21 = .ok (.return_, 1) := by decide +kernel
theorem dX8_change_0 : decode eX8_change.2.1 0 = .ok (.aload_n 0, 1) := by decide +kernel
theorem dX8_change_1 : decode eX8_change.2.1 1 = .ok (.aload_n 0, 1) := by decide +kernel
theorem dX8_change_2 : decode eX8_change.2.1 2 = .ok (.getfield 7, 3) := by decide +kernel
theorem dX8_change_5 : decode eX8_change.2.1 5 = .ok (.aload_n 0, 1) := by decide +kernel
theorem dX8_change_6 : decode eX8_change.2.1 6 = .ok (.getfield 16, 3) := by decide +kernel
theorem dX8_change_9 : decode eX8_change.2.1 9 = .ok (.invokevirtual 151, 3) := by decide +kernel
theorem dX8_change_12 : decode eX8_change.2.1 12 = .ok (.iconst 0, 1) := by decide +kernel
theorem dX8_change_13 : decode eX8_change.2.1 13 = .ok (.istore_n 1, 1) := by decide +kernel
theorem dX8_change_14 : decode eX8_change.2.1 14 = .ok (.aload_n 0, 1) := by decide +kernel
theorem dX8_change_15 : decode eX8_change.2.1 15 = .ok (.invokevirtual 155, 3) := by decide +kernel
theorem dX8_change_18 : decode eX8_change.2.1 18 = .ok (.istore_n 2, 1) := by decide +kernel
theorem dX8_change_19 : decode eX8_change.2.1 19 = .ok (.iload_n 2, 1) := by decide +kernel
theorem dX8_change_20 : decode eX8_change.2.1 20 = .ok (.ifCond .le 65, 3) := by decide +kernel
theorem dX8_change_23 : decode eX8_change.2.1 23 = .ok (.aload_n 0, 1) := by decide +kernel
theorem dX8_change_24 : decode eX8_change.2.1 24 = .ok (.invokevirtual 144, 3) := by decide +kernel
theorem dX8_change_27 : decode eX8_change.2.1 27 = .ok (.aload_n 0, 1) := by decide +kernel
theorem dX8_change_28 : decode eX8_change.2.1 28 = .ok (.invokevirtual 130, 3) := by decide +kernel
theorem dX8_change_31 : decode eX8_change.2.1 31 = .ok (.iconst 0, 1) := by decide +kernel
theorem dX8_change_32 : decode eX8_change.2.1 32 = .ok (.istore_n 3, 1) := by decide +kernel
theorem dX8_change_33 : decode eX8_change.2.1 33 = .ok (.iload_n 3, 1) := by decide +kernel
theorem dX8_change_34 : decode eX8_change.2.1 34 = .ok (.bipush 48, 2) := by decide +kernel
theorem dX8_change_36 : decode eX8_change.2.1 36 = .ok (.if_icmp .ge 43, 3) := by decide +kernel
theorem dX8_change_39 : decode eX8_change.2.1 39 = .ok (.aload_n 0, 1) := by decide +kernel
theorem dX8_change_40 : decode eX8_change.2.1 40 = .ok (.getfield 28, 3) := by decide +kernel
theorem dX8_change_43 : decode eX8_change.2.1 43 = .ok (.iload_n 3, 1) := by decide +kernel
theorem dX8_change_44 : decode eX8_change.2.1 44 = .ok (.iaload, 1) := by decide +kernel
theorem dX8_change_45 : decode eX8_change.2.1 45 = .ok (.aload_n 0, 1) := by decide +kernel
theorem dX8_change_46 : decode eX8_change.2.1 46 = .ok (.getfield 7, 3) := by decide +kernel
theorem dX8_change_49 : decode eX8_change.2.1 49 = .ok (.bipush 40, 2) := by decide +kernel
theorem dX8_change_51 : decode eX8_change.2.1 51 = .ok (.iload_n 3, 1) := by decide +kernel
theorem dX8_change_52 : decode eX8_change.2.1 52 = .ok (.iadd, 1) := by decide +kernel
theorem dX8_change_53 : decode eX8_change.2.1 53 = .ok (.iaload, 1) := by decide +kernel
theorem dX8_change_54 : decode eX8_change.2.1 54 = .ok (.isub, 1) := by decide +kernel
theorem dX8_change_55 : decode eX8_change.2.1 55 = .ok (.invokestatic 139, 3) := by decide +kernel
theorem dX8_change_58 : decode eX8_change.2.1 58 = .ok (.istore 4, 2) := by decide +kernel
theorem dX8_change_60 : decode eX8_change.2.1 60 = .ok (.iload 4, 2) := by decide +kernel
theorem dX8_change_62 : decode eX8_change.2.1 62 = .ok (.iload_n 1, 1) := by decide +kernel
theorem dX8_change_63 : decode eX8_change.2.1 63 = .ok (.if_icmp .le 8, 3) := by decide +kernel
theorem dX8_change_66 : decode eX8_change.2.1 66 = .ok (.iload 4, 2) := by decide +kernel
theorem dX8_change_68 : decode eX8_change.2.1 68 = .ok (.goto 4, 3) := by decide +kernel
theorem dX8_change_71 : decode eX8_change.2.1 71 = .ok (.iload_n 1, 1) := by decide +kernel
theorem dX8_change_72 : decode eX8_change.2.1 72 = .ok (.istore_n 1, 1) := by decide +kernel
theorem dX8_change_73 : decode eX8_change.2.1 73 = .ok (.iinc 3 1, 3) := by decide +kernel
theorem dX8_change_76 : decode eX8_change.2.1 76 = .ok (.goto (-43), 3) := by decide +kernel
theorem dX8_change_79 : decode eX8_change.2.1 79 = .ok (.iinc 2 (-1), 3) := by decide +kernel
theorem dX8_change_82 : decode eX8_change.2.1 82 = .ok (.goto (-63), 3) := by decide +kernel
theorem dX8_change_85 : decode eX8_change.2.1 85 = .ok (.aload_n 0, 1) := by decide +kernel
theorem dX8_change_86 : decode eX8_change.2.1 86 = .ok (.aload_n 0, 1) := by decide +kernel
theorem dX8_change_87 : decode eX8_change.2.1 87 = .ok (.getfield 16, 3) := by decide +kernel
theorem dX8_change_90 : decode eX8_change.2.1 90 = .ok (.aload_n 0, 1) := by decide +kernel
theorem dX8_change_91 : decode eX8_change.2.1 91 = .ok (.getfield 7, 3) := by decide +kernel
theorem dX8_change_94 : decode eX8_change.2.1 94 = .ok (.invokevirtual 151, 3) := by decide +kernel
theorem dX8_change_97 : decode eX8_change.2.1 97 = .ok (.iload_n 1, 1) := by decide +kernel
theorem dX8_change_98 : decode eX8_change.2.1 98 = .ok (.ireturn, 1) := by decide +kernel
theorem dX8_isLine_0 : decode eX8_isLine.2.1 0 = .ok (.iload_n 0, 1) := by decide +kernel
theorem dX8_isLine_1 : decode eX8_isLine.2.1 1 = .ok (.i2l, 1) := by decide +kernel
theorem dX8_isLine_2 : decode eX8_isLine.2.1 2 = .ok (.lconst 0, 1) := by decide +kernel
theorem dX8_isLine_3 : decode eX8_isLine.2.1 3 = .ok (.ldc2_w 158, 3) := by decide +kernel
theorem dX8_isLine_6 : decode eX8_isLine.2.1 6 = .ok (.invokestatic 71, 3) := by decide +kernel
theorem dX8_isLine_9 : decode eX8_isLine.2.1 9 = .ok (.ireturn, 1) := by decide +kernel
theorem dX8_line_0 : decode eX8_line.2.1 0 = .ok (.iload_n 1, 1) := by decide +kernel
theorem dX8_line_1 : decode eX8_line.2.1 1 = .ok (.invokestatic 160, 3) := by decide +kernel
theorem dX8_line_4 : decode eX8_line.2.1 4 = .ok (.ifCond .eq 25, 3) := by decide +kernel
theorem dX8_line_7 : decode eX8_line.2.1 7 = .ok (.iload_n 2, 1) := by decide +kernel
theorem dX8_line_8 : decode eX8_line.2.1 8 = .ok (.i2l, 1) := by decide +kernel
theorem dX8_line_9 : decode eX8_line.2.1 9 = .ok (.ldc2_w 163, 3) := by decide +kernel
theorem dX8_line_12 : decode eX8_line.2.1 12 = .ok (.lconst 1, 1) := by decide +kernel
theorem dX8_line_13 : decode eX8_line.2.1 13 = .ok (.invokestatic 71, 3) := by decide +kernel
theorem dX8_line_16 : decode eX8_line.2.1 16 = .ok (.ifCond .eq 13, 3) := by decide +kernel
theorem dX8_line_19 : decode eX8_line.2.1 19 = .ok (.iload_n 2, 1) := by decide +kernel
theorem dX8_line_20 : decode eX8_line.2.1 20 = .ok (.ifCond .lt 12, 3) := by decide +kernel
theorem dX8_line_23 : decode eX8_line.2.1 23 = .ok (.iload_n 3, 1) := by decide +kernel
theorem dX8_line_24 : decode eX8_line.2.1 24 = .ok (.bipush 24, 2) := by decide +kernel
theorem dX8_line_26 : decode eX8_line.2.1 26 = .ok (.if_icmp .le 6, 3) := by decide +kernel
theorem dX8_line_29 : decode eX8_line.2.1 29 = .ok (.ldc 91, 2) := by decide +kernel
theorem dX8_line_31 : decode eX8_line.2.1 31 = .ok (.ireturn, 1) := by decide +kernel
theorem dX8_line_32 : decode eX8_line.2.1 32 = .ok (.iload_n 2, 1) := by decide +kernel
theorem dX8_line_33 : decode eX8_line.2.1 33 = .ok (.ifCond .lt 10, 3) := by decide +kernel
theorem dX8_line_36 : decode eX8_line.2.1 36 = .ok (.iload_n 3, 1) := by decide +kernel
theorem dX8_line_37 : decode eX8_line.2.1 37 = .ok (.ifCond .ge 6, 3) := by decide +kernel
theorem dX8_line_40 : decode eX8_line.2.1 40 = .ok (.ldc 165, 2) := by decide +kernel
theorem dX8_line_42 : decode eX8_line.2.1 42 = .ok (.ireturn, 1) := by decide +kernel
theorem dX8_line_43 : decode eX8_line.2.1 43 = .ok (.aload_n 0, 1) := by decide +kernel
theorem dX8_line_44 : decode eX8_line.2.1 44 = .ok (.iconst 0, 1) := by decide +kernel
theorem dX8_line_45 : decode eX8_line.2.1 45 = .ok (.putfield 67, 3) := by decide +kernel
theorem dX8_line_48 : decode eX8_line.2.1 48 = .ok (.aload_n 0, 1) := by decide +kernel
theorem dX8_line_49 : decode eX8_line.2.1 49 = .ok (.getfield 19, 3) := by decide +kernel
theorem dX8_line_52 : decode eX8_line.2.1 52 = .ok (.iload_n 1, 1) := by decide +kernel
theorem dX8_line_53 : decode eX8_line.2.1 53 = .ok (.iload_n 2, 1) := by decide +kernel
theorem dX8_line_54 : decode eX8_line.2.1 54 = .ok (.iastore, 1) := by decide +kernel
theorem dX8_line_55 : decode eX8_line.2.1 55 = .ok (.aload_n 0, 1) := by decide +kernel
theorem dX8_line_56 : decode eX8_line.2.1 56 = .ok (.getfield 22, 3) := by decide +kernel
theorem dX8_line_59 : decode eX8_line.2.1 59 = .ok (.iload_n 1, 1) := by decide +kernel
theorem dX8_line_60 : decode eX8_line.2.1 60 = .ok (.iload_n 2, 1) := by decide +kernel
theorem dX8_line_61 : decode eX8_line.2.1 61 = .ok (.ifCond .ge 7, 3) := by decide +kernel
theorem dX8_line_64 : decode eX8_line.2.1 64 = .ok (.iconst 0, 1) := by decide +kernel
theorem dX8_line_65 : decode eX8_line.2.1 65 = .ok (.goto 4, 3) := by decide +kernel
theorem dX8_line_68 : decode eX8_line.2.1 68 = .ok (.iload_n 3, 1) := by decide +kernel
theorem dX8_line_69 : decode eX8_line.2.1 69 = .ok (.iastore, 1) := by decide +kernel
theorem dX8_line_70 : decode eX8_line.2.1 70 = .ok (.iconst 0, 1) := by decide +kernel
theorem dX8_line_71 : decode eX8_line.2.1 71 = .ok (.istore 4, 2) := by decide +kernel
theorem dX8_line_73 : decode eX8_line.2.1 73 = .ok (.iload 4, 2) := by decide +kernel
theorem dX8_line_75 : decode eX8_line.2.1 75 = .ok (.bipush 24, 2) := by decide +kernel
theorem dX8_line_77 : decode eX8_line.2.1 77 = .ok (.if_icmp .ge 22, 3) := by decide +kernel
theorem dX8_line_80 : decode eX8_line.2.1 80 = .ok (.aload_n 0, 1) := by decide +kernel
theorem dX8_line_81 : decode eX8_line.2.1 81 = .ok (.getfield 25, 3) := by decide +kernel
theorem dX8_line_84 : decode eX8_line.2.1 84 = .ok (.bipush 24, 2) := by decide +kernel
theorem dX8_line_86 : decode eX8_line.2.1 86 = .ok (.iload_n 1, 1) := by decide +kernel
theorem dX8_line_87 : decode eX8_line.2.1 87 = .ok (.imul, 1) := by decide +kernel
theorem dX8_line_88 : decode eX8_line.2.1 88 = .ok (.iload 4, 2) := by decide +kernel
theorem dX8_line_90 : decode eX8_line.2.1 90 = .ok (.iadd, 1) := by decide +kernel
theorem dX8_line_91 : decode eX8_line.2.1 91 = .ok (.iconst 0, 1) := by decide +kernel
theorem dX8_line_92 : decode eX8_line.2.1 92 = .ok (.iastore, 1) := by decide +kernel
theorem dX8_line_93 : decode eX8_line.2.1 93 = .ok (.iinc 4 1, 3) := by decide +kernel
theorem dX8_line_96 : decode eX8_line.2.1 96 = .ok (.goto (-23), 3) := by decide +kernel
theorem dX8_line_99 : decode eX8_line.2.1 99 = .ok (.aload_n 0, 1) := by decide +kernel
theorem dX8_line_100 : decode eX8_line.2.1 100 = .ok (.getfield 22, 3) := by decide +kernel
theorem dX8_line_103 : decode eX8_line.2.1 103 = .ok (.iload_n 1, 1) := by decide +kernel
theorem dX8_line_104 : decode eX8_line.2.1 104 = .ok (.iaload, 1) := by decide +kernel
theorem dX8_line_105 : decode eX8_line.2.1 105 = .ok (.ireturn, 1) := by decide +kernel
theorem dX8_put_0 : decode eX8_put.2.1 0 = .ok (.iload_n 1, 1) := by decide +kernel
theorem dX8_put_1 : decode eX8_put.2.1 1 = .ok (.invokestatic 160, 3) := by decide +kernel
theorem dX8_put_4 : decode eX8_put.2.1 4 = .ok (.ifCond .ne 6, 3) := by decide +kernel
theorem dX8_put_7 : decode eX8_put.2.1 7 = .ok (.ldc 91, 2) := by decide +kernel
theorem dX8_put_9 : decode eX8_put.2.1 9 = .ok (.ireturn, 1) := by decide +kernel
theorem dX8_put_10 : decode eX8_put.2.1 10 = .ok (.aload_n 0, 1) := by decide +kernel
theorem dX8_put_11 : decode eX8_put.2.1 11 = .ok (.getfield 19, 3) := by decide +kernel
theorem dX8_put_14 : decode eX8_put.2.1 14 = .ok (.iload_n 1, 1) := by decide +kernel
theorem dX8_put_15 : decode eX8_put.2.1 15 = .ok (.iaload, 1) := by decide +kernel
theorem dX8_put_16 : decode eX8_put.2.1 16 = .ok (.ifCond .ge 6, 3) := by decide +kernel
theorem dX8_put_19 : decode eX8_put.2.1 19 = .ok (.ldc 166, 2) := by decide +kernel
theorem dX8_put_21 : decode eX8_put.2.1 21 = .ok (.ireturn, 1) := by decide +kernel
theorem dX8_put_22 : decode eX8_put.2.1 22 = .ok (.iload_n 2, 1) := by decide +kernel
theorem dX8_put_23 : decode eX8_put.2.1 23 = .ok (.i2l, 1) := by decide +kernel
theorem dX8_put_24 : decode eX8_put.2.1 24 = .ok (.lconst 0, 1) := by decide +kernel
theorem dX8_put_25 : decode eX8_put.2.1 25 = .ok (.aload_n 0, 1) := by decide +kernel
theorem dX8_put_26 : decode eX8_put.2.1 26 = .ok (.getfield 22, 3) := by decide +kernel
theorem dX8_put_29 : decode eX8_put.2.1 29 = .ok (.iload_n 1, 1) := by decide +kernel
theorem dX8_put_30 : decode eX8_put.2.1 30 = .ok (.iaload, 1) := by decide +kernel
theorem dX8_put_31 : decode eX8_put.2.1 31 = .ok (.iconst 1, 1) := by decide +kernel
theorem dX8_put_32 : decode eX8_put.2.1 32 = .ok (.isub, 1) := by decide +kernel
theorem dX8_put_33 : decode eX8_put.2.1 33 = .ok (.i2l, 1) := by decide +kernel
theorem dX8_put_34 : decode eX8_put.2.1 34 = .ok (.invokestatic 71, 3) := by decide +kernel
theorem dX8_put_37 : decode eX8_put.2.1 37 = .ok (.ifCond .ne 6, 3) := by decide +kernel
theorem dX8_put_40 : decode eX8_put.2.1 40 = .ok (.ldc 167, 2) := by decide +kernel
theorem dX8_put_42 : decode eX8_put.2.1 42 = .ok (.ireturn, 1) := by decide +kernel
theorem dX8_put_43 : decode eX8_put.2.1 43 = .ok (.aload_n 0, 1) := by decide +kernel
theorem dX8_put_44 : decode eX8_put.2.1 44 = .ok (.iconst 0, 1) := by decide +kernel
theorem dX8_put_45 : decode eX8_put.2.1 45 = .ok (.putfield 67, 3) := by decide +kernel
theorem dX8_put_48 : decode eX8_put.2.1 48 = .ok (.aload_n 0, 1) := by decide +kernel
theorem dX8_put_49 : decode eX8_put.2.1 49 = .ok (.getfield 25, 3) := by decide +kernel
theorem dX8_put_52 : decode eX8_put.2.1 52 = .ok (.bipush 24, 2) := by decide +kernel
theorem dX8_put_54 : decode eX8_put.2.1 54 = .ok (.iload_n 1, 1) := by decide +kernel
theorem dX8_put_55 : decode eX8_put.2.1 55 = .ok (.imul, 1) := by decide +kernel
theorem dX8_put_56 : decode eX8_put.2.1 56 = .ok (.iload_n 2, 1) := by decide +kernel
theorem dX8_put_57 : decode eX8_put.2.1 57 = .ok (.iadd, 1) := by decide +kernel
theorem dX8_put_58 : decode eX8_put.2.1 58 = .ok (.iaload, 1) := by decide +kernel
theorem dX8_put_59 : decode eX8_put.2.1 59 = .ok (.istore 4, 2) := by decide +kernel
theorem dX8_put_61 : decode eX8_put.2.1 61 = .ok (.aload_n 0, 1) := by decide +kernel
theorem dX8_put_62 : decode eX8_put.2.1 62 = .ok (.getfield 25, 3) := by decide +kernel
theorem dX8_put_65 : decode eX8_put.2.1 65 = .ok (.bipush 24, 2) := by decide +kernel
theorem dX8_put_67 : decode eX8_put.2.1 67 = .ok (.iload_n 1, 1) := by decide +kernel
theorem dX8_put_68 : decode eX8_put.2.1 68 = .ok (.imul, 1) := by decide +kernel
theorem dX8_put_69 : decode eX8_put.2.1 69 = .ok (.iload_n 2, 1) := by decide +kernel
theorem dX8_put_70 : decode eX8_put.2.1 70 = .ok (.iadd, 1) := by decide +kernel
theorem dX8_put_71 : decode eX8_put.2.1 71 = .ok (.aload_n 0, 1) := by decide +kernel
theorem dX8_put_72 : decode eX8_put.2.1 72 = .ok (.getfield 19, 3) := by decide +kernel
theorem dX8_put_75 : decode eX8_put.2.1 75 = .ok (.iload_n 1, 1) := by decide +kernel
theorem dX8_put_76 : decode eX8_put.2.1 76 = .ok (.iaload, 1) := by decide +kernel
theorem dX8_put_77 : decode eX8_put.2.1 77 = .ok (.ifCond .ne 13, 3) := by decide +kernel
theorem dX8_put_80 : decode eX8_put.2.1 80 = .ok (.iload_n 3, 1) := by decide +kernel
theorem dX8_put_81 : decode eX8_put.2.1 81 = .ok (.bipush 24, 2) := by decide +kernel
theorem dX8_put_83 : decode eX8_put.2.1 83 = .ok (.ishl, 1) := by decide +kernel
theorem dX8_put_84 : decode eX8_put.2.1 84 = .ok (.bipush 24, 2) := by decide +kernel
theorem dX8_put_86 : decode eX8_put.2.1 86 = .ok (.ishr, 1) := by decide +kernel
theorem dX8_put_87 : decode eX8_put.2.1 87 = .ok (.goto 4, 3) := by decide +kernel
theorem dX8_put_90 : decode eX8_put.2.1 90 = .ok (.iload_n 3, 1) := by decide +kernel
theorem dX8_put_91 : decode eX8_put.2.1 91 = .ok (.iastore, 1) := by decide +kernel
theorem dX8_put_92 : decode eX8_put.2.1 92 = .ok (.iload 4, 2) := by decide +kernel
theorem dX8_put_94 : decode eX8_put.2.1 94 = .ok (.ireturn, 1) := by decide +kernel
theorem dX8_copy_0 : decode eX8_copy.2.1 0 = .ok (.iload_n 1, 1) := by decide +kernel
theorem dX8_copy_1 : decode eX8_copy.2.1 1 = .ok (.invokestatic 160, 3) := by decide +kernel
theorem dX8_copy_4 : decode eX8_copy.2.1 4 = .ok (.ifCond .eq 10, 3) := by decide +kernel
theorem dX8_copy_7 : decode eX8_copy.2.1 7 = .ok (.iload_n 3, 1) := by decide +kernel
theorem dX8_copy_8 : decode eX8_copy.2.1 8 = .ok (.invokestatic 160, 3) := by decide +kernel
theorem dX8_copy_11 : decode eX8_copy.2.1 11 = .ok (.ifCond .ne 6, 3) := by decide +kernel
theorem dX8_copy_14 : decode eX8_copy.2.1 14 = .ok (.ldc 91, 2) := by decide +kernel
theorem dX8_copy_16 : decode eX8_copy.2.1 16 = .ok (.ireturn, 1) := by decide +kernel
theorem dX8_copy_17 : decode eX8_copy.2.1 17 = .ok (.aload_n 0, 1) := by decide +kernel
theorem dX8_copy_18 : decode eX8_copy.2.1 18 = .ok (.getfield 19, 3) := by decide +kernel
theorem dX8_copy_21 : decode eX8_copy.2.1 21 = .ok (.iload_n 1, 1) := by decide +kernel
theorem dX8_copy_22 : decode eX8_copy.2.1 22 = .ok (.iaload, 1) := by decide +kernel
theorem dX8_copy_23 : decode eX8_copy.2.1 23 = .ok (.ifCond .lt 12, 3) := by decide +kernel
theorem dX8_copy_26 : decode eX8_copy.2.1 26 = .ok (.aload_n 0, 1) := by decide +kernel
theorem dX8_copy_27 : decode eX8_copy.2.1 27 = .ok (.getfield 19, 3) := by decide +kernel
theorem dX8_copy_30 : decode eX8_copy.2.1 30 = .ok (.iload_n 3, 1) := by decide +kernel
theorem dX8_copy_31 : decode eX8_copy.2.1 31 = .ok (.iaload, 1) := by decide +kernel
theorem dX8_copy_32 : decode eX8_copy.2.1 32 = .ok (.ifCond .ge 6, 3) := by decide +kernel
theorem dX8_copy_35 : decode eX8_copy.2.1 35 = .ok (.ldc 166, 2) := by decide +kernel
theorem dX8_copy_37 : decode eX8_copy.2.1 37 = .ok (.ireturn, 1) := by decide +kernel
theorem dX8_copy_38 : decode eX8_copy.2.1 38 = .ok (.aload_n 0, 1) := by decide +kernel
theorem dX8_copy_39 : decode eX8_copy.2.1 39 = .ok (.getfield 19, 3) := by decide +kernel
theorem dX8_copy_42 : decode eX8_copy.2.1 42 = .ok (.iload_n 1, 1) := by decide +kernel
theorem dX8_copy_43 : decode eX8_copy.2.1 43 = .ok (.iaload, 1) := by decide +kernel
theorem dX8_copy_44 : decode eX8_copy.2.1 44 = .ok (.aload_n 0, 1) := by decide +kernel
theorem dX8_copy_45 : decode eX8_copy.2.1 45 = .ok (.getfield 19, 3) := by decide +kernel
theorem dX8_copy_48 : decode eX8_copy.2.1 48 = .ok (.iload_n 3, 1) := by decide +kernel
theorem dX8_copy_49 : decode eX8_copy.2.1 49 = .ok (.iaload, 1) := by decide +kernel
theorem dX8_copy_50 : decode eX8_copy.2.1 50 = .ok (.if_icmp .eq 6, 3) := by decide +kernel
theorem dX8_copy_53 : decode eX8_copy.2.1 53 = .ok (.ldc 116, 2) := by decide +kernel
theorem dX8_copy_55 : decode eX8_copy.2.1 55 = .ok (.ireturn, 1) := by decide +kernel
theorem dX8_copy_56 : decode eX8_copy.2.1 56 = .ok (.iload_n 2, 1) := by decide +kernel
theorem dX8_copy_57 : decode eX8_copy.2.1 57 = .ok (.ifCond .lt 48, 3) := by decide +kernel
theorem dX8_copy_60 : decode eX8_copy.2.1 60 = .ok (.iload 4, 2) := by decide +kernel
theorem dX8_copy_62 : decode eX8_copy.2.1 62 = .ok (.ifCond .lt 43, 3) := by decide +kernel
theorem dX8_copy_65 : decode eX8_copy.2.1 65 = .ok (.iload 5, 2) := by decide +kernel
theorem dX8_copy_67 : decode eX8_copy.2.1 67 = .ok (.ifCond .lt 38, 3) := by decide +kernel
theorem dX8_copy_70 : decode eX8_copy.2.1 70 = .ok (.iload_n 2, 1) := by decide +kernel
theorem dX8_copy_71 : decode eX8_copy.2.1 71 = .ok (.i2l, 1) := by decide +kernel
theorem dX8_copy_72 : decode eX8_copy.2.1 72 = .ok (.iload 5, 2) := by decide +kernel
theorem dX8_copy_74 : decode eX8_copy.2.1 74 = .ok (.i2l, 1) := by decide +kernel
theorem dX8_copy_75 : decode eX8_copy.2.1 75 = .ok (.ladd, 1) := by decide +kernel
theorem dX8_copy_76 : decode eX8_copy.2.1 76 = .ok (.aload_n 0, 1) := by decide +kernel
theorem dX8_copy_77 : decode eX8_copy.2.1 77 = .ok (.getfield 22, 3) := by decide +kernel
theorem dX8_copy_80 : decode eX8_copy.2.1 80 = .ok (.iload_n 1, 1) := by decide +kernel
theorem dX8_copy_81 : decode eX8_copy.2.1 81 = .ok (.iaload, 1) := by decide +kernel
theorem dX8_copy_82 : decode eX8_copy.2.1 82 = .ok (.i2l, 1) := by decide +kernel
theorem dX8_copy_83 : decode eX8_copy.2.1 83 = .ok (.lcmp, 1) := by decide +kernel
theorem dX8_copy_84 : decode eX8_copy.2.1 84 = .ok (.ifCond .gt 21, 3) := by decide +kernel
theorem dX8_copy_87 : decode eX8_copy.2.1 87 = .ok (.iload 4, 2) := by decide +kernel
theorem dX8_copy_89 : decode eX8_copy.2.1 89 = .ok (.i2l, 1) := by decide +kernel
theorem dX8_copy_90 : decode eX8_copy.2.1 90 = .ok (.iload 5, 2) := by decide +kernel
theorem dX8_copy_92 : decode eX8_copy.2.1 92 = .ok (.i2l, 1) := by decide +kernel
theorem dX8_copy_93 : decode eX8_copy.2.1 93 = .ok (.ladd, 1) := by decide +kernel
theorem dX8_copy_94 : decode eX8_copy.2.1 94 = .ok (.aload_n 0, 1) := by decide +kernel
theorem dX8_copy_95 : decode eX8_copy.2.1 95 = .ok (.getfield 22, 3) := by decide +kernel
theorem dX8_copy_98 : decode eX8_copy.2.1 98 = .ok (.iload_n 3, 1) := by decide +kernel
theorem dX8_copy_99 : decode eX8_copy.2.1 99 = .ok (.iaload, 1) := by decide +kernel
theorem dX8_copy_100 : decode eX8_copy.2.1 100 = .ok (.i2l, 1) := by decide +kernel
theorem dX8_copy_101 : decode eX8_copy.2.1 101 = .ok (.lcmp, 1) := by decide +kernel
theorem dX8_copy_102 : decode eX8_copy.2.1 102 = .ok (.ifCond .le 6, 3) := by decide +kernel
theorem dX8_copy_105 : decode eX8_copy.2.1 105 = .ok (.ldc 167, 2) := by decide +kernel
theorem dX8_copy_107 : decode eX8_copy.2.1 107 = .ok (.ireturn, 1) := by decide +kernel
theorem dX8_copy_108 : decode eX8_copy.2.1 108 = .ok (.iconst 0, 1) := by decide +kernel
theorem dX8_copy_109 : decode eX8_copy.2.1 109 = .ok (.istore 6, 2) := by decide +kernel
theorem dX8_copy_111 : decode eX8_copy.2.1 111 = .ok (.iload 6, 2) := by decide +kernel
theorem dX8_copy_113 : decode eX8_copy.2.1 113 = .ok (.iload 5, 2) := by decide +kernel
theorem dX8_copy_115 : decode eX8_copy.2.1 115 = .ok (.if_icmp .ge 30, 3) := by decide +kernel
theorem dX8_copy_118 : decode eX8_copy.2.1 118 = .ok (.aload_n 0, 1) := by decide +kernel
theorem dX8_copy_119 : decode eX8_copy.2.1 119 = .ok (.getfield 34, 3) := by decide +kernel
theorem dX8_copy_122 : decode eX8_copy.2.1 122 = .ok (.iload 6, 2) := by decide +kernel
theorem dX8_copy_124 : decode eX8_copy.2.1 124 = .ok (.aload_n 0, 1) := by decide +kernel
theorem dX8_copy_125 : decode eX8_copy.2.1 125 = .ok (.getfield 25, 3) := by decide +kernel
theorem dX8_copy_128 : decode eX8_copy.2.1 128 = .ok (.bipush 24, 2) := by decide +kernel
theorem dX8_copy_130 : decode eX8_copy.2.1 130 = .ok (.iload_n 1, 1) := by decide +kernel
theorem dX8_copy_131 : decode eX8_copy.2.1 131 = .ok (.imul, 1) := by decide +kernel
theorem dX8_copy_132 : decode eX8_copy.2.1 132 = .ok (.iload_n 2, 1) := by decide +kernel
theorem dX8_copy_133 : decode eX8_copy.2.1 133 = .ok (.iadd, 1) := by decide +kernel
theorem dX8_copy_134 : decode eX8_copy.2.1 134 = .ok (.iload 6, 2) := by decide +kernel
theorem dX8_copy_136 : decode eX8_copy.2.1 136 = .ok (.iadd, 1) := by decide +kernel
theorem dX8_copy_137 : decode eX8_copy.2.1 137 = .ok (.iaload, 1) := by decide +kernel
theorem dX8_copy_138 : decode eX8_copy.2.1 138 = .ok (.iastore, 1) := by decide +kernel
theorem dX8_copy_139 : decode eX8_copy.2.1 139 = .ok (.iinc 6 1, 3) := by decide +kernel
theorem dX8_copy_142 : decode eX8_copy.2.1 142 = .ok (.goto (-31), 3) := by decide +kernel
theorem dX8_copy_145 : decode eX8_copy.2.1 145 = .ok (.aload_n 0, 1) := by decide +kernel
theorem dX8_copy_146 : decode eX8_copy.2.1 146 = .ok (.iconst 0, 1) := by decide +kernel
theorem dX8_copy_147 : decode eX8_copy.2.1 147 = .ok (.putfield 67, 3) := by decide +kernel
theorem dX8_copy_150 : decode eX8_copy.2.1 150 = .ok (.iconst 0, 1) := by decide +kernel
theorem dX8_copy_151 : decode eX8_copy.2.1 151 = .ok (.istore 6, 2) := by decide +kernel
theorem dX8_copy_153 : decode eX8_copy.2.1 153 = .ok (.iload 6, 2) := by decide +kernel
theorem dX8_copy_155 : decode eX8_copy.2.1 155 = .ok (.iload 5, 2) := by decide +kernel
theorem dX8_copy_157 : decode eX8_copy.2.1 157 = .ok (.if_icmp .ge 31, 3) := by decide +kernel
theorem dX8_copy_160 : decode eX8_copy.2.1 160 = .ok (.aload_n 0, 1) := by decide +kernel
theorem dX8_copy_161 : decode eX8_copy.2.1 161 = .ok (.getfield 25, 3) := by decide +kernel
theorem dX8_copy_164 : decode eX8_copy.2.1 164 = .ok (.bipush 24, 2) := by decide +kernel
theorem dX8_copy_166 : decode eX8_copy.2.1 166 = .ok (.iload_n 3, 1) := by decide +kernel
theorem dX8_copy_167 : decode eX8_copy.2.1 167 = .ok (.imul, 1) := by decide +kernel
theorem dX8_copy_168 : decode eX8_copy.2.1 168 = .ok (.iload 4, 2) := by decide +kernel
theorem dX8_copy_170 : decode eX8_copy.2.1 170 = .ok (.iadd, 1) := by decide +kernel
theorem dX8_copy_171 : decode eX8_copy.2.1 171 = .ok (.iload 6, 2) := by decide +kernel
theorem dX8_copy_173 : decode eX8_copy.2.1 173 = .ok (.iadd, 1) := by decide +kernel
theorem dX8_copy_174 : decode eX8_copy.2.1 174 = .ok (.aload_n 0, 1) := by decide +kernel
theorem dX8_copy_175 : decode eX8_copy.2.1 175 = .ok (.getfield 34, 3) := by decide +kernel
theorem dX8_copy_178 : decode eX8_copy.2.1 178 = .ok (.iload 6, 2) := by decide +kernel
theorem dX8_copy_180 : decode eX8_copy.2.1 180 = .ok (.iaload, 1) := by decide +kernel
theorem dX8_copy_181 : decode eX8_copy.2.1 181 = .ok (.iastore, 1) := by decide +kernel
theorem dX8_copy_182 : decode eX8_copy.2.1 182 = .ok (.iinc 6 1, 3) := by decide +kernel
theorem dX8_copy_185 : decode eX8_copy.2.1 185 = .ok (.goto (-32), 3) := by decide +kernel
theorem dX8_copy_188 : decode eX8_copy.2.1 188 = .ok (.iload 5, 2) := by decide +kernel
theorem dX8_copy_190 : decode eX8_copy.2.1 190 = .ok (.ireturn, 1) := by decide +kernel
theorem dX8_groundAt_0 : decode eX8_groundAt.2.1 0 = .ok (.bipush 6, 2) := by decide +kernel
theorem dX8_groundAt_2 : decode eX8_groundAt.2.1 2 = .ok (.iload_n 1, 1) := by decide +kernel
theorem dX8_groundAt_3 : decode eX8_groundAt.2.1 3 = .ok (.imul, 1) := by decide +kernel
theorem dX8_groundAt_4 : decode eX8_groundAt.2.1 4 = .ok (.iload_n 2, 1) := by decide +kernel
theorem dX8_groundAt_5 : decode eX8_groundAt.2.1 5 = .ok (.bipush 8, 2) := by decide +kernel
theorem dX8_groundAt_7 : decode eX8_groundAt.2.1 7 = .ok (.idiv, 1) := by decide +kernel
theorem dX8_groundAt_8 : decode eX8_groundAt.2.1 8 = .ok (.iadd, 1) := by decide +kernel
theorem dX8_groundAt_9 : decode eX8_groundAt.2.1 9 = .ok (.istore_n 3, 1) := by decide +kernel
theorem dX8_groundAt_10 : decode eX8_groundAt.2.1 10 = .ok (.iload_n 2, 1) := by decide +kernel
theorem dX8_groundAt_11 : decode eX8_groundAt.2.1 11 = .ok (.bipush 8, 2) := by decide +kernel
theorem dX8_groundAt_13 : decode eX8_groundAt.2.1 13 = .ok (.irem, 1) := by decide +kernel
theorem dX8_groundAt_14 : decode eX8_groundAt.2.1 14 = .ok (.istore 4, 2) := by decide +kernel
theorem dX8_groundAt_16 : decode eX8_groundAt.2.1 16 = .ok (.aload_n 0, 1) := by decide +kernel
theorem dX8_groundAt_17 : decode eX8_groundAt.2.1 17 = .ok (.getfield 19, 3) := by decide +kernel
theorem dX8_groundAt_20 : decode eX8_groundAt.2.1 20 = .ok (.iload_n 3, 1) := by decide +kernel
theorem dX8_groundAt_21 : decode eX8_groundAt.2.1 21 = .ok (.iaload, 1) := by decide +kernel
theorem dX8_groundAt_22 : decode eX8_groundAt.2.1 22 = .ok (.ifCond .lt 34, 3) := by decide +kernel
theorem dX8_groundAt_25 : decode eX8_groundAt.2.1 25 = .ok (.iload 4, 2) := by decide +kernel
theorem dX8_groundAt_27 : decode eX8_groundAt.2.1 27 = .ok (.aload_n 0, 1) := by decide +kernel
theorem dX8_groundAt_28 : decode eX8_groundAt.2.1 28 = .ok (.getfield 22, 3) := by decide +kernel
theorem dX8_groundAt_31 : decode eX8_groundAt.2.1 31 = .ok (.iload_n 3, 1) := by decide +kernel
theorem dX8_groundAt_32 : decode eX8_groundAt.2.1 32 = .ok (.iaload, 1) := by decide +kernel
theorem dX8_groundAt_33 : decode eX8_groundAt.2.1 33 = .ok (.if_icmp .ge 23, 3) := by decide +kernel
theorem dX8_groundAt_36 : decode eX8_groundAt.2.1 36 = .ok (.aload_n 0, 1) := by decide +kernel
theorem dX8_groundAt_37 : decode eX8_groundAt.2.1 37 = .ok (.getfield 25, 3) := by decide +kernel
theorem dX8_groundAt_40 : decode eX8_groundAt.2.1 40 = .ok (.bipush 24, 2) := by decide +kernel
theorem dX8_groundAt_42 : decode eX8_groundAt.2.1 42 = .ok (.iload_n 3, 1) := by decide +kernel
theorem dX8_groundAt_43 : decode eX8_groundAt.2.1 43 = .ok (.imul, 1) := by decide +kernel
theorem dX8_groundAt_44 : decode eX8_groundAt.2.1 44 = .ok (.iload 4, 2) := by decide +kernel
theorem dX8_groundAt_46 : decode eX8_groundAt.2.1 46 = .ok (.iadd, 1) := by decide +kernel
theorem dX8_groundAt_47 : decode eX8_groundAt.2.1 47 = .ok (.iaload, 1) := by decide +kernel
theorem dX8_groundAt_48 : decode eX8_groundAt.2.1 48 = .ok (.bipush 99, 2) := by decide +kernel
theorem dX8_groundAt_50 : decode eX8_groundAt.2.1 50 = .ok (.invokestatic 127, 3) := by decide +kernel
theorem dX8_groundAt_53 : decode eX8_groundAt.2.1 53 = .ok (.goto 5, 3) := by decide +kernel
theorem dX8_groundAt_56 : decode eX8_groundAt.2.1 56 = .ok (.bipush 50, 2) := by decide +kernel
theorem dX8_groundAt_58 : decode eX8_groundAt.2.1 58 = .ok (.ireturn, 1) := by decide +kernel
theorem dX8_ground_0 : decode eX8_ground.2.1 0 = .ok (.iload_n 1, 1) := by decide +kernel
theorem dX8_ground_1 : decode eX8_ground.2.1 1 = .ok (.invokestatic 168, 3) := by decide +kernel
theorem dX8_ground_4 : decode eX8_ground.2.1 4 = .ok (.ifCond .eq 19, 3) := by decide +kernel
theorem dX8_ground_7 : decode eX8_ground.2.1 7 = .ok (.iload_n 2, 1) := by decide +kernel
theorem dX8_ground_8 : decode eX8_ground.2.1 8 = .ok (.invokestatic 85, 3) := by decide +kernel
theorem dX8_ground_11 : decode eX8_ground.2.1 11 = .ok (.ifCond .eq 12, 3) := by decide +kernel
theorem dX8_ground_14 : decode eX8_ground.2.1 14 = .ok (.aload_n 0, 1) := by decide +kernel
theorem dX8_ground_15 : decode eX8_ground.2.1 15 = .ok (.iload_n 1, 1) := by decide +kernel
theorem dX8_ground_16 : decode eX8_ground.2.1 16 = .ok (.iload_n 2, 1) := by decide +kernel
theorem dX8_ground_17 : decode eX8_ground.2.1 17 = .ok (.invokevirtual 171, 3) := by decide +kernel
theorem dX8_ground_20 : decode eX8_ground.2.1 20 = .ok (.goto 5, 3) := by decide +kernel
theorem dX8_ground_23 : decode eX8_ground.2.1 23 = .ok (.ldc 91, 2) := by decide +kernel
theorem dX8_ground_25 : decode eX8_ground.2.1 25 = .ok (.ireturn, 1) := by decide +kernel
theorem dX8_beside_0 : decode eX8_beside.2.1 0 = .ok (.iload_n 0, 1) := by decide +kernel
theorem dX8_beside_1 : decode eX8_beside.2.1 1 = .ok (.bipush 8, 2) := by decide +kernel
theorem dX8_beside_3 : decode eX8_beside.2.1 3 = .ok (.irem, 1) := by decide +kernel
theorem dX8_beside_4 : decode eX8_beside.2.1 4 = .ok (.istore_n 2, 1) := by decide +kernel
theorem dX8_beside_5 : decode eX8_beside.2.1 5 = .ok (.iload_n 1, 1) := by decide +kernel
theorem dX8_beside_6 : decode eX8_beside.2.1 6 = .ok (.tableswitch 70 0 2 #[26, 40, 52], 26) := by decide +kernel
theorem dX8_beside_32 : decode eX8_beside.2.1 32 = .ok (.iload_n 2, 1) := by decide +kernel
theorem dX8_beside_33 : decode eX8_beside.2.1 33 = .ok (.bipush 7, 2) := by decide +kernel
theorem dX8_beside_35 : decode eX8_beside.2.1 35 = .ok (.if_icmp .ge 9, 3) := by decide +kernel
theorem dX8_beside_38 : decode eX8_beside.2.1 38 = .ok (.iload_n 0, 1) := by decide +kernel
theorem dX8_beside_39 : decode eX8_beside.2.1 39 = .ok (.iconst 1, 1) := by decide +kernel
theorem dX8_beside_40 : decode eX8_beside.2.1 40 = .ok (.iadd, 1) := by decide +kernel
theorem dX8_beside_41 : decode eX8_beside.2.1 41 = .ok (.goto 4, 3) := by decide +kernel
theorem dX8_beside_44 : decode eX8_beside.2.1 44 = .ok (.iconst (-1), 1) := by decide +kernel
theorem dX8_beside_45 : decode eX8_beside.2.1 45 = .ok (.ireturn, 1) := by decide +kernel
theorem dX8_beside_46 : decode eX8_beside.2.1 46 = .ok (.iload_n 2, 1) := by decide +kernel
theorem dX8_beside_47 : decode eX8_beside.2.1 47 = .ok (.ifCond .le 9, 3) := by decide +kernel
theorem dX8_beside_50 : decode eX8_beside.2.1 50 = .ok (.iload_n 0, 1) := by decide +kernel
theorem dX8_beside_51 : decode eX8_beside.2.1 51 = .ok (.iconst 1, 1) := by decide +kernel
theorem dX8_beside_52 : decode eX8_beside.2.1 52 = .ok (.isub, 1) := by decide +kernel
theorem dX8_beside_53 : decode eX8_beside.2.1 53 = .ok (.goto 4, 3) := by decide +kernel
theorem dX8_beside_56 : decode eX8_beside.2.1 56 = .ok (.iconst (-1), 1) := by decide +kernel
theorem dX8_beside_57 : decode eX8_beside.2.1 57 = .ok (.ireturn, 1) := by decide +kernel
theorem dX8_beside_58 : decode eX8_beside.2.1 58 = .ok (.iload_n 0, 1) := by decide +kernel
theorem dX8_beside_59 : decode eX8_beside.2.1 59 = .ok (.bipush 8, 2) := by decide +kernel
theorem dX8_beside_61 : decode eX8_beside.2.1 61 = .ok (.iadd, 1) := by decide +kernel
theorem dX8_beside_62 : decode eX8_beside.2.1 62 = .ok (.bipush 48, 2) := by decide +kernel
theorem dX8_beside_64 : decode eX8_beside.2.1 64 = .ok (.if_icmp .ge 10, 3) := by decide +kernel
theorem dX8_beside_67 : decode eX8_beside.2.1 67 = .ok (.iload_n 0, 1) := by decide +kernel
theorem dX8_beside_68 : decode eX8_beside.2.1 68 = .ok (.bipush 8, 2) := by decide +kernel
theorem dX8_beside_70 : decode eX8_beside.2.1 70 = .ok (.iadd, 1) := by decide +kernel
theorem dX8_beside_71 : decode eX8_beside.2.1 71 = .ok (.goto 4, 3) := by decide +kernel
theorem dX8_beside_74 : decode eX8_beside.2.1 74 = .ok (.iconst (-1), 1) := by decide +kernel
theorem dX8_beside_75 : decode eX8_beside.2.1 75 = .ok (.ireturn, 1) := by decide +kernel
theorem dX8_beside_76 : decode eX8_beside.2.1 76 = .ok (.iload_n 0, 1) := by decide +kernel
theorem dX8_beside_77 : decode eX8_beside.2.1 77 = .ok (.bipush 8, 2) := by decide +kernel
theorem dX8_beside_79 : decode eX8_beside.2.1 79 = .ok (.isub, 1) := by decide +kernel
theorem dX8_beside_80 : decode eX8_beside.2.1 80 = .ok (.ireturn, 1) := by decide +kernel
theorem dX8_questionOf_0 : decode eX8_questionOf.2.1 0 = .ok (.iconst 0, 1) := by decide +kernel
theorem dX8_questionOf_1 : decode eX8_questionOf.2.1 1 = .ok (.istore_n 3, 1) := by decide +kernel
theorem dX8_questionOf_2 : decode eX8_questionOf.2.1 2 = .ok (.iconst 0, 1) := by decide +kernel
theorem dX8_questionOf_3 : decode eX8_questionOf.2.1 3 = .ok (.istore 4, 2) := by decide +kernel
theorem dX8_questionOf_5 : decode eX8_questionOf.2.1 5 = .ok (.iload 4, 2) := by decide +kernel
theorem dX8_questionOf_7 : decode eX8_questionOf.2.1 7 = .ok (.bipush 48, 2) := by decide +kernel
theorem dX8_questionOf_9 : decode eX8_questionOf.2.1 9 = .ok (.if_icmp .ge 171, 3) := by decide +kernel
theorem dX8_questionOf_12 : decode eX8_questionOf.2.1 12 = .ok (.aload_n 0, 1) := by decide +kernel
theorem dX8_questionOf_13 : decode eX8_questionOf.2.1 13 = .ok (.iload_n 1, 1) := by decide +kernel
theorem dX8_questionOf_14 : decode eX8_questionOf.2.1 14 = .ok (.iload 4, 2) := by decide +kernel
theorem dX8_questionOf_16 : decode eX8_questionOf.2.1 16 = .ok (.invokevirtual 171, 3) := by decide +kernel
theorem dX8_questionOf_19 : decode eX8_questionOf.2.1 19 = .ok (.istore 5, 2) := by decide +kernel
theorem dX8_questionOf_21 : decode eX8_questionOf.2.1 21 = .ok (.iconst 1, 1) := by decide +kernel
theorem dX8_questionOf_22 : decode eX8_questionOf.2.1 22 = .ok (.istore 6, 2) := by decide +kernel
theorem dX8_questionOf_24 : decode eX8_questionOf.2.1 24 = .ok (.iload_n 3, 1) := by decide +kernel
theorem dX8_questionOf_25 : decode eX8_questionOf.2.1 25 = .ok (.iload_n 2, 1) := by decide +kernel
theorem dX8_questionOf_26 : decode eX8_questionOf.2.1 26 = .ok (.ifCond .ne 8, 3) := by decide +kernel
theorem dX8_questionOf_29 : decode eX8_questionOf.2.1 29 = .ok (.iload 5, 2) := by decide +kernel
theorem dX8_questionOf_31 : decode eX8_questionOf.2.1 31 = .ok (.goto 4, 3) := by decide +kernel
theorem dX8_questionOf_34 : decode eX8_questionOf.2.1 34 = .ok (.iconst 0, 1) := by decide +kernel
theorem dX8_questionOf_35 : decode eX8_questionOf.2.1 35 = .ok (.iadd, 1) := by decide +kernel
theorem dX8_questionOf_36 : decode eX8_questionOf.2.1 36 = .ok (.istore_n 3, 1) := by decide +kernel
theorem dX8_questionOf_37 : decode eX8_questionOf.2.1 37 = .ok (.iconst 0, 1) := by decide +kernel
theorem dX8_questionOf_38 : decode eX8_questionOf.2.1 38 = .ok (.istore 7, 2) := by decide +kernel
theorem dX8_questionOf_40 : decode eX8_questionOf.2.1 40 = .ok (.iload 7, 2) := by decide +kernel
theorem dX8_questionOf_42 : decode eX8_questionOf.2.1 42 = .ok (.iconst 4, 1) := by decide +kernel
theorem dX8_questionOf_43 : decode eX8_questionOf.2.1 43 = .ok (.if_icmp .ge 113, 3) := by decide +kernel
theorem dX8_questionOf_46 : decode eX8_questionOf.2.1 46 = .ok (.iload 4, 2) := by decide +kernel
theorem dX8_questionOf_48 : decode eX8_questionOf.2.1 48 = .ok (.iload 7, 2) := by decide +kernel
theorem dX8_questionOf_50 : decode eX8_questionOf.2.1 50 = .ok (.invokestatic 174, 3) := by decide +kernel
theorem dX8_questionOf_53 : decode eX8_questionOf.2.1 53 = .ok (.istore 8, 2) := by decide +kernel
theorem dX8_questionOf_55 : decode eX8_questionOf.2.1 55 = .ok (.iload 8, 2) := by decide +kernel
theorem dX8_questionOf_57 : decode eX8_questionOf.2.1 57 = .ok (.ifCond .ge 6, 3) := by decide +kernel
theorem dX8_questionOf_60 : decode eX8_questionOf.2.1 60 = .ok (.goto 90, 3) := by decide +kernel
theorem dX8_questionOf_63 : decode eX8_questionOf.2.1 63 = .ok (.iload 5, 2) := by decide +kernel
theorem dX8_questionOf_65 : decode eX8_questionOf.2.1 65 = .ok (.aload_n 0, 1) := by decide +kernel
theorem dX8_questionOf_66 : decode eX8_questionOf.2.1 66 = .ok (.iload_n 1, 1) := by decide +kernel
theorem dX8_questionOf_67 : decode eX8_questionOf.2.1 67 = .ok (.iload 8, 2) := by decide +kernel
theorem dX8_questionOf_69 : decode eX8_questionOf.2.1 69 = .ok (.invokevirtual 171, 3) := by decide +kernel
theorem dX8_questionOf_72 : decode eX8_questionOf.2.1 72 = .ok (.isub, 1) := by decide +kernel
theorem dX8_questionOf_73 : decode eX8_questionOf.2.1 73 = .ok (.istore 9, 2) := by decide +kernel
theorem dX8_questionOf_75 : decode eX8_questionOf.2.1 75 = .ok (.iload 6, 2) := by decide +kernel
theorem dX8_questionOf_77 : decode eX8_questionOf.2.1 77 = .ok (.ifCond .eq 18, 3) := by decide +kernel
theorem dX8_questionOf_80 : decode eX8_questionOf.2.1 80 = .ok (.iload 9, 2) := by decide +kernel
theorem dX8_questionOf_82 : decode eX8_questionOf.2.1 82 = .ok (.aload_n 0, 1) := by decide +kernel
theorem dX8_questionOf_83 : decode eX8_questionOf.2.1 83 = .ok (.getfield 7, 3) := by decide +kernel
theorem dX8_questionOf_86 : decode eX8_questionOf.2.1 86 = .ok (.iconst 4, 1) := by decide +kernel
theorem dX8_questionOf_87 : decode eX8_questionOf.2.1 87 = .ok (.iaload, 1) := by decide +kernel
theorem dX8_questionOf_88 : decode eX8_questionOf.2.1 88 = .ok (.if_icmp .lt 7, 3) := by decide +kernel
theorem dX8_questionOf_91 : decode eX8_questionOf.2.1 91 = .ok (.iconst 1, 1) := by decide +kernel
theorem dX8_questionOf_92 : decode eX8_questionOf.2.1 92 = .ok (.goto 4, 3) := by decide +kernel
theorem dX8_questionOf_95 : decode eX8_questionOf.2.1 95 = .ok (.iconst 0, 1) := by decide +kernel
theorem dX8_questionOf_96 : decode eX8_questionOf.2.1 96 = .ok (.istore 6, 2) := by decide +kernel
theorem dX8_questionOf_98 : decode eX8_questionOf.2.1 98 = .ok (.iload_n 3, 1) := by decide +kernel
theorem dX8_questionOf_99 : decode eX8_questionOf.2.1 99 = .ok (.iload 7, 2) := by decide +kernel
theorem dX8_questionOf_101 : decode eX8_questionOf.2.1 101 = .ok (.iconst 2, 1) := by decide +kernel
theorem dX8_questionOf_102 : decode eX8_questionOf.2.1 102 = .ok (.irem, 1) := by decide +kernel
theorem dX8_questionOf_103 : decode eX8_questionOf.2.1 103 = .ok (.iconst 1, 1) := by decide +kernel
theorem dX8_questionOf_104 : decode eX8_questionOf.2.1 104 = .ok (.if_icmp .ne 7, 3) := by decide +kernel
theorem dX8_questionOf_107 : decode eX8_questionOf.2.1 107 = .ok (.iconst 0, 1) := by decide +kernel
theorem dX8_questionOf_108 : decode eX8_questionOf.2.1 108 = .ok (.goto 40, 3) := by decide +kernel
theorem dX8_questionOf_111 : decode eX8_questionOf.2.1 111 = .ok (.iload_n 2, 1) := by decide +kernel
theorem dX8_questionOf_112 : decode eX8_questionOf.2.1 112 = .ok (.iconst 1, 1) := by decide +kernel
theorem dX8_questionOf_113 : decode eX8_questionOf.2.1 113 = .ok (.if_icmp .ne 11, 3) := by decide +kernel
theorem dX8_questionOf_116 : decode eX8_questionOf.2.1 116 = .ok (.iload 9, 2) := by decide +kernel
theorem dX8_questionOf_118 : decode eX8_questionOf.2.1 118 = .ok (.invokestatic 139, 3) := by decide +kernel
theorem dX8_questionOf_121 : decode eX8_questionOf.2.1 121 = .ok (.goto 27, 3) := by decide +kernel
theorem dX8_questionOf_124 : decode eX8_questionOf.2.1 124 = .ok (.iload_n 2, 1) := by decide +kernel
theorem dX8_questionOf_125 : decode eX8_questionOf.2.1 125 = .ok (.iconst 2, 1) := by decide +kernel
theorem dX8_questionOf_126 : decode eX8_questionOf.2.1 126 = .ok (.if_icmp .ne 21, 3) := by decide +kernel
theorem dX8_questionOf_129 : decode eX8_questionOf.2.1 129 = .ok (.iload 9, 2) := by decide +kernel
theorem dX8_questionOf_131 : decode eX8_questionOf.2.1 131 = .ok (.invokestatic 139, 3) := by decide +kernel
theorem dX8_questionOf_134 : decode eX8_questionOf.2.1 134 = .ok (.aload_n 0, 1) := by decide +kernel
theorem dX8_questionOf_135 : decode eX8_questionOf.2.1 135 = .ok (.getfield 7, 3) := by decide +kernel
theorem dX8_questionOf_138 : decode eX8_questionOf.2.1 138 = .ok (.iconst 4, 1) := by decide +kernel
theorem dX8_questionOf_139 : decode eX8_questionOf.2.1 139 = .ok (.iaload, 1) := by decide +kernel
theorem dX8_questionOf_140 : decode eX8_questionOf.2.1 140 = .ok (.if_icmp .lt 7, 3) := by decide +kernel
theorem dX8_questionOf_143 : decode eX8_questionOf.2.1 143 = .ok (.iconst 1, 1) := by decide +kernel
theorem dX8_questionOf_144 : decode eX8_questionOf.2.1 144 = .ok (.goto 4, 3) := by decide +kernel
theorem dX8_questionOf_147 : decode eX8_questionOf.2.1 147 = .ok (.iconst 0, 1) := by decide +kernel
theorem dX8_questionOf_148 : decode eX8_questionOf.2.1 148 = .ok (.iadd, 1) := by decide +kernel
theorem dX8_questionOf_149 : decode eX8_questionOf.2.1 149 = .ok (.istore_n 3, 1) := by decide +kernel
theorem dX8_questionOf_150 : decode eX8_questionOf.2.1 150 = .ok (.iinc 7 1, 3) := by decide +kernel
theorem dX8_questionOf_153 : decode eX8_questionOf.2.1 153 = .ok (.goto (-113), 3) := by decide +kernel
theorem dX8_questionOf_156 : decode eX8_questionOf.2.1 156 = .ok (.iload_n 3, 1) := by decide +kernel
theorem dX8_questionOf_157 : decode eX8_questionOf.2.1 157 = .ok (.iload_n 2, 1) := by decide +kernel
theorem dX8_questionOf_158 : decode eX8_questionOf.2.1 158 = .ok (.iconst 3, 1) := by decide +kernel
theorem dX8_questionOf_159 : decode eX8_questionOf.2.1 159 = .ok (.if_icmp .ne 12, 3) := by decide +kernel
theorem dX8_questionOf_162 : decode eX8_questionOf.2.1 162 = .ok (.iload 6, 2) := by decide +kernel
theorem dX8_questionOf_164 : decode eX8_questionOf.2.1 164 = .ok (.ifCond .eq 7, 3) := by decide +kernel
theorem dX8_questionOf_167 : decode eX8_questionOf.2.1 167 = .ok (.iconst 1, 1) := by decide +kernel
theorem dX8_questionOf_168 : decode eX8_questionOf.2.1 168 = .ok (.goto 4, 3) := by decide +kernel
theorem dX8_questionOf_171 : decode eX8_questionOf.2.1 171 = .ok (.iconst 0, 1) := by decide +kernel
theorem dX8_questionOf_172 : decode eX8_questionOf.2.1 172 = .ok (.iadd, 1) := by decide +kernel
theorem dX8_questionOf_173 : decode eX8_questionOf.2.1 173 = .ok (.istore_n 3, 1) := by decide +kernel
theorem dX8_questionOf_174 : decode eX8_questionOf.2.1 174 = .ok (.iinc 4 1, 3) := by decide +kernel
theorem dX8_questionOf_177 : decode eX8_questionOf.2.1 177 = .ok (.goto (-172), 3) := by decide +kernel
theorem dX8_questionOf_180 : decode eX8_questionOf.2.1 180 = .ok (.iload_n 2, 1) := by decide +kernel
theorem dX8_questionOf_181 : decode eX8_questionOf.2.1 181 = .ok (.ifCond .ne 10, 3) := by decide +kernel
theorem dX8_questionOf_184 : decode eX8_questionOf.2.1 184 = .ok (.iload_n 3, 1) := by decide +kernel
theorem dX8_questionOf_185 : decode eX8_questionOf.2.1 185 = .ok (.bipush 48, 2) := by decide +kernel
theorem dX8_questionOf_187 : decode eX8_questionOf.2.1 187 = .ok (.idiv, 1) := by decide +kernel
theorem dX8_questionOf_188 : decode eX8_questionOf.2.1 188 = .ok (.goto 16, 3) := by decide +kernel
theorem dX8_questionOf_191 : decode eX8_questionOf.2.1 191 = .ok (.iload_n 2, 1) := by decide +kernel
theorem dX8_questionOf_192 : decode eX8_questionOf.2.1 192 = .ok (.iconst 1, 1) := by decide +kernel
theorem dX8_questionOf_193 : decode eX8_questionOf.2.1 193 = .ok (.if_icmp .ne 10, 3) := by decide +kernel
theorem dX8_questionOf_196 : decode eX8_questionOf.2.1 196 = .ok (.iload_n 3, 1) := by decide +kernel
theorem dX8_questionOf_197 : decode eX8_questionOf.2.1 197 = .ok (.bipush 82, 2) := by decide +kernel
theorem dX8_questionOf_199 : decode eX8_questionOf.2.1 199 = .ok (.idiv, 1) := by decide +kernel
theorem dX8_questionOf_200 : decode eX8_questionOf.2.1 200 = .ok (.goto 4, 3) := by decide +kernel
theorem dX8_questionOf_203 : decode eX8_questionOf.2.1 203 = .ok (.iload_n 3, 1) := by decide +kernel
theorem dX8_questionOf_204 : decode eX8_questionOf.2.1 204 = .ok (.ireturn, 1) := by decide +kernel
theorem dX8_ask_0 : decode eX8_ask.2.1 0 = .ok (.iload_n 1, 1) := by decide +kernel
theorem dX8_ask_1 : decode eX8_ask.2.1 1 = .ok (.invokestatic 168, 3) := by decide +kernel
theorem dX8_ask_4 : decode eX8_ask.2.1 4 = .ok (.ifCond .eq 24, 3) := by decide +kernel
theorem dX8_ask_7 : decode eX8_ask.2.1 7 = .ok (.iload_n 2, 1) := by decide +kernel
theorem dX8_ask_8 : decode eX8_ask.2.1 8 = .ok (.i2l, 1) := by decide +kernel
theorem dX8_ask_9 : decode eX8_ask.2.1 9 = .ok (.lconst 0, 1) := by decide +kernel
theorem dX8_ask_10 : decode eX8_ask.2.1 10 = .ok (.ldc2_w 77, 3) := by decide +kernel
theorem dX8_ask_13 : decode eX8_ask.2.1 13 = .ok (.invokestatic 71, 3) := by decide +kernel
theorem dX8_ask_16 : decode eX8_ask.2.1 16 = .ok (.ifCond .eq 12, 3) := by decide +kernel
theorem dX8_ask_19 : decode eX8_ask.2.1 19 = .ok (.aload_n 0, 1) := by decide +kernel
theorem dX8_ask_20 : decode eX8_ask.2.1 20 = .ok (.iload_n 1, 1) := by decide +kernel
theorem dX8_ask_21 : decode eX8_ask.2.1 21 = .ok (.iload_n 2, 1) := by decide +kernel
theorem dX8_ask_22 : decode eX8_ask.2.1 22 = .ok (.invokevirtual 177, 3) := by decide +kernel
theorem dX8_ask_25 : decode eX8_ask.2.1 25 = .ok (.goto 5, 3) := by decide +kernel
theorem dX8_ask_28 : decode eX8_ask.2.1 28 = .ok (.ldc 91, 2) := by decide +kernel
theorem dX8_ask_30 : decode eX8_ask.2.1 30 = .ok (.ireturn, 1) := by decide +kernel
theorem dX8_feed_0 : decode eX8_feed.2.1 0 = .ok (.aload_n 0, 1) := by decide +kernel
theorem dX8_feed_1 : decode eX8_feed.2.1 1 = .ok (.getfield 180, 3) := by decide +kernel
theorem dX8_feed_4 : decode eX8_feed.2.1 4 = .ok (.bipush 12, 2) := by decide +kernel
theorem dX8_feed_6 : decode eX8_feed.2.1 6 = .ok (.iadd, 1) := by decide +kernel
theorem dX8_feed_7 : decode eX8_feed.2.1 7 = .ok (.bipush 96, 2) := by decide +kernel
theorem dX8_feed_9 : decode eX8_feed.2.1 9 = .ok (.if_icmp .le 6, 3) := by decide +kernel
theorem dX8_feed_12 : decode eX8_feed.2.1 12 = .ok (.ldc 96, 2) := by decide +kernel
theorem dX8_feed_14 : decode eX8_feed.2.1 14 = .ok (.ireturn, 1) := by decide +kernel
theorem dX8_feed_15 : decode eX8_feed.2.1 15 = .ok (.iconst 0, 1) := by decide +kernel
theorem dX8_feed_16 : decode eX8_feed.2.1 16 = .ok (.istore 4, 2) := by decide +kernel
theorem dX8_feed_18 : decode eX8_feed.2.1 18 = .ok (.iload 4, 2) := by decide +kernel
theorem dX8_feed_20 : decode eX8_feed.2.1 20 = .ok (.bipush 12, 2) := by decide +kernel
theorem dX8_feed_22 : decode eX8_feed.2.1 22 = .ok (.if_icmp .ge 69, 3) := by decide +kernel
theorem dX8_feed_25 : decode eX8_feed.2.1 25 = .ok (.iload 4, 2) := by decide +kernel
theorem dX8_feed_27 : decode eX8_feed.2.1 27 = .ok (.iconst 4, 1) := by decide +kernel
theorem dX8_feed_28 : decode eX8_feed.2.1 28 = .ok (.if_icmp .ge 7, 3) := by decide +kernel
theorem dX8_feed_31 : decode eX8_feed.2.1 31 = .ok (.iload_n 1, 1) := by decide +kernel
theorem dX8_feed_32 : decode eX8_feed.2.1 32 = .ok (.goto 15, 3) := by decide +kernel
theorem dX8_feed_35 : decode eX8_feed.2.1 35 = .ok (.iload 4, 2) := by decide +kernel
theorem dX8_feed_37 : decode eX8_feed.2.1 37 = .ok (.bipush 8, 2) := by decide +kernel
theorem dX8_feed_39 : decode eX8_feed.2.1 39 = .ok (.if_icmp .ge 7, 3) := by decide +kernel
theorem dX8_feed_42 : decode eX8_feed.2.1 42 = .ok (.iload_n 2, 1) := by decide +kernel
theorem dX8_feed_43 : decode eX8_feed.2.1 43 = .ok (.goto 4, 3) := by decide +kernel
theorem dX8_feed_46 : decode eX8_feed.2.1 46 = .ok (.iload_n 3, 1) := by decide +kernel
theorem dX8_feed_47 : decode eX8_feed.2.1 47 = .ok (.istore 5, 2) := by decide +kernel
theorem dX8_feed_49 : decode eX8_feed.2.1 49 = .ok (.aload_n 0, 1) := by decide +kernel
theorem dX8_feed_50 : decode eX8_feed.2.1 50 = .ok (.getfield 37, 3) := by decide +kernel
theorem dX8_feed_53 : decode eX8_feed.2.1 53 = .ok (.aload_n 0, 1) := by decide +kernel
theorem dX8_feed_54 : decode eX8_feed.2.1 54 = .ok (.getfield 180, 3) := by decide +kernel
theorem dX8_feed_57 : decode eX8_feed.2.1 57 = .ok (.iload 5, 2) := by decide +kernel
theorem dX8_feed_59 : decode eX8_feed.2.1 59 = .ok (.bipush 24, 2) := by decide +kernel
theorem dX8_feed_61 : decode eX8_feed.2.1 61 = .ok (.bipush 8, 2) := by decide +kernel
theorem dX8_feed_63 : decode eX8_feed.2.1 63 = .ok (.iload 4, 2) := by decide +kernel
theorem dX8_feed_65 : decode eX8_feed.2.1 65 = .ok (.iconst 4, 1) := by decide +kernel
theorem dX8_feed_66 : decode eX8_feed.2.1 66 = .ok (.irem, 1) := by decide +kernel
theorem dX8_feed_67 : decode eX8_feed.2.1 67 = .ok (.imul, 1) := by decide +kernel
theorem dX8_feed_68 : decode eX8_feed.2.1 68 = .ok (.isub, 1) := by decide +kernel
theorem dX8_feed_69 : decode eX8_feed.2.1 69 = .ok (.ishr, 1) := by decide +kernel
theorem dX8_feed_70 : decode eX8_feed.2.1 70 = .ok (.sipush 255, 3) := by decide +kernel
theorem dX8_feed_73 : decode eX8_feed.2.1 73 = .ok (.iand, 1) := by decide +kernel
theorem dX8_feed_74 : decode eX8_feed.2.1 74 = .ok (.iastore, 1) := by decide +kernel
theorem dX8_feed_75 : decode eX8_feed.2.1 75 = .ok (.aload_n 0, 1) := by decide +kernel
theorem dX8_feed_76 : decode eX8_feed.2.1 76 = .ok (.dup, 1) := by decide +kernel
theorem dX8_feed_77 : decode eX8_feed.2.1 77 = .ok (.getfield 180, 3) := by decide +kernel
theorem dX8_feed_80 : decode eX8_feed.2.1 80 = .ok (.iconst 1, 1) := by decide +kernel
theorem dX8_feed_81 : decode eX8_feed.2.1 81 = .ok (.iadd, 1) := by decide +kernel
theorem dX8_feed_82 : decode eX8_feed.2.1 82 = .ok (.putfield 180, 3) := by decide +kernel
theorem dX8_feed_85 : decode eX8_feed.2.1 85 = .ok (.iinc 4 1, 3) := by decide +kernel
theorem dX8_feed_88 : decode eX8_feed.2.1 88 = .ok (.goto (-70), 3) := by decide +kernel
theorem dX8_feed_91 : decode eX8_feed.2.1 91 = .ok (.aload_n 0, 1) := by decide +kernel
theorem dX8_feed_92 : decode eX8_feed.2.1 92 = .ok (.getfield 180, 3) := by decide +kernel
theorem dX8_feed_95 : decode eX8_feed.2.1 95 = .ok (.ireturn, 1) := by decide +kernel
theorem dX8_trim_0 : decode eX8_trim.2.1 0 = .ok (.iload_n 1, 1) := by decide +kernel
theorem dX8_trim_1 : decode eX8_trim.2.1 1 = .ok (.i2l, 1) := by decide +kernel
theorem dX8_trim_2 : decode eX8_trim.2.1 2 = .ok (.lconst 0, 1) := by decide +kernel
theorem dX8_trim_3 : decode eX8_trim.2.1 3 = .ok (.aload_n 0, 1) := by decide +kernel
theorem dX8_trim_4 : decode eX8_trim.2.1 4 = .ok (.getfield 180, 3) := by decide +kernel
theorem dX8_trim_7 : decode eX8_trim.2.1 7 = .ok (.i2l, 1) := by decide +kernel
theorem dX8_trim_8 : decode eX8_trim.2.1 8 = .ok (.invokestatic 71, 3) := by decide +kernel
theorem dX8_trim_11 : decode eX8_trim.2.1 11 = .ok (.ifCond .ne 6, 3) := by decide +kernel
theorem dX8_trim_14 : decode eX8_trim.2.1 14 = .ok (.ldc 91, 2) := by decide +kernel
theorem dX8_trim_16 : decode eX8_trim.2.1 16 = .ok (.ireturn, 1) := by decide +kernel
theorem dX8_trim_17 : decode eX8_trim.2.1 17 = .ok (.aload_n 0, 1) := by decide +kernel
theorem dX8_trim_18 : decode eX8_trim.2.1 18 = .ok (.iload_n 1, 1) := by decide +kernel
theorem dX8_trim_19 : decode eX8_trim.2.1 19 = .ok (.putfield 180, 3) := by decide +kernel
theorem dX8_trim_22 : decode eX8_trim.2.1 22 = .ok (.iload_n 1, 1) := by decide +kernel
theorem dX8_trim_23 : decode eX8_trim.2.1 23 = .ok (.ireturn, 1) := by decide +kernel
theorem dX8_isLetter_0 : decode eX8_isLetter.2.1 0 = .ok (.iload_n 1, 1) := by decide +kernel
theorem dX8_isLetter_1 : decode eX8_isLetter.2.1 1 = .ok (.aload_n 0, 1) := by decide +kernel
theorem dX8_isLetter_2 : decode eX8_isLetter.2.1 2 = .ok (.getfield 180, 3) := by decide +kernel
theorem dX8_isLetter_5 : decode eX8_isLetter.2.1 5 = .ok (.if_icmp .ge 26, 3) := by decide +kernel
theorem dX8_isLetter_8 : decode eX8_isLetter.2.1 8 = .ok (.aload_n 0, 1) := by decide +kernel
theorem dX8_isLetter_9 : decode eX8_isLetter.2.1 9 = .ok (.getfield 37, 3) := by decide +kernel
theorem dX8_isLetter_12 : decode eX8_isLetter.2.1 12 = .ok (.iload_n 1, 1) := by decide +kernel
theorem dX8_isLetter_13 : decode eX8_isLetter.2.1 13 = .ok (.iaload, 1) := by decide +kernel
theorem dX8_isLetter_14 : decode eX8_isLetter.2.1 14 = .ok (.i2l, 1) := by decide +kernel
theorem dX8_isLetter_15 : decode eX8_isLetter.2.1 15 = .ok (.ldc2_w 184, 3) := by decide +kernel
theorem dX8_isLetter_18 : decode eX8_isLetter.2.1 18 = .ok (.ldc2_w 186, 3) := by decide +kernel
theorem dX8_isLetter_21 : decode eX8_isLetter.2.1 21 = .ok (.invokestatic 71, 3) := by decide +kernel
theorem dX8_isLetter_24 : decode eX8_isLetter.2.1 24 = .ok (.ifCond .eq 7, 3) := by decide +kernel
theorem dX8_isLetter_27 : decode eX8_isLetter.2.1 27 = .ok (.iconst 1, 1) := by decide +kernel
theorem dX8_isLetter_28 : decode eX8_isLetter.2.1 28 = .ok (.goto 4, 3) := by decide +kernel
theorem dX8_isLetter_31 : decode eX8_isLetter.2.1 31 = .ok (.iconst 0, 1) := by decide +kernel
theorem dX8_isLetter_32 : decode eX8_isLetter.2.1 32 = .ok (.ireturn, 1) := by decide +kernel
theorem dX8_isDigit_0 : decode eX8_isDigit.2.1 0 = .ok (.iload_n 1, 1) := by decide +kernel
theorem dX8_isDigit_1 : decode eX8_isDigit.2.1 1 = .ok (.aload_n 0, 1) := by decide +kernel
theorem dX8_isDigit_2 : decode eX8_isDigit.2.1 2 = .ok (.getfield 180, 3) := by decide +kernel
theorem dX8_isDigit_5 : decode eX8_isDigit.2.1 5 = .ok (.if_icmp .ge 26, 3) := by decide +kernel
theorem dX8_isDigit_8 : decode eX8_isDigit.2.1 8 = .ok (.aload_n 0, 1) := by decide +kernel
theorem dX8_isDigit_9 : decode eX8_isDigit.2.1 9 = .ok (.getfield 37, 3) := by decide +kernel
theorem dX8_isDigit_12 : decode eX8_isDigit.2.1 12 = .ok (.iload_n 1, 1) := by decide +kernel
theorem dX8_isDigit_13 : decode eX8_isDigit.2.1 13 = .ok (.iaload, 1) := by decide +kernel
theorem dX8_isDigit_14 : decode eX8_isDigit.2.1 14 = .ok (.i2l, 1) := by decide +kernel
theorem dX8_isDigit_15 : decode eX8_isDigit.2.1 15 = .ok (.ldc2_w 125, 3) := by decide +kernel
theorem dX8_isDigit_18 : decode eX8_isDigit.2.1 18 = .ok (.ldc2_w 188, 3) := by decide +kernel
theorem dX8_isDigit_21 : decode eX8_isDigit.2.1 21 = .ok (.invokestatic 71, 3) := by decide +kernel
theorem dX8_isDigit_24 : decode eX8_isDigit.2.1 24 = .ok (.ifCond .eq 7, 3) := by decide +kernel
theorem dX8_isDigit_27 : decode eX8_isDigit.2.1 27 = .ok (.iconst 1, 1) := by decide +kernel
theorem dX8_isDigit_28 : decode eX8_isDigit.2.1 28 = .ok (.goto 4, 3) := by decide +kernel
theorem dX8_isDigit_31 : decode eX8_isDigit.2.1 31 = .ok (.iconst 0, 1) := by decide +kernel
theorem dX8_isDigit_32 : decode eX8_isDigit.2.1 32 = .ok (.ireturn, 1) := by decide +kernel
theorem dX8_next_0 : decode eX8_next.2.1 0 = .ok (.aload_n 0, 1) := by decide +kernel
theorem dX8_next_1 : decode eX8_next.2.1 1 = .ok (.getfield 190, 3) := by decide +kernel
theorem dX8_next_4 : decode eX8_next.2.1 4 = .ok (.ifCond .le 23, 3) := by decide +kernel
theorem dX8_next_7 : decode eX8_next.2.1 7 = .ok (.aload_n 0, 1) := by decide +kernel
theorem dX8_next_8 : decode eX8_next.2.1 8 = .ok (.getfield 193, 3) := by decide +kernel
theorem dX8_next_11 : decode eX8_next.2.1 11 = .ok (.iconst 1, 1) := by decide +kernel
theorem dX8_next_12 : decode eX8_next.2.1 12 = .ok (.if_icmp .eq 11, 3) := by decide +kernel
theorem dX8_next_15 : decode eX8_next.2.1 15 = .ok (.aload_n 0, 1) := by decide +kernel
theorem dX8_next_16 : decode eX8_next.2.1 16 = .ok (.getfield 193, 3) := by decide +kernel
theorem dX8_next_19 : decode eX8_next.2.1 19 = .ok (.iconst 2, 1) := by decide +kernel
theorem dX8_next_20 : decode eX8_next.2.1 20 = .ok (.if_icmp .ne 7, 3) := by decide +kernel
theorem dX8_next_23 : decode eX8_next.2.1 23 = .ok (.iconst 1, 1) := by decide +kernel
theorem dX8_next_24 : decode eX8_next.2.1 24 = .ok (.goto 4, 3) := by decide +kernel
theorem dX8_next_27 : decode eX8_next.2.1 27 = .ok (.iconst 0, 1) := by decide +kernel
theorem dX8_next_28 : decode eX8_next.2.1 28 = .ok (.istore_n 1, 1) := by decide +kernel
theorem dX8_next_29 : decode eX8_next.2.1 29 = .ok (.aload_n 0, 1) := by decide +kernel
theorem dX8_next_30 : decode eX8_next.2.1 30 = .ok (.getfield 190, 3) := by decide +kernel
theorem dX8_next_33 : decode eX8_next.2.1 33 = .ok (.istore_n 2, 1) := by decide +kernel
theorem dX8_next_34 : decode eX8_next.2.1 34 = .ok (.aload_n 0, 1) := by decide +kernel
theorem dX8_next_35 : decode eX8_next.2.1 35 = .ok (.getfield 190, 3) := by decide +kernel
theorem dX8_next_38 : decode eX8_next.2.1 38 = .ok (.aload_n 0, 1) := by decide +kernel
theorem dX8_next_39 : decode eX8_next.2.1 39 = .ok (.getfield 180, 3) := by decide +kernel
theorem dX8_next_42 : decode eX8_next.2.1 42 = .ok (.if_icmp .ge 30, 3) := by decide +kernel
theorem dX8_next_45 : decode eX8_next.2.1 45 = .ok (.aload_n 0, 1) := by decide +kernel
theorem dX8_next_46 : decode eX8_next.2.1 46 = .ok (.getfield 37, 3) := by decide +kernel
theorem dX8_next_49 : decode eX8_next.2.1 49 = .ok (.aload_n 0, 1) := by decide +kernel
theorem dX8_next_50 : decode eX8_next.2.1 50 = .ok (.getfield 190, 3) := by decide +kernel
theorem dX8_next_53 : decode eX8_next.2.1 53 = .ok (.iaload, 1) := by decide +kernel
theorem dX8_next_54 : decode eX8_next.2.1 54 = .ok (.bipush 32, 2) := by decide +kernel
theorem dX8_next_56 : decode eX8_next.2.1 56 = .ok (.if_icmp .ne 16, 3) := by decide +kernel
theorem dX8_next_59 : decode eX8_next.2.1 59 = .ok (.aload_n 0, 1) := by decide +kernel
theorem dX8_next_60 : decode eX8_next.2.1 60 = .ok (.dup, 1) := by decide +kernel
theorem dX8_next_61 : decode eX8_next.2.1 61 = .ok (.getfield 190, 3) := by decide +kernel
theorem dX8_next_64 : decode eX8_next.2.1 64 = .ok (.iconst 1, 1) := by decide +kernel
theorem dX8_next_65 : decode eX8_next.2.1 65 = .ok (.iadd, 1) := by decide +kernel
theorem dX8_next_66 : decode eX8_next.2.1 66 = .ok (.putfield 190, 3) := by decide +kernel
theorem dX8_next_69 : decode eX8_next.2.1 69 = .ok (.goto (-35), 3) := by decide +kernel
theorem dX8_next_72 : decode eX8_next.2.1 72 = .ok (.iload_n 1, 1) := by decide +kernel
theorem dX8_next_73 : decode eX8_next.2.1 73 = .ok (.ifCond .eq 15, 3) := by decide +kernel
theorem dX8_next_76 : decode eX8_next.2.1 76 = .ok (.iload_n 2, 1) := by decide +kernel
theorem dX8_next_77 : decode eX8_next.2.1 77 = .ok (.aload_n 0, 1) := by decide +kernel
theorem dX8_next_78 : decode eX8_next.2.1 78 = .ok (.getfield 190, 3) := by decide +kernel
theorem dX8_next_81 : decode eX8_next.2.1 81 = .ok (.if_icmp .ne 7, 3) := by decide +kernel
theorem dX8_next_84 : decode eX8_next.2.1 84 = .ok (.iconst 1, 1) := by decide +kernel
theorem dX8_next_85 : decode eX8_next.2.1 85 = .ok (.goto 4, 3) := by decide +kernel
theorem dX8_next_88 : decode eX8_next.2.1 88 = .ok (.iconst 0, 1) := by decide +kernel
theorem dX8_next_89 : decode eX8_next.2.1 89 = .ok (.istore_n 1, 1) := by decide +kernel
theorem dX8_next_90 : decode eX8_next.2.1 90 = .ok (.aload_n 0, 1) := by decide +kernel
theorem dX8_next_91 : decode eX8_next.2.1 91 = .ok (.aload_n 0, 1) := by decide +kernel
theorem dX8_next_92 : decode eX8_next.2.1 92 = .ok (.getfield 190, 3) := by decide +kernel
theorem dX8_next_95 : decode eX8_next.2.1 95 = .ok (.putfield 196, 3) := by decide +kernel
theorem dX8_next_98 : decode eX8_next.2.1 98 = .ok (.aload_n 0, 1) := by decide +kernel
theorem dX8_next_99 : decode eX8_next.2.1 99 = .ok (.getfield 196, 3) := by decide +kernel
theorem dX8_next_102 : decode eX8_next.2.1 102 = .ok (.aload_n 0, 1) := by decide +kernel
theorem dX8_next_103 : decode eX8_next.2.1 103 = .ok (.getfield 180, 3) := by decide +kernel
theorem dX8_next_106 : decode eX8_next.2.1 106 = .ok (.if_icmp .ne 11, 3) := by decide +kernel
theorem dX8_next_109 : decode eX8_next.2.1 109 = .ok (.aload_n 0, 1) := by decide +kernel
theorem dX8_next_110 : decode eX8_next.2.1 110 = .ok (.iconst 0, 1) := by decide +kernel
theorem dX8_next_111 : decode eX8_next.2.1 111 = .ok (.putfield 193, 3) := by decide +kernel
theorem dX8_next_114 : decode eX8_next.2.1 114 = .ok (.goto 225, 3) := by decide +kernel
theorem dX8_next_117 : decode eX8_next.2.1 117 = .ok (.aload_n 0, 1) := by decide +kernel
theorem dX8_next_118 : decode eX8_next.2.1 118 = .ok (.aload_n 0, 1) := by decide +kernel
theorem dX8_next_119 : decode eX8_next.2.1 119 = .ok (.getfield 196, 3) := by decide +kernel
theorem dX8_next_122 : decode eX8_next.2.1 122 = .ok (.invokevirtual 199, 3) := by decide +kernel
theorem dX8_next_125 : decode eX8_next.2.1 125 = .ok (.ifCond .eq 73, 3) := by decide +kernel
theorem dX8_next_128 : decode eX8_next.2.1 128 = .ok (.aload_n 0, 1) := by decide +kernel
theorem dX8_next_129 : decode eX8_next.2.1 129 = .ok (.aload_n 0, 1) := by decide +kernel
theorem dX8_next_130 : decode eX8_next.2.1 130 = .ok (.getfield 190, 3) := by decide +kernel
theorem dX8_next_133 : decode eX8_next.2.1 133 = .ok (.invokevirtual 199, 3) := by decide +kernel
theorem dX8_next_136 : decode eX8_next.2.1 136 = .ok (.ifCond .eq 16, 3) := by decide +kernel
theorem dX8_next_139 : decode eX8_next.2.1 139 = .ok (.aload_n 0, 1) := by decide +kernel
theorem dX8_next_140 : decode eX8_next.2.1 140 = .ok (.dup, 1) := by decide +kernel
theorem dX8_next_141 : decode eX8_next.2.1 141 = .ok (.getfield 190, 3) := by decide +kernel
theorem dX8_next_144 : decode eX8_next.2.1 144 = .ok (.iconst 1, 1) := by decide +kernel
theorem dX8_next_145 : decode eX8_next.2.1 145 = .ok (.iadd, 1) := by decide +kernel
theorem dX8_next_146 : decode eX8_next.2.1 146 = .ok (.putfield 190, 3) := by decide +kernel
theorem dX8_next_149 : decode eX8_next.2.1 149 = .ok (.goto (-21), 3) := by decide +kernel
theorem dX8_next_152 : decode eX8_next.2.1 152 = .ok (.aload_n 0, 1) := by decide +kernel
theorem dX8_next_153 : decode eX8_next.2.1 153 = .ok (.iload_n 1, 1) := by decide +kernel
theorem dX8_next_154 : decode eX8_next.2.1 154 = .ok (.ifCond .eq 7, 3) := by decide +kernel
theorem dX8_next_157 : decode eX8_next.2.1 157 = .ok (.iconst 4, 1) := by decide +kernel
theorem dX8_next_158 : decode eX8_next.2.1 158 = .ok (.goto 4, 3) := by decide +kernel
theorem dX8_next_161 : decode eX8_next.2.1 161 = .ok (.iconst 1, 1) := by decide +kernel
theorem dX8_next_162 : decode eX8_next.2.1 162 = .ok (.putfield 193, 3) := by decide +kernel
theorem dX8_next_165 : decode eX8_next.2.1 165 = .ok (.aload_n 0, 1) := by decide +kernel
theorem dX8_next_166 : decode eX8_next.2.1 166 = .ok (.aload_n 0, 1) := by decide +kernel
theorem dX8_next_167 : decode eX8_next.2.1 167 = .ok (.getfield 190, 3) := by decide +kernel
theorem dX8_next_170 : decode eX8_next.2.1 170 = .ok (.aload_n 0, 1) := by decide +kernel
theorem dX8_next_171 : decode eX8_next.2.1 171 = .ok (.getfield 196, 3) := by decide +kernel
theorem dX8_next_174 : decode eX8_next.2.1 174 = .ok (.isub, 1) := by decide +kernel
theorem dX8_next_175 : decode eX8_next.2.1 175 = .ok (.iconst 1, 1) := by decide +kernel
theorem dX8_next_176 : decode eX8_next.2.1 176 = .ok (.if_icmp .ne 15, 3) := by decide +kernel
theorem dX8_next_179 : decode eX8_next.2.1 179 = .ok (.aload_n 0, 1) := by decide +kernel
theorem dX8_next_180 : decode eX8_next.2.1 180 = .ok (.getfield 37, 3) := by decide +kernel
theorem dX8_next_183 : decode eX8_next.2.1 183 = .ok (.aload_n 0, 1) := by decide +kernel
theorem dX8_next_184 : decode eX8_next.2.1 184 = .ok (.getfield 196, 3) := by decide +kernel
theorem dX8_next_187 : decode eX8_next.2.1 187 = .ok (.iaload, 1) := by decide +kernel
theorem dX8_next_188 : decode eX8_next.2.1 188 = .ok (.goto 4, 3) := by decide +kernel
theorem dX8_next_191 : decode eX8_next.2.1 191 = .ok (.iconst 0, 1) := by decide +kernel
theorem dX8_next_192 : decode eX8_next.2.1 192 = .ok (.putfield 202, 3) := by decide +kernel
theorem dX8_next_195 : decode eX8_next.2.1 195 = .ok (.goto 144, 3) := by decide +kernel
theorem dX8_next_198 : decode eX8_next.2.1 198 = .ok (.aload_n 0, 1) := by decide +kernel
theorem dX8_next_199 : decode eX8_next.2.1 199 = .ok (.aload_n 0, 1) := by decide +kernel
theorem dX8_next_200 : decode eX8_next.2.1 200 = .ok (.getfield 196, 3) := by decide +kernel
theorem dX8_next_203 : decode eX8_next.2.1 203 = .ok (.invokevirtual 205, 3) := by decide +kernel
theorem dX8_next_206 : decode eX8_next.2.1 206 = .ok (.ifCond .eq 105, 3) := by decide +kernel
theorem dX8_next_209 : decode eX8_next.2.1 209 = .ok (.aload_n 0, 1) := by decide +kernel
theorem dX8_next_210 : decode eX8_next.2.1 210 = .ok (.iconst 0, 1) := by decide +kernel
theorem dX8_next_211 : decode eX8_next.2.1 211 = .ok (.putfield 208, 3) := by decide +kernel
theorem dX8_next_214 : decode eX8_next.2.1 214 = .ok (.aload_n 0, 1) := by decide +kernel
theorem dX8_next_215 : decode eX8_next.2.1 215 = .ok (.aload_n 0, 1) := by decide +kernel
theorem dX8_next_216 : decode eX8_next.2.1 216 = .ok (.getfield 190, 3) := by decide +kernel
theorem dX8_next_219 : decode eX8_next.2.1 219 = .ok (.invokevirtual 205, 3) := by decide +kernel
theorem dX8_next_222 : decode eX8_next.2.1 222 = .ok (.ifCond .eq 60, 3) := by decide +kernel
theorem dX8_next_225 : decode eX8_next.2.1 225 = .ok (.aload_n 0, 1) := by decide +kernel
theorem dX8_next_226 : decode eX8_next.2.1 226 = .ok (.aload_n 0, 1) := by decide +kernel
theorem dX8_next_227 : decode eX8_next.2.1 227 = .ok (.getfield 190, 3) := by decide +kernel
theorem dX8_next_230 : decode eX8_next.2.1 230 = .ok (.aload_n 0, 1) := by decide +kernel
theorem dX8_next_231 : decode eX8_next.2.1 231 = .ok (.getfield 196, 3) := by decide +kernel
theorem dX8_next_234 : decode eX8_next.2.1 234 = .ok (.isub, 1) := by decide +kernel
theorem dX8_next_235 : decode eX8_next.2.1 235 = .ok (.iconst 4, 1) := by decide +kernel
theorem dX8_next_236 : decode eX8_next.2.1 236 = .ok (.if_icmp .ge 26, 3) := by decide +kernel
theorem dX8_next_239 : decode eX8_next.2.1 239 = .ok (.bipush 10, 2) := by decide +kernel
theorem dX8_next_241 : decode eX8_next.2.1 241 = .ok (.aload_n 0, 1) := by decide +kernel
theorem dX8_next_242 : decode eX8_next.2.1 242 = .ok (.getfield 208, 3) := by decide +kernel
theorem dX8_next_245 : decode eX8_next.2.1 245 = .ok (.imul, 1) := by decide +kernel
theorem dX8_next_246 : decode eX8_next.2.1 246 = .ok (.aload_n 0, 1) := by decide +kernel
theorem dX8_next_247 : decode eX8_next.2.1 247 = .ok (.getfield 37, 3) := by decide +kernel
theorem dX8_next_250 : decode eX8_next.2.1 250 = .ok (.aload_n 0, 1) := by decide +kernel
theorem dX8_next_251 : decode eX8_next.2.1 251 = .ok (.getfield 190, 3) := by decide +kernel
theorem dX8_next_254 : decode eX8_next.2.1 254 = .ok (.iaload, 1) := by decide +kernel
theorem dX8_next_255 : decode eX8_next.2.1 255 = .ok (.iadd, 1) := by decide +kernel
theorem dX8_next_256 : decode eX8_next.2.1 256 = .ok (.bipush 48, 2) := by decide +kernel
theorem dX8_next_258 : decode eX8_next.2.1 258 = .ok (.isub, 1) := by decide +kernel
theorem dX8_next_259 : decode eX8_next.2.1 259 = .ok (.goto 7, 3) := by decide +kernel
theorem dX8_next_262 : decode eX8_next.2.1 262 = .ok (.aload_n 0, 1) := by decide +kernel
theorem dX8_next_263 : decode eX8_next.2.1 263 = .ok (.getfield 208, 3) := by decide +kernel
theorem dX8_next_266 : decode eX8_next.2.1 266 = .ok (.putfield 208, 3) := by decide +kernel
theorem dX8_next_269 : decode eX8_next.2.1 269 = .ok (.aload_n 0, 1) := by decide +kernel
theorem dX8_next_270 : decode eX8_next.2.1 270 = .ok (.dup, 1) := by decide +kernel
theorem dX8_next_271 : decode eX8_next.2.1 271 = .ok (.getfield 190, 3) := by decide +kernel
theorem dX8_next_274 : decode eX8_next.2.1 274 = .ok (.iconst 1, 1) := by decide +kernel
theorem dX8_next_275 : decode eX8_next.2.1 275 = .ok (.iadd, 1) := by decide +kernel
theorem dX8_next_276 : decode eX8_next.2.1 276 = .ok (.putfield 190, 3) := by decide +kernel
theorem dX8_next_279 : decode eX8_next.2.1 279 = .ok (.goto (-65), 3) := by decide +kernel
theorem dX8_next_282 : decode eX8_next.2.1 282 = .ok (.aload_n 0, 1) := by decide +kernel
theorem dX8_next_283 : decode eX8_next.2.1 283 = .ok (.iload_n 1, 1) := by decide +kernel
theorem dX8_next_284 : decode eX8_next.2.1 284 = .ok (.ifCond .ne 16, 3) := by decide +kernel
theorem dX8_next_287 : decode eX8_next.2.1 287 = .ok (.aload_n 0, 1) := by decide +kernel
theorem dX8_next_288 : decode eX8_next.2.1 288 = .ok (.getfield 190, 3) := by decide +kernel
theorem dX8_next_291 : decode eX8_next.2.1 291 = .ok (.aload_n 0, 1) := by decide +kernel
theorem dX8_next_292 : decode eX8_next.2.1 292 = .ok (.getfield 196, 3) := by decide +kernel
theorem dX8_next_295 : decode eX8_next.2.1 295 = .ok (.isub, 1) := by decide +kernel
theorem dX8_next_296 : decode eX8_next.2.1 296 = .ok (.iconst 4, 1) := by decide +kernel
theorem dX8_next_297 : decode eX8_next.2.1 297 = .ok (.if_icmp .le 7, 3) := by decide +kernel
theorem dX8_next_300 : decode eX8_next.2.1 300 = .ok (.iconst 4, 1) := by decide +kernel
theorem dX8_next_301 : decode eX8_next.2.1 301 = .ok (.goto 4, 3) := by decide +kernel
theorem dX8_next_304 : decode eX8_next.2.1 304 = .ok (.iconst 2, 1) := by decide +kernel
theorem dX8_next_305 : decode eX8_next.2.1 305 = .ok (.putfield 193, 3) := by decide +kernel
theorem dX8_next_308 : decode eX8_next.2.1 308 = .ok (.goto 31, 3) := by decide +kernel
theorem dX8_next_311 : decode eX8_next.2.1 311 = .ok (.aload_n 0, 1) := by decide +kernel
theorem dX8_next_312 : decode eX8_next.2.1 312 = .ok (.iconst 3, 1) := by decide +kernel
theorem dX8_next_313 : decode eX8_next.2.1 313 = .ok (.putfield 193, 3) := by decide +kernel
theorem dX8_next_316 : decode eX8_next.2.1 316 = .ok (.aload_n 0, 1) := by decide +kernel
theorem dX8_next_317 : decode eX8_next.2.1 317 = .ok (.aload_n 0, 1) := by decide +kernel
theorem dX8_next_318 : decode eX8_next.2.1 318 = .ok (.getfield 37, 3) := by decide +kernel
theorem dX8_next_321 : decode eX8_next.2.1 321 = .ok (.aload_n 0, 1) := by decide +kernel
theorem dX8_next_322 : decode eX8_next.2.1 322 = .ok (.getfield 196, 3) := by decide +kernel
theorem dX8_next_325 : decode eX8_next.2.1 325 = .ok (.iaload, 1) := by decide +kernel
theorem dX8_next_326 : decode eX8_next.2.1 326 = .ok (.putfield 202, 3) := by decide +kernel
theorem dX8_next_329 : decode eX8_next.2.1 329 = .ok (.aload_n 0, 1) := by decide +kernel
theorem dX8_next_330 : decode eX8_next.2.1 330 = .ok (.dup, 1) := by decide +kernel
theorem dX8_next_331 : decode eX8_next.2.1 331 = .ok (.getfield 190, 3) := by decide +kernel
theorem dX8_next_334 : decode eX8_next.2.1 334 = .ok (.iconst 1, 1) := by decide +kernel
theorem dX8_next_335 : decode eX8_next.2.1 335 = .ok (.iadd, 1) := by decide +kernel
theorem dX8_next_336 : decode eX8_next.2.1 336 = .ok (.putfield 190, 3) := by decide +kernel
theorem dX8_next_339 : decode eX8_next.2.1 339 = .ok (.return_, 1) := by decide +kernel
theorem dX8_isSign_0 : decode eX8_isSign.2.1 0 = .ok (.aload_n 0, 1) := by decide +kernel
theorem dX8_isSign_1 : decode eX8_isSign.2.1 1 = .ok (.getfield 193, 3) := by decide +kernel
theorem dX8_isSign_4 : decode eX8_isSign.2.1 4 = .ok (.iconst 3, 1) := by decide +kernel
theorem dX8_isSign_5 : decode eX8_isSign.2.1 5 = .ok (.if_icmp .ne 15, 3) := by decide +kernel
theorem dX8_isSign_8 : decode eX8_isSign.2.1 8 = .ok (.aload_n 0, 1) := by decide +kernel
theorem dX8_isSign_9 : decode eX8_isSign.2.1 9 = .ok (.getfield 202, 3) := by decide +kernel
theorem dX8_isSign_12 : decode eX8_isSign.2.1 12 = .ok (.iload_n 1, 1) := by decide +kernel
theorem dX8_isSign_13 : decode eX8_isSign.2.1 13 = .ok (.if_icmp .ne 7, 3) := by decide +kernel
theorem dX8_isSign_16 : decode eX8_isSign.2.1 16 = .ok (.iconst 1, 1) := by decide +kernel
theorem dX8_isSign_17 : decode eX8_isSign.2.1 17 = .ok (.goto 4, 3) := by decide +kernel
theorem dX8_isSign_20 : decode eX8_isSign.2.1 20 = .ok (.iconst 0, 1) := by decide +kernel
theorem dX8_isSign_21 : decode eX8_isSign.2.1 21 = .ok (.ireturn, 1) := by decide +kernel
theorem dX8_isWordAt_0 : decode eX8_isWordAt.2.1 0 = .ok (.iload 4, 2) := by decide +kernel
theorem dX8_isWordAt_2 : decode eX8_isWordAt.2.1 2 = .ok (.ifCond .ne 7, 3) := by decide +kernel
theorem dX8_isWordAt_5 : decode eX8_isWordAt.2.1 5 = .ok (.iconst 3, 1) := by decide +kernel
theorem dX8_isWordAt_6 : decode eX8_isWordAt.2.1 6 = .ok (.goto 4, 3) := by decide +kernel
theorem dX8_isWordAt_9 : decode eX8_isWordAt.2.1 9 = .ok (.iconst 4, 1) := by decide +kernel
theorem dX8_isWordAt_10 : decode eX8_isWordAt.2.1 10 = .ok (.istore 5, 2) := by decide +kernel
theorem dX8_isWordAt_12 : decode eX8_isWordAt.2.1 12 = .ok (.aload_n 0, 1) := by decide +kernel
theorem dX8_isWordAt_13 : decode eX8_isWordAt.2.1 13 = .ok (.getfield 193, 3) := by decide +kernel
theorem dX8_isWordAt_16 : decode eX8_isWordAt.2.1 16 = .ok (.iconst 1, 1) := by decide +kernel
theorem dX8_isWordAt_17 : decode eX8_isWordAt.2.1 17 = .ok (.if_icmp .ne 85, 3) := by decide +kernel
theorem dX8_isWordAt_20 : decode eX8_isWordAt.2.1 20 = .ok (.aload_n 0, 1) := by decide +kernel
theorem dX8_isWordAt_21 : decode eX8_isWordAt.2.1 21 = .ok (.getfield 190, 3) := by decide +kernel
theorem dX8_isWordAt_24 : decode eX8_isWordAt.2.1 24 = .ok (.aload_n 0, 1) := by decide +kernel
theorem dX8_isWordAt_25 : decode eX8_isWordAt.2.1 25 = .ok (.getfield 196, 3) := by decide +kernel
theorem dX8_isWordAt_28 : decode eX8_isWordAt.2.1 28 = .ok (.isub, 1) := by decide +kernel
theorem dX8_isWordAt_29 : decode eX8_isWordAt.2.1 29 = .ok (.iload 5, 2) := by decide +kernel
theorem dX8_isWordAt_31 : decode eX8_isWordAt.2.1 31 = .ok (.if_icmp .ne 71, 3) := by decide +kernel
theorem dX8_isWordAt_34 : decode eX8_isWordAt.2.1 34 = .ok (.aload_n 0, 1) := by decide +kernel
theorem dX8_isWordAt_35 : decode eX8_isWordAt.2.1 35 = .ok (.getfield 37, 3) := by decide +kernel
theorem dX8_isWordAt_38 : decode eX8_isWordAt.2.1 38 = .ok (.aload_n 0, 1) := by decide +kernel
theorem dX8_isWordAt_39 : decode eX8_isWordAt.2.1 39 = .ok (.getfield 196, 3) := by decide +kernel
theorem dX8_isWordAt_42 : decode eX8_isWordAt.2.1 42 = .ok (.iaload, 1) := by decide +kernel
theorem dX8_isWordAt_43 : decode eX8_isWordAt.2.1 43 = .ok (.iload_n 1, 1) := by decide +kernel
theorem dX8_isWordAt_44 : decode eX8_isWordAt.2.1 44 = .ok (.if_icmp .ne 58, 3) := by decide +kernel
theorem dX8_isWordAt_47 : decode eX8_isWordAt.2.1 47 = .ok (.aload_n 0, 1) := by decide +kernel
theorem dX8_isWordAt_48 : decode eX8_isWordAt.2.1 48 = .ok (.getfield 37, 3) := by decide +kernel
theorem dX8_isWordAt_51 : decode eX8_isWordAt.2.1 51 = .ok (.aload_n 0, 1) := by decide +kernel
theorem dX8_isWordAt_52 : decode eX8_isWordAt.2.1 52 = .ok (.getfield 196, 3) := by decide +kernel
theorem dX8_isWordAt_55 : decode eX8_isWordAt.2.1 55 = .ok (.iconst 1, 1) := by decide +kernel
theorem dX8_isWordAt_56 : decode eX8_isWordAt.2.1 56 = .ok (.iadd, 1) := by decide +kernel
theorem dX8_isWordAt_57 : decode eX8_isWordAt.2.1 57 = .ok (.iaload, 1) := by decide +kernel
theorem dX8_isWordAt_58 : decode eX8_isWordAt.2.1 58 = .ok (.iload_n 2, 1) := by decide +kernel
theorem dX8_isWordAt_59 : decode eX8_isWordAt.2.1 59 = .ok (.if_icmp .ne 43, 3) := by decide +kernel
theorem dX8_isWordAt_62 : decode eX8_isWordAt.2.1 62 = .ok (.aload_n 0, 1) := by decide +kernel
theorem dX8_isWordAt_63 : decode eX8_isWordAt.2.1 63 = .ok (.getfield 37, 3) := by decide +kernel
theorem dX8_isWordAt_66 : decode eX8_isWordAt.2.1 66 = .ok (.aload_n 0, 1) := by decide +kernel
theorem dX8_isWordAt_67 : decode eX8_isWordAt.2.1 67 = .ok (.getfield 196, 3) := by decide +kernel
theorem dX8_isWordAt_70 : decode eX8_isWordAt.2.1 70 = .ok (.iconst 2, 1) := by decide +kernel
theorem dX8_isWordAt_71 : decode eX8_isWordAt.2.1 71 = .ok (.iadd, 1) := by decide +kernel
theorem dX8_isWordAt_72 : decode eX8_isWordAt.2.1 72 = .ok (.iaload, 1) := by decide +kernel
theorem dX8_isWordAt_73 : decode eX8_isWordAt.2.1 73 = .ok (.iload_n 3, 1) := by decide +kernel
theorem dX8_isWordAt_74 : decode eX8_isWordAt.2.1 74 = .ok (.if_icmp .ne 28, 3) := by decide +kernel
theorem dX8_isWordAt_77 : decode eX8_isWordAt.2.1 77 = .ok (.iload 4, 2) := by decide +kernel
theorem dX8_isWordAt_79 : decode eX8_isWordAt.2.1 79 = .ok (.ifCond .eq 19, 3) := by decide +kernel
theorem dX8_isWordAt_82 : decode eX8_isWordAt.2.1 82 = .ok (.aload_n 0, 1) := by decide +kernel
theorem dX8_isWordAt_83 : decode eX8_isWordAt.2.1 83 = .ok (.getfield 37, 3) := by decide +kernel
theorem dX8_isWordAt_86 : decode eX8_isWordAt.2.1 86 = .ok (.aload_n 0, 1) := by decide +kernel
theorem dX8_isWordAt_87 : decode eX8_isWordAt.2.1 87 = .ok (.getfield 196, 3) := by decide +kernel
theorem dX8_isWordAt_90 : decode eX8_isWordAt.2.1 90 = .ok (.iconst 3, 1) := by decide +kernel
theorem dX8_isWordAt_91 : decode eX8_isWordAt.2.1 91 = .ok (.iadd, 1) := by decide +kernel
theorem dX8_isWordAt_92 : decode eX8_isWordAt.2.1 92 = .ok (.iaload, 1) := by decide +kernel
theorem dX8_isWordAt_93 : decode eX8_isWordAt.2.1 93 = .ok (.iload 4, 2) := by decide +kernel
theorem dX8_isWordAt_95 : decode eX8_isWordAt.2.1 95 = .ok (.if_icmp .ne 7, 3) := by decide +kernel
theorem dX8_isWordAt_98 : decode eX8_isWordAt.2.1 98 = .ok (.iconst 1, 1) := by decide +kernel
theorem dX8_isWordAt_99 : decode eX8_isWordAt.2.1 99 = .ok (.goto 4, 3) := by decide +kernel
theorem dX8_isWordAt_102 : decode eX8_isWordAt.2.1 102 = .ok (.iconst 0, 1) := by decide +kernel
theorem dX8_isWordAt_103 : decode eX8_isWordAt.2.1 103 = .ok (.ireturn, 1) := by decide +kernel
theorem dX8_key_0 : decode eX8_key.2.1 0 = .ok (.aload_n 0, 1) := by decide +kernel
theorem dX8_key_1 : decode eX8_key.2.1 1 = .ok (.bipush 101, 2) := by decide +kernel
theorem dX8_key_3 : decode eX8_key.2.1 3 = .ok (.bipush 121, 2) := by decide +kernel
theorem dX8_key_5 : decode eX8_key.2.1 5 = .ok (.bipush 101, 2) := by decide +kernel
theorem dX8_key_7 : decode eX8_key.2.1 7 = .ok (.iconst 0, 1) := by decide +kernel
theorem dX8_key_8 : decode eX8_key.2.1 8 = .ok (.invokevirtual 211, 3) := by decide +kernel
theorem dX8_key_11 : decode eX8_key.2.1 11 = .ok (.ifCond .eq 6, 3) := by decide +kernel
theorem dX8_key_14 : decode eX8_key.2.1 14 = .ok (.bipush 6, 2) := by decide +kernel
theorem dX8_key_16 : decode eX8_key.2.1 16 = .ok (.ireturn, 1) := by decide +kernel
theorem dX8_key_17 : decode eX8_key.2.1 17 = .ok (.aload_n 0, 1) := by decide +kernel
theorem dX8_key_18 : decode eX8_key.2.1 18 = .ok (.bipush 112, 2) := by decide +kernel
theorem dX8_key_20 : decode eX8_key.2.1 20 = .ok (.bipush 117, 2) := by decide +kernel
theorem dX8_key_22 : decode eX8_key.2.1 22 = .ok (.bipush 108, 2) := by decide +kernel
theorem dX8_key_24 : decode eX8_key.2.1 24 = .ok (.bipush 108, 2) := by decide +kernel
theorem dX8_key_26 : decode eX8_key.2.1 26 = .ok (.invokevirtual 211, 3) := by decide +kernel
theorem dX8_key_29 : decode eX8_key.2.1 29 = .ok (.ifCond .ne 5, 3) := by decide +kernel
theorem dX8_key_32 : decode eX8_key.2.1 32 = .ok (.iconst (-1), 1) := by decide +kernel
theorem dX8_key_33 : decode eX8_key.2.1 33 = .ok (.ireturn, 1) := by decide +kernel
theorem dX8_key_34 : decode eX8_key.2.1 34 = .ok (.aload_n 0, 1) := by decide +kernel
theorem dX8_key_35 : decode eX8_key.2.1 35 = .ok (.invokevirtual 215, 3) := by decide +kernel
theorem dX8_key_38 : decode eX8_key.2.1 38 = .ok (.aload_n 0, 1) := by decide +kernel
theorem dX8_key_39 : decode eX8_key.2.1 39 = .ok (.getfield 193, 3) := by decide +kernel
theorem dX8_key_42 : decode eX8_key.2.1 42 = .ok (.iconst 2, 1) := by decide +kernel
theorem dX8_key_43 : decode eX8_key.2.1 43 = .ok (.if_icmp .ne 32, 3) := by decide +kernel
theorem dX8_key_46 : decode eX8_key.2.1 46 = .ok (.aload_n 0, 1) := by decide +kernel
theorem dX8_key_47 : decode eX8_key.2.1 47 = .ok (.getfield 190, 3) := by decide +kernel
theorem dX8_key_50 : decode eX8_key.2.1 50 = .ok (.aload_n 0, 1) := by decide +kernel
theorem dX8_key_51 : decode eX8_key.2.1 51 = .ok (.getfield 196, 3) := by decide +kernel
theorem dX8_key_54 : decode eX8_key.2.1 54 = .ok (.isub, 1) := by decide +kernel
theorem dX8_key_55 : decode eX8_key.2.1 55 = .ok (.iconst 1, 1) := by decide +kernel
theorem dX8_key_56 : decode eX8_key.2.1 56 = .ok (.if_icmp .ne 19, 3) := by decide +kernel
theorem dX8_key_59 : decode eX8_key.2.1 59 = .ok (.aload_n 0, 1) := by decide +kernel
theorem dX8_key_60 : decode eX8_key.2.1 60 = .ok (.getfield 208, 3) := by decide +kernel
theorem dX8_key_63 : decode eX8_key.2.1 63 = .ok (.bipush 6, 2) := by decide +kernel
theorem dX8_key_65 : decode eX8_key.2.1 65 = .ok (.if_icmp .ge 10, 3) := by decide +kernel
theorem dX8_key_68 : decode eX8_key.2.1 68 = .ok (.aload_n 0, 1) := by decide +kernel
theorem dX8_key_69 : decode eX8_key.2.1 69 = .ok (.getfield 208, 3) := by decide +kernel
theorem dX8_key_72 : decode eX8_key.2.1 72 = .ok (.goto 4, 3) := by decide +kernel
theorem dX8_key_75 : decode eX8_key.2.1 75 = .ok (.iconst (-1), 1) := by decide +kernel
theorem dX8_key_76 : decode eX8_key.2.1 76 = .ok (.ireturn, 1) := by decide +kernel
theorem dX8_isName_0 : decode eX8_isName.2.1 0 = .ok (.iload_n 0, 1) := by decide +kernel
theorem dX8_isName_1 : decode eX8_isName.2.1 1 = .ok (.bipush 6, 2) := by decide +kernel
theorem dX8_isName_3 : decode eX8_isName.2.1 3 = .ok (.if_icmp .ne 35, 3) := by decide +kernel
theorem dX8_isName_6 : decode eX8_isName.2.1 6 = .ok (.iload_n 1, 1) := by decide +kernel
theorem dX8_isName_7 : decode eX8_isName.2.1 7 = .ok (.bipush 100, 2) := by decide +kernel
theorem dX8_isName_9 : decode eX8_isName.2.1 9 = .ok (.if_icmp .eq 21, 3) := by decide +kernel
theorem dX8_isName_12 : decode eX8_isName.2.1 12 = .ok (.iload_n 1, 1) := by decide +kernel
theorem dX8_isName_13 : decode eX8_isName.2.1 13 = .ok (.bipush 103, 2) := by decide +kernel
theorem dX8_isName_15 : decode eX8_isName.2.1 15 = .ok (.if_icmp .eq 15, 3) := by decide +kernel
theorem dX8_isName_18 : decode eX8_isName.2.1 18 = .ok (.iload_n 1, 1) := by decide +kernel
theorem dX8_isName_19 : decode eX8_isName.2.1 19 = .ok (.bipush 109, 2) := by decide +kernel
theorem dX8_isName_21 : decode eX8_isName.2.1 21 = .ok (.if_icmp .eq 9, 3) := by decide +kernel
theorem dX8_isName_24 : decode eX8_isName.2.1 24 = .ok (.iload_n 1, 1) := by decide +kernel
theorem dX8_isName_25 : decode eX8_isName.2.1 25 = .ok (.bipush 99, 2) := by decide +kernel
theorem dX8_isName_27 : decode eX8_isName.2.1 27 = .ok (.if_icmp .ne 7, 3) := by decide +kernel
theorem dX8_isName_30 : decode eX8_isName.2.1 30 = .ok (.iconst 1, 1) := by decide +kernel
theorem dX8_isName_31 : decode eX8_isName.2.1 31 = .ok (.goto 36, 3) := by decide +kernel
theorem dX8_isName_34 : decode eX8_isName.2.1 34 = .ok (.iconst 0, 1) := by decide +kernel
theorem dX8_isName_35 : decode eX8_isName.2.1 35 = .ok (.goto 32, 3) := by decide +kernel
theorem dX8_isName_38 : decode eX8_isName.2.1 38 = .ok (.iload_n 1, 1) := by decide +kernel
theorem dX8_isName_39 : decode eX8_isName.2.1 39 = .ok (.bipush 108, 2) := by decide +kernel
theorem dX8_isName_41 : decode eX8_isName.2.1 41 = .ok (.if_icmp .eq 21, 3) := by decide +kernel
theorem dX8_isName_44 : decode eX8_isName.2.1 44 = .ok (.iload_n 1, 1) := by decide +kernel
theorem dX8_isName_45 : decode eX8_isName.2.1 45 = .ok (.bipush 114, 2) := by decide +kernel
theorem dX8_isName_47 : decode eX8_isName.2.1 47 = .ok (.if_icmp .eq 15, 3) := by decide +kernel
theorem dX8_isName_50 : decode eX8_isName.2.1 50 = .ok (.iload_n 1, 1) := by decide +kernel
theorem dX8_isName_51 : decode eX8_isName.2.1 51 = .ok (.bipush 101, 2) := by decide +kernel
theorem dX8_isName_53 : decode eX8_isName.2.1 53 = .ok (.if_icmp .eq 9, 3) := by decide +kernel
theorem dX8_isName_56 : decode eX8_isName.2.1 56 = .ok (.iload_n 1, 1) := by decide +kernel
theorem dX8_isName_57 : decode eX8_isName.2.1 57 = .ok (.bipush 98, 2) := by decide +kernel
theorem dX8_isName_59 : decode eX8_isName.2.1 59 = .ok (.if_icmp .ne 7, 3) := by decide +kernel
theorem dX8_isName_62 : decode eX8_isName.2.1 62 = .ok (.iconst 1, 1) := by decide +kernel
theorem dX8_isName_63 : decode eX8_isName.2.1 63 = .ok (.goto 4, 3) := by decide +kernel
theorem dX8_isName_66 : decode eX8_isName.2.1 66 = .ok (.iconst 0, 1) := by decide +kernel
theorem dX8_isName_67 : decode eX8_isName.2.1 67 = .ok (.ireturn, 1) := by decide +kernel
theorem dX8_step_0 : decode eX8_step.2.1 0 = .ok (.aload_n 0, 1) := by decide +kernel
theorem dX8_step_1 : decode eX8_step.2.1 1 = .ok (.getfield 7, 3) := by decide +kernel
theorem dX8_step_4 : decode eX8_step.2.1 4 = .ok (.aload_n 0, 1) := by decide +kernel
theorem dX8_step_5 : decode eX8_step.2.1 5 = .ok (.getfield 218, 3) := by decide +kernel
theorem dX8_step_8 : decode eX8_step.2.1 8 = .ok (.iconst 2, 1) := by decide +kernel
theorem dX8_step_9 : decode eX8_step.2.1 9 = .ok (.aload_n 0, 1) := by decide +kernel
theorem dX8_step_10 : decode eX8_step.2.1 10 = .ok (.getfield 221, 3) := by decide +kernel
theorem dX8_step_13 : decode eX8_step.2.1 13 = .ok (.imul, 1) := by decide +kernel
theorem dX8_step_14 : decode eX8_step.2.1 14 = .ok (.iadd, 1) := by decide +kernel
theorem dX8_step_15 : decode eX8_step.2.1 15 = .ok (.iload_n 1, 1) := by decide +kernel
theorem dX8_step_16 : decode eX8_step.2.1 16 = .ok (.iastore, 1) := by decide +kernel
theorem dX8_step_17 : decode eX8_step.2.1 17 = .ok (.aload_n 0, 1) := by decide +kernel
theorem dX8_step_18 : decode eX8_step.2.1 18 = .ok (.getfield 7, 3) := by decide +kernel
theorem dX8_step_21 : decode eX8_step.2.1 21 = .ok (.aload_n 0, 1) := by decide +kernel
theorem dX8_step_22 : decode eX8_step.2.1 22 = .ok (.getfield 218, 3) := by decide +kernel
theorem dX8_step_25 : decode eX8_step.2.1 25 = .ok (.iconst 2, 1) := by decide +kernel
theorem dX8_step_26 : decode eX8_step.2.1 26 = .ok (.aload_n 0, 1) := by decide +kernel
theorem dX8_step_27 : decode eX8_step.2.1 27 = .ok (.getfield 221, 3) := by decide +kernel
theorem dX8_step_30 : decode eX8_step.2.1 30 = .ok (.imul, 1) := by decide +kernel
theorem dX8_step_31 : decode eX8_step.2.1 31 = .ok (.iadd, 1) := by decide +kernel
theorem dX8_step_32 : decode eX8_step.2.1 32 = .ok (.iconst 1, 1) := by decide +kernel
theorem dX8_step_33 : decode eX8_step.2.1 33 = .ok (.iadd, 1) := by decide +kernel
theorem dX8_step_34 : decode eX8_step.2.1 34 = .ok (.iload_n 2, 1) := by decide +kernel
theorem dX8_step_35 : decode eX8_step.2.1 35 = .ok (.iastore, 1) := by decide +kernel
theorem dX8_step_36 : decode eX8_step.2.1 36 = .ok (.aload_n 0, 1) := by decide +kernel
theorem dX8_step_37 : decode eX8_step.2.1 37 = .ok (.dup, 1) := by decide +kernel
theorem dX8_step_38 : decode eX8_step.2.1 38 = .ok (.getfield 221, 3) := by decide +kernel
theorem dX8_step_41 : decode eX8_step.2.1 41 = .ok (.iconst 1, 1) := by decide +kernel
theorem dX8_step_42 : decode eX8_step.2.1 42 = .ok (.iadd, 1) := by decide +kernel
theorem dX8_step_43 : decode eX8_step.2.1 43 = .ok (.putfield 221, 3) := by decide +kernel
theorem dX8_step_46 : decode eX8_step.2.1 46 = .ok (.return_, 1) := by decide +kernel
theorem dX8_either_0 : decode eX8_either.2.1 0 = .ok (.aload_n 0, 1) := by decide +kernel
theorem dX8_either_1 : decode eX8_either.2.1 1 = .ok (.iload_n 1, 1) := by decide +kernel
theorem dX8_either_2 : decode eX8_either.2.1 2 = .ok (.invokevirtual 224, 3) := by decide +kernel
theorem dX8_either_5 : decode eX8_either.2.1 5 = .ok (.ifCond .ne 5, 3) := by decide +kernel
theorem dX8_either_8 : decode eX8_either.2.1 8 = .ok (.iconst 0, 1) := by decide +kernel
theorem dX8_either_9 : decode eX8_either.2.1 9 = .ok (.ireturn, 1) := by decide +kernel
theorem dX8_either_10 : decode eX8_either.2.1 10 = .ok (.aload_n 0, 1) := by decide +kernel
theorem dX8_either_11 : decode eX8_either.2.1 11 = .ok (.bipush 124, 2) := by decide +kernel
theorem dX8_either_13 : decode eX8_either.2.1 13 = .ok (.invokevirtual 227, 3) := by decide +kernel
theorem dX8_either_16 : decode eX8_either.2.1 16 = .ok (.ifCond .eq 27, 3) := by decide +kernel
theorem dX8_either_19 : decode eX8_either.2.1 19 = .ok (.aload_n 0, 1) := by decide +kernel
theorem dX8_either_20 : decode eX8_either.2.1 20 = .ok (.invokevirtual 215, 3) := by decide +kernel
theorem dX8_either_23 : decode eX8_either.2.1 23 = .ok (.aload_n 0, 1) := by decide +kernel
theorem dX8_either_24 : decode eX8_either.2.1 24 = .ok (.iload_n 1, 1) := by decide +kernel
theorem dX8_either_25 : decode eX8_either.2.1 25 = .ok (.invokevirtual 224, 3) := by decide +kernel
theorem dX8_either_28 : decode eX8_either.2.1 28 = .ok (.ifCond .ne 5, 3) := by decide +kernel
theorem dX8_either_31 : decode eX8_either.2.1 31 = .ok (.iconst 0, 1) := by decide +kernel
theorem dX8_either_32 : decode eX8_either.2.1 32 = .ok (.ireturn, 1) := by decide +kernel
theorem dX8_either_33 : decode eX8_either.2.1 33 = .ok (.aload_n 0, 1) := by decide +kernel
theorem dX8_either_34 : decode eX8_either.2.1 34 = .ok (.iconst 2, 1) := by decide +kernel
theorem dX8_either_35 : decode eX8_either.2.1 35 = .ok (.bipush 124, 2) := by decide +kernel
theorem dX8_either_37 : decode eX8_either.2.1 37 = .ok (.invokevirtual 230, 3) := by decide +kernel
theorem dX8_either_40 : decode eX8_either.2.1 40 = .ok (.goto (-30), 3) := by decide +kernel
theorem dX8_either_43 : decode eX8_either.2.1 43 = .ok (.iconst 1, 1) := by decide +kernel
theorem dX8_either_44 : decode eX8_either.2.1 44 = .ok (.ireturn, 1) := by decide +kernel
theorem dX8_both_0 : decode eX8_both.2.1 0 = .ok (.aload_n 0, 1) := by decide +kernel
theorem dX8_both_1 : decode eX8_both.2.1 1 = .ok (.iload_n 1, 1) := by decide +kernel
theorem dX8_both_2 : decode eX8_both.2.1 2 = .ok (.invokevirtual 234, 3) := by decide +kernel
theorem dX8_both_5 : decode eX8_both.2.1 5 = .ok (.ifCond .ne 5, 3) := by decide +kernel
theorem dX8_both_8 : decode eX8_both.2.1 8 = .ok (.iconst 0, 1) := by decide +kernel
theorem dX8_both_9 : decode eX8_both.2.1 9 = .ok (.ireturn, 1) := by decide +kernel
theorem dX8_both_10 : decode eX8_both.2.1 10 = .ok (.aload_n 0, 1) := by decide +kernel
theorem dX8_both_11 : decode eX8_both.2.1 11 = .ok (.bipush 38, 2) := by decide +kernel
theorem dX8_both_13 : decode eX8_both.2.1 13 = .ok (.invokevirtual 227, 3) := by decide +kernel
theorem dX8_both_16 : decode eX8_both.2.1 16 = .ok (.ifCond .eq 27, 3) := by decide +kernel
theorem dX8_both_19 : decode eX8_both.2.1 19 = .ok (.aload_n 0, 1) := by decide +kernel
theorem dX8_both_20 : decode eX8_both.2.1 20 = .ok (.invokevirtual 215, 3) := by decide +kernel
theorem dX8_both_23 : decode eX8_both.2.1 23 = .ok (.aload_n 0, 1) := by decide +kernel
theorem dX8_both_24 : decode eX8_both.2.1 24 = .ok (.iload_n 1, 1) := by decide +kernel
theorem dX8_both_25 : decode eX8_both.2.1 25 = .ok (.invokevirtual 234, 3) := by decide +kernel
theorem dX8_both_28 : decode eX8_both.2.1 28 = .ok (.ifCond .ne 5, 3) := by decide +kernel
theorem dX8_both_31 : decode eX8_both.2.1 31 = .ok (.iconst 0, 1) := by decide +kernel
theorem dX8_both_32 : decode eX8_both.2.1 32 = .ok (.ireturn, 1) := by decide +kernel
theorem dX8_both_33 : decode eX8_both.2.1 33 = .ok (.aload_n 0, 1) := by decide +kernel
theorem dX8_both_34 : decode eX8_both.2.1 34 = .ok (.iconst 2, 1) := by decide +kernel
theorem dX8_both_35 : decode eX8_both.2.1 35 = .ok (.bipush 38, 2) := by decide +kernel
theorem dX8_both_37 : decode eX8_both.2.1 37 = .ok (.invokevirtual 230, 3) := by decide +kernel
theorem dX8_both_40 : decode eX8_both.2.1 40 = .ok (.goto (-30), 3) := by decide +kernel
theorem dX8_both_43 : decode eX8_both.2.1 43 = .ok (.iconst 1, 1) := by decide +kernel
theorem dX8_both_44 : decode eX8_both.2.1 44 = .ok (.ireturn, 1) := by decide +kernel
theorem dX8_test_0 : decode eX8_test.2.1 0 = .ok (.aload_n 0, 1) := by decide +kernel
theorem dX8_test_1 : decode eX8_test.2.1 1 = .ok (.iload_n 1, 1) := by decide +kernel
theorem dX8_test_2 : decode eX8_test.2.1 2 = .ok (.invokevirtual 237, 3) := by decide +kernel
theorem dX8_test_5 : decode eX8_test.2.1 5 = .ok (.ifCond .ne 5, 3) := by decide +kernel
theorem dX8_test_8 : decode eX8_test.2.1 8 = .ok (.iconst 0, 1) := by decide +kernel
theorem dX8_test_9 : decode eX8_test.2.1 9 = .ok (.ireturn, 1) := by decide +kernel
theorem dX8_test_10 : decode eX8_test.2.1 10 = .ok (.aload_n 0, 1) := by decide +kernel
theorem dX8_test_11 : decode eX8_test.2.1 11 = .ok (.bipush 60, 2) := by decide +kernel
theorem dX8_test_13 : decode eX8_test.2.1 13 = .ok (.invokevirtual 227, 3) := by decide +kernel
theorem dX8_test_16 : decode eX8_test.2.1 16 = .ok (.ifCond .ne 21, 3) := by decide +kernel
theorem dX8_test_19 : decode eX8_test.2.1 19 = .ok (.aload_n 0, 1) := by decide +kernel
theorem dX8_test_20 : decode eX8_test.2.1 20 = .ok (.bipush 61, 2) := by decide +kernel
theorem dX8_test_22 : decode eX8_test.2.1 22 = .ok (.invokevirtual 227, 3) := by decide +kernel
theorem dX8_test_25 : decode eX8_test.2.1 25 = .ok (.ifCond .ne 12, 3) := by decide +kernel
theorem dX8_test_28 : decode eX8_test.2.1 28 = .ok (.aload_n 0, 1) := by decide +kernel
theorem dX8_test_29 : decode eX8_test.2.1 29 = .ok (.bipush 62, 2) := by decide +kernel
theorem dX8_test_31 : decode eX8_test.2.1 31 = .ok (.invokevirtual 227, 3) := by decide +kernel
theorem dX8_test_34 : decode eX8_test.2.1 34 = .ok (.ifCond .eq 28, 3) := by decide +kernel
theorem dX8_test_37 : decode eX8_test.2.1 37 = .ok (.aload_n 0, 1) := by decide +kernel
theorem dX8_test_38 : decode eX8_test.2.1 38 = .ok (.getfield 202, 3) := by decide +kernel
theorem dX8_test_41 : decode eX8_test.2.1 41 = .ok (.istore_n 2, 1) := by decide +kernel
theorem dX8_test_42 : decode eX8_test.2.1 42 = .ok (.aload_n 0, 1) := by decide +kernel
theorem dX8_test_43 : decode eX8_test.2.1 43 = .ok (.invokevirtual 215, 3) := by decide +kernel
theorem dX8_test_46 : decode eX8_test.2.1 46 = .ok (.aload_n 0, 1) := by decide +kernel
theorem dX8_test_47 : decode eX8_test.2.1 47 = .ok (.iload_n 1, 1) := by decide +kernel
theorem dX8_test_48 : decode eX8_test.2.1 48 = .ok (.invokevirtual 237, 3) := by decide +kernel
theorem dX8_test_51 : decode eX8_test.2.1 51 = .ok (.ifCond .ne 5, 3) := by decide +kernel
theorem dX8_test_54 : decode eX8_test.2.1 54 = .ok (.iconst 0, 1) := by decide +kernel
theorem dX8_test_55 : decode eX8_test.2.1 55 = .ok (.ireturn, 1) := by decide +kernel
theorem dX8_test_56 : decode eX8_test.2.1 56 = .ok (.aload_n 0, 1) := by decide +kernel
theorem dX8_test_57 : decode eX8_test.2.1 57 = .ok (.iconst 2, 1) := by decide +kernel
theorem dX8_test_58 : decode eX8_test.2.1 58 = .ok (.iload_n 2, 1) := by decide +kernel
theorem dX8_test_59 : decode eX8_test.2.1 59 = .ok (.invokevirtual 230, 3) := by decide +kernel
theorem dX8_test_62 : decode eX8_test.2.1 62 = .ok (.iconst 1, 1) := by decide +kernel
theorem dX8_test_63 : decode eX8_test.2.1 63 = .ok (.ireturn, 1) := by decide +kernel
theorem dX8_sum_0 : decode eX8_sum.2.1 0 = .ok (.aload_n 0, 1) := by decide +kernel
theorem dX8_sum_1 : decode eX8_sum.2.1 1 = .ok (.iload_n 1, 1) := by decide +kernel
theorem dX8_sum_2 : decode eX8_sum.2.1 2 = .ok (.invokevirtual 240, 3) := by decide +kernel
theorem dX8_sum_5 : decode eX8_sum.2.1 5 = .ok (.ifCond .ne 5, 3) := by decide +kernel
theorem dX8_sum_8 : decode eX8_sum.2.1 8 = .ok (.iconst 0, 1) := by decide +kernel
theorem dX8_sum_9 : decode eX8_sum.2.1 9 = .ok (.ireturn, 1) := by decide +kernel
theorem dX8_sum_10 : decode eX8_sum.2.1 10 = .ok (.aload_n 0, 1) := by decide +kernel
theorem dX8_sum_11 : decode eX8_sum.2.1 11 = .ok (.bipush 43, 2) := by decide +kernel
theorem dX8_sum_13 : decode eX8_sum.2.1 13 = .ok (.invokevirtual 227, 3) := by decide +kernel
theorem dX8_sum_16 : decode eX8_sum.2.1 16 = .ok (.ifCond .ne 12, 3) := by decide +kernel
theorem dX8_sum_19 : decode eX8_sum.2.1 19 = .ok (.aload_n 0, 1) := by decide +kernel
theorem dX8_sum_20 : decode eX8_sum.2.1 20 = .ok (.bipush 45, 2) := by decide +kernel
theorem dX8_sum_22 : decode eX8_sum.2.1 22 = .ok (.invokevirtual 227, 3) := by decide +kernel
theorem dX8_sum_25 : decode eX8_sum.2.1 25 = .ok (.ifCond .eq 31, 3) := by decide +kernel
theorem dX8_sum_28 : decode eX8_sum.2.1 28 = .ok (.aload_n 0, 1) := by decide +kernel
theorem dX8_sum_29 : decode eX8_sum.2.1 29 = .ok (.getfield 202, 3) := by decide +kernel
theorem dX8_sum_32 : decode eX8_sum.2.1 32 = .ok (.istore_n 2, 1) := by decide +kernel
theorem dX8_sum_33 : decode eX8_sum.2.1 33 = .ok (.aload_n 0, 1) := by decide +kernel
theorem dX8_sum_34 : decode eX8_sum.2.1 34 = .ok (.invokevirtual 215, 3) := by decide +kernel
theorem dX8_sum_37 : decode eX8_sum.2.1 37 = .ok (.aload_n 0, 1) := by decide +kernel
theorem dX8_sum_38 : decode eX8_sum.2.1 38 = .ok (.iload_n 1, 1) := by decide +kernel
theorem dX8_sum_39 : decode eX8_sum.2.1 39 = .ok (.invokevirtual 240, 3) := by decide +kernel
theorem dX8_sum_42 : decode eX8_sum.2.1 42 = .ok (.ifCond .ne 5, 3) := by decide +kernel
theorem dX8_sum_45 : decode eX8_sum.2.1 45 = .ok (.iconst 0, 1) := by decide +kernel
theorem dX8_sum_46 : decode eX8_sum.2.1 46 = .ok (.ireturn, 1) := by decide +kernel
theorem dX8_sum_47 : decode eX8_sum.2.1 47 = .ok (.aload_n 0, 1) := by decide +kernel
theorem dX8_sum_48 : decode eX8_sum.2.1 48 = .ok (.iconst 2, 1) := by decide +kernel
theorem dX8_sum_49 : decode eX8_sum.2.1 49 = .ok (.iload_n 2, 1) := by decide +kernel
theorem dX8_sum_50 : decode eX8_sum.2.1 50 = .ok (.invokevirtual 230, 3) := by decide +kernel
theorem dX8_sum_53 : decode eX8_sum.2.1 53 = .ok (.goto (-43), 3) := by decide +kernel
theorem dX8_sum_56 : decode eX8_sum.2.1 56 = .ok (.iconst 1, 1) := by decide +kernel
theorem dX8_sum_57 : decode eX8_sum.2.1 57 = .ok (.ireturn, 1) := by decide +kernel
theorem dX8_term_0 : decode eX8_term.2.1 0 = .ok (.aload_n 0, 1) := by decide +kernel
theorem dX8_term_1 : decode eX8_term.2.1 1 = .ok (.iload_n 1, 1) := by decide +kernel
theorem dX8_term_2 : decode eX8_term.2.1 2 = .ok (.invokevirtual 243, 3) := by decide +kernel
theorem dX8_term_5 : decode eX8_term.2.1 5 = .ok (.ifCond .ne 5, 3) := by decide +kernel
theorem dX8_term_8 : decode eX8_term.2.1 8 = .ok (.iconst 0, 1) := by decide +kernel
theorem dX8_term_9 : decode eX8_term.2.1 9 = .ok (.ireturn, 1) := by decide +kernel
theorem dX8_term_10 : decode eX8_term.2.1 10 = .ok (.aload_n 0, 1) := by decide +kernel
theorem dX8_term_11 : decode eX8_term.2.1 11 = .ok (.bipush 42, 2) := by decide +kernel
theorem dX8_term_13 : decode eX8_term.2.1 13 = .ok (.invokevirtual 227, 3) := by decide +kernel
theorem dX8_term_16 : decode eX8_term.2.1 16 = .ok (.ifCond .ne 12, 3) := by decide +kernel
theorem dX8_term_19 : decode eX8_term.2.1 19 = .ok (.aload_n 0, 1) := by decide +kernel
theorem dX8_term_20 : decode eX8_term.2.1 20 = .ok (.bipush 47, 2) := by decide +kernel
theorem dX8_term_22 : decode eX8_term.2.1 22 = .ok (.invokevirtual 227, 3) := by decide +kernel
theorem dX8_term_25 : decode eX8_term.2.1 25 = .ok (.ifCond .eq 31, 3) := by decide +kernel
theorem dX8_term_28 : decode eX8_term.2.1 28 = .ok (.aload_n 0, 1) := by decide +kernel
theorem dX8_term_29 : decode eX8_term.2.1 29 = .ok (.getfield 202, 3) := by decide +kernel
theorem dX8_term_32 : decode eX8_term.2.1 32 = .ok (.istore_n 2, 1) := by decide +kernel
theorem dX8_term_33 : decode eX8_term.2.1 33 = .ok (.aload_n 0, 1) := by decide +kernel
theorem dX8_term_34 : decode eX8_term.2.1 34 = .ok (.invokevirtual 215, 3) := by decide +kernel
theorem dX8_term_37 : decode eX8_term.2.1 37 = .ok (.aload_n 0, 1) := by decide +kernel
theorem dX8_term_38 : decode eX8_term.2.1 38 = .ok (.iload_n 1, 1) := by decide +kernel
theorem dX8_term_39 : decode eX8_term.2.1 39 = .ok (.invokevirtual 243, 3) := by decide +kernel
theorem dX8_term_42 : decode eX8_term.2.1 42 = .ok (.ifCond .ne 5, 3) := by decide +kernel
theorem dX8_term_45 : decode eX8_term.2.1 45 = .ok (.iconst 0, 1) := by decide +kernel
theorem dX8_term_46 : decode eX8_term.2.1 46 = .ok (.ireturn, 1) := by decide +kernel
theorem dX8_term_47 : decode eX8_term.2.1 47 = .ok (.aload_n 0, 1) := by decide +kernel
theorem dX8_term_48 : decode eX8_term.2.1 48 = .ok (.iconst 2, 1) := by decide +kernel
theorem dX8_term_49 : decode eX8_term.2.1 49 = .ok (.iload_n 2, 1) := by decide +kernel
theorem dX8_term_50 : decode eX8_term.2.1 50 = .ok (.invokevirtual 230, 3) := by decide +kernel
theorem dX8_term_53 : decode eX8_term.2.1 53 = .ok (.goto (-43), 3) := by decide +kernel
theorem dX8_term_56 : decode eX8_term.2.1 56 = .ok (.iconst 1, 1) := by decide +kernel
theorem dX8_term_57 : decode eX8_term.2.1 57 = .ok (.ireturn, 1) := by decide +kernel
theorem dX8_part0_0 : decode eX8_part0.2.1 0 = .ok (.aload_n 0, 1) := by decide +kernel
theorem dX8_part0_1 : decode eX8_part0.2.1 1 = .ok (.getfield 193, 3) := by decide +kernel
theorem dX8_part0_4 : decode eX8_part0.2.1 4 = .ok (.iconst 2, 1) := by decide +kernel
theorem dX8_part0_5 : decode eX8_part0.2.1 5 = .ok (.if_icmp .ne 28, 3) := by decide +kernel
theorem dX8_part0_8 : decode eX8_part0.2.1 8 = .ok (.aload_n 0, 1) := by decide +kernel
theorem dX8_part0_9 : decode eX8_part0.2.1 9 = .ok (.iconst 0, 1) := by decide +kernel
theorem dX8_part0_10 : decode eX8_part0.2.1 10 = .ok (.aload_n 0, 1) := by decide +kernel
theorem dX8_part0_11 : decode eX8_part0.2.1 11 = .ok (.getfield 208, 3) := by decide +kernel
theorem dX8_part0_14 : decode eX8_part0.2.1 14 = .ok (.invokevirtual 230, 3) := by decide +kernel
theorem dX8_part0_17 : decode eX8_part0.2.1 17 = .ok (.aload_n 0, 1) := by decide +kernel
theorem dX8_part0_18 : decode eX8_part0.2.1 18 = .ok (.dup, 1) := by decide +kernel
theorem dX8_part0_19 : decode eX8_part0.2.1 19 = .ok (.getfield 246, 3) := by decide +kernel
theorem dX8_part0_22 : decode eX8_part0.2.1 22 = .ok (.iconst 1, 1) := by decide +kernel
theorem dX8_part0_23 : decode eX8_part0.2.1 23 = .ok (.iadd, 1) := by decide +kernel
theorem dX8_part0_24 : decode eX8_part0.2.1 24 = .ok (.putfield 246, 3) := by decide +kernel
theorem dX8_part0_27 : decode eX8_part0.2.1 27 = .ok (.aload_n 0, 1) := by decide +kernel
theorem dX8_part0_28 : decode eX8_part0.2.1 28 = .ok (.invokevirtual 215, 3) := by decide +kernel
theorem dX8_part0_31 : decode eX8_part0.2.1 31 = .ok (.iconst 1, 1) := by decide +kernel
theorem dX8_part0_32 : decode eX8_part0.2.1 32 = .ok (.ireturn, 1) := by decide +kernel
theorem dX8_part0_33 : decode eX8_part0.2.1 33 = .ok (.aload_n 0, 1) := by decide +kernel
theorem dX8_part0_34 : decode eX8_part0.2.1 34 = .ok (.getfield 193, 3) := by decide +kernel
theorem dX8_part0_37 : decode eX8_part0.2.1 37 = .ok (.iconst 1, 1) := by decide +kernel
theorem dX8_part0_38 : decode eX8_part0.2.1 38 = .ok (.if_icmp .ne 46, 3) := by decide +kernel
theorem dX8_part0_41 : decode eX8_part0.2.1 41 = .ok (.aload_n 0, 1) := by decide +kernel
theorem dX8_part0_42 : decode eX8_part0.2.1 42 = .ok (.getfield 202, 3) := by decide +kernel
theorem dX8_part0_45 : decode eX8_part0.2.1 45 = .ok (.ifCond .eq 39, 3) := by decide +kernel
theorem dX8_part0_48 : decode eX8_part0.2.1 48 = .ok (.iload_n 1, 1) := by decide +kernel
theorem dX8_part0_49 : decode eX8_part0.2.1 49 = .ok (.aload_n 0, 1) := by decide +kernel
theorem dX8_part0_50 : decode eX8_part0.2.1 50 = .ok (.getfield 202, 3) := by decide +kernel
theorem dX8_part0_53 : decode eX8_part0.2.1 53 = .ok (.invokestatic 249, 3) := by decide +kernel
theorem dX8_part0_56 : decode eX8_part0.2.1 56 = .ok (.ifCond .eq 28, 3) := by decide +kernel
theorem dX8_part0_59 : decode eX8_part0.2.1 59 = .ok (.aload_n 0, 1) := by decide +kernel
theorem dX8_part0_60 : decode eX8_part0.2.1 60 = .ok (.iconst 1, 1) := by decide +kernel
theorem dX8_part0_61 : decode eX8_part0.2.1 61 = .ok (.aload_n 0, 1) := by decide +kernel
theorem dX8_part0_62 : decode eX8_part0.2.1 62 = .ok (.getfield 202, 3) := by decide +kernel
theorem dX8_part0_65 : decode eX8_part0.2.1 65 = .ok (.invokevirtual 230, 3) := by decide +kernel
theorem dX8_part0_68 : decode eX8_part0.2.1 68 = .ok (.aload_n 0, 1) := by decide +kernel
theorem dX8_part0_69 : decode eX8_part0.2.1 69 = .ok (.dup, 1) := by decide +kernel
theorem dX8_part0_70 : decode eX8_part0.2.1 70 = .ok (.getfield 246, 3) := by decide +kernel
theorem dX8_part0_73 : decode eX8_part0.2.1 73 = .ok (.iconst 1, 1) := by decide +kernel
theorem dX8_part0_74 : decode eX8_part0.2.1 74 = .ok (.iadd, 1) := by decide +kernel
theorem dX8_part0_75 : decode eX8_part0.2.1 75 = .ok (.putfield 246, 3) := by decide +kernel
theorem dX8_part0_78 : decode eX8_part0.2.1 78 = .ok (.aload_n 0, 1) := by decide +kernel
theorem dX8_part0_79 : decode eX8_part0.2.1 79 = .ok (.invokevirtual 215, 3) := by decide +kernel
theorem dX8_part0_82 : decode eX8_part0.2.1 82 = .ok (.iconst 1, 1) := by decide +kernel
theorem dX8_part0_83 : decode eX8_part0.2.1 83 = .ok (.ireturn, 1) := by decide +kernel
theorem dX8_part0_84 : decode eX8_part0.2.1 84 = .ok (.aload_n 0, 1) := by decide +kernel
theorem dX8_part0_85 : decode eX8_part0.2.1 85 = .ok (.bipush 33, 2) := by decide +kernel
theorem dX8_part0_87 : decode eX8_part0.2.1 87 = .ok (.invokevirtual 227, 3) := by decide +kernel
theorem dX8_part0_90 : decode eX8_part0.2.1 90 = .ok (.ifCond .eq 55, 3) := by decide +kernel
theorem dX8_part0_93 : decode eX8_part0.2.1 93 = .ok (.aload_n 0, 1) := by decide +kernel
theorem dX8_part0_94 : decode eX8_part0.2.1 94 = .ok (.getfield 253, 3) := by decide +kernel
theorem dX8_part0_97 : decode eX8_part0.2.1 97 = .ok (.bipush 8, 2) := by decide +kernel
theorem dX8_part0_99 : decode eX8_part0.2.1 99 = .ok (.if_icmp .ge 46, 3) := by decide +kernel
theorem dX8_part0_102 : decode eX8_part0.2.1 102 = .ok (.aload_n 0, 1) := by decide +kernel
theorem dX8_part0_103 : decode eX8_part0.2.1 103 = .ok (.dup, 1) := by decide +kernel
theorem dX8_part0_104 : decode eX8_part0.2.1 104 = .ok (.getfield 253, 3) := by decide +kernel
theorem dX8_part0_107 : decode eX8_part0.2.1 107 = .ok (.iconst 1, 1) := by decide +kernel
theorem dX8_part0_108 : decode eX8_part0.2.1 108 = .ok (.iadd, 1) := by decide +kernel
theorem dX8_part0_109 : decode eX8_part0.2.1 109 = .ok (.putfield 253, 3) := by decide +kernel
theorem dX8_part0_112 : decode eX8_part0.2.1 112 = .ok (.aload_n 0, 1) := by decide +kernel
theorem dX8_part0_113 : decode eX8_part0.2.1 113 = .ok (.invokevirtual 215, 3) := by decide +kernel
theorem dX8_part0_116 : decode eX8_part0.2.1 116 = .ok (.aload_n 0, 1) := by decide +kernel
theorem dX8_part0_117 : decode eX8_part0.2.1 117 = .ok (.iload_n 1, 1) := by decide +kernel
theorem dX8_part0_118 : decode eX8_part0.2.1 118 = .ok (.invokevirtual 243, 3) := by decide +kernel
theorem dX8_part0_121 : decode eX8_part0.2.1 121 = .ok (.ifCond .ne 5, 3) := by decide +kernel
theorem dX8_part0_124 : decode eX8_part0.2.1 124 = .ok (.iconst 0, 1) := by decide +kernel
theorem dX8_part0_125 : decode eX8_part0.2.1 125 = .ok (.ireturn, 1) := by decide +kernel
theorem dX8_part0_126 : decode eX8_part0.2.1 126 = .ok (.aload_n 0, 1) := by decide +kernel
theorem dX8_part0_127 : decode eX8_part0.2.1 127 = .ok (.dup, 1) := by decide +kernel
theorem dX8_part0_128 : decode eX8_part0.2.1 128 = .ok (.getfield 253, 3) := by decide +kernel
theorem dX8_part0_131 : decode eX8_part0.2.1 131 = .ok (.iconst 1, 1) := by decide +kernel
theorem dX8_part0_132 : decode eX8_part0.2.1 132 = .ok (.isub, 1) := by decide +kernel
theorem dX8_part0_133 : decode eX8_part0.2.1 133 = .ok (.putfield 253, 3) := by decide +kernel
theorem dX8_part0_136 : decode eX8_part0.2.1 136 = .ok (.aload_n 0, 1) := by decide +kernel
theorem dX8_part0_137 : decode eX8_part0.2.1 137 = .ok (.iconst 2, 1) := by decide +kernel
theorem dX8_part0_138 : decode eX8_part0.2.1 138 = .ok (.bipush 33, 2) := by decide +kernel
theorem dX8_part0_140 : decode eX8_part0.2.1 140 = .ok (.invokevirtual 230, 3) := by decide +kernel
theorem dX8_part0_143 : decode eX8_part0.2.1 143 = .ok (.iconst 1, 1) := by decide +kernel
theorem dX8_part0_144 : decode eX8_part0.2.1 144 = .ok (.ireturn, 1) := by decide +kernel
theorem dX8_part0_145 : decode eX8_part0.2.1 145 = .ok (.aload_n 0, 1) := by decide +kernel
theorem dX8_part0_146 : decode eX8_part0.2.1 146 = .ok (.bipush 40, 2) := by decide +kernel
theorem dX8_part0_148 : decode eX8_part0.2.1 148 = .ok (.invokevirtual 227, 3) := by decide +kernel
theorem dX8_part0_151 : decode eX8_part0.2.1 151 = .ok (.ifCond .eq 12, 3) := by decide +kernel
theorem dX8_part0_154 : decode eX8_part0.2.1 154 = .ok (.aload_n 0, 1) := by decide +kernel
theorem dX8_part0_155 : decode eX8_part0.2.1 155 = .ok (.getfield 256, 3) := by decide +kernel
theorem dX8_part0_158 : decode eX8_part0.2.1 158 = .ok (.bipush 8, 2) := by decide +kernel
theorem dX8_part0_160 : decode eX8_part0.2.1 160 = .ok (.if_icmp .ne 5, 3) := by decide +kernel
theorem dX8_part0_163 : decode eX8_part0.2.1 163 = .ok (.iconst 0, 1) := by decide +kernel
theorem dX8_part0_164 : decode eX8_part0.2.1 164 = .ok (.ireturn, 1) := by decide +kernel
theorem dX8_part0_165 : decode eX8_part0.2.1 165 = .ok (.aload_n 0, 1) := by decide +kernel
theorem dX8_part0_166 : decode eX8_part0.2.1 166 = .ok (.dup, 1) := by decide +kernel
theorem dX8_part0_167 : decode eX8_part0.2.1 167 = .ok (.getfield 256, 3) := by decide +kernel
theorem dX8_part0_170 : decode eX8_part0.2.1 170 = .ok (.iconst 1, 1) := by decide +kernel
theorem dX8_part0_171 : decode eX8_part0.2.1 171 = .ok (.iadd, 1) := by decide +kernel
theorem dX8_part0_172 : decode eX8_part0.2.1 172 = .ok (.putfield 256, 3) := by decide +kernel
theorem dX8_part0_175 : decode eX8_part0.2.1 175 = .ok (.aload_n 0, 1) := by decide +kernel
theorem dX8_part0_176 : decode eX8_part0.2.1 176 = .ok (.invokevirtual 215, 3) := by decide +kernel
theorem dX8_part0_179 : decode eX8_part0.2.1 179 = .ok (.aload_n 0, 1) := by decide +kernel
theorem dX8_part0_180 : decode eX8_part0.2.1 180 = .ok (.iload_n 1, 1) := by decide +kernel
theorem dX8_part0_181 : decode eX8_part0.2.1 181 = .ok (.invokevirtual 259, 3) := by decide +kernel
theorem dX8_part0_184 : decode eX8_part0.2.1 184 = .ok (.ifCond .eq 12, 3) := by decide +kernel
theorem dX8_part0_187 : decode eX8_part0.2.1 187 = .ok (.aload_n 0, 1) := by decide +kernel
theorem dX8_part0_188 : decode eX8_part0.2.1 188 = .ok (.bipush 41, 2) := by decide +kernel
theorem dX8_part0_190 : decode eX8_part0.2.1 190 = .ok (.invokevirtual 227, 3) := by decide +kernel
theorem dX8_part0_193 : decode eX8_part0.2.1 193 = .ok (.ifCond .ne 5, 3) := by decide +kernel
theorem dX8_part0_196 : decode eX8_part0.2.1 196 = .ok (.iconst 0, 1) := by decide +kernel
theorem dX8_part0_197 : decode eX8_part0.2.1 197 = .ok (.ireturn, 1) := by decide +kernel
theorem dX8_part0_198 : decode eX8_part0.2.1 198 = .ok (.aload_n 0, 1) := by decide +kernel
theorem dX8_part0_199 : decode eX8_part0.2.1 199 = .ok (.dup, 1) := by decide +kernel
theorem dX8_part0_200 : decode eX8_part0.2.1 200 = .ok (.getfield 256, 3) := by decide +kernel
theorem dX8_part0_203 : decode eX8_part0.2.1 203 = .ok (.iconst 1, 1) := by decide +kernel
theorem dX8_part0_204 : decode eX8_part0.2.1 204 = .ok (.isub, 1) := by decide +kernel
theorem dX8_part0_205 : decode eX8_part0.2.1 205 = .ok (.putfield 256, 3) := by decide +kernel
theorem dX8_part0_208 : decode eX8_part0.2.1 208 = .ok (.aload_n 0, 1) := by decide +kernel
theorem dX8_part0_209 : decode eX8_part0.2.1 209 = .ok (.invokevirtual 215, 3) := by decide +kernel
theorem dX8_part0_212 : decode eX8_part0.2.1 212 = .ok (.iconst 1, 1) := by decide +kernel
theorem dX8_part0_213 : decode eX8_part0.2.1 213 = .ok (.ireturn, 1) := by decide +kernel
theorem dX8_parse_0 : decode eX8_parse.2.1 0 = .ok (.aload_n 0, 1) := by decide +kernel
theorem dX8_parse_1 : decode eX8_parse.2.1 1 = .ok (.iconst 0, 1) := by decide +kernel
theorem dX8_parse_2 : decode eX8_parse.2.1 2 = .ok (.putfield 190, 3) := by decide +kernel
theorem dX8_parse_5 : decode eX8_parse.2.1 5 = .ok (.aload_n 0, 1) := by decide +kernel
theorem dX8_parse_6 : decode eX8_parse.2.1 6 = .ok (.iconst 3, 1) := by decide +kernel
theorem dX8_parse_7 : decode eX8_parse.2.1 7 = .ok (.putfield 193, 3) := by decide +kernel
theorem dX8_parse_10 : decode eX8_parse.2.1 10 = .ok (.aload_n 0, 1) := by decide +kernel
theorem dX8_parse_11 : decode eX8_parse.2.1 11 = .ok (.iconst 0, 1) := by decide +kernel
theorem dX8_parse_12 : decode eX8_parse.2.1 12 = .ok (.putfield 256, 3) := by decide +kernel
theorem dX8_parse_15 : decode eX8_parse.2.1 15 = .ok (.aload_n 0, 1) := by decide +kernel
theorem dX8_parse_16 : decode eX8_parse.2.1 16 = .ok (.iconst 0, 1) := by decide +kernel
theorem dX8_parse_17 : decode eX8_parse.2.1 17 = .ok (.putfield 253, 3) := by decide +kernel
theorem dX8_parse_20 : decode eX8_parse.2.1 20 = .ok (.aload_n 0, 1) := by decide +kernel
theorem dX8_parse_21 : decode eX8_parse.2.1 21 = .ok (.iconst 0, 1) := by decide +kernel
theorem dX8_parse_22 : decode eX8_parse.2.1 22 = .ok (.putfield 221, 3) := by decide +kernel
theorem dX8_parse_25 : decode eX8_parse.2.1 25 = .ok (.aload_n 0, 1) := by decide +kernel
theorem dX8_parse_26 : decode eX8_parse.2.1 26 = .ok (.iconst 0, 1) := by decide +kernel
theorem dX8_parse_27 : decode eX8_parse.2.1 27 = .ok (.putfield 246, 3) := by decide +kernel
theorem dX8_parse_30 : decode eX8_parse.2.1 30 = .ok (.aload_n 0, 1) := by decide +kernel
theorem dX8_parse_31 : decode eX8_parse.2.1 31 = .ok (.aload_n 0, 1) := by decide +kernel
theorem dX8_parse_32 : decode eX8_parse.2.1 32 = .ok (.getfield 7, 3) := by decide +kernel
theorem dX8_parse_35 : decode eX8_parse.2.1 35 = .ok (.bipush 6, 2) := by decide +kernel
theorem dX8_parse_37 : decode eX8_parse.2.1 37 = .ok (.iaload, 1) := by decide +kernel
theorem dX8_parse_38 : decode eX8_parse.2.1 38 = .ok (.bipush 14, 2) := by decide +kernel
theorem dX8_parse_40 : decode eX8_parse.2.1 40 = .ok (.if_icmp .ge 19, 3) := by decide +kernel
theorem dX8_parse_43 : decode eX8_parse.2.1 43 = .ok (.aload_n 0, 1) := by decide +kernel
theorem dX8_parse_44 : decode eX8_parse.2.1 44 = .ok (.aload_n 0, 1) := by decide +kernel
theorem dX8_parse_45 : decode eX8_parse.2.1 45 = .ok (.getfield 7, 3) := by decide +kernel
theorem dX8_parse_48 : decode eX8_parse.2.1 48 = .ok (.bipush 6, 2) := by decide +kernel
theorem dX8_parse_50 : decode eX8_parse.2.1 50 = .ok (.iaload, 1) := by decide +kernel
theorem dX8_parse_51 : decode eX8_parse.2.1 51 = .ok (.invokevirtual 262, 3) := by decide +kernel
theorem dX8_parse_54 : decode eX8_parse.2.1 54 = .ok (.iconst 4, 1) := by decide +kernel
theorem dX8_parse_55 : decode eX8_parse.2.1 55 = .ok (.iadd, 1) := by decide +kernel
theorem dX8_parse_56 : decode eX8_parse.2.1 56 = .ok (.goto 6, 3) := by decide +kernel
theorem dX8_parse_59 : decode eX8_parse.2.1 59 = .ok (.sipush 3250, 3) := by decide +kernel
theorem dX8_parse_62 : decode eX8_parse.2.1 62 = .ok (.putfield 218, 3) := by decide +kernel
theorem dX8_parse_65 : decode eX8_parse.2.1 65 = .ok (.aload_n 0, 1) := by decide +kernel
theorem dX8_parse_66 : decode eX8_parse.2.1 66 = .ok (.invokevirtual 215, 3) := by decide +kernel
theorem dX8_parse_69 : decode eX8_parse.2.1 69 = .ok (.aload_n 0, 1) := by decide +kernel
theorem dX8_parse_70 : decode eX8_parse.2.1 70 = .ok (.invokevirtual 265, 3) := by decide +kernel
theorem dX8_parse_73 : decode eX8_parse.2.1 73 = .ok (.istore_n 1, 1) := by decide +kernel
theorem dX8_parse_74 : decode eX8_parse.2.1 74 = .ok (.iload_n 1, 1) := by decide +kernel
theorem dX8_parse_75 : decode eX8_parse.2.1 75 = .ok (.ifCond .lt 7, 3) := by decide +kernel
theorem dX8_parse_78 : decode eX8_parse.2.1 78 = .ok (.iconst 1, 1) := by decide +kernel
theorem dX8_parse_79 : decode eX8_parse.2.1 79 = .ok (.goto 4, 3) := by decide +kernel
theorem dX8_parse_82 : decode eX8_parse.2.1 82 = .ok (.iconst 0, 1) := by decide +kernel
theorem dX8_parse_83 : decode eX8_parse.2.1 83 = .ok (.istore_n 2, 1) := by decide +kernel
theorem dX8_parse_84 : decode eX8_parse.2.1 84 = .ok (.iload_n 2, 1) := by decide +kernel
theorem dX8_parse_85 : decode eX8_parse.2.1 85 = .ok (.ifCond .eq 28, 3) := by decide +kernel
theorem dX8_parse_88 : decode eX8_parse.2.1 88 = .ok (.aload_n 0, 1) := by decide +kernel
theorem dX8_parse_89 : decode eX8_parse.2.1 89 = .ok (.invokevirtual 215, 3) := by decide +kernel
theorem dX8_parse_92 : decode eX8_parse.2.1 92 = .ok (.aload_n 0, 1) := by decide +kernel
theorem dX8_parse_93 : decode eX8_parse.2.1 93 = .ok (.iload_n 1, 1) := by decide +kernel
theorem dX8_parse_94 : decode eX8_parse.2.1 94 = .ok (.invokevirtual 259, 3) := by decide +kernel
theorem dX8_parse_97 : decode eX8_parse.2.1 97 = .ok (.ifCond .eq 14, 3) := by decide +kernel
theorem dX8_parse_100 : decode eX8_parse.2.1 100 = .ok (.aload_n 0, 1) := by decide +kernel
theorem dX8_parse_101 : decode eX8_parse.2.1 101 = .ok (.getfield 193, 3) := by decide +kernel
theorem dX8_parse_104 : decode eX8_parse.2.1 104 = .ok (.ifCond .ne 7, 3) := by decide +kernel
theorem dX8_parse_107 : decode eX8_parse.2.1 107 = .ok (.iconst 1, 1) := by decide +kernel
theorem dX8_parse_108 : decode eX8_parse.2.1 108 = .ok (.goto 4, 3) := by decide +kernel
theorem dX8_parse_111 : decode eX8_parse.2.1 111 = .ok (.iconst 0, 1) := by decide +kernel
theorem dX8_parse_112 : decode eX8_parse.2.1 112 = .ok (.istore_n 2, 1) := by decide +kernel
theorem dX8_parse_113 : decode eX8_parse.2.1 113 = .ok (.aload_n 0, 1) := by decide +kernel
theorem dX8_parse_114 : decode eX8_parse.2.1 114 = .ok (.iconst 0, 1) := by decide +kernel
theorem dX8_parse_115 : decode eX8_parse.2.1 115 = .ok (.putfield 180, 3) := by decide +kernel
theorem dX8_parse_118 : decode eX8_parse.2.1 118 = .ok (.iload_n 2, 1) := by decide +kernel
theorem dX8_parse_119 : decode eX8_parse.2.1 119 = .ok (.ifCond .eq 7, 3) := by decide +kernel
theorem dX8_parse_122 : decode eX8_parse.2.1 122 = .ok (.iload_n 1, 1) := by decide +kernel
theorem dX8_parse_123 : decode eX8_parse.2.1 123 = .ok (.goto 4, 3) := by decide +kernel
theorem dX8_parse_126 : decode eX8_parse.2.1 126 = .ok (.iconst (-1), 1) := by decide +kernel
theorem dX8_parse_127 : decode eX8_parse.2.1 127 = .ok (.ireturn, 1) := by decide +kernel
theorem dX8_text_0 : decode eX8_text.2.1 0 = .ok (.iload_n 1, 1) := by decide +kernel
theorem dX8_text_1 : decode eX8_text.2.1 1 = .ok (.i2l, 1) := by decide +kernel
theorem dX8_text_2 : decode eX8_text.2.1 2 = .ok (.lconst 0, 1) := by decide +kernel
theorem dX8_text_3 : decode eX8_text.2.1 3 = .ok (.ldc2_w 268, 3) := by decide +kernel
theorem dX8_text_6 : decode eX8_text.2.1 6 = .ok (.invokestatic 71, 3) := by decide +kernel
theorem dX8_text_9 : decode eX8_text.2.1 9 = .ok (.istore_n 2, 1) := by decide +kernel
theorem dX8_text_10 : decode eX8_text.2.1 10 = .ok (.aload_n 0, 1) := by decide +kernel
theorem dX8_text_11 : decode eX8_text.2.1 11 = .ok (.invokevirtual 270, 3) := by decide +kernel
theorem dX8_text_14 : decode eX8_text.2.1 14 = .ok (.istore_n 3, 1) := by decide +kernel
theorem dX8_text_15 : decode eX8_text.2.1 15 = .ok (.iload_n 2, 1) := by decide +kernel
theorem dX8_text_16 : decode eX8_text.2.1 16 = .ok (.ifCond .ne 6, 3) := by decide +kernel
theorem dX8_text_19 : decode eX8_text.2.1 19 = .ok (.ldc 91, 2) := by decide +kernel
theorem dX8_text_21 : decode eX8_text.2.1 21 = .ok (.ireturn, 1) := by decide +kernel
theorem dX8_text_22 : decode eX8_text.2.1 22 = .ok (.iload_n 3, 1) := by decide +kernel
theorem dX8_text_23 : decode eX8_text.2.1 23 = .ok (.ifCond .ge 11, 3) := by decide +kernel
theorem dX8_text_26 : decode eX8_text.2.1 26 = .ok (.bipush (-100), 2) := by decide +kernel
theorem dX8_text_28 : decode eX8_text.2.1 28 = .ok (.aload_n 0, 1) := by decide +kernel
theorem dX8_text_29 : decode eX8_text.2.1 29 = .ok (.getfield 196, 3) := by decide +kernel
theorem dX8_text_32 : decode eX8_text.2.1 32 = .ok (.isub, 1) := by decide +kernel
theorem dX8_text_33 : decode eX8_text.2.1 33 = .ok (.ireturn, 1) := by decide +kernel
theorem dX8_text_34 : decode eX8_text.2.1 34 = .ok (.aload_n 0, 1) := by decide +kernel
theorem dX8_text_35 : decode eX8_text.2.1 35 = .ok (.getfield 7, 3) := by decide +kernel
theorem dX8_text_38 : decode eX8_text.2.1 38 = .ok (.bipush 6, 2) := by decide +kernel
theorem dX8_text_40 : decode eX8_text.2.1 40 = .ok (.iaload, 1) := by decide +kernel
theorem dX8_text_41 : decode eX8_text.2.1 41 = .ok (.bipush 14, 2) := by decide +kernel
theorem dX8_text_43 : decode eX8_text.2.1 43 = .ok (.if_icmp .ne 6, 3) := by decide +kernel
theorem dX8_text_46 : decode eX8_text.2.1 46 = .ok (.ldc 96, 2) := by decide +kernel
theorem dX8_text_48 : decode eX8_text.2.1 48 = .ok (.ireturn, 1) := by decide +kernel
theorem dX8_text_49 : decode eX8_text.2.1 49 = .ok (.aload_n 0, 1) := by decide +kernel
theorem dX8_text_50 : decode eX8_text.2.1 50 = .ok (.aload_n 0, 1) := by decide +kernel
theorem dX8_text_51 : decode eX8_text.2.1 51 = .ok (.getfield 7, 3) := by decide +kernel
theorem dX8_text_54 : decode eX8_text.2.1 54 = .ok (.bipush 6, 2) := by decide +kernel
theorem dX8_text_56 : decode eX8_text.2.1 56 = .ok (.iaload, 1) := by decide +kernel
theorem dX8_text_57 : decode eX8_text.2.1 57 = .ok (.invokevirtual 262, 3) := by decide +kernel
theorem dX8_text_60 : decode eX8_text.2.1 60 = .ok (.istore 4, 2) := by decide +kernel
theorem dX8_text_62 : decode eX8_text.2.1 62 = .ok (.aload_n 0, 1) := by decide +kernel
theorem dX8_text_63 : decode eX8_text.2.1 63 = .ok (.getfield 7, 3) := by decide +kernel
theorem dX8_text_66 : decode eX8_text.2.1 66 = .ok (.iload 4, 2) := by decide +kernel
theorem dX8_text_68 : decode eX8_text.2.1 68 = .ok (.iconst 0, 1) := by decide +kernel
theorem dX8_text_69 : decode eX8_text.2.1 69 = .ok (.iadd, 1) := by decide +kernel
theorem dX8_text_70 : decode eX8_text.2.1 70 = .ok (.iload_n 3, 1) := by decide +kernel
theorem dX8_text_71 : decode eX8_text.2.1 71 = .ok (.iastore, 1) := by decide +kernel
theorem dX8_text_72 : decode eX8_text.2.1 72 = .ok (.aload_n 0, 1) := by decide +kernel
theorem dX8_text_73 : decode eX8_text.2.1 73 = .ok (.getfield 7, 3) := by decide +kernel
theorem dX8_text_76 : decode eX8_text.2.1 76 = .ok (.iload 4, 2) := by decide +kernel
theorem dX8_text_78 : decode eX8_text.2.1 78 = .ok (.iconst 1, 1) := by decide +kernel
theorem dX8_text_79 : decode eX8_text.2.1 79 = .ok (.iadd, 1) := by decide +kernel
theorem dX8_text_80 : decode eX8_text.2.1 80 = .ok (.iload_n 1, 1) := by decide +kernel
theorem dX8_text_81 : decode eX8_text.2.1 81 = .ok (.iastore, 1) := by decide +kernel
theorem dX8_text_82 : decode eX8_text.2.1 82 = .ok (.aload_n 0, 1) := by decide +kernel
theorem dX8_text_83 : decode eX8_text.2.1 83 = .ok (.getfield 7, 3) := by decide +kernel
theorem dX8_text_86 : decode eX8_text.2.1 86 = .ok (.iload 4, 2) := by decide +kernel
theorem dX8_text_88 : decode eX8_text.2.1 88 = .ok (.iconst 2, 1) := by decide +kernel
theorem dX8_text_89 : decode eX8_text.2.1 89 = .ok (.iadd, 1) := by decide +kernel
theorem dX8_text_90 : decode eX8_text.2.1 90 = .ok (.aload_n 0, 1) := by decide +kernel
theorem dX8_text_91 : decode eX8_text.2.1 91 = .ok (.getfield 246, 3) := by decide +kernel
theorem dX8_text_94 : decode eX8_text.2.1 94 = .ok (.iastore, 1) := by decide +kernel
theorem dX8_text_95 : decode eX8_text.2.1 95 = .ok (.aload_n 0, 1) := by decide +kernel
theorem dX8_text_96 : decode eX8_text.2.1 96 = .ok (.getfield 7, 3) := by decide +kernel
theorem dX8_text_99 : decode eX8_text.2.1 99 = .ok (.iload 4, 2) := by decide +kernel
theorem dX8_text_101 : decode eX8_text.2.1 101 = .ok (.iconst 3, 1) := by decide +kernel
theorem dX8_text_102 : decode eX8_text.2.1 102 = .ok (.iadd, 1) := by decide +kernel
theorem dX8_text_103 : decode eX8_text.2.1 103 = .ok (.aload_n 0, 1) := by decide +kernel
theorem dX8_text_104 : decode eX8_text.2.1 104 = .ok (.getfield 221, 3) := by decide +kernel
theorem dX8_text_107 : decode eX8_text.2.1 107 = .ok (.iastore, 1) := by decide +kernel
theorem dX8_text_108 : decode eX8_text.2.1 108 = .ok (.aload_n 0, 1) := by decide +kernel
theorem dX8_text_109 : decode eX8_text.2.1 109 = .ok (.getfield 7, 3) := by decide +kernel
theorem dX8_text_112 : decode eX8_text.2.1 112 = .ok (.bipush 6, 2) := by decide +kernel
theorem dX8_text_114 : decode eX8_text.2.1 114 = .ok (.dup2, 1) := by decide +kernel
theorem dX8_text_115 : decode eX8_text.2.1 115 = .ok (.iaload, 1) := by decide +kernel
theorem dX8_text_116 : decode eX8_text.2.1 116 = .ok (.iconst 1, 1) := by decide +kernel
theorem dX8_text_117 : decode eX8_text.2.1 117 = .ok (.iadd, 1) := by decide +kernel
theorem dX8_text_118 : decode eX8_text.2.1 118 = .ok (.iastore, 1) := by decide +kernel
theorem dX8_text_119 : decode eX8_text.2.1 119 = .ok (.aload_n 0, 1) := by decide +kernel
theorem dX8_text_120 : decode eX8_text.2.1 120 = .ok (.iconst 0, 1) := by decide +kernel
theorem dX8_text_121 : decode eX8_text.2.1 121 = .ok (.putfield 67, 3) := by decide +kernel
theorem dX8_text_124 : decode eX8_text.2.1 124 = .ok (.aload_n 0, 1) := by decide +kernel
theorem dX8_text_125 : decode eX8_text.2.1 125 = .ok (.getfield 7, 3) := by decide +kernel
theorem dX8_text_128 : decode eX8_text.2.1 128 = .ok (.bipush 6, 2) := by decide +kernel
theorem dX8_text_130 : decode eX8_text.2.1 130 = .ok (.iaload, 1) := by decide +kernel
theorem dX8_text_131 : decode eX8_text.2.1 131 = .ok (.iconst 1, 1) := by decide +kernel
theorem dX8_text_132 : decode eX8_text.2.1 132 = .ok (.isub, 1) := by decide +kernel
theorem dX8_text_133 : decode eX8_text.2.1 133 = .ok (.ireturn, 1) := by decide +kernel
theorem dX8_of_0 : decode eX8_of.2.1 0 = .ok (.aload_n 0, 1) := by decide +kernel
theorem dX8_of_1 : decode eX8_of.2.1 1 = .ok (.iload_n 1, 1) := by decide +kernel
theorem dX8_of_2 : decode eX8_of.2.1 2 = .ok (.invokevirtual 273, 3) := by decide +kernel
theorem dX8_of_5 : decode eX8_of.2.1 5 = .ok (.ifCond .eq 30, 3) := by decide +kernel
theorem dX8_of_8 : decode eX8_of.2.1 8 = .ok (.iload_n 2, 1) := by decide +kernel
theorem dX8_of_9 : decode eX8_of.2.1 9 = .ok (.i2l, 1) := by decide +kernel
theorem dX8_of_10 : decode eX8_of.2.1 10 = .ok (.lconst 0, 1) := by decide +kernel
theorem dX8_of_11 : decode eX8_of.2.1 11 = .ok (.ldc2_w 276, 3) := by decide +kernel
theorem dX8_of_14 : decode eX8_of.2.1 14 = .ok (.invokestatic 71, 3) := by decide +kernel
theorem dX8_of_17 : decode eX8_of.2.1 17 = .ok (.ifCond .eq 18, 3) := by decide +kernel
theorem dX8_of_20 : decode eX8_of.2.1 20 = .ok (.aload_n 0, 1) := by decide +kernel
theorem dX8_of_21 : decode eX8_of.2.1 21 = .ok (.getfield 7, 3) := by decide +kernel
theorem dX8_of_24 : decode eX8_of.2.1 24 = .ok (.aload_n 0, 1) := by decide +kernel
theorem dX8_of_25 : decode eX8_of.2.1 25 = .ok (.iload_n 1, 1) := by decide +kernel
theorem dX8_of_26 : decode eX8_of.2.1 26 = .ok (.invokevirtual 262, 3) := by decide +kernel
theorem dX8_of_29 : decode eX8_of.2.1 29 = .ok (.iload_n 2, 1) := by decide +kernel
theorem dX8_of_30 : decode eX8_of.2.1 30 = .ok (.iadd, 1) := by decide +kernel
theorem dX8_of_31 : decode eX8_of.2.1 31 = .ok (.iaload, 1) := by decide +kernel
theorem dX8_of_32 : decode eX8_of.2.1 32 = .ok (.goto 5, 3) := by decide +kernel
theorem dX8_of_35 : decode eX8_of.2.1 35 = .ok (.ldc 91, 2) := by decide +kernel
theorem dX8_of_37 : decode eX8_of.2.1 37 = .ok (.ireturn, 1) := by decide +kernel
theorem dX8_counts_0 : decode eX8_counts.2.1 0 = .ok (.iconst (-1), 1) := by decide +kernel
theorem dX8_counts_1 : decode eX8_counts.2.1 1 = .ok (.istore_n 2, 1) := by decide +kernel
theorem dX8_counts_2 : decode eX8_counts.2.1 2 = .ok (.iconst 0, 1) := by decide +kernel
theorem dX8_counts_3 : decode eX8_counts.2.1 3 = .ok (.istore_n 3, 1) := by decide +kernel
theorem dX8_counts_4 : decode eX8_counts.2.1 4 = .ok (.iload_n 3, 1) := by decide +kernel
theorem dX8_counts_5 : decode eX8_counts.2.1 5 = .ok (.aload_n 0, 1) := by decide +kernel
theorem dX8_counts_6 : decode eX8_counts.2.1 6 = .ok (.getfield 7, 3) := by decide +kernel
theorem dX8_counts_9 : decode eX8_counts.2.1 9 = .ok (.bipush 6, 2) := by decide +kernel
theorem dX8_counts_11 : decode eX8_counts.2.1 11 = .ok (.iaload, 1) := by decide +kernel
theorem dX8_counts_12 : decode eX8_counts.2.1 12 = .ok (.if_icmp .ge 95, 3) := by decide +kernel
theorem dX8_counts_15 : decode eX8_counts.2.1 15 = .ok (.aload_n 0, 1) := by decide +kernel
theorem dX8_counts_16 : decode eX8_counts.2.1 16 = .ok (.getfield 7, 3) := by decide +kernel
theorem dX8_counts_19 : decode eX8_counts.2.1 19 = .ok (.aload_n 0, 1) := by decide +kernel
theorem dX8_counts_20 : decode eX8_counts.2.1 20 = .ok (.iload_n 3, 1) := by decide +kernel
theorem dX8_counts_21 : decode eX8_counts.2.1 21 = .ok (.invokevirtual 262, 3) := by decide +kernel
theorem dX8_counts_24 : decode eX8_counts.2.1 24 = .ok (.iconst 0, 1) := by decide +kernel
theorem dX8_counts_25 : decode eX8_counts.2.1 25 = .ok (.iadd, 1) := by decide +kernel
theorem dX8_counts_26 : decode eX8_counts.2.1 26 = .ok (.iaload, 1) := by decide +kernel
theorem dX8_counts_27 : decode eX8_counts.2.1 27 = .ok (.iload_n 1, 1) := by decide +kernel
theorem dX8_counts_28 : decode eX8_counts.2.1 28 = .ok (.if_icmp .ne 28, 3) := by decide +kernel
theorem dX8_counts_31 : decode eX8_counts.2.1 31 = .ok (.aload_n 0, 1) := by decide +kernel
theorem dX8_counts_32 : decode eX8_counts.2.1 32 = .ok (.getfield 7, 3) := by decide +kernel
theorem dX8_counts_35 : decode eX8_counts.2.1 35 = .ok (.aload_n 0, 1) := by decide +kernel
theorem dX8_counts_36 : decode eX8_counts.2.1 36 = .ok (.iload_n 3, 1) := by decide +kernel
theorem dX8_counts_37 : decode eX8_counts.2.1 37 = .ok (.invokevirtual 262, 3) := by decide +kernel
theorem dX8_counts_40 : decode eX8_counts.2.1 40 = .ok (.iconst 1, 1) := by decide +kernel
theorem dX8_counts_41 : decode eX8_counts.2.1 41 = .ok (.iadd, 1) := by decide +kernel
theorem dX8_counts_42 : decode eX8_counts.2.1 42 = .ok (.iaload, 1) := by decide +kernel
theorem dX8_counts_43 : decode eX8_counts.2.1 43 = .ok (.aload_n 0, 1) := by decide +kernel
theorem dX8_counts_44 : decode eX8_counts.2.1 44 = .ok (.getfield 7, 3) := by decide +kernel
theorem dX8_counts_47 : decode eX8_counts.2.1 47 = .ok (.iconst 1, 1) := by decide +kernel
theorem dX8_counts_48 : decode eX8_counts.2.1 48 = .ok (.iaload, 1) := by decide +kernel
theorem dX8_counts_49 : decode eX8_counts.2.1 49 = .ok (.if_icmp .gt 7, 3) := by decide +kernel
theorem dX8_counts_52 : decode eX8_counts.2.1 52 = .ok (.iconst 1, 1) := by decide +kernel
theorem dX8_counts_53 : decode eX8_counts.2.1 53 = .ok (.goto 4, 3) := by decide +kernel
theorem dX8_counts_56 : decode eX8_counts.2.1 56 = .ok (.iconst 0, 1) := by decide +kernel
theorem dX8_counts_57 : decode eX8_counts.2.1 57 = .ok (.istore 4, 2) := by decide +kernel
theorem dX8_counts_59 : decode eX8_counts.2.1 59 = .ok (.iload 4, 2) := by decide +kernel
theorem dX8_counts_61 : decode eX8_counts.2.1 61 = .ok (.ifCond .eq 38, 3) := by decide +kernel
theorem dX8_counts_64 : decode eX8_counts.2.1 64 = .ok (.iload_n 2, 1) := by decide +kernel
theorem dX8_counts_65 : decode eX8_counts.2.1 65 = .ok (.ifCond .lt 30, 3) := by decide +kernel
theorem dX8_counts_68 : decode eX8_counts.2.1 68 = .ok (.aload_n 0, 1) := by decide +kernel
theorem dX8_counts_69 : decode eX8_counts.2.1 69 = .ok (.getfield 7, 3) := by decide +kernel
theorem dX8_counts_72 : decode eX8_counts.2.1 72 = .ok (.aload_n 0, 1) := by decide +kernel
theorem dX8_counts_73 : decode eX8_counts.2.1 73 = .ok (.iload_n 3, 1) := by decide +kernel
theorem dX8_counts_74 : decode eX8_counts.2.1 74 = .ok (.invokevirtual 262, 3) := by decide +kernel
theorem dX8_counts_77 : decode eX8_counts.2.1 77 = .ok (.iconst 1, 1) := by decide +kernel
theorem dX8_counts_78 : decode eX8_counts.2.1 78 = .ok (.iadd, 1) := by decide +kernel
theorem dX8_counts_79 : decode eX8_counts.2.1 79 = .ok (.iaload, 1) := by decide +kernel
theorem dX8_counts_80 : decode eX8_counts.2.1 80 = .ok (.aload_n 0, 1) := by decide +kernel
theorem dX8_counts_81 : decode eX8_counts.2.1 81 = .ok (.getfield 7, 3) := by decide +kernel
theorem dX8_counts_84 : decode eX8_counts.2.1 84 = .ok (.aload_n 0, 1) := by decide +kernel
theorem dX8_counts_85 : decode eX8_counts.2.1 85 = .ok (.iload_n 2, 1) := by decide +kernel
theorem dX8_counts_86 : decode eX8_counts.2.1 86 = .ok (.invokevirtual 262, 3) := by decide +kernel
theorem dX8_counts_89 : decode eX8_counts.2.1 89 = .ok (.iconst 1, 1) := by decide +kernel
theorem dX8_counts_90 : decode eX8_counts.2.1 90 = .ok (.iadd, 1) := by decide +kernel
theorem dX8_counts_91 : decode eX8_counts.2.1 91 = .ok (.iaload, 1) := by decide +kernel
theorem dX8_counts_92 : decode eX8_counts.2.1 92 = .ok (.if_icmp .lt 7, 3) := by decide +kernel
theorem dX8_counts_95 : decode eX8_counts.2.1 95 = .ok (.iload_n 3, 1) := by decide +kernel
theorem dX8_counts_96 : decode eX8_counts.2.1 96 = .ok (.goto 4, 3) := by decide +kernel
theorem dX8_counts_99 : decode eX8_counts.2.1 99 = .ok (.iload_n 2, 1) := by decide +kernel
theorem dX8_counts_100 : decode eX8_counts.2.1 100 = .ok (.istore_n 2, 1) := by decide +kernel
theorem dX8_counts_101 : decode eX8_counts.2.1 101 = .ok (.iinc 3 1, 3) := by decide +kernel
theorem dX8_counts_104 : decode eX8_counts.2.1 104 = .ok (.goto (-100), 3) := by decide +kernel
theorem dX8_counts_107 : decode eX8_counts.2.1 107 = .ok (.iload_n 2, 1) := by decide +kernel
theorem dX8_counts_108 : decode eX8_counts.2.1 108 = .ok (.ireturn, 1) := by decide +kernel
theorem dX8_why_0 : decode eX8_why.2.1 0 = .ok (.iload_n 1, 1) := by decide +kernel
theorem dX8_why_1 : decode eX8_why.2.1 1 = .ok (.i2l, 1) := by decide +kernel
theorem dX8_why_2 : decode eX8_why.2.1 2 = .ok (.lconst 0, 1) := by decide +kernel
theorem dX8_why_3 : decode eX8_why.2.1 3 = .ok (.ldc2_w 278, 3) := by decide +kernel
theorem dX8_why_6 : decode eX8_why.2.1 6 = .ok (.invokestatic 71, 3) := by decide +kernel
theorem dX8_why_9 : decode eX8_why.2.1 9 = .ok (.ifCond .eq 14, 3) := by decide +kernel
theorem dX8_why_12 : decode eX8_why.2.1 12 = .ok (.aload_n 0, 1) := by decide +kernel
theorem dX8_why_13 : decode eX8_why.2.1 13 = .ok (.iload_n 1, 1) := by decide +kernel
theorem dX8_why_14 : decode eX8_why.2.1 14 = .ok (.invokevirtual 280, 3) := by decide +kernel
theorem dX8_why_17 : decode eX8_why.2.1 17 = .ok (.invokestatic 133, 3) := by decide +kernel
theorem dX8_why_20 : decode eX8_why.2.1 20 = .ok (.goto 5, 3) := by decide +kernel
theorem dX8_why_23 : decode eX8_why.2.1 23 = .ok (.ldc 91, 2) := by decide +kernel
theorem dX8_why_25 : decode eX8_why.2.1 25 = .ok (.ireturn, 1) := by decide +kernel
theorem dX8_joined_0 : decode eX8_joined.2.1 0 = .ok (.iload_n 0, 1) := by decide +kernel
theorem dX8_joined_1 : decode eX8_joined.2.1 1 = .ok (.tableswitch 196 38 62 #[182, 196, 196, 196, 123, 115, 196, 119, 196, 127, 196, 196, 196, 196, 196, 196, 196, 196, 196, 196, 196, 196, 149, 171, 160], 115) := by decide +kernel
theorem dX8_joined_116 : decode eX8_joined.2.1 116 = .ok (.iload_n 1, 1) := by decide +kernel
theorem dX8_joined_117 : decode eX8_joined.2.1 117 = .ok (.iload_n 2, 1) := by decide +kernel
theorem dX8_joined_118 : decode eX8_joined.2.1 118 = .ok (.iadd, 1) := by decide +kernel
theorem dX8_joined_119 : decode eX8_joined.2.1 119 = .ok (.ireturn, 1) := by decide +kernel
theorem dX8_joined_120 : decode eX8_joined.2.1 120 = .ok (.iload_n 1, 1) := by decide +kernel
theorem dX8_joined_121 : decode eX8_joined.2.1 121 = .ok (.iload_n 2, 1) := by decide +kernel
theorem dX8_joined_122 : decode eX8_joined.2.1 122 = .ok (.isub, 1) := by decide +kernel
theorem dX8_joined_123 : decode eX8_joined.2.1 123 = .ok (.ireturn, 1) := by decide +kernel
theorem dX8_joined_124 : decode eX8_joined.2.1 124 = .ok (.iload_n 1, 1) := by decide +kernel
theorem dX8_joined_125 : decode eX8_joined.2.1 125 = .ok (.iload_n 2, 1) := by decide +kernel
theorem dX8_joined_126 : decode eX8_joined.2.1 126 = .ok (.imul, 1) := by decide +kernel
theorem dX8_joined_127 : decode eX8_joined.2.1 127 = .ok (.ireturn, 1) := by decide +kernel
theorem dX8_joined_128 : decode eX8_joined.2.1 128 = .ok (.iload_n 2, 1) := by decide +kernel
theorem dX8_joined_129 : decode eX8_joined.2.1 129 = .ok (.ifCond .ne 7, 3) := by decide +kernel
theorem dX8_joined_132 : decode eX8_joined.2.1 132 = .ok (.iconst 0, 1) := by decide +kernel
theorem dX8_joined_133 : decode eX8_joined.2.1 133 = .ok (.goto 16, 3) := by decide +kernel
theorem dX8_joined_136 : decode eX8_joined.2.1 136 = .ok (.iload_n 2, 1) := by decide +kernel
theorem dX8_joined_137 : decode eX8_joined.2.1 137 = .ok (.iconst (-1), 1) := by decide +kernel
theorem dX8_joined_138 : decode eX8_joined.2.1 138 = .ok (.if_icmp .ne 8, 3) := by decide +kernel
theorem dX8_joined_141 : decode eX8_joined.2.1 141 = .ok (.iload_n 1, 1) := by decide +kernel
theorem dX8_joined_142 : decode eX8_joined.2.1 142 = .ok (.ineg, 1) := by decide +kernel
theorem dX8_joined_143 : decode eX8_joined.2.1 143 = .ok (.goto 6, 3) := by decide +kernel
theorem dX8_joined_146 : decode eX8_joined.2.1 146 = .ok (.iload_n 1, 1) := by decide +kernel
theorem dX8_joined_147 : decode eX8_joined.2.1 147 = .ok (.iload_n 2, 1) := by decide +kernel
theorem dX8_joined_148 : decode eX8_joined.2.1 148 = .ok (.idiv, 1) := by decide +kernel
theorem dX8_joined_149 : decode eX8_joined.2.1 149 = .ok (.ireturn, 1) := by decide +kernel
theorem dX8_joined_150 : decode eX8_joined.2.1 150 = .ok (.iload_n 1, 1) := by decide +kernel
theorem dX8_joined_151 : decode eX8_joined.2.1 151 = .ok (.iload_n 2, 1) := by decide +kernel
theorem dX8_joined_152 : decode eX8_joined.2.1 152 = .ok (.if_icmp .ge 7, 3) := by decide +kernel
theorem dX8_joined_155 : decode eX8_joined.2.1 155 = .ok (.iconst 1, 1) := by decide +kernel
theorem dX8_joined_156 : decode eX8_joined.2.1 156 = .ok (.goto 4, 3) := by decide +kernel
theorem dX8_joined_159 : decode eX8_joined.2.1 159 = .ok (.iconst 0, 1) := by decide +kernel
theorem dX8_joined_160 : decode eX8_joined.2.1 160 = .ok (.ireturn, 1) := by decide +kernel
theorem dX8_joined_161 : decode eX8_joined.2.1 161 = .ok (.iload_n 1, 1) := by decide +kernel
theorem dX8_joined_162 : decode eX8_joined.2.1 162 = .ok (.iload_n 2, 1) := by decide +kernel
theorem dX8_joined_163 : decode eX8_joined.2.1 163 = .ok (.if_icmp .le 7, 3) := by decide +kernel
theorem dX8_joined_166 : decode eX8_joined.2.1 166 = .ok (.iconst 1, 1) := by decide +kernel
theorem dX8_joined_167 : decode eX8_joined.2.1 167 = .ok (.goto 4, 3) := by decide +kernel
theorem dX8_joined_170 : decode eX8_joined.2.1 170 = .ok (.iconst 0, 1) := by decide +kernel
theorem dX8_joined_171 : decode eX8_joined.2.1 171 = .ok (.ireturn, 1) := by decide +kernel
theorem dX8_joined_172 : decode eX8_joined.2.1 172 = .ok (.iload_n 1, 1) := by decide +kernel
theorem dX8_joined_173 : decode eX8_joined.2.1 173 = .ok (.iload_n 2, 1) := by decide +kernel
theorem dX8_joined_174 : decode eX8_joined.2.1 174 = .ok (.if_icmp .ne 7, 3) := by decide +kernel
theorem dX8_joined_177 : decode eX8_joined.2.1 177 = .ok (.iconst 1, 1) := by decide +kernel
theorem dX8_joined_178 : decode eX8_joined.2.1 178 = .ok (.goto 4, 3) := by decide +kernel
theorem dX8_joined_181 : decode eX8_joined.2.1 181 = .ok (.iconst 0, 1) := by decide +kernel
theorem dX8_joined_182 : decode eX8_joined.2.1 182 = .ok (.ireturn, 1) := by decide +kernel
theorem dX8_joined_183 : decode eX8_joined.2.1 183 = .ok (.iload_n 1, 1) := by decide +kernel
theorem dX8_joined_184 : decode eX8_joined.2.1 184 = .ok (.ifCond .eq 11, 3) := by decide +kernel
theorem dX8_joined_187 : decode eX8_joined.2.1 187 = .ok (.iload_n 2, 1) := by decide +kernel
theorem dX8_joined_188 : decode eX8_joined.2.1 188 = .ok (.ifCond .eq 7, 3) := by decide +kernel
theorem dX8_joined_191 : decode eX8_joined.2.1 191 = .ok (.iconst 1, 1) := by decide +kernel
theorem dX8_joined_192 : decode eX8_joined.2.1 192 = .ok (.goto 4, 3) := by decide +kernel
theorem dX8_joined_195 : decode eX8_joined.2.1 195 = .ok (.iconst 0, 1) := by decide +kernel
theorem dX8_joined_196 : decode eX8_joined.2.1 196 = .ok (.ireturn, 1) := by decide +kernel
theorem dX8_joined_197 : decode eX8_joined.2.1 197 = .ok (.iload_n 1, 1) := by decide +kernel
theorem dX8_joined_198 : decode eX8_joined.2.1 198 = .ok (.ifCond .ne 7, 3) := by decide +kernel
theorem dX8_joined_201 : decode eX8_joined.2.1 201 = .ok (.iload_n 2, 1) := by decide +kernel
theorem dX8_joined_202 : decode eX8_joined.2.1 202 = .ok (.ifCond .eq 7, 3) := by decide +kernel
theorem dX8_joined_205 : decode eX8_joined.2.1 205 = .ok (.iconst 1, 1) := by decide +kernel
theorem dX8_joined_206 : decode eX8_joined.2.1 206 = .ok (.goto 4, 3) := by decide +kernel
theorem dX8_joined_209 : decode eX8_joined.2.1 209 = .ok (.iconst 0, 1) := by decide +kernel
theorem dX8_joined_210 : decode eX8_joined.2.1 210 = .ok (.ireturn, 1) := by decide +kernel
theorem dX8_worked_0 : decode eX8_worked.2.1 0 = .ok (.iconst 0, 1) := by decide +kernel
theorem dX8_worked_1 : decode eX8_worked.2.1 1 = .ok (.istore_n 2, 1) := by decide +kernel
theorem dX8_worked_2 : decode eX8_worked.2.1 2 = .ok (.iconst 0, 1) := by decide +kernel
theorem dX8_worked_3 : decode eX8_worked.2.1 3 = .ok (.istore_n 3, 1) := by decide +kernel
theorem dX8_worked_4 : decode eX8_worked.2.1 4 = .ok (.iload_n 3, 1) := by decide +kernel
theorem dX8_worked_5 : decode eX8_worked.2.1 5 = .ok (.aload_n 0, 1) := by decide +kernel
theorem dX8_worked_6 : decode eX8_worked.2.1 6 = .ok (.getfield 7, 3) := by decide +kernel
theorem dX8_worked_9 : decode eX8_worked.2.1 9 = .ok (.aload_n 0, 1) := by decide +kernel
theorem dX8_worked_10 : decode eX8_worked.2.1 10 = .ok (.iload_n 1, 1) := by decide +kernel
theorem dX8_worked_11 : decode eX8_worked.2.1 11 = .ok (.invokevirtual 262, 3) := by decide +kernel
theorem dX8_worked_14 : decode eX8_worked.2.1 14 = .ok (.iconst 3, 1) := by decide +kernel
theorem dX8_worked_15 : decode eX8_worked.2.1 15 = .ok (.iadd, 1) := by decide +kernel
theorem dX8_worked_16 : decode eX8_worked.2.1 16 = .ok (.iaload, 1) := by decide +kernel
theorem dX8_worked_17 : decode eX8_worked.2.1 17 = .ok (.if_icmp .ge 146, 3) := by decide +kernel
theorem dX8_worked_20 : decode eX8_worked.2.1 20 = .ok (.aload_n 0, 1) := by decide +kernel
theorem dX8_worked_21 : decode eX8_worked.2.1 21 = .ok (.getfield 7, 3) := by decide +kernel
theorem dX8_worked_24 : decode eX8_worked.2.1 24 = .ok (.aload_n 0, 1) := by decide +kernel
theorem dX8_worked_25 : decode eX8_worked.2.1 25 = .ok (.iload_n 1, 1) := by decide +kernel
theorem dX8_worked_26 : decode eX8_worked.2.1 26 = .ok (.invokevirtual 262, 3) := by decide +kernel
theorem dX8_worked_29 : decode eX8_worked.2.1 29 = .ok (.iconst 4, 1) := by decide +kernel
theorem dX8_worked_30 : decode eX8_worked.2.1 30 = .ok (.iadd, 1) := by decide +kernel
theorem dX8_worked_31 : decode eX8_worked.2.1 31 = .ok (.iconst 2, 1) := by decide +kernel
theorem dX8_worked_32 : decode eX8_worked.2.1 32 = .ok (.iload_n 3, 1) := by decide +kernel
theorem dX8_worked_33 : decode eX8_worked.2.1 33 = .ok (.imul, 1) := by decide +kernel
theorem dX8_worked_34 : decode eX8_worked.2.1 34 = .ok (.iadd, 1) := by decide +kernel
theorem dX8_worked_35 : decode eX8_worked.2.1 35 = .ok (.iaload, 1) := by decide +kernel
theorem dX8_worked_36 : decode eX8_worked.2.1 36 = .ok (.istore 4, 2) := by decide +kernel
theorem dX8_worked_38 : decode eX8_worked.2.1 38 = .ok (.aload_n 0, 1) := by decide +kernel
theorem dX8_worked_39 : decode eX8_worked.2.1 39 = .ok (.getfield 7, 3) := by decide +kernel
theorem dX8_worked_42 : decode eX8_worked.2.1 42 = .ok (.aload_n 0, 1) := by decide +kernel
theorem dX8_worked_43 : decode eX8_worked.2.1 43 = .ok (.iload_n 1, 1) := by decide +kernel
theorem dX8_worked_44 : decode eX8_worked.2.1 44 = .ok (.invokevirtual 262, 3) := by decide +kernel
theorem dX8_worked_47 : decode eX8_worked.2.1 47 = .ok (.iconst 4, 1) := by decide +kernel
theorem dX8_worked_48 : decode eX8_worked.2.1 48 = .ok (.iadd, 1) := by decide +kernel
theorem dX8_worked_49 : decode eX8_worked.2.1 49 = .ok (.iconst 2, 1) := by decide +kernel
theorem dX8_worked_50 : decode eX8_worked.2.1 50 = .ok (.iload_n 3, 1) := by decide +kernel
theorem dX8_worked_51 : decode eX8_worked.2.1 51 = .ok (.imul, 1) := by decide +kernel
theorem dX8_worked_52 : decode eX8_worked.2.1 52 = .ok (.iadd, 1) := by decide +kernel
theorem dX8_worked_53 : decode eX8_worked.2.1 53 = .ok (.iconst 1, 1) := by decide +kernel
theorem dX8_worked_54 : decode eX8_worked.2.1 54 = .ok (.iadd, 1) := by decide +kernel
theorem dX8_worked_55 : decode eX8_worked.2.1 55 = .ok (.iaload, 1) := by decide +kernel
theorem dX8_worked_56 : decode eX8_worked.2.1 56 = .ok (.istore 5, 2) := by decide +kernel
theorem dX8_worked_58 : decode eX8_worked.2.1 58 = .ok (.iload 4, 2) := by decide +kernel
theorem dX8_worked_60 : decode eX8_worked.2.1 60 = .ok (.iconst 2, 1) := by decide +kernel
theorem dX8_worked_61 : decode eX8_worked.2.1 61 = .ok (.if_icmp .eq 32, 3) := by decide +kernel
theorem dX8_worked_64 : decode eX8_worked.2.1 64 = .ok (.aload_n 0, 1) := by decide +kernel
theorem dX8_worked_65 : decode eX8_worked.2.1 65 = .ok (.getfield 43, 3) := by decide +kernel
theorem dX8_worked_68 : decode eX8_worked.2.1 68 = .ok (.iload_n 2, 1) := by decide +kernel
theorem dX8_worked_69 : decode eX8_worked.2.1 69 = .ok (.iload 4, 2) := by decide +kernel
theorem dX8_worked_71 : decode eX8_worked.2.1 71 = .ok (.ifCond .ne 8, 3) := by decide +kernel
theorem dX8_worked_74 : decode eX8_worked.2.1 74 = .ok (.iload 5, 2) := by decide +kernel
theorem dX8_worked_76 : decode eX8_worked.2.1 76 = .ok (.goto 10, 3) := by decide +kernel
theorem dX8_worked_79 : decode eX8_worked.2.1 79 = .ok (.aload_n 0, 1) := by decide +kernel
theorem dX8_worked_80 : decode eX8_worked.2.1 80 = .ok (.getfield 40, 3) := by decide +kernel
theorem dX8_worked_83 : decode eX8_worked.2.1 83 = .ok (.iload 5, 2) := by decide +kernel
theorem dX8_worked_85 : decode eX8_worked.2.1 85 = .ok (.iaload, 1) := by decide +kernel
theorem dX8_worked_86 : decode eX8_worked.2.1 86 = .ok (.iastore, 1) := by decide +kernel
theorem dX8_worked_87 : decode eX8_worked.2.1 87 = .ok (.iinc 2 1, 3) := by decide +kernel
theorem dX8_worked_90 : decode eX8_worked.2.1 90 = .ok (.goto 67, 3) := by decide +kernel
theorem dX8_worked_93 : decode eX8_worked.2.1 93 = .ok (.iload 5, 2) := by decide +kernel
theorem dX8_worked_95 : decode eX8_worked.2.1 95 = .ok (.bipush 33, 2) := by decide +kernel
theorem dX8_worked_97 : decode eX8_worked.2.1 97 = .ok (.if_icmp .ne 30, 3) := by decide +kernel
theorem dX8_worked_100 : decode eX8_worked.2.1 100 = .ok (.aload_n 0, 1) := by decide +kernel
theorem dX8_worked_101 : decode eX8_worked.2.1 101 = .ok (.getfield 43, 3) := by decide +kernel
theorem dX8_worked_104 : decode eX8_worked.2.1 104 = .ok (.iload_n 2, 1) := by decide +kernel
theorem dX8_worked_105 : decode eX8_worked.2.1 105 = .ok (.iconst 1, 1) := by decide +kernel
theorem dX8_worked_106 : decode eX8_worked.2.1 106 = .ok (.isub, 1) := by decide +kernel
theorem dX8_worked_107 : decode eX8_worked.2.1 107 = .ok (.aload_n 0, 1) := by decide +kernel
theorem dX8_worked_108 : decode eX8_worked.2.1 108 = .ok (.getfield 43, 3) := by decide +kernel
theorem dX8_worked_111 : decode eX8_worked.2.1 111 = .ok (.iload_n 2, 1) := by decide +kernel
theorem dX8_worked_112 : decode eX8_worked.2.1 112 = .ok (.iconst 1, 1) := by decide +kernel
theorem dX8_worked_113 : decode eX8_worked.2.1 113 = .ok (.isub, 1) := by decide +kernel
theorem dX8_worked_114 : decode eX8_worked.2.1 114 = .ok (.iaload, 1) := by decide +kernel
theorem dX8_worked_115 : decode eX8_worked.2.1 115 = .ok (.ifCond .ne 7, 3) := by decide +kernel
theorem dX8_worked_118 : decode eX8_worked.2.1 118 = .ok (.iconst 1, 1) := by decide +kernel
theorem dX8_worked_119 : decode eX8_worked.2.1 119 = .ok (.goto 4, 3) := by decide +kernel
theorem dX8_worked_122 : decode eX8_worked.2.1 122 = .ok (.iconst 0, 1) := by decide +kernel
theorem dX8_worked_123 : decode eX8_worked.2.1 123 = .ok (.iastore, 1) := by decide +kernel
theorem dX8_worked_124 : decode eX8_worked.2.1 124 = .ok (.goto 33, 3) := by decide +kernel
theorem dX8_worked_127 : decode eX8_worked.2.1 127 = .ok (.iinc 2 (-1), 3) := by decide +kernel
theorem dX8_worked_130 : decode eX8_worked.2.1 130 = .ok (.aload_n 0, 1) := by decide +kernel
theorem dX8_worked_131 : decode eX8_worked.2.1 131 = .ok (.getfield 43, 3) := by decide +kernel
theorem dX8_worked_134 : decode eX8_worked.2.1 134 = .ok (.iload_n 2, 1) := by decide +kernel
theorem dX8_worked_135 : decode eX8_worked.2.1 135 = .ok (.iconst 1, 1) := by decide +kernel
theorem dX8_worked_136 : decode eX8_worked.2.1 136 = .ok (.isub, 1) := by decide +kernel
theorem dX8_worked_137 : decode eX8_worked.2.1 137 = .ok (.iload 5, 2) := by decide +kernel
theorem dX8_worked_139 : decode eX8_worked.2.1 139 = .ok (.aload_n 0, 1) := by decide +kernel
theorem dX8_worked_140 : decode eX8_worked.2.1 140 = .ok (.getfield 43, 3) := by decide +kernel
theorem dX8_worked_143 : decode eX8_worked.2.1 143 = .ok (.iload_n 2, 1) := by decide +kernel
theorem dX8_worked_144 : decode eX8_worked.2.1 144 = .ok (.iconst 1, 1) := by decide +kernel
theorem dX8_worked_145 : decode eX8_worked.2.1 145 = .ok (.isub, 1) := by decide +kernel
theorem dX8_worked_146 : decode eX8_worked.2.1 146 = .ok (.iaload, 1) := by decide +kernel
theorem dX8_worked_147 : decode eX8_worked.2.1 147 = .ok (.aload_n 0, 1) := by decide +kernel
theorem dX8_worked_148 : decode eX8_worked.2.1 148 = .ok (.getfield 43, 3) := by decide +kernel
theorem dX8_worked_151 : decode eX8_worked.2.1 151 = .ok (.iload_n 2, 1) := by decide +kernel
theorem dX8_worked_152 : decode eX8_worked.2.1 152 = .ok (.iaload, 1) := by decide +kernel
theorem dX8_worked_153 : decode eX8_worked.2.1 153 = .ok (.invokestatic 283, 3) := by decide +kernel
theorem dX8_worked_156 : decode eX8_worked.2.1 156 = .ok (.iastore, 1) := by decide +kernel
theorem dX8_worked_157 : decode eX8_worked.2.1 157 = .ok (.iinc 3 1, 3) := by decide +kernel
theorem dX8_worked_160 : decode eX8_worked.2.1 160 = .ok (.goto (-156), 3) := by decide +kernel
theorem dX8_worked_163 : decode eX8_worked.2.1 163 = .ok (.aload_n 0, 1) := by decide +kernel
theorem dX8_worked_164 : decode eX8_worked.2.1 164 = .ok (.getfield 43, 3) := by decide +kernel
theorem dX8_worked_167 : decode eX8_worked.2.1 167 = .ok (.iconst 0, 1) := by decide +kernel
theorem dX8_worked_168 : decode eX8_worked.2.1 168 = .ok (.iaload, 1) := by decide +kernel
theorem dX8_worked_169 : decode eX8_worked.2.1 169 = .ok (.ireturn, 1) := by decide +kernel
theorem dX8_nameAll_0 : decode eX8_nameAll.2.1 0 = .ok (.aload_n 0, 1) := by decide +kernel
theorem dX8_nameAll_1 : decode eX8_nameAll.2.1 1 = .ok (.getfield 40, 3) := by decide +kernel
theorem dX8_nameAll_4 : decode eX8_nameAll.2.1 4 = .ok (.iload_n 1, 1) := by decide +kernel
theorem dX8_nameAll_5 : decode eX8_nameAll.2.1 5 = .ok (.bipush 6, 2) := by decide +kernel
theorem dX8_nameAll_7 : decode eX8_nameAll.2.1 7 = .ok (.if_icmp .ne 8, 3) := by decide +kernel
theorem dX8_nameAll_10 : decode eX8_nameAll.2.1 10 = .ok (.bipush 100, 2) := by decide +kernel
theorem dX8_nameAll_12 : decode eX8_nameAll.2.1 12 = .ok (.goto 5, 3) := by decide +kernel
theorem dX8_nameAll_15 : decode eX8_nameAll.2.1 15 = .ok (.bipush 108, 2) := by decide +kernel
theorem dX8_nameAll_17 : decode eX8_nameAll.2.1 17 = .ok (.iload_n 2, 1) := by decide +kernel
theorem dX8_nameAll_18 : decode eX8_nameAll.2.1 18 = .ok (.iastore, 1) := by decide +kernel
theorem dX8_nameAll_19 : decode eX8_nameAll.2.1 19 = .ok (.aload_n 0, 1) := by decide +kernel
theorem dX8_nameAll_20 : decode eX8_nameAll.2.1 20 = .ok (.getfield 40, 3) := by decide +kernel
theorem dX8_nameAll_23 : decode eX8_nameAll.2.1 23 = .ok (.iload_n 1, 1) := by decide +kernel
theorem dX8_nameAll_24 : decode eX8_nameAll.2.1 24 = .ok (.bipush 6, 2) := by decide +kernel
theorem dX8_nameAll_26 : decode eX8_nameAll.2.1 26 = .ok (.if_icmp .ne 8, 3) := by decide +kernel
theorem dX8_nameAll_29 : decode eX8_nameAll.2.1 29 = .ok (.bipush 103, 2) := by decide +kernel
theorem dX8_nameAll_31 : decode eX8_nameAll.2.1 31 = .ok (.goto 5, 3) := by decide +kernel
theorem dX8_nameAll_34 : decode eX8_nameAll.2.1 34 = .ok (.bipush 114, 2) := by decide +kernel
theorem dX8_nameAll_36 : decode eX8_nameAll.2.1 36 = .ok (.iload_n 3, 1) := by decide +kernel
theorem dX8_nameAll_37 : decode eX8_nameAll.2.1 37 = .ok (.iastore, 1) := by decide +kernel
theorem dX8_nameAll_38 : decode eX8_nameAll.2.1 38 = .ok (.aload_n 0, 1) := by decide +kernel
theorem dX8_nameAll_39 : decode eX8_nameAll.2.1 39 = .ok (.getfield 40, 3) := by decide +kernel
theorem dX8_nameAll_42 : decode eX8_nameAll.2.1 42 = .ok (.iload_n 1, 1) := by decide +kernel
theorem dX8_nameAll_43 : decode eX8_nameAll.2.1 43 = .ok (.bipush 6, 2) := by decide +kernel
theorem dX8_nameAll_45 : decode eX8_nameAll.2.1 45 = .ok (.if_icmp .ne 8, 3) := by decide +kernel
theorem dX8_nameAll_48 : decode eX8_nameAll.2.1 48 = .ok (.bipush 109, 2) := by decide +kernel
theorem dX8_nameAll_50 : decode eX8_nameAll.2.1 50 = .ok (.goto 5, 3) := by decide +kernel
theorem dX8_nameAll_53 : decode eX8_nameAll.2.1 53 = .ok (.bipush 101, 2) := by decide +kernel
theorem dX8_nameAll_55 : decode eX8_nameAll.2.1 55 = .ok (.iload 4, 2) := by decide +kernel
theorem dX8_nameAll_57 : decode eX8_nameAll.2.1 57 = .ok (.iastore, 1) := by decide +kernel
theorem dX8_nameAll_58 : decode eX8_nameAll.2.1 58 = .ok (.aload_n 0, 1) := by decide +kernel
theorem dX8_nameAll_59 : decode eX8_nameAll.2.1 59 = .ok (.getfield 40, 3) := by decide +kernel
theorem dX8_nameAll_62 : decode eX8_nameAll.2.1 62 = .ok (.iload_n 1, 1) := by decide +kernel
theorem dX8_nameAll_63 : decode eX8_nameAll.2.1 63 = .ok (.bipush 6, 2) := by decide +kernel
theorem dX8_nameAll_65 : decode eX8_nameAll.2.1 65 = .ok (.if_icmp .ne 8, 3) := by decide +kernel
theorem dX8_nameAll_68 : decode eX8_nameAll.2.1 68 = .ok (.bipush 99, 2) := by decide +kernel
theorem dX8_nameAll_70 : decode eX8_nameAll.2.1 70 = .ok (.goto 5, 3) := by decide +kernel
theorem dX8_nameAll_73 : decode eX8_nameAll.2.1 73 = .ok (.bipush 98, 2) := by decide +kernel
theorem dX8_nameAll_75 : decode eX8_nameAll.2.1 75 = .ok (.iload 5, 2) := by decide +kernel
theorem dX8_nameAll_77 : decode eX8_nameAll.2.1 77 = .ok (.iastore, 1) := by decide +kernel
theorem dX8_nameAll_78 : decode eX8_nameAll.2.1 78 = .ok (.return_, 1) := by decide +kernel
theorem dX8_gives_0 : decode eX8_gives.2.1 0 = .ok (.iload_n 1, 1) := by decide +kernel
theorem dX8_gives_1 : decode eX8_gives.2.1 1 = .ok (.i2l, 1) := by decide +kernel
theorem dX8_gives_2 : decode eX8_gives.2.1 2 = .ok (.lconst 0, 1) := by decide +kernel
theorem dX8_gives_3 : decode eX8_gives.2.1 3 = .ok (.ldc2_w 278, 3) := by decide +kernel
theorem dX8_gives_6 : decode eX8_gives.2.1 6 = .ok (.invokestatic 71, 3) := by decide +kernel
theorem dX8_gives_9 : decode eX8_gives.2.1 9 = .ok (.ifCond .ne 6, 3) := by decide +kernel
theorem dX8_gives_12 : decode eX8_gives.2.1 12 = .ok (.ldc 91, 2) := by decide +kernel
theorem dX8_gives_14 : decode eX8_gives.2.1 14 = .ok (.ireturn, 1) := by decide +kernel
theorem dX8_gives_15 : decode eX8_gives.2.1 15 = .ok (.aload_n 0, 1) := by decide +kernel
theorem dX8_gives_16 : decode eX8_gives.2.1 16 = .ok (.iload_n 1, 1) := by decide +kernel
theorem dX8_gives_17 : decode eX8_gives.2.1 17 = .ok (.invokevirtual 280, 3) := by decide +kernel
theorem dX8_gives_20 : decode eX8_gives.2.1 20 = .ok (.istore 6, 2) := by decide +kernel
theorem dX8_gives_22 : decode eX8_gives.2.1 22 = .ok (.aload_n 0, 1) := by decide +kernel
theorem dX8_gives_23 : decode eX8_gives.2.1 23 = .ok (.iload_n 1, 1) := by decide +kernel
theorem dX8_gives_24 : decode eX8_gives.2.1 24 = .ok (.iload_n 2, 1) := by decide +kernel
theorem dX8_gives_25 : decode eX8_gives.2.1 25 = .ok (.iload_n 3, 1) := by decide +kernel
theorem dX8_gives_26 : decode eX8_gives.2.1 26 = .ok (.iload 4, 2) := by decide +kernel
theorem dX8_gives_28 : decode eX8_gives.2.1 28 = .ok (.iload 5, 2) := by decide +kernel
theorem dX8_gives_30 : decode eX8_gives.2.1 30 = .ok (.invokevirtual 287, 3) := by decide +kernel
theorem dX8_gives_33 : decode eX8_gives.2.1 33 = .ok (.iload 6, 2) := by decide +kernel
theorem dX8_gives_35 : decode eX8_gives.2.1 35 = .ok (.ifCond .ge 8, 3) := by decide +kernel
theorem dX8_gives_38 : decode eX8_gives.2.1 38 = .ok (.ldc 66, 2) := by decide +kernel
theorem dX8_gives_40 : decode eX8_gives.2.1 40 = .ok (.goto 9, 3) := by decide +kernel
theorem dX8_gives_43 : decode eX8_gives.2.1 43 = .ok (.aload_n 0, 1) := by decide +kernel
theorem dX8_gives_44 : decode eX8_gives.2.1 44 = .ok (.iload 6, 2) := by decide +kernel
theorem dX8_gives_46 : decode eX8_gives.2.1 46 = .ok (.invokevirtual 291, 3) := by decide +kernel
theorem dX8_gives_49 : decode eX8_gives.2.1 49 = .ok (.ireturn, 1) := by decide +kernel
theorem dX8_habit_0 : decode eX8_habit.2.1 0 = .ok (.iload_n 1, 1) := by decide +kernel
theorem dX8_habit_1 : decode eX8_habit.2.1 1 = .ok (.invokestatic 168, 3) := by decide +kernel
theorem dX8_habit_4 : decode eX8_habit.2.1 4 = .ok (.ifCond .ne 6, 3) := by decide +kernel
theorem dX8_habit_7 : decode eX8_habit.2.1 7 = .ok (.ldc 91, 2) := by decide +kernel
theorem dX8_habit_9 : decode eX8_habit.2.1 9 = .ok (.ireturn, 1) := by decide +kernel
theorem dX8_habit_10 : decode eX8_habit.2.1 10 = .ok (.aload_n 0, 1) := by decide +kernel
theorem dX8_habit_11 : decode eX8_habit.2.1 11 = .ok (.iconst 0, 1) := by decide +kernel
theorem dX8_habit_12 : decode eX8_habit.2.1 12 = .ok (.aload_n 0, 1) := by decide +kernel
theorem dX8_habit_13 : decode eX8_habit.2.1 13 = .ok (.iload_n 1, 1) := by decide +kernel
theorem dX8_habit_14 : decode eX8_habit.2.1 14 = .ok (.iconst 0, 1) := by decide +kernel
theorem dX8_habit_15 : decode eX8_habit.2.1 15 = .ok (.invokevirtual 177, 3) := by decide +kernel
theorem dX8_habit_18 : decode eX8_habit.2.1 18 = .ok (.aload_n 0, 1) := by decide +kernel
theorem dX8_habit_19 : decode eX8_habit.2.1 19 = .ok (.iload_n 1, 1) := by decide +kernel
theorem dX8_habit_20 : decode eX8_habit.2.1 20 = .ok (.iconst 1, 1) := by decide +kernel
theorem dX8_habit_21 : decode eX8_habit.2.1 21 = .ok (.invokevirtual 177, 3) := by decide +kernel
theorem dX8_habit_24 : decode eX8_habit.2.1 24 = .ok (.aload_n 0, 1) := by decide +kernel
theorem dX8_habit_25 : decode eX8_habit.2.1 25 = .ok (.iload_n 1, 1) := by decide +kernel
theorem dX8_habit_26 : decode eX8_habit.2.1 26 = .ok (.iconst 2, 1) := by decide +kernel
theorem dX8_habit_27 : decode eX8_habit.2.1 27 = .ok (.invokevirtual 177, 3) := by decide +kernel
theorem dX8_habit_30 : decode eX8_habit.2.1 30 = .ok (.aload_n 0, 1) := by decide +kernel
theorem dX8_habit_31 : decode eX8_habit.2.1 31 = .ok (.iload_n 1, 1) := by decide +kernel
theorem dX8_habit_32 : decode eX8_habit.2.1 32 = .ok (.iconst 3, 1) := by decide +kernel
theorem dX8_habit_33 : decode eX8_habit.2.1 33 = .ok (.invokevirtual 177, 3) := by decide +kernel
theorem dX8_habit_36 : decode eX8_habit.2.1 36 = .ok (.invokevirtual 287, 3) := by decide +kernel
theorem dX8_habit_39 : decode eX8_habit.2.1 39 = .ok (.iconst 0, 1) := by decide +kernel
theorem dX8_habit_40 : decode eX8_habit.2.1 40 = .ok (.istore_n 2, 1) := by decide +kernel
theorem dX8_habit_41 : decode eX8_habit.2.1 41 = .ok (.iconst 0, 1) := by decide +kernel
theorem dX8_habit_42 : decode eX8_habit.2.1 42 = .ok (.istore_n 3, 1) := by decide +kernel
theorem dX8_habit_43 : decode eX8_habit.2.1 43 = .ok (.iload_n 3, 1) := by decide +kernel
theorem dX8_habit_44 : decode eX8_habit.2.1 44 = .ok (.bipush 6, 2) := by decide +kernel
theorem dX8_habit_46 : decode eX8_habit.2.1 46 = .ok (.if_icmp .ge 84, 3) := by decide +kernel
theorem dX8_habit_49 : decode eX8_habit.2.1 49 = .ok (.aload_n 0, 1) := by decide +kernel
theorem dX8_habit_50 : decode eX8_habit.2.1 50 = .ok (.iload_n 3, 1) := by decide +kernel
theorem dX8_habit_51 : decode eX8_habit.2.1 51 = .ok (.invokevirtual 280, 3) := by decide +kernel
theorem dX8_habit_54 : decode eX8_habit.2.1 54 = .ok (.istore 4, 2) := by decide +kernel
theorem dX8_habit_56 : decode eX8_habit.2.1 56 = .ok (.iload 4, 2) := by decide +kernel
theorem dX8_habit_58 : decode eX8_habit.2.1 58 = .ok (.ifCond .ge 15, 3) := by decide +kernel
theorem dX8_habit_61 : decode eX8_habit.2.1 61 = .ok (.aload_n 0, 1) := by decide +kernel
theorem dX8_habit_62 : decode eX8_habit.2.1 62 = .ok (.getfield 7, 3) := by decide +kernel
theorem dX8_habit_65 : decode eX8_habit.2.1 65 = .ok (.bipush 30, 2) := by decide +kernel
theorem dX8_habit_67 : decode eX8_habit.2.1 67 = .ok (.iload_n 3, 1) := by decide +kernel
theorem dX8_habit_68 : decode eX8_habit.2.1 68 = .ok (.iadd, 1) := by decide +kernel
theorem dX8_habit_69 : decode eX8_habit.2.1 69 = .ok (.iaload, 1) := by decide +kernel
theorem dX8_habit_70 : decode eX8_habit.2.1 70 = .ok (.goto 14, 3) := by decide +kernel
theorem dX8_habit_73 : decode eX8_habit.2.1 73 = .ok (.aload_n 0, 1) := by decide +kernel
theorem dX8_habit_74 : decode eX8_habit.2.1 74 = .ok (.iload 4, 2) := by decide +kernel
theorem dX8_habit_76 : decode eX8_habit.2.1 76 = .ok (.invokevirtual 291, 3) := by decide +kernel
theorem dX8_habit_79 : decode eX8_habit.2.1 79 = .ok (.bipush 9, 2) := by decide +kernel
theorem dX8_habit_81 : decode eX8_habit.2.1 81 = .ok (.invokestatic 127, 3) := by decide +kernel
theorem dX8_habit_84 : decode eX8_habit.2.1 84 = .ok (.istore 5, 2) := by decide +kernel
theorem dX8_habit_86 : decode eX8_habit.2.1 86 = .ok (.iload_n 2, 1) := by decide +kernel
theorem dX8_habit_87 : decode eX8_habit.2.1 87 = .ok (.iload 5, 2) := by decide +kernel
theorem dX8_habit_89 : decode eX8_habit.2.1 89 = .ok (.aload_n 0, 1) := by decide +kernel
theorem dX8_habit_90 : decode eX8_habit.2.1 90 = .ok (.getfield 7, 3) := by decide +kernel
theorem dX8_habit_93 : decode eX8_habit.2.1 93 = .ok (.bipush 30, 2) := by decide +kernel
theorem dX8_habit_95 : decode eX8_habit.2.1 95 = .ok (.iload_n 3, 1) := by decide +kernel
theorem dX8_habit_96 : decode eX8_habit.2.1 96 = .ok (.iadd, 1) := by decide +kernel
theorem dX8_habit_97 : decode eX8_habit.2.1 97 = .ok (.iaload, 1) := by decide +kernel
theorem dX8_habit_98 : decode eX8_habit.2.1 98 = .ok (.if_icmp .ne 7, 3) := by decide +kernel
theorem dX8_habit_101 : decode eX8_habit.2.1 101 = .ok (.iconst 0, 1) := by decide +kernel
theorem dX8_habit_102 : decode eX8_habit.2.1 102 = .ok (.goto 4, 3) := by decide +kernel
theorem dX8_habit_105 : decode eX8_habit.2.1 105 = .ok (.iconst 1, 1) := by decide +kernel
theorem dX8_habit_106 : decode eX8_habit.2.1 106 = .ok (.iadd, 1) := by decide +kernel
theorem dX8_habit_107 : decode eX8_habit.2.1 107 = .ok (.istore_n 2, 1) := by decide +kernel
theorem dX8_habit_108 : decode eX8_habit.2.1 108 = .ok (.aload_n 0, 1) := by decide +kernel
theorem dX8_habit_109 : decode eX8_habit.2.1 109 = .ok (.getfield 7, 3) := by decide +kernel
theorem dX8_habit_112 : decode eX8_habit.2.1 112 = .ok (.bipush 30, 2) := by decide +kernel
theorem dX8_habit_114 : decode eX8_habit.2.1 114 = .ok (.iload_n 3, 1) := by decide +kernel
theorem dX8_habit_115 : decode eX8_habit.2.1 115 = .ok (.iadd, 1) := by decide +kernel
theorem dX8_habit_116 : decode eX8_habit.2.1 116 = .ok (.iload 5, 2) := by decide +kernel
theorem dX8_habit_118 : decode eX8_habit.2.1 118 = .ok (.iastore, 1) := by decide +kernel
theorem dX8_habit_119 : decode eX8_habit.2.1 119 = .ok (.aload_n 0, 1) := by decide +kernel
theorem dX8_habit_120 : decode eX8_habit.2.1 120 = .ok (.iconst 0, 1) := by decide +kernel
theorem dX8_habit_121 : decode eX8_habit.2.1 121 = .ok (.putfield 67, 3) := by decide +kernel
theorem dX8_habit_124 : decode eX8_habit.2.1 124 = .ok (.iinc 3 1, 3) := by decide +kernel
theorem dX8_habit_127 : decode eX8_habit.2.1 127 = .ok (.goto (-84), 3) := by decide +kernel
theorem dX8_habit_130 : decode eX8_habit.2.1 130 = .ok (.iload_n 2, 1) := by decide +kernel
theorem dX8_habit_131 : decode eX8_habit.2.1 131 = .ok (.ireturn, 1) := by decide +kernel
theorem dX8_findGround_0 : decode eX8_findGround.2.1 0 = .ok (.iconst 0, 1) := by decide +kernel
theorem dX8_findGround_1 : decode eX8_findGround.2.1 1 = .ok (.istore_n 2, 1) := by decide +kernel
theorem dX8_findGround_2 : decode eX8_findGround.2.1 2 = .ok (.iload_n 2, 1) := by decide +kernel
theorem dX8_findGround_3 : decode eX8_findGround.2.1 3 = .ok (.bipush 48, 2) := by decide +kernel
theorem dX8_findGround_5 : decode eX8_findGround.2.1 5 = .ok (.if_icmp .ge 21, 3) := by decide +kernel
theorem dX8_findGround_8 : decode eX8_findGround.2.1 8 = .ok (.aload_n 0, 1) := by decide +kernel
theorem dX8_findGround_9 : decode eX8_findGround.2.1 9 = .ok (.getfield 50, 3) := by decide +kernel
theorem dX8_findGround_12 : decode eX8_findGround.2.1 12 = .ok (.iload_n 2, 1) := by decide +kernel
theorem dX8_findGround_13 : decode eX8_findGround.2.1 13 = .ok (.aload_n 0, 1) := by decide +kernel
theorem dX8_findGround_14 : decode eX8_findGround.2.1 14 = .ok (.iload_n 1, 1) := by decide +kernel
theorem dX8_findGround_15 : decode eX8_findGround.2.1 15 = .ok (.iload_n 2, 1) := by decide +kernel
theorem dX8_findGround_16 : decode eX8_findGround.2.1 16 = .ok (.invokevirtual 171, 3) := by decide +kernel
theorem dX8_findGround_19 : decode eX8_findGround.2.1 19 = .ok (.iastore, 1) := by decide +kernel
theorem dX8_findGround_20 : decode eX8_findGround.2.1 20 = .ok (.iinc 2 1, 3) := by decide +kernel
theorem dX8_findGround_23 : decode eX8_findGround.2.1 23 = .ok (.goto (-21), 3) := by decide +kernel
theorem dX8_findGround_26 : decode eX8_findGround.2.1 26 = .ok (.return_, 1) := by decide +kernel
theorem dX8_isSeenAt_0 : decode eX8_isSeenAt.2.1 0 = .ok (.iload_n 1, 1) := by decide +kernel
theorem dX8_isSeenAt_1 : decode eX8_isSeenAt.2.1 1 = .ok (.ifCond .ge 16, 3) := by decide +kernel
theorem dX8_isSeenAt_4 : decode eX8_isSeenAt.2.1 4 = .ok (.iload 4, 2) := by decide +kernel
theorem dX8_isSeenAt_6 : decode eX8_isSeenAt.2.1 6 = .ok (.bipush 9, 2) := by decide +kernel
theorem dX8_isSeenAt_8 : decode eX8_isSeenAt.2.1 8 = .ok (.if_icmp .le 7, 3) := by decide +kernel
theorem dX8_isSeenAt_11 : decode eX8_isSeenAt.2.1 11 = .ok (.iconst 1, 1) := by decide +kernel
theorem dX8_isSeenAt_12 : decode eX8_isSeenAt.2.1 12 = .ok (.goto 4, 3) := by decide +kernel
theorem dX8_isSeenAt_15 : decode eX8_isSeenAt.2.1 15 = .ok (.iconst 0, 1) := by decide +kernel
theorem dX8_isSeenAt_16 : decode eX8_isSeenAt.2.1 16 = .ok (.ireturn, 1) := by decide +kernel
theorem dX8_isSeenAt_17 : decode eX8_isSeenAt.2.1 17 = .ok (.aload_n 0, 1) := by decide +kernel
theorem dX8_isSeenAt_18 : decode eX8_isSeenAt.2.1 18 = .ok (.bipush 6, 2) := by decide +kernel
theorem dX8_isSeenAt_20 : decode eX8_isSeenAt.2.1 20 = .ok (.iload 4, 2) := by decide +kernel
theorem dX8_isSeenAt_22 : decode eX8_isSeenAt.2.1 22 = .ok (.aload_n 0, 1) := by decide +kernel
theorem dX8_isSeenAt_23 : decode eX8_isSeenAt.2.1 23 = .ok (.getfield 50, 3) := by decide +kernel
theorem dX8_isSeenAt_26 : decode eX8_isSeenAt.2.1 26 = .ok (.iload_n 2, 1) := by decide +kernel
theorem dX8_isSeenAt_27 : decode eX8_isSeenAt.2.1 27 = .ok (.iaload, 1) := by decide +kernel
theorem dX8_isSeenAt_28 : decode eX8_isSeenAt.2.1 28 = .ok (.iload 5, 2) := by decide +kernel
theorem dX8_isSeenAt_30 : decode eX8_isSeenAt.2.1 30 = .ok (.iload_n 3, 1) := by decide +kernel
theorem dX8_isSeenAt_31 : decode eX8_isSeenAt.2.1 31 = .ok (.invokevirtual 287, 3) := by decide +kernel
theorem dX8_isSeenAt_34 : decode eX8_isSeenAt.2.1 34 = .ok (.aload_n 0, 1) := by decide +kernel
theorem dX8_isSeenAt_35 : decode eX8_isSeenAt.2.1 35 = .ok (.iload_n 1, 1) := by decide +kernel
theorem dX8_isSeenAt_36 : decode eX8_isSeenAt.2.1 36 = .ok (.invokevirtual 291, 3) := by decide +kernel
theorem dX8_isSeenAt_39 : decode eX8_isSeenAt.2.1 39 = .ok (.ifCond .eq 7, 3) := by decide +kernel
theorem dX8_isSeenAt_42 : decode eX8_isSeenAt.2.1 42 = .ok (.iconst 1, 1) := by decide +kernel
theorem dX8_isSeenAt_43 : decode eX8_isSeenAt.2.1 43 = .ok (.goto 4, 3) := by decide +kernel
theorem dX8_isSeenAt_46 : decode eX8_isSeenAt.2.1 46 = .ok (.iconst 0, 1) := by decide +kernel
theorem dX8_isSeenAt_47 : decode eX8_isSeenAt.2.1 47 = .ok (.ireturn, 1) := by decide +kernel
theorem dX8_isKept_0 : decode eX8_isKept.2.1 0 = .ok (.sipush 500, 3) := by decide +kernel
theorem dX8_isKept_3 : decode eX8_isKept.2.1 3 = .ok (.iload_n 2, 1) := by decide +kernel
theorem dX8_isKept_4 : decode eX8_isKept.2.1 4 = .ok (.imul, 1) := by decide +kernel
theorem dX8_isKept_5 : decode eX8_isKept.2.1 5 = .ok (.iconst 5, 1) := by decide +kernel
theorem dX8_isKept_6 : decode eX8_isKept.2.1 6 = .ok (.aload_n 0, 1) := by decide +kernel
theorem dX8_isKept_7 : decode eX8_isKept.2.1 7 = .ok (.getfield 28, 3) := by decide +kernel
theorem dX8_isKept_10 : decode eX8_isKept.2.1 10 = .ok (.iload_n 2, 1) := by decide +kernel
theorem dX8_isKept_11 : decode eX8_isKept.2.1 11 = .ok (.iaload, 1) := by decide +kernel
theorem dX8_isKept_12 : decode eX8_isKept.2.1 12 = .ok (.imul, 1) := by decide +kernel
theorem dX8_isKept_13 : decode eX8_isKept.2.1 13 = .ok (.iadd, 1) := by decide +kernel
theorem dX8_isKept_14 : decode eX8_isKept.2.1 14 = .ok (.iload_n 3, 1) := by decide +kernel
theorem dX8_isKept_15 : decode eX8_isKept.2.1 15 = .ok (.iadd, 1) := by decide +kernel
theorem dX8_isKept_16 : decode eX8_isKept.2.1 16 = .ok (.istore 5, 2) := by decide +kernel
theorem dX8_isKept_18 : decode eX8_isKept.2.1 18 = .ok (.aload_n 0, 1) := by decide +kernel
theorem dX8_isKept_19 : decode eX8_isKept.2.1 19 = .ok (.getfield 53, 3) := by decide +kernel
theorem dX8_isKept_22 : decode eX8_isKept.2.1 22 = .ok (.iload 5, 2) := by decide +kernel
theorem dX8_isKept_24 : decode eX8_isKept.2.1 24 = .ok (.baload, 1) := by decide +kernel
theorem dX8_isKept_25 : decode eX8_isKept.2.1 25 = .ok (.ifCond .ne 29, 3) := by decide +kernel
theorem dX8_isKept_28 : decode eX8_isKept.2.1 28 = .ok (.aload_n 0, 1) := by decide +kernel
theorem dX8_isKept_29 : decode eX8_isKept.2.1 29 = .ok (.getfield 53, 3) := by decide +kernel
theorem dX8_isKept_32 : decode eX8_isKept.2.1 32 = .ok (.iload 5, 2) := by decide +kernel
theorem dX8_isKept_34 : decode eX8_isKept.2.1 34 = .ok (.aload_n 0, 1) := by decide +kernel
theorem dX8_isKept_35 : decode eX8_isKept.2.1 35 = .ok (.iload_n 1, 1) := by decide +kernel
theorem dX8_isKept_36 : decode eX8_isKept.2.1 36 = .ok (.iload_n 2, 1) := by decide +kernel
theorem dX8_isKept_37 : decode eX8_isKept.2.1 37 = .ok (.iload_n 3, 1) := by decide +kernel
theorem dX8_isKept_38 : decode eX8_isKept.2.1 38 = .ok (.iload 4, 2) := by decide +kernel
theorem dX8_isKept_40 : decode eX8_isKept.2.1 40 = .ok (.iconst 0, 1) := by decide +kernel
theorem dX8_isKept_41 : decode eX8_isKept.2.1 41 = .ok (.invokevirtual 294, 3) := by decide +kernel
theorem dX8_isKept_44 : decode eX8_isKept.2.1 44 = .ok (.ifCond .eq 7, 3) := by decide +kernel
theorem dX8_isKept_47 : decode eX8_isKept.2.1 47 = .ok (.iconst 2, 1) := by decide +kernel
theorem dX8_isKept_48 : decode eX8_isKept.2.1 48 = .ok (.goto 4, 3) := by decide +kernel
theorem dX8_isKept_51 : decode eX8_isKept.2.1 51 = .ok (.iconst 1, 1) := by decide +kernel
theorem dX8_isKept_52 : decode eX8_isKept.2.1 52 = .ok (.i2b, 1) := by decide +kernel
theorem dX8_isKept_53 : decode eX8_isKept.2.1 53 = .ok (.bastore, 1) := by decide +kernel
theorem dX8_isKept_54 : decode eX8_isKept.2.1 54 = .ok (.aload_n 0, 1) := by decide +kernel
theorem dX8_isKept_55 : decode eX8_isKept.2.1 55 = .ok (.getfield 53, 3) := by decide +kernel
theorem dX8_isKept_58 : decode eX8_isKept.2.1 58 = .ok (.iload 5, 2) := by decide +kernel
theorem dX8_isKept_60 : decode eX8_isKept.2.1 60 = .ok (.baload, 1) := by decide +kernel
theorem dX8_isKept_61 : decode eX8_isKept.2.1 61 = .ok (.iconst 2, 1) := by decide +kernel
theorem dX8_isKept_62 : decode eX8_isKept.2.1 62 = .ok (.if_icmp .ne 7, 3) := by decide +kernel
theorem dX8_isKept_65 : decode eX8_isKept.2.1 65 = .ok (.iconst 1, 1) := by decide +kernel
theorem dX8_isKept_66 : decode eX8_isKept.2.1 66 = .ok (.goto 4, 3) := by decide +kernel
theorem dX8_isKept_69 : decode eX8_isKept.2.1 69 = .ok (.iconst 0, 1) := by decide +kernel
theorem dX8_isKept_70 : decode eX8_isKept.2.1 70 = .ok (.ireturn, 1) := by decide +kernel
theorem dX8_findSeen_0 : decode eX8_findSeen.2.1 0 = .ok (.aload_n 0, 1) := by decide +kernel
theorem dX8_findSeen_1 : decode eX8_findSeen.2.1 1 = .ok (.bipush 6, 2) := by decide +kernel
theorem dX8_findSeen_3 : decode eX8_findSeen.2.1 3 = .ok (.invokevirtual 280, 3) := by decide +kernel
theorem dX8_findSeen_6 : decode eX8_findSeen.2.1 6 = .ok (.istore_n 2, 1) := by decide +kernel
theorem dX8_findSeen_7 : decode eX8_findSeen.2.1 7 = .ok (.iconst 0, 1) := by decide +kernel
theorem dX8_findSeen_8 : decode eX8_findSeen.2.1 8 = .ok (.istore_n 3, 1) := by decide +kernel
theorem dX8_findSeen_9 : decode eX8_findSeen.2.1 9 = .ok (.iconst 0, 1) := by decide +kernel
theorem dX8_findSeen_10 : decode eX8_findSeen.2.1 10 = .ok (.istore 4, 2) := by decide +kernel
theorem dX8_findSeen_12 : decode eX8_findSeen.2.1 12 = .ok (.iload 4, 2) := by decide +kernel
theorem dX8_findSeen_14 : decode eX8_findSeen.2.1 14 = .ok (.bipush 48, 2) := by decide +kernel
theorem dX8_findSeen_16 : decode eX8_findSeen.2.1 16 = .ok (.if_icmp .ge 173, 3) := by decide +kernel
theorem dX8_findSeen_19 : decode eX8_findSeen.2.1 19 = .ok (.aload_n 0, 1) := by decide +kernel
theorem dX8_findSeen_20 : decode eX8_findSeen.2.1 20 = .ok (.getfield 28, 3) := by decide +kernel
theorem dX8_findSeen_23 : decode eX8_findSeen.2.1 23 = .ok (.iload 4, 2) := by decide +kernel
theorem dX8_findSeen_25 : decode eX8_findSeen.2.1 25 = .ok (.iaload, 1) := by decide +kernel
theorem dX8_findSeen_26 : decode eX8_findSeen.2.1 26 = .ok (.aload_n 0, 1) := by decide +kernel
theorem dX8_findSeen_27 : decode eX8_findSeen.2.1 27 = .ok (.getfield 50, 3) := by decide +kernel
theorem dX8_findSeen_30 : decode eX8_findSeen.2.1 30 = .ok (.iload 4, 2) := by decide +kernel
theorem dX8_findSeen_32 : decode eX8_findSeen.2.1 32 = .ok (.iaload, 1) := by decide +kernel
theorem dX8_findSeen_33 : decode eX8_findSeen.2.1 33 = .ok (.isub, 1) := by decide +kernel
theorem dX8_findSeen_34 : decode eX8_findSeen.2.1 34 = .ok (.invokestatic 139, 3) := by decide +kernel
theorem dX8_findSeen_37 : decode eX8_findSeen.2.1 37 = .ok (.istore 5, 2) := by decide +kernel
theorem dX8_findSeen_39 : decode eX8_findSeen.2.1 39 = .ok (.iconst 0, 1) := by decide +kernel
theorem dX8_findSeen_40 : decode eX8_findSeen.2.1 40 = .ok (.istore 6, 2) := by decide +kernel
theorem dX8_findSeen_42 : decode eX8_findSeen.2.1 42 = .ok (.iconst 0, 1) := by decide +kernel
theorem dX8_findSeen_43 : decode eX8_findSeen.2.1 43 = .ok (.istore 7, 2) := by decide +kernel
theorem dX8_findSeen_45 : decode eX8_findSeen.2.1 45 = .ok (.iload 7, 2) := by decide +kernel
theorem dX8_findSeen_47 : decode eX8_findSeen.2.1 47 = .ok (.iconst 4, 1) := by decide +kernel
theorem dX8_findSeen_48 : decode eX8_findSeen.2.1 48 = .ok (.if_icmp .ge 60, 3) := by decide +kernel
theorem dX8_findSeen_51 : decode eX8_findSeen.2.1 51 = .ok (.iload 4, 2) := by decide +kernel
theorem dX8_findSeen_53 : decode eX8_findSeen.2.1 53 = .ok (.iload 7, 2) := by decide +kernel
theorem dX8_findSeen_55 : decode eX8_findSeen.2.1 55 = .ok (.invokestatic 174, 3) := by decide +kernel
theorem dX8_findSeen_58 : decode eX8_findSeen.2.1 58 = .ok (.istore 8, 2) := by decide +kernel
theorem dX8_findSeen_60 : decode eX8_findSeen.2.1 60 = .ok (.iload 6, 2) := by decide +kernel
theorem dX8_findSeen_62 : decode eX8_findSeen.2.1 62 = .ok (.iload 8, 2) := by decide +kernel
theorem dX8_findSeen_64 : decode eX8_findSeen.2.1 64 = .ok (.ifCond .lt 34, 3) := by decide +kernel
theorem dX8_findSeen_67 : decode eX8_findSeen.2.1 67 = .ok (.aload_n 0, 1) := by decide +kernel
theorem dX8_findSeen_68 : decode eX8_findSeen.2.1 68 = .ok (.getfield 28, 3) := by decide +kernel
theorem dX8_findSeen_71 : decode eX8_findSeen.2.1 71 = .ok (.iload 4, 2) := by decide +kernel
theorem dX8_findSeen_73 : decode eX8_findSeen.2.1 73 = .ok (.iaload, 1) := by decide +kernel
theorem dX8_findSeen_74 : decode eX8_findSeen.2.1 74 = .ok (.aload_n 0, 1) := by decide +kernel
theorem dX8_findSeen_75 : decode eX8_findSeen.2.1 75 = .ok (.getfield 28, 3) := by decide +kernel
theorem dX8_findSeen_78 : decode eX8_findSeen.2.1 78 = .ok (.iload 8, 2) := by decide +kernel
theorem dX8_findSeen_80 : decode eX8_findSeen.2.1 80 = .ok (.iaload, 1) := by decide +kernel
theorem dX8_findSeen_81 : decode eX8_findSeen.2.1 81 = .ok (.isub, 1) := by decide +kernel
theorem dX8_findSeen_82 : decode eX8_findSeen.2.1 82 = .ok (.invokestatic 139, 3) := by decide +kernel
theorem dX8_findSeen_85 : decode eX8_findSeen.2.1 85 = .ok (.aload_n 0, 1) := by decide +kernel
theorem dX8_findSeen_86 : decode eX8_findSeen.2.1 86 = .ok (.getfield 7, 3) := by decide +kernel
theorem dX8_findSeen_89 : decode eX8_findSeen.2.1 89 = .ok (.iconst 4, 1) := by decide +kernel
theorem dX8_findSeen_90 : decode eX8_findSeen.2.1 90 = .ok (.iaload, 1) := by decide +kernel
theorem dX8_findSeen_91 : decode eX8_findSeen.2.1 91 = .ok (.if_icmp .lt 7, 3) := by decide +kernel
theorem dX8_findSeen_94 : decode eX8_findSeen.2.1 94 = .ok (.iconst 1, 1) := by decide +kernel
theorem dX8_findSeen_95 : decode eX8_findSeen.2.1 95 = .ok (.goto 4, 3) := by decide +kernel
theorem dX8_findSeen_98 : decode eX8_findSeen.2.1 98 = .ok (.iconst 0, 1) := by decide +kernel
theorem dX8_findSeen_99 : decode eX8_findSeen.2.1 99 = .ok (.iadd, 1) := by decide +kernel
theorem dX8_findSeen_100 : decode eX8_findSeen.2.1 100 = .ok (.istore 6, 2) := by decide +kernel
theorem dX8_findSeen_102 : decode eX8_findSeen.2.1 102 = .ok (.iinc 7 1, 3) := by decide +kernel
theorem dX8_findSeen_105 : decode eX8_findSeen.2.1 105 = .ok (.goto (-60), 3) := by decide +kernel
theorem dX8_findSeen_108 : decode eX8_findSeen.2.1 108 = .ok (.aload_n 0, 1) := by decide +kernel
theorem dX8_findSeen_109 : decode eX8_findSeen.2.1 109 = .ok (.getfield 46, 3) := by decide +kernel
theorem dX8_findSeen_112 : decode eX8_findSeen.2.1 112 = .ok (.iload 4, 2) := by decide +kernel
theorem dX8_findSeen_114 : decode eX8_findSeen.2.1 114 = .ok (.iload_n 1, 1) := by decide +kernel
theorem dX8_findSeen_115 : decode eX8_findSeen.2.1 115 = .ok (.ifCond .eq 17, 3) := by decide +kernel
theorem dX8_findSeen_118 : decode eX8_findSeen.2.1 118 = .ok (.aload_n 0, 1) := by decide +kernel
theorem dX8_findSeen_119 : decode eX8_findSeen.2.1 119 = .ok (.iload_n 2, 1) := by decide +kernel
theorem dX8_findSeen_120 : decode eX8_findSeen.2.1 120 = .ok (.iload 4, 2) := by decide +kernel
theorem dX8_findSeen_122 : decode eX8_findSeen.2.1 122 = .ok (.iload 6, 2) := by decide +kernel
theorem dX8_findSeen_124 : decode eX8_findSeen.2.1 124 = .ok (.iload 5, 2) := by decide +kernel
theorem dX8_findSeen_126 : decode eX8_findSeen.2.1 126 = .ok (.invokevirtual 298, 3) := by decide +kernel
theorem dX8_findSeen_129 : decode eX8_findSeen.2.1 129 = .ok (.goto 35, 3) := by decide +kernel
theorem dX8_findSeen_132 : decode eX8_findSeen.2.1 132 = .ok (.aload_n 0, 1) := by decide +kernel
theorem dX8_findSeen_133 : decode eX8_findSeen.2.1 133 = .ok (.iload_n 2, 1) := by decide +kernel
theorem dX8_findSeen_134 : decode eX8_findSeen.2.1 134 = .ok (.iload 4, 2) := by decide +kernel
theorem dX8_findSeen_136 : decode eX8_findSeen.2.1 136 = .ok (.iload 6, 2) := by decide +kernel
theorem dX8_findSeen_138 : decode eX8_findSeen.2.1 138 = .ok (.iload 5, 2) := by decide +kernel
theorem dX8_findSeen_140 : decode eX8_findSeen.2.1 140 = .ok (.aload_n 0, 1) := by decide +kernel
theorem dX8_findSeen_141 : decode eX8_findSeen.2.1 141 = .ok (.getfield 28, 3) := by decide +kernel
theorem dX8_findSeen_144 : decode eX8_findSeen.2.1 144 = .ok (.iload 4, 2) := by decide +kernel
theorem dX8_findSeen_146 : decode eX8_findSeen.2.1 146 = .ok (.iaload, 1) := by decide +kernel
theorem dX8_findSeen_147 : decode eX8_findSeen.2.1 147 = .ok (.aload_n 0, 1) := by decide +kernel
theorem dX8_findSeen_148 : decode eX8_findSeen.2.1 148 = .ok (.getfield 7, 3) := by decide +kernel
theorem dX8_findSeen_151 : decode eX8_findSeen.2.1 151 = .ok (.bipush 40, 2) := by decide +kernel
theorem dX8_findSeen_153 : decode eX8_findSeen.2.1 153 = .ok (.iload 4, 2) := by decide +kernel
theorem dX8_findSeen_155 : decode eX8_findSeen.2.1 155 = .ok (.iadd, 1) := by decide +kernel
theorem dX8_findSeen_156 : decode eX8_findSeen.2.1 156 = .ok (.iaload, 1) := by decide +kernel
theorem dX8_findSeen_157 : decode eX8_findSeen.2.1 157 = .ok (.isub, 1) := by decide +kernel
theorem dX8_findSeen_158 : decode eX8_findSeen.2.1 158 = .ok (.invokestatic 139, 3) := by decide +kernel
theorem dX8_findSeen_161 : decode eX8_findSeen.2.1 161 = .ok (.invokevirtual 294, 3) := by decide +kernel
theorem dX8_findSeen_164 : decode eX8_findSeen.2.1 164 = .ok (.bastore, 1) := by decide +kernel
theorem dX8_findSeen_165 : decode eX8_findSeen.2.1 165 = .ok (.iload_n 3, 1) := by decide +kernel
theorem dX8_findSeen_166 : decode eX8_findSeen.2.1 166 = .ok (.aload_n 0, 1) := by decide +kernel
theorem dX8_findSeen_167 : decode eX8_findSeen.2.1 167 = .ok (.getfield 46, 3) := by decide +kernel
theorem dX8_findSeen_170 : decode eX8_findSeen.2.1 170 = .ok (.iload 4, 2) := by decide +kernel
theorem dX8_findSeen_172 : decode eX8_findSeen.2.1 172 = .ok (.baload, 1) := by decide +kernel
theorem dX8_findSeen_173 : decode eX8_findSeen.2.1 173 = .ok (.ifCond .eq 7, 3) := by decide +kernel
theorem dX8_findSeen_176 : decode eX8_findSeen.2.1 176 = .ok (.iconst 1, 1) := by decide +kernel
theorem dX8_findSeen_177 : decode eX8_findSeen.2.1 177 = .ok (.goto 4, 3) := by decide +kernel
theorem dX8_findSeen_180 : decode eX8_findSeen.2.1 180 = .ok (.iconst 0, 1) := by decide +kernel
theorem dX8_findSeen_181 : decode eX8_findSeen.2.1 181 = .ok (.iadd, 1) := by decide +kernel
theorem dX8_findSeen_182 : decode eX8_findSeen.2.1 182 = .ok (.istore_n 3, 1) := by decide +kernel
theorem dX8_findSeen_183 : decode eX8_findSeen.2.1 183 = .ok (.iinc 4 1, 3) := by decide +kernel
theorem dX8_findSeen_186 : decode eX8_findSeen.2.1 186 = .ok (.goto (-174), 3) := by decide +kernel
theorem dX8_findSeen_189 : decode eX8_findSeen.2.1 189 = .ok (.iload_n 3, 1) := by decide +kernel
theorem dX8_findSeen_190 : decode eX8_findSeen.2.1 190 = .ok (.ireturn, 1) := by decide +kernel
theorem dX8_see_0 : decode eX8_see.2.1 0 = .ok (.aload_n 0, 1) := by decide +kernel
theorem dX8_see_1 : decode eX8_see.2.1 1 = .ok (.iload_n 1, 1) := by decide +kernel
theorem dX8_see_2 : decode eX8_see.2.1 2 = .ok (.invokevirtual 301, 3) := by decide +kernel
theorem dX8_see_5 : decode eX8_see.2.1 5 = .ok (.aload_n 0, 1) := by decide +kernel
theorem dX8_see_6 : decode eX8_see.2.1 6 = .ok (.invokevirtual 130, 3) := by decide +kernel
theorem dX8_see_9 : decode eX8_see.2.1 9 = .ok (.aload_n 0, 1) := by decide +kernel
theorem dX8_see_10 : decode eX8_see.2.1 10 = .ok (.iconst 0, 1) := by decide +kernel
theorem dX8_see_11 : decode eX8_see.2.1 11 = .ok (.invokevirtual 305, 3) := by decide +kernel
theorem dX8_see_14 : decode eX8_see.2.1 14 = .ok (.ireturn, 1) := by decide +kernel
theorem dX8_seen_0 : decode eX8_seen.2.1 0 = .ok (.iload_n 1, 1) := by decide +kernel
theorem dX8_seen_1 : decode eX8_seen.2.1 1 = .ok (.invokestatic 168, 3) := by decide +kernel
theorem dX8_seen_4 : decode eX8_seen.2.1 4 = .ok (.ifCond .eq 10, 3) := by decide +kernel
theorem dX8_seen_7 : decode eX8_seen.2.1 7 = .ok (.iload_n 2, 1) := by decide +kernel
theorem dX8_seen_8 : decode eX8_seen.2.1 8 = .ok (.invokestatic 85, 3) := by decide +kernel
theorem dX8_seen_11 : decode eX8_seen.2.1 11 = .ok (.ifCond .ne 6, 3) := by decide +kernel
theorem dX8_seen_14 : decode eX8_seen.2.1 14 = .ok (.ldc 91, 2) := by decide +kernel
theorem dX8_seen_16 : decode eX8_seen.2.1 16 = .ok (.ireturn, 1) := by decide +kernel
theorem dX8_seen_17 : decode eX8_seen.2.1 17 = .ok (.aload_n 0, 1) := by decide +kernel
theorem dX8_seen_18 : decode eX8_seen.2.1 18 = .ok (.iload_n 1, 1) := by decide +kernel
theorem dX8_seen_19 : decode eX8_seen.2.1 19 = .ok (.invokevirtual 309, 3) := by decide +kernel
theorem dX8_seen_22 : decode eX8_seen.2.1 22 = .ok (.istore_n 3, 1) := by decide +kernel
theorem dX8_seen_23 : decode eX8_seen.2.1 23 = .ok (.aload_n 0, 1) := by decide +kernel
theorem dX8_seen_24 : decode eX8_seen.2.1 24 = .ok (.getfield 46, 3) := by decide +kernel
theorem dX8_seen_27 : decode eX8_seen.2.1 27 = .ok (.iload_n 2, 1) := by decide +kernel
theorem dX8_seen_28 : decode eX8_seen.2.1 28 = .ok (.baload, 1) := by decide +kernel
theorem dX8_seen_29 : decode eX8_seen.2.1 29 = .ok (.ifCond .eq 7, 3) := by decide +kernel
theorem dX8_seen_32 : decode eX8_seen.2.1 32 = .ok (.iconst 1, 1) := by decide +kernel
theorem dX8_seen_33 : decode eX8_seen.2.1 33 = .ok (.goto 4, 3) := by decide +kernel
theorem dX8_seen_36 : decode eX8_seen.2.1 36 = .ok (.iconst 0, 1) := by decide +kernel
theorem dX8_seen_37 : decode eX8_seen.2.1 37 = .ok (.ireturn, 1) := by decide +kernel
theorem dX8_fill_0 : decode eX8_fill.2.1 0 = .ok (.iconst 1, 1) := by decide +kernel
theorem dX8_fill_1 : decode eX8_fill.2.1 1 = .ok (.istore_n 2, 1) := by decide +kernel
theorem dX8_fill_2 : decode eX8_fill.2.1 2 = .ok (.aload_n 0, 1) := by decide +kernel
theorem dX8_fill_3 : decode eX8_fill.2.1 3 = .ok (.getfield 57, 3) := by decide +kernel
theorem dX8_fill_6 : decode eX8_fill.2.1 6 = .ok (.iconst 0, 1) := by decide +kernel
theorem dX8_fill_7 : decode eX8_fill.2.1 7 = .ok (.iload_n 1, 1) := by decide +kernel
theorem dX8_fill_8 : decode eX8_fill.2.1 8 = .ok (.iastore, 1) := by decide +kernel
theorem dX8_fill_9 : decode eX8_fill.2.1 9 = .ok (.aload_n 0, 1) := by decide +kernel
theorem dX8_fill_10 : decode eX8_fill.2.1 10 = .ok (.getfield 46, 3) := by decide +kernel
theorem dX8_fill_13 : decode eX8_fill.2.1 13 = .ok (.iload_n 1, 1) := by decide +kernel
theorem dX8_fill_14 : decode eX8_fill.2.1 14 = .ok (.iconst 0, 1) := by decide +kernel
theorem dX8_fill_15 : decode eX8_fill.2.1 15 = .ok (.bastore, 1) := by decide +kernel
theorem dX8_fill_16 : decode eX8_fill.2.1 16 = .ok (.iconst 0, 1) := by decide +kernel
theorem dX8_fill_17 : decode eX8_fill.2.1 17 = .ok (.istore_n 3, 1) := by decide +kernel
theorem dX8_fill_18 : decode eX8_fill.2.1 18 = .ok (.iload_n 3, 1) := by decide +kernel
theorem dX8_fill_19 : decode eX8_fill.2.1 19 = .ok (.iload_n 2, 1) := by decide +kernel
theorem dX8_fill_20 : decode eX8_fill.2.1 20 = .ok (.if_icmp .ge 71, 3) := by decide +kernel
theorem dX8_fill_23 : decode eX8_fill.2.1 23 = .ok (.iconst 0, 1) := by decide +kernel
theorem dX8_fill_24 : decode eX8_fill.2.1 24 = .ok (.istore 4, 2) := by decide +kernel
theorem dX8_fill_26 : decode eX8_fill.2.1 26 = .ok (.iload 4, 2) := by decide +kernel
theorem dX8_fill_28 : decode eX8_fill.2.1 28 = .ok (.iconst 4, 1) := by decide +kernel
theorem dX8_fill_29 : decode eX8_fill.2.1 29 = .ok (.if_icmp .ge 56, 3) := by decide +kernel
theorem dX8_fill_32 : decode eX8_fill.2.1 32 = .ok (.aload_n 0, 1) := by decide +kernel
theorem dX8_fill_33 : decode eX8_fill.2.1 33 = .ok (.getfield 57, 3) := by decide +kernel
theorem dX8_fill_36 : decode eX8_fill.2.1 36 = .ok (.iload_n 3, 1) := by decide +kernel
theorem dX8_fill_37 : decode eX8_fill.2.1 37 = .ok (.iaload, 1) := by decide +kernel
theorem dX8_fill_38 : decode eX8_fill.2.1 38 = .ok (.iload 4, 2) := by decide +kernel
theorem dX8_fill_40 : decode eX8_fill.2.1 40 = .ok (.invokestatic 174, 3) := by decide +kernel
theorem dX8_fill_43 : decode eX8_fill.2.1 43 = .ok (.istore 5, 2) := by decide +kernel
theorem dX8_fill_45 : decode eX8_fill.2.1 45 = .ok (.iload 5, 2) := by decide +kernel
theorem dX8_fill_47 : decode eX8_fill.2.1 47 = .ok (.ifCond .lt 32, 3) := by decide +kernel
theorem dX8_fill_50 : decode eX8_fill.2.1 50 = .ok (.aload_n 0, 1) := by decide +kernel
theorem dX8_fill_51 : decode eX8_fill.2.1 51 = .ok (.getfield 46, 3) := by decide +kernel
theorem dX8_fill_54 : decode eX8_fill.2.1 54 = .ok (.iload 5, 2) := by decide +kernel
theorem dX8_fill_56 : decode eX8_fill.2.1 56 = .ok (.baload, 1) := by decide +kernel
theorem dX8_fill_57 : decode eX8_fill.2.1 57 = .ok (.ifCond .eq 22, 3) := by decide +kernel
theorem dX8_fill_60 : decode eX8_fill.2.1 60 = .ok (.aload_n 0, 1) := by decide +kernel
theorem dX8_fill_61 : decode eX8_fill.2.1 61 = .ok (.getfield 46, 3) := by decide +kernel
theorem dX8_fill_64 : decode eX8_fill.2.1 64 = .ok (.iload 5, 2) := by decide +kernel
theorem dX8_fill_66 : decode eX8_fill.2.1 66 = .ok (.iconst 0, 1) := by decide +kernel
theorem dX8_fill_67 : decode eX8_fill.2.1 67 = .ok (.bastore, 1) := by decide +kernel
theorem dX8_fill_68 : decode eX8_fill.2.1 68 = .ok (.aload_n 0, 1) := by decide +kernel
theorem dX8_fill_69 : decode eX8_fill.2.1 69 = .ok (.getfield 57, 3) := by decide +kernel
theorem dX8_fill_72 : decode eX8_fill.2.1 72 = .ok (.iload_n 2, 1) := by decide +kernel
theorem dX8_fill_73 : decode eX8_fill.2.1 73 = .ok (.iload 5, 2) := by decide +kernel
theorem dX8_fill_75 : decode eX8_fill.2.1 75 = .ok (.iastore, 1) := by decide +kernel
theorem dX8_fill_76 : decode eX8_fill.2.1 76 = .ok (.iinc 2 1, 3) := by decide +kernel
theorem dX8_fill_79 : decode eX8_fill.2.1 79 = .ok (.iinc 4 1, 3) := by decide +kernel
theorem dX8_fill_82 : decode eX8_fill.2.1 82 = .ok (.goto (-56), 3) := by decide +kernel
theorem dX8_fill_85 : decode eX8_fill.2.1 85 = .ok (.iinc 3 1, 3) := by decide +kernel
theorem dX8_fill_88 : decode eX8_fill.2.1 88 = .ok (.goto (-70), 3) := by decide +kernel
theorem dX8_fill_91 : decode eX8_fill.2.1 91 = .ok (.iload_n 2, 1) := by decide +kernel
theorem dX8_fill_92 : decode eX8_fill.2.1 92 = .ok (.ireturn, 1) := by decide +kernel
theorem dX8_beast_0 : decode eX8_beast.2.1 0 = .ok (.iload_n 1, 1) := by decide +kernel
theorem dX8_beast_1 : decode eX8_beast.2.1 1 = .ok (.invokestatic 168, 3) := by decide +kernel
theorem dX8_beast_4 : decode eX8_beast.2.1 4 = .ok (.ifCond .eq 15, 3) := by decide +kernel
theorem dX8_beast_7 : decode eX8_beast.2.1 7 = .ok (.iload_n 2, 1) := by decide +kernel
theorem dX8_beast_8 : decode eX8_beast.2.1 8 = .ok (.i2l, 1) := by decide +kernel
theorem dX8_beast_9 : decode eX8_beast.2.1 9 = .ok (.lconst 0, 1) := by decide +kernel
theorem dX8_beast_10 : decode eX8_beast.2.1 10 = .ok (.ldc2_w 312, 3) := by decide +kernel
theorem dX8_beast_13 : decode eX8_beast.2.1 13 = .ok (.invokestatic 71, 3) := by decide +kernel
theorem dX8_beast_16 : decode eX8_beast.2.1 16 = .ok (.ifCond .ne 6, 3) := by decide +kernel
theorem dX8_beast_19 : decode eX8_beast.2.1 19 = .ok (.ldc 91, 2) := by decide +kernel
theorem dX8_beast_21 : decode eX8_beast.2.1 21 = .ok (.ireturn, 1) := by decide +kernel
theorem dX8_beast_22 : decode eX8_beast.2.1 22 = .ok (.aload_n 0, 1) := by decide +kernel
theorem dX8_beast_23 : decode eX8_beast.2.1 23 = .ok (.iload_n 1, 1) := by decide +kernel
theorem dX8_beast_24 : decode eX8_beast.2.1 24 = .ok (.invokevirtual 309, 3) := by decide +kernel
theorem dX8_beast_27 : decode eX8_beast.2.1 27 = .ok (.istore_n 3, 1) := by decide +kernel
theorem dX8_beast_28 : decode eX8_beast.2.1 28 = .ok (.iconst 0, 1) := by decide +kernel
theorem dX8_beast_29 : decode eX8_beast.2.1 29 = .ok (.istore 4, 2) := by decide +kernel
theorem dX8_beast_31 : decode eX8_beast.2.1 31 = .ok (.iconst (-1), 1) := by decide +kernel
theorem dX8_beast_32 : decode eX8_beast.2.1 32 = .ok (.istore 5, 2) := by decide +kernel
theorem dX8_beast_34 : decode eX8_beast.2.1 34 = .ok (.iconst 0, 1) := by decide +kernel
theorem dX8_beast_35 : decode eX8_beast.2.1 35 = .ok (.istore 6, 2) := by decide +kernel
theorem dX8_beast_37 : decode eX8_beast.2.1 37 = .ok (.iconst 0, 1) := by decide +kernel
theorem dX8_beast_38 : decode eX8_beast.2.1 38 = .ok (.istore 7, 2) := by decide +kernel
theorem dX8_beast_40 : decode eX8_beast.2.1 40 = .ok (.iload 7, 2) := by decide +kernel
theorem dX8_beast_42 : decode eX8_beast.2.1 42 = .ok (.bipush 48, 2) := by decide +kernel
theorem dX8_beast_44 : decode eX8_beast.2.1 44 = .ok (.if_icmp .ge 65, 3) := by decide +kernel
theorem dX8_beast_47 : decode eX8_beast.2.1 47 = .ok (.aload_n 0, 1) := by decide +kernel
theorem dX8_beast_48 : decode eX8_beast.2.1 48 = .ok (.getfield 46, 3) := by decide +kernel
theorem dX8_beast_51 : decode eX8_beast.2.1 51 = .ok (.iload 7, 2) := by decide +kernel
theorem dX8_beast_53 : decode eX8_beast.2.1 53 = .ok (.baload, 1) := by decide +kernel
theorem dX8_beast_54 : decode eX8_beast.2.1 54 = .ok (.ifCond .ne 6, 3) := by decide +kernel
theorem dX8_beast_57 : decode eX8_beast.2.1 57 = .ok (.goto 46, 3) := by decide +kernel
theorem dX8_beast_60 : decode eX8_beast.2.1 60 = .ok (.aload_n 0, 1) := by decide +kernel
theorem dX8_beast_61 : decode eX8_beast.2.1 61 = .ok (.iload 7, 2) := by decide +kernel
theorem dX8_beast_63 : decode eX8_beast.2.1 63 = .ok (.invokevirtual 314, 3) := by decide +kernel
theorem dX8_beast_66 : decode eX8_beast.2.1 66 = .ok (.istore 8, 2) := by decide +kernel
theorem dX8_beast_68 : decode eX8_beast.2.1 68 = .ok (.iinc 6 1, 3) := by decide +kernel
theorem dX8_beast_71 : decode eX8_beast.2.1 71 = .ok (.iload 8, 2) := by decide +kernel
theorem dX8_beast_73 : decode eX8_beast.2.1 73 = .ok (.iload 4, 2) := by decide +kernel
theorem dX8_beast_75 : decode eX8_beast.2.1 75 = .ok (.if_icmp .le 8, 3) := by decide +kernel
theorem dX8_beast_78 : decode eX8_beast.2.1 78 = .ok (.iload 7, 2) := by decide +kernel
theorem dX8_beast_80 : decode eX8_beast.2.1 80 = .ok (.goto 5, 3) := by decide +kernel
theorem dX8_beast_83 : decode eX8_beast.2.1 83 = .ok (.iload 5, 2) := by decide +kernel
theorem dX8_beast_85 : decode eX8_beast.2.1 85 = .ok (.istore 5, 2) := by decide +kernel
theorem dX8_beast_87 : decode eX8_beast.2.1 87 = .ok (.iload 8, 2) := by decide +kernel
theorem dX8_beast_89 : decode eX8_beast.2.1 89 = .ok (.iload 4, 2) := by decide +kernel
theorem dX8_beast_91 : decode eX8_beast.2.1 91 = .ok (.if_icmp .le 8, 3) := by decide +kernel
theorem dX8_beast_94 : decode eX8_beast.2.1 94 = .ok (.iload 8, 2) := by decide +kernel
theorem dX8_beast_96 : decode eX8_beast.2.1 96 = .ok (.goto 5, 3) := by decide +kernel
theorem dX8_beast_99 : decode eX8_beast.2.1 99 = .ok (.iload 4, 2) := by decide +kernel
theorem dX8_beast_101 : decode eX8_beast.2.1 101 = .ok (.istore 4, 2) := by decide +kernel
theorem dX8_beast_103 : decode eX8_beast.2.1 103 = .ok (.iinc 7 1, 3) := by decide +kernel
theorem dX8_beast_106 : decode eX8_beast.2.1 106 = .ok (.goto (-66), 3) := by decide +kernel
theorem dX8_beast_109 : decode eX8_beast.2.1 109 = .ok (.iload_n 2, 1) := by decide +kernel
theorem dX8_beast_110 : decode eX8_beast.2.1 110 = .ok (.tableswitch 58 0 3 #[30, 32, 35, 41], 30) := by decide +kernel
theorem dX8_beast_140 : decode eX8_beast.2.1 140 = .ok (.iload_n 3, 1) := by decide +kernel
theorem dX8_beast_141 : decode eX8_beast.2.1 141 = .ok (.ireturn, 1) := by decide +kernel
theorem dX8_beast_142 : decode eX8_beast.2.1 142 = .ok (.iload 4, 2) := by decide +kernel
theorem dX8_beast_144 : decode eX8_beast.2.1 144 = .ok (.ireturn, 1) := by decide +kernel
theorem dX8_beast_145 : decode eX8_beast.2.1 145 = .ok (.iload 5, 2) := by decide +kernel
theorem dX8_beast_147 : decode eX8_beast.2.1 147 = .ok (.invokestatic 133, 3) := by decide +kernel
theorem dX8_beast_150 : decode eX8_beast.2.1 150 = .ok (.ireturn, 1) := by decide +kernel
theorem dX8_beast_151 : decode eX8_beast.2.1 151 = .ok (.iload 4, 2) := by decide +kernel
theorem dX8_beast_153 : decode eX8_beast.2.1 153 = .ok (.aload_n 0, 1) := by decide +kernel
theorem dX8_beast_154 : decode eX8_beast.2.1 154 = .ok (.getfield 7, 3) := by decide +kernel
theorem dX8_beast_157 : decode eX8_beast.2.1 157 = .ok (.iconst 5, 1) := by decide +kernel
theorem dX8_beast_158 : decode eX8_beast.2.1 158 = .ok (.iaload, 1) := by decide +kernel
theorem dX8_beast_159 : decode eX8_beast.2.1 159 = .ok (.if_icmp .lt 7, 3) := by decide +kernel
theorem dX8_beast_162 : decode eX8_beast.2.1 162 = .ok (.iconst 1, 1) := by decide +kernel
theorem dX8_beast_163 : decode eX8_beast.2.1 163 = .ok (.goto 4, 3) := by decide +kernel
theorem dX8_beast_166 : decode eX8_beast.2.1 166 = .ok (.iconst 0, 1) := by decide +kernel
theorem dX8_beast_167 : decode eX8_beast.2.1 167 = .ok (.ireturn, 1) := by decide +kernel
theorem dX8_beast_168 : decode eX8_beast.2.1 168 = .ok (.iload 6, 2) := by decide +kernel
theorem dX8_beast_170 : decode eX8_beast.2.1 170 = .ok (.ireturn, 1) := by decide +kernel
theorem dX8_toldGroups_0 : decode eX8_toldGroups.2.1 0 = .ok (.iload_n 0, 1) := by decide +kernel
theorem dX8_toldGroups_1 : decode eX8_toldGroups.2.1 1 = .ok (.i2l, 1) := by decide +kernel
theorem dX8_toldGroups_2 : decode eX8_toldGroups.2.1 2 = .ok (.lconst 0, 1) := by decide +kernel
theorem dX8_toldGroups_3 : decode eX8_toldGroups.2.1 3 = .ok (.ldc2_w 317, 3) := by decide +kernel
theorem dX8_toldGroups_6 : decode eX8_toldGroups.2.1 6 = .ok (.invokestatic 71, 3) := by decide +kernel
theorem dX8_toldGroups_9 : decode eX8_toldGroups.2.1 9 = .ok (.ifCond .ne 5, 3) := by decide +kernel
theorem dX8_toldGroups_12 : decode eX8_toldGroups.2.1 12 = .ok (.iconst 0, 1) := by decide +kernel
theorem dX8_toldGroups_13 : decode eX8_toldGroups.2.1 13 = .ok (.ireturn, 1) := by decide +kernel
theorem dX8_toldGroups_14 : decode eX8_toldGroups.2.1 14 = .ok (.iload_n 0, 1) := by decide +kernel
theorem dX8_toldGroups_15 : decode eX8_toldGroups.2.1 15 = .ok (.bipush 100, 2) := by decide +kernel
theorem dX8_toldGroups_17 : decode eX8_toldGroups.2.1 17 = .ok (.idiv, 1) := by decide +kernel
theorem dX8_toldGroups_18 : decode eX8_toldGroups.2.1 18 = .ok (.istore_n 1, 1) := by decide +kernel
theorem dX8_toldGroups_19 : decode eX8_toldGroups.2.1 19 = .ok (.iload_n 0, 1) := by decide +kernel
theorem dX8_toldGroups_20 : decode eX8_toldGroups.2.1 20 = .ok (.bipush 10, 2) := by decide +kernel
theorem dX8_toldGroups_22 : decode eX8_toldGroups.2.1 22 = .ok (.idiv, 1) := by decide +kernel
theorem dX8_toldGroups_23 : decode eX8_toldGroups.2.1 23 = .ok (.bipush 10, 2) := by decide +kernel
theorem dX8_toldGroups_25 : decode eX8_toldGroups.2.1 25 = .ok (.irem, 1) := by decide +kernel
theorem dX8_toldGroups_26 : decode eX8_toldGroups.2.1 26 = .ok (.istore_n 2, 1) := by decide +kernel
theorem dX8_toldGroups_27 : decode eX8_toldGroups.2.1 27 = .ok (.iload_n 0, 1) := by decide +kernel
theorem dX8_toldGroups_28 : decode eX8_toldGroups.2.1 28 = .ok (.bipush 10, 2) := by decide +kernel
theorem dX8_toldGroups_30 : decode eX8_toldGroups.2.1 30 = .ok (.irem, 1) := by decide +kernel
theorem dX8_toldGroups_31 : decode eX8_toldGroups.2.1 31 = .ok (.istore_n 3, 1) := by decide +kernel
theorem dX8_toldGroups_32 : decode eX8_toldGroups.2.1 32 = .ok (.iload_n 1, 1) := by decide +kernel
theorem dX8_toldGroups_33 : decode eX8_toldGroups.2.1 33 = .ok (.bipush 6, 2) := by decide +kernel
theorem dX8_toldGroups_35 : decode eX8_toldGroups.2.1 35 = .ok (.if_icmp .ge 19, 3) := by decide +kernel
theorem dX8_toldGroups_38 : decode eX8_toldGroups.2.1 38 = .ok (.iload_n 2, 1) := by decide +kernel
theorem dX8_toldGroups_39 : decode eX8_toldGroups.2.1 39 = .ok (.bipush 6, 2) := by decide +kernel
theorem dX8_toldGroups_41 : decode eX8_toldGroups.2.1 41 = .ok (.if_icmp .ge 13, 3) := by decide +kernel
theorem dX8_toldGroups_44 : decode eX8_toldGroups.2.1 44 = .ok (.iload_n 3, 1) := by decide +kernel
theorem dX8_toldGroups_45 : decode eX8_toldGroups.2.1 45 = .ok (.bipush 6, 2) := by decide +kernel
theorem dX8_toldGroups_47 : decode eX8_toldGroups.2.1 47 = .ok (.if_icmp .ge 7, 3) := by decide +kernel
theorem dX8_toldGroups_50 : decode eX8_toldGroups.2.1 50 = .ok (.iconst 1, 1) := by decide +kernel
theorem dX8_toldGroups_51 : decode eX8_toldGroups.2.1 51 = .ok (.goto 4, 3) := by decide +kernel
theorem dX8_toldGroups_54 : decode eX8_toldGroups.2.1 54 = .ok (.iconst 0, 1) := by decide +kernel
theorem dX8_toldGroups_55 : decode eX8_toldGroups.2.1 55 = .ok (.istore 4, 2) := by decide +kernel
theorem dX8_toldGroups_57 : decode eX8_toldGroups.2.1 57 = .ok (.iload_n 0, 1) := by decide +kernel
theorem dX8_toldGroups_58 : decode eX8_toldGroups.2.1 58 = .ok (.bipush 99, 2) := by decide +kernel
theorem dX8_toldGroups_60 : decode eX8_toldGroups.2.1 60 = .ok (.if_icmp .le 29, 3) := by decide +kernel
theorem dX8_toldGroups_63 : decode eX8_toldGroups.2.1 63 = .ok (.iload 4, 2) := by decide +kernel
theorem dX8_toldGroups_65 : decode eX8_toldGroups.2.1 65 = .ok (.ifCond .eq 22, 3) := by decide +kernel
theorem dX8_toldGroups_68 : decode eX8_toldGroups.2.1 68 = .ok (.iload_n 1, 1) := by decide +kernel
theorem dX8_toldGroups_69 : decode eX8_toldGroups.2.1 69 = .ok (.iload_n 2, 1) := by decide +kernel
theorem dX8_toldGroups_70 : decode eX8_toldGroups.2.1 70 = .ok (.if_icmp .eq 17, 3) := by decide +kernel
theorem dX8_toldGroups_73 : decode eX8_toldGroups.2.1 73 = .ok (.iload_n 1, 1) := by decide +kernel
theorem dX8_toldGroups_74 : decode eX8_toldGroups.2.1 74 = .ok (.iload_n 3, 1) := by decide +kernel
theorem dX8_toldGroups_75 : decode eX8_toldGroups.2.1 75 = .ok (.if_icmp .eq 12, 3) := by decide +kernel
theorem dX8_toldGroups_78 : decode eX8_toldGroups.2.1 78 = .ok (.iload_n 2, 1) := by decide +kernel
theorem dX8_toldGroups_79 : decode eX8_toldGroups.2.1 79 = .ok (.iload_n 3, 1) := by decide +kernel
theorem dX8_toldGroups_80 : decode eX8_toldGroups.2.1 80 = .ok (.if_icmp .eq 7, 3) := by decide +kernel
theorem dX8_toldGroups_83 : decode eX8_toldGroups.2.1 83 = .ok (.iconst 3, 1) := by decide +kernel
theorem dX8_toldGroups_84 : decode eX8_toldGroups.2.1 84 = .ok (.goto 4, 3) := by decide +kernel
theorem dX8_toldGroups_87 : decode eX8_toldGroups.2.1 87 = .ok (.iconst 0, 1) := by decide +kernel
theorem dX8_toldGroups_88 : decode eX8_toldGroups.2.1 88 = .ok (.ireturn, 1) := by decide +kernel
theorem dX8_toldGroups_89 : decode eX8_toldGroups.2.1 89 = .ok (.iload_n 0, 1) := by decide +kernel
theorem dX8_toldGroups_90 : decode eX8_toldGroups.2.1 90 = .ok (.bipush 9, 2) := by decide +kernel
theorem dX8_toldGroups_92 : decode eX8_toldGroups.2.1 92 = .ok (.if_icmp .le 21, 3) := by decide +kernel
theorem dX8_toldGroups_95 : decode eX8_toldGroups.2.1 95 = .ok (.iload 4, 2) := by decide +kernel
theorem dX8_toldGroups_97 : decode eX8_toldGroups.2.1 97 = .ok (.ifCond .eq 12, 3) := by decide +kernel
theorem dX8_toldGroups_100 : decode eX8_toldGroups.2.1 100 = .ok (.iload_n 2, 1) := by decide +kernel
theorem dX8_toldGroups_101 : decode eX8_toldGroups.2.1 101 = .ok (.iload_n 3, 1) := by decide +kernel
theorem dX8_toldGroups_102 : decode eX8_toldGroups.2.1 102 = .ok (.if_icmp .eq 7, 3) := by decide +kernel
theorem dX8_toldGroups_105 : decode eX8_toldGroups.2.1 105 = .ok (.iconst 2, 1) := by decide +kernel
theorem dX8_toldGroups_106 : decode eX8_toldGroups.2.1 106 = .ok (.goto 17, 3) := by decide +kernel
theorem dX8_toldGroups_109 : decode eX8_toldGroups.2.1 109 = .ok (.iconst 0, 1) := by decide +kernel
theorem dX8_toldGroups_110 : decode eX8_toldGroups.2.1 110 = .ok (.goto 13, 3) := by decide +kernel
theorem dX8_toldGroups_113 : decode eX8_toldGroups.2.1 113 = .ok (.iload 4, 2) := by decide +kernel
theorem dX8_toldGroups_115 : decode eX8_toldGroups.2.1 115 = .ok (.ifCond .eq 7, 3) := by decide +kernel
theorem dX8_toldGroups_118 : decode eX8_toldGroups.2.1 118 = .ok (.iconst 1, 1) := by decide +kernel
theorem dX8_toldGroups_119 : decode eX8_toldGroups.2.1 119 = .ok (.goto 4, 3) := by decide +kernel
theorem dX8_toldGroups_122 : decode eX8_toldGroups.2.1 122 = .ok (.iconst 0, 1) := by decide +kernel
theorem dX8_toldGroups_123 : decode eX8_toldGroups.2.1 123 = .ok (.ireturn, 1) := by decide +kernel
theorem dX8_missed_0 : decode eX8_missed.2.1 0 = .ok (.iconst 0, 1) := by decide +kernel
theorem dX8_missed_1 : decode eX8_missed.2.1 1 = .ok (.istore_n 1, 1) := by decide +kernel
theorem dX8_missed_2 : decode eX8_missed.2.1 2 = .ok (.iconst 0, 1) := by decide +kernel
theorem dX8_missed_3 : decode eX8_missed.2.1 3 = .ok (.istore_n 2, 1) := by decide +kernel
theorem dX8_missed_4 : decode eX8_missed.2.1 4 = .ok (.iload_n 2, 1) := by decide +kernel
theorem dX8_missed_5 : decode eX8_missed.2.1 5 = .ok (.bipush 48, 2) := by decide +kernel
theorem dX8_missed_7 : decode eX8_missed.2.1 7 = .ok (.if_icmp .ge 28, 3) := by decide +kernel
theorem dX8_missed_10 : decode eX8_missed.2.1 10 = .ok (.iload_n 1, 1) := by decide +kernel
theorem dX8_missed_11 : decode eX8_missed.2.1 11 = .ok (.aload_n 0, 1) := by decide +kernel
theorem dX8_missed_12 : decode eX8_missed.2.1 12 = .ok (.getfield 28, 3) := by decide +kernel
theorem dX8_missed_15 : decode eX8_missed.2.1 15 = .ok (.iload_n 2, 1) := by decide +kernel
theorem dX8_missed_16 : decode eX8_missed.2.1 16 = .ok (.iaload, 1) := by decide +kernel
theorem dX8_missed_17 : decode eX8_missed.2.1 17 = .ok (.aload_n 0, 1) := by decide +kernel
theorem dX8_missed_18 : decode eX8_missed.2.1 18 = .ok (.getfield 50, 3) := by decide +kernel
theorem dX8_missed_21 : decode eX8_missed.2.1 21 = .ok (.iload_n 2, 1) := by decide +kernel
theorem dX8_missed_22 : decode eX8_missed.2.1 22 = .ok (.iaload, 1) := by decide +kernel
theorem dX8_missed_23 : decode eX8_missed.2.1 23 = .ok (.isub, 1) := by decide +kernel
theorem dX8_missed_24 : decode eX8_missed.2.1 24 = .ok (.invokestatic 139, 3) := by decide +kernel
theorem dX8_missed_27 : decode eX8_missed.2.1 27 = .ok (.iadd, 1) := by decide +kernel
theorem dX8_missed_28 : decode eX8_missed.2.1 28 = .ok (.istore_n 1, 1) := by decide +kernel
theorem dX8_missed_29 : decode eX8_missed.2.1 29 = .ok (.iinc 2 1, 3) := by decide +kernel
theorem dX8_missed_32 : decode eX8_missed.2.1 32 = .ok (.goto (-28), 3) := by decide +kernel
theorem dX8_missed_35 : decode eX8_missed.2.1 35 = .ok (.iload_n 1, 1) := by decide +kernel
theorem dX8_missed_36 : decode eX8_missed.2.1 36 = .ok (.ireturn, 1) := by decide +kernel
theorem dX8_leastBy_0 : decode eX8_leastBy.2.1 0 = .ok (.aload_n 0, 1) := by decide +kernel
theorem dX8_leastBy_1 : decode eX8_leastBy.2.1 1 = .ok (.getfield 67, 3) := by decide +kernel
theorem dX8_leastBy_4 : decode eX8_leastBy.2.1 4 = .ok (.ifCond .eq 31, 3) := by decide +kernel
theorem dX8_leastBy_7 : decode eX8_leastBy.2.1 7 = .ok (.aload_n 0, 1) := by decide +kernel
theorem dX8_leastBy_8 : decode eX8_leastBy.2.1 8 = .ok (.getfield 319, 3) := by decide +kernel
theorem dX8_leastBy_11 : decode eX8_leastBy.2.1 11 = .ok (.iload_n 1, 1) := by decide +kernel
theorem dX8_leastBy_12 : decode eX8_leastBy.2.1 12 = .ok (.if_icmp .ne 23, 3) := by decide +kernel
theorem dX8_leastBy_15 : decode eX8_leastBy.2.1 15 = .ok (.aload_n 0, 1) := by decide +kernel
theorem dX8_leastBy_16 : decode eX8_leastBy.2.1 16 = .ok (.getfield 322, 3) := by decide +kernel
theorem dX8_leastBy_19 : decode eX8_leastBy.2.1 19 = .ok (.iload_n 2, 1) := by decide +kernel
theorem dX8_leastBy_20 : decode eX8_leastBy.2.1 20 = .ok (.if_icmp .ne 15, 3) := by decide +kernel
theorem dX8_leastBy_23 : decode eX8_leastBy.2.1 23 = .ok (.aload_n 0, 1) := by decide +kernel
theorem dX8_leastBy_24 : decode eX8_leastBy.2.1 24 = .ok (.getfield 325, 3) := by decide +kernel
theorem dX8_leastBy_27 : decode eX8_leastBy.2.1 27 = .ok (.iload_n 3, 1) := by decide +kernel
theorem dX8_leastBy_28 : decode eX8_leastBy.2.1 28 = .ok (.if_icmp .ne 7, 3) := by decide +kernel
theorem dX8_leastBy_31 : decode eX8_leastBy.2.1 31 = .ok (.iconst 1, 1) := by decide +kernel
theorem dX8_leastBy_32 : decode eX8_leastBy.2.1 32 = .ok (.goto 4, 3) := by decide +kernel
theorem dX8_leastBy_35 : decode eX8_leastBy.2.1 35 = .ok (.iconst 0, 1) := by decide +kernel
theorem dX8_leastBy_36 : decode eX8_leastBy.2.1 36 = .ok (.istore 5, 2) := by decide +kernel
theorem dX8_leastBy_38 : decode eX8_leastBy.2.1 38 = .ok (.iload 5, 2) := by decide +kernel
theorem dX8_leastBy_40 : decode eX8_leastBy.2.1 40 = .ok (.ifCond .ne 10, 3) := by decide +kernel
theorem dX8_leastBy_43 : decode eX8_leastBy.2.1 43 = .ok (.aload_n 0, 1) := by decide +kernel
theorem dX8_leastBy_44 : decode eX8_leastBy.2.1 44 = .ok (.iload_n 1, 1) := by decide +kernel
theorem dX8_leastBy_45 : decode eX8_leastBy.2.1 45 = .ok (.iload_n 2, 1) := by decide +kernel
theorem dX8_leastBy_46 : decode eX8_leastBy.2.1 46 = .ok (.iload_n 3, 1) := by decide +kernel
theorem dX8_leastBy_47 : decode eX8_leastBy.2.1 47 = .ok (.invokevirtual 328, 3) := by decide +kernel
theorem dX8_leastBy_50 : decode eX8_leastBy.2.1 50 = .ok (.iload 4, 2) := by decide +kernel
theorem dX8_leastBy_52 : decode eX8_leastBy.2.1 52 = .ok (.ifCond .ne 10, 3) := by decide +kernel
theorem dX8_leastBy_55 : decode eX8_leastBy.2.1 55 = .ok (.aload_n 0, 1) := by decide +kernel
theorem dX8_leastBy_56 : decode eX8_leastBy.2.1 56 = .ok (.getfield 332, 3) := by decide +kernel
theorem dX8_leastBy_59 : decode eX8_leastBy.2.1 59 = .ok (.goto 7, 3) := by decide +kernel
theorem dX8_leastBy_62 : decode eX8_leastBy.2.1 62 = .ok (.aload_n 0, 1) := by decide +kernel
theorem dX8_leastBy_63 : decode eX8_leastBy.2.1 63 = .ok (.getfield 335, 3) := by decide +kernel
theorem dX8_leastBy_66 : decode eX8_leastBy.2.1 66 = .ok (.ireturn, 1) := by decide +kernel
theorem dX8_search_0 : decode eX8_search.2.1 0 = .ok (.iload_n 2, 1) := by decide +kernel
theorem dX8_search_1 : decode eX8_search.2.1 1 = .ok (.invokestatic 338, 3) := by decide +kernel
theorem dX8_search_4 : decode eX8_search.2.1 4 = .ok (.istore 4, 2) := by decide +kernel
theorem dX8_search_6 : decode eX8_search.2.1 6 = .ok (.iconst 0, 1) := by decide +kernel
theorem dX8_search_7 : decode eX8_search.2.1 7 = .ok (.istore 5, 2) := by decide +kernel
theorem dX8_search_9 : decode eX8_search.2.1 9 = .ok (.iload 5, 2) := by decide +kernel
theorem dX8_search_11 : decode eX8_search.2.1 11 = .ok (.sipush 24000, 3) := by decide +kernel
theorem dX8_search_14 : decode eX8_search.2.1 14 = .ok (.if_icmp .ge 17, 3) := by decide +kernel
theorem dX8_search_17 : decode eX8_search.2.1 17 = .ok (.aload_n 0, 1) := by decide +kernel
theorem dX8_search_18 : decode eX8_search.2.1 18 = .ok (.getfield 53, 3) := by decide +kernel
theorem dX8_search_21 : decode eX8_search.2.1 21 = .ok (.iload 5, 2) := by decide +kernel
theorem dX8_search_23 : decode eX8_search.2.1 23 = .ok (.iconst 0, 1) := by decide +kernel
theorem dX8_search_24 : decode eX8_search.2.1 24 = .ok (.bastore, 1) := by decide +kernel
theorem dX8_search_25 : decode eX8_search.2.1 25 = .ok (.iinc 5 1, 3) := by decide +kernel
theorem dX8_search_28 : decode eX8_search.2.1 28 = .ok (.goto (-19), 3) := by decide +kernel
theorem dX8_search_31 : decode eX8_search.2.1 31 = .ok (.iload 4, 2) := by decide +kernel
theorem dX8_search_33 : decode eX8_search.2.1 33 = .ok (.iconst 1, 1) := by decide +kernel
theorem dX8_search_34 : decode eX8_search.2.1 34 = .ok (.if_icmp .ne 8, 3) := by decide +kernel
theorem dX8_search_37 : decode eX8_search.2.1 37 = .ok (.bipush 10, 2) := by decide +kernel
theorem dX8_search_39 : decode eX8_search.2.1 39 = .ok (.goto 17, 3) := by decide +kernel
theorem dX8_search_42 : decode eX8_search.2.1 42 = .ok (.iload 4, 2) := by decide +kernel
theorem dX8_search_44 : decode eX8_search.2.1 44 = .ok (.iconst 2, 1) := by decide +kernel
theorem dX8_search_45 : decode eX8_search.2.1 45 = .ok (.if_icmp .ne 8, 3) := by decide +kernel
theorem dX8_search_48 : decode eX8_search.2.1 48 = .ok (.bipush 100, 2) := by decide +kernel
theorem dX8_search_50 : decode eX8_search.2.1 50 = .ok (.goto 6, 3) := by decide +kernel
theorem dX8_search_53 : decode eX8_search.2.1 53 = .ok (.sipush 1000, 3) := by decide +kernel
theorem dX8_search_56 : decode eX8_search.2.1 56 = .ok (.istore 5, 2) := by decide +kernel
theorem dX8_search_58 : decode eX8_search.2.1 58 = .ok (.aload_n 0, 1) := by decide +kernel
theorem dX8_search_59 : decode eX8_search.2.1 59 = .ok (.aload_n 0, 1) := by decide +kernel
theorem dX8_search_60 : decode eX8_search.2.1 60 = .ok (.getfield 7, 3) := by decide +kernel
theorem dX8_search_63 : decode eX8_search.2.1 63 = .ok (.aload_n 0, 1) := by decide +kernel
theorem dX8_search_64 : decode eX8_search.2.1 64 = .ok (.getfield 16, 3) := by decide +kernel
theorem dX8_search_67 : decode eX8_search.2.1 67 = .ok (.invokevirtual 151, 3) := by decide +kernel
theorem dX8_search_70 : decode eX8_search.2.1 70 = .ok (.aload_n 0, 1) := by decide +kernel
theorem dX8_search_71 : decode eX8_search.2.1 71 = .ok (.iload_n 1, 1) := by decide +kernel
theorem dX8_search_72 : decode eX8_search.2.1 72 = .ok (.invokevirtual 301, 3) := by decide +kernel
theorem dX8_search_75 : decode eX8_search.2.1 75 = .ok (.iconst (-1), 1) := by decide +kernel
theorem dX8_search_76 : decode eX8_search.2.1 76 = .ok (.istore 6, 2) := by decide +kernel
theorem dX8_search_78 : decode eX8_search.2.1 78 = .ok (.iconst 0, 1) := by decide +kernel
theorem dX8_search_79 : decode eX8_search.2.1 79 = .ok (.istore 7, 2) := by decide +kernel
theorem dX8_search_81 : decode eX8_search.2.1 81 = .ok (.iconst 0, 1) := by decide +kernel
theorem dX8_search_82 : decode eX8_search.2.1 82 = .ok (.istore 8, 2) := by decide +kernel
theorem dX8_search_84 : decode eX8_search.2.1 84 = .ok (.iload 8, 2) := by decide +kernel
theorem dX8_search_86 : decode eX8_search.2.1 86 = .ok (.iload 5, 2) := by decide +kernel
theorem dX8_search_88 : decode eX8_search.2.1 88 = .ok (.if_icmp .ge 126, 3) := by decide +kernel
theorem dX8_search_91 : decode eX8_search.2.1 91 = .ok (.aload_n 0, 1) := by decide +kernel
theorem dX8_search_92 : decode eX8_search.2.1 92 = .ok (.getfield 7, 3) := by decide +kernel
theorem dX8_search_95 : decode eX8_search.2.1 95 = .ok (.bipush 30, 2) := by decide +kernel
theorem dX8_search_97 : decode eX8_search.2.1 97 = .ok (.iload_n 2, 1) := by decide +kernel
theorem dX8_search_98 : decode eX8_search.2.1 98 = .ok (.bipush 10, 2) := by decide +kernel
theorem dX8_search_100 : decode eX8_search.2.1 100 = .ok (.irem, 1) := by decide +kernel
theorem dX8_search_101 : decode eX8_search.2.1 101 = .ok (.iadd, 1) := by decide +kernel
theorem dX8_search_102 : decode eX8_search.2.1 102 = .ok (.iload 8, 2) := by decide +kernel
theorem dX8_search_104 : decode eX8_search.2.1 104 = .ok (.bipush 10, 2) := by decide +kernel
theorem dX8_search_106 : decode eX8_search.2.1 106 = .ok (.irem, 1) := by decide +kernel
theorem dX8_search_107 : decode eX8_search.2.1 107 = .ok (.iastore, 1) := by decide +kernel
theorem dX8_search_108 : decode eX8_search.2.1 108 = .ok (.iload 4, 2) := by decide +kernel
theorem dX8_search_110 : decode eX8_search.2.1 110 = .ok (.iconst 1, 1) := by decide +kernel
theorem dX8_search_111 : decode eX8_search.2.1 111 = .ok (.if_icmp .le 26, 3) := by decide +kernel
theorem dX8_search_114 : decode eX8_search.2.1 114 = .ok (.aload_n 0, 1) := by decide +kernel
theorem dX8_search_115 : decode eX8_search.2.1 115 = .ok (.getfield 7, 3) := by decide +kernel
theorem dX8_search_118 : decode eX8_search.2.1 118 = .ok (.bipush 30, 2) := by decide +kernel
theorem dX8_search_120 : decode eX8_search.2.1 120 = .ok (.iload_n 2, 1) := by decide +kernel
theorem dX8_search_121 : decode eX8_search.2.1 121 = .ok (.bipush 10, 2) := by decide +kernel
theorem dX8_search_123 : decode eX8_search.2.1 123 = .ok (.idiv, 1) := by decide +kernel
theorem dX8_search_124 : decode eX8_search.2.1 124 = .ok (.bipush 10, 2) := by decide +kernel
theorem dX8_search_126 : decode eX8_search.2.1 126 = .ok (.irem, 1) := by decide +kernel
theorem dX8_search_127 : decode eX8_search.2.1 127 = .ok (.iadd, 1) := by decide +kernel
theorem dX8_search_128 : decode eX8_search.2.1 128 = .ok (.iload 8, 2) := by decide +kernel
theorem dX8_search_130 : decode eX8_search.2.1 130 = .ok (.bipush 10, 2) := by decide +kernel
theorem dX8_search_132 : decode eX8_search.2.1 132 = .ok (.idiv, 1) := by decide +kernel
theorem dX8_search_133 : decode eX8_search.2.1 133 = .ok (.bipush 10, 2) := by decide +kernel
theorem dX8_search_135 : decode eX8_search.2.1 135 = .ok (.irem, 1) := by decide +kernel
theorem dX8_search_136 : decode eX8_search.2.1 136 = .ok (.iastore, 1) := by decide +kernel
theorem dX8_search_137 : decode eX8_search.2.1 137 = .ok (.iload 4, 2) := by decide +kernel
theorem dX8_search_139 : decode eX8_search.2.1 139 = .ok (.iconst 2, 1) := by decide +kernel
theorem dX8_search_140 : decode eX8_search.2.1 140 = .ok (.if_icmp .le 20, 3) := by decide +kernel
theorem dX8_search_143 : decode eX8_search.2.1 143 = .ok (.aload_n 0, 1) := by decide +kernel
theorem dX8_search_144 : decode eX8_search.2.1 144 = .ok (.getfield 7, 3) := by decide +kernel
theorem dX8_search_147 : decode eX8_search.2.1 147 = .ok (.bipush 30, 2) := by decide +kernel
theorem dX8_search_149 : decode eX8_search.2.1 149 = .ok (.iload_n 2, 1) := by decide +kernel
theorem dX8_search_150 : decode eX8_search.2.1 150 = .ok (.bipush 100, 2) := by decide +kernel
theorem dX8_search_152 : decode eX8_search.2.1 152 = .ok (.idiv, 1) := by decide +kernel
theorem dX8_search_153 : decode eX8_search.2.1 153 = .ok (.iadd, 1) := by decide +kernel
theorem dX8_search_154 : decode eX8_search.2.1 154 = .ok (.iload 8, 2) := by decide +kernel
theorem dX8_search_156 : decode eX8_search.2.1 156 = .ok (.bipush 100, 2) := by decide +kernel
theorem dX8_search_158 : decode eX8_search.2.1 158 = .ok (.idiv, 1) := by decide +kernel
theorem dX8_search_159 : decode eX8_search.2.1 159 = .ok (.iastore, 1) := by decide +kernel
theorem dX8_search_160 : decode eX8_search.2.1 160 = .ok (.aload_n 0, 1) := by decide +kernel
theorem dX8_search_161 : decode eX8_search.2.1 161 = .ok (.invokevirtual 147, 3) := by decide +kernel
theorem dX8_search_164 : decode eX8_search.2.1 164 = .ok (.istore 9, 2) := by decide +kernel
theorem dX8_search_166 : decode eX8_search.2.1 166 = .ok (.aload_n 0, 1) := by decide +kernel
theorem dX8_search_167 : decode eX8_search.2.1 167 = .ok (.invokevirtual 130, 3) := by decide +kernel
theorem dX8_search_170 : decode eX8_search.2.1 170 = .ok (.iload_n 3, 1) := by decide +kernel
theorem dX8_search_171 : decode eX8_search.2.1 171 = .ok (.ifCond .eq 11, 3) := by decide +kernel
theorem dX8_search_174 : decode eX8_search.2.1 174 = .ok (.aload_n 0, 1) := by decide +kernel
theorem dX8_search_175 : decode eX8_search.2.1 175 = .ok (.iconst 1, 1) := by decide +kernel
theorem dX8_search_176 : decode eX8_search.2.1 176 = .ok (.invokevirtual 305, 3) := by decide +kernel
theorem dX8_search_179 : decode eX8_search.2.1 179 = .ok (.goto 7, 3) := by decide +kernel
theorem dX8_search_182 : decode eX8_search.2.1 182 = .ok (.aload_n 0, 1) := by decide +kernel
theorem dX8_search_183 : decode eX8_search.2.1 183 = .ok (.invokevirtual 341, 3) := by decide +kernel
theorem dX8_search_186 : decode eX8_search.2.1 186 = .ok (.istore 10, 2) := by decide +kernel
theorem dX8_search_188 : decode eX8_search.2.1 188 = .ok (.iload 6, 2) := by decide +kernel
theorem dX8_search_190 : decode eX8_search.2.1 190 = .ok (.ifCond .lt 10, 3) := by decide +kernel
theorem dX8_search_193 : decode eX8_search.2.1 193 = .ok (.iload 10, 2) := by decide +kernel
theorem dX8_search_195 : decode eX8_search.2.1 195 = .ok (.iload 6, 2) := by decide +kernel
theorem dX8_search_197 : decode eX8_search.2.1 197 = .ok (.if_icmp .ge 11, 3) := by decide +kernel
theorem dX8_search_200 : decode eX8_search.2.1 200 = .ok (.iload 10, 2) := by decide +kernel
theorem dX8_search_202 : decode eX8_search.2.1 202 = .ok (.istore 6, 2) := by decide +kernel
theorem dX8_search_204 : decode eX8_search.2.1 204 = .ok (.iload 8, 2) := by decide +kernel
theorem dX8_search_206 : decode eX8_search.2.1 206 = .ok (.istore 7, 2) := by decide +kernel
theorem dX8_search_208 : decode eX8_search.2.1 208 = .ok (.iinc 8 1, 3) := by decide +kernel
theorem dX8_search_211 : decode eX8_search.2.1 211 = .ok (.goto (-127), 3) := by decide +kernel
theorem dX8_search_214 : decode eX8_search.2.1 214 = .ok (.aload_n 0, 1) := by decide +kernel
theorem dX8_search_215 : decode eX8_search.2.1 215 = .ok (.aload_n 0, 1) := by decide +kernel
theorem dX8_search_216 : decode eX8_search.2.1 216 = .ok (.getfield 16, 3) := by decide +kernel
theorem dX8_search_219 : decode eX8_search.2.1 219 = .ok (.aload_n 0, 1) := by decide +kernel
theorem dX8_search_220 : decode eX8_search.2.1 220 = .ok (.getfield 7, 3) := by decide +kernel
theorem dX8_search_223 : decode eX8_search.2.1 223 = .ok (.invokevirtual 151, 3) := by decide +kernel
theorem dX8_search_226 : decode eX8_search.2.1 226 = .ok (.aload_n 0, 1) := by decide +kernel
theorem dX8_search_227 : decode eX8_search.2.1 227 = .ok (.iload_n 1, 1) := by decide +kernel
theorem dX8_search_228 : decode eX8_search.2.1 228 = .ok (.putfield 319, 3) := by decide +kernel
theorem dX8_search_231 : decode eX8_search.2.1 231 = .ok (.aload_n 0, 1) := by decide +kernel
theorem dX8_search_232 : decode eX8_search.2.1 232 = .ok (.iload_n 2, 1) := by decide +kernel
theorem dX8_search_233 : decode eX8_search.2.1 233 = .ok (.putfield 322, 3) := by decide +kernel
theorem dX8_search_236 : decode eX8_search.2.1 236 = .ok (.aload_n 0, 1) := by decide +kernel
theorem dX8_search_237 : decode eX8_search.2.1 237 = .ok (.iload_n 3, 1) := by decide +kernel
theorem dX8_search_238 : decode eX8_search.2.1 238 = .ok (.putfield 325, 3) := by decide +kernel
theorem dX8_search_241 : decode eX8_search.2.1 241 = .ok (.aload_n 0, 1) := by decide +kernel
theorem dX8_search_242 : decode eX8_search.2.1 242 = .ok (.iload 6, 2) := by decide +kernel
theorem dX8_search_244 : decode eX8_search.2.1 244 = .ok (.putfield 332, 3) := by decide +kernel
theorem dX8_search_247 : decode eX8_search.2.1 247 = .ok (.aload_n 0, 1) := by decide +kernel
theorem dX8_search_248 : decode eX8_search.2.1 248 = .ok (.iload 7, 2) := by decide +kernel
theorem dX8_search_250 : decode eX8_search.2.1 250 = .ok (.putfield 335, 3) := by decide +kernel
theorem dX8_search_253 : decode eX8_search.2.1 253 = .ok (.aload_n 0, 1) := by decide +kernel
theorem dX8_search_254 : decode eX8_search.2.1 254 = .ok (.iconst 1, 1) := by decide +kernel
theorem dX8_search_255 : decode eX8_search.2.1 255 = .ok (.putfield 67, 3) := by decide +kernel
theorem dX8_search_258 : decode eX8_search.2.1 258 = .ok (.return_, 1) := by decide +kernel
theorem dX8_hide_0 : decode eX8_hide.2.1 0 = .ok (.iload_n 1, 1) := by decide +kernel
theorem dX8_hide_1 : decode eX8_hide.2.1 1 = .ok (.invokestatic 168, 3) := by decide +kernel
theorem dX8_hide_4 : decode eX8_hide.2.1 4 = .ok (.ifCond .eq 31, 3) := by decide +kernel
theorem dX8_hide_7 : decode eX8_hide.2.1 7 = .ok (.iload_n 2, 1) := by decide +kernel
theorem dX8_hide_8 : decode eX8_hide.2.1 8 = .ok (.invokestatic 338, 3) := by decide +kernel
theorem dX8_hide_11 : decode eX8_hide.2.1 11 = .ok (.ifCond .le 24, 3) := by decide +kernel
theorem dX8_hide_14 : decode eX8_hide.2.1 14 = .ok (.iload_n 3, 1) := by decide +kernel
theorem dX8_hide_15 : decode eX8_hide.2.1 15 = .ok (.i2l, 1) := by decide +kernel
theorem dX8_hide_16 : decode eX8_hide.2.1 16 = .ok (.lconst 0, 1) := by decide +kernel
theorem dX8_hide_17 : decode eX8_hide.2.1 17 = .ok (.lconst 1, 1) := by decide +kernel
theorem dX8_hide_18 : decode eX8_hide.2.1 18 = .ok (.invokestatic 71, 3) := by decide +kernel
theorem dX8_hide_21 : decode eX8_hide.2.1 21 = .ok (.ifCond .eq 14, 3) := by decide +kernel
theorem dX8_hide_24 : decode eX8_hide.2.1 24 = .ok (.aload_n 0, 1) := by decide +kernel
theorem dX8_hide_25 : decode eX8_hide.2.1 25 = .ok (.iload_n 1, 1) := by decide +kernel
theorem dX8_hide_26 : decode eX8_hide.2.1 26 = .ok (.iload_n 2, 1) := by decide +kernel
theorem dX8_hide_27 : decode eX8_hide.2.1 27 = .ok (.iconst 1, 1) := by decide +kernel
theorem dX8_hide_28 : decode eX8_hide.2.1 28 = .ok (.iload_n 3, 1) := by decide +kernel
theorem dX8_hide_29 : decode eX8_hide.2.1 29 = .ok (.invokevirtual 344, 3) := by decide +kernel
theorem dX8_hide_32 : decode eX8_hide.2.1 32 = .ok (.goto 5, 3) := by decide +kernel
theorem dX8_hide_35 : decode eX8_hide.2.1 35 = .ok (.ldc 91, 2) := by decide +kernel
theorem dX8_hide_37 : decode eX8_hide.2.1 37 = .ok (.ireturn, 1) := by decide +kernel
theorem dX8_misses_0 : decode eX8_misses.2.1 0 = .ok (.iload_n 1, 1) := by decide +kernel
theorem dX8_misses_1 : decode eX8_misses.2.1 1 = .ok (.invokestatic 168, 3) := by decide +kernel
theorem dX8_misses_4 : decode eX8_misses.2.1 4 = .ok (.ifCond .eq 31, 3) := by decide +kernel
theorem dX8_misses_7 : decode eX8_misses.2.1 7 = .ok (.iload_n 2, 1) := by decide +kernel
theorem dX8_misses_8 : decode eX8_misses.2.1 8 = .ok (.invokestatic 338, 3) := by decide +kernel
theorem dX8_misses_11 : decode eX8_misses.2.1 11 = .ok (.ifCond .le 24, 3) := by decide +kernel
theorem dX8_misses_14 : decode eX8_misses.2.1 14 = .ok (.iload_n 3, 1) := by decide +kernel
theorem dX8_misses_15 : decode eX8_misses.2.1 15 = .ok (.i2l, 1) := by decide +kernel
theorem dX8_misses_16 : decode eX8_misses.2.1 16 = .ok (.lconst 0, 1) := by decide +kernel
theorem dX8_misses_17 : decode eX8_misses.2.1 17 = .ok (.lconst 1, 1) := by decide +kernel
theorem dX8_misses_18 : decode eX8_misses.2.1 18 = .ok (.invokestatic 71, 3) := by decide +kernel
theorem dX8_misses_21 : decode eX8_misses.2.1 21 = .ok (.ifCond .eq 14, 3) := by decide +kernel
theorem dX8_misses_24 : decode eX8_misses.2.1 24 = .ok (.aload_n 0, 1) := by decide +kernel
theorem dX8_misses_25 : decode eX8_misses.2.1 25 = .ok (.iload_n 1, 1) := by decide +kernel
theorem dX8_misses_26 : decode eX8_misses.2.1 26 = .ok (.iload_n 2, 1) := by decide +kernel
theorem dX8_misses_27 : decode eX8_misses.2.1 27 = .ok (.iconst 0, 1) := by decide +kernel
theorem dX8_misses_28 : decode eX8_misses.2.1 28 = .ok (.iload_n 3, 1) := by decide +kernel
theorem dX8_misses_29 : decode eX8_misses.2.1 29 = .ok (.invokevirtual 344, 3) := by decide +kernel
theorem dX8_misses_32 : decode eX8_misses.2.1 32 = .ok (.goto 5, 3) := by decide +kernel
theorem dX8_misses_35 : decode eX8_misses.2.1 35 = .ok (.ldc 91, 2) := by decide +kernel
theorem dX8_misses_37 : decode eX8_misses.2.1 37 = .ok (.ireturn, 1) := by decide +kernel
theorem dX8_half_0 : decode eX8_half.2.1 0 = .ok (.iload_n 1, 1) := by decide +kernel
theorem dX8_half_1 : decode eX8_half.2.1 1 = .ok (.invokestatic 168, 3) := by decide +kernel
theorem dX8_half_4 : decode eX8_half.2.1 4 = .ok (.ifCond .eq 10, 3) := by decide +kernel
theorem dX8_half_7 : decode eX8_half.2.1 7 = .ok (.iload_n 2, 1) := by decide +kernel
theorem dX8_half_8 : decode eX8_half.2.1 8 = .ok (.invokestatic 117, 3) := by decide +kernel
theorem dX8_half_11 : decode eX8_half.2.1 11 = .ok (.ifCond .ne 6, 3) := by decide +kernel
theorem dX8_half_14 : decode eX8_half.2.1 14 = .ok (.ldc 91, 2) := by decide +kernel
theorem dX8_half_16 : decode eX8_half.2.1 16 = .ok (.ireturn, 1) := by decide +kernel
theorem dX8_half_17 : decode eX8_half.2.1 17 = .ok (.aload_n 0, 1) := by decide +kernel
theorem dX8_half_18 : decode eX8_half.2.1 18 = .ok (.iload_n 1, 1) := by decide +kernel
theorem dX8_half_19 : decode eX8_half.2.1 19 = .ok (.iconst 0, 1) := by decide +kernel
theorem dX8_half_20 : decode eX8_half.2.1 20 = .ok (.invokevirtual 177, 3) := by decide +kernel
theorem dX8_half_23 : decode eX8_half.2.1 23 = .ok (.istore_n 3, 1) := by decide +kernel
theorem dX8_half_24 : decode eX8_half.2.1 24 = .ok (.iconst 0, 1) := by decide +kernel
theorem dX8_half_25 : decode eX8_half.2.1 25 = .ok (.istore 4, 2) := by decide +kernel
theorem dX8_half_27 : decode eX8_half.2.1 27 = .ok (.iconst 0, 1) := by decide +kernel
theorem dX8_half_28 : decode eX8_half.2.1 28 = .ok (.istore 5, 2) := by decide +kernel
theorem dX8_half_30 : decode eX8_half.2.1 30 = .ok (.iload 5, 2) := by decide +kernel
theorem dX8_half_32 : decode eX8_half.2.1 32 = .ok (.aload_n 0, 1) := by decide +kernel
theorem dX8_half_33 : decode eX8_half.2.1 33 = .ok (.getfield 7, 3) := by decide +kernel
theorem dX8_half_36 : decode eX8_half.2.1 36 = .ok (.iconst 0, 1) := by decide +kernel
theorem dX8_half_37 : decode eX8_half.2.1 37 = .ok (.iaload, 1) := by decide +kernel
theorem dX8_half_38 : decode eX8_half.2.1 38 = .ok (.if_icmp .ge 67, 3) := by decide +kernel
theorem dX8_half_41 : decode eX8_half.2.1 41 = .ok (.aload_n 0, 1) := by decide +kernel
theorem dX8_half_42 : decode eX8_half.2.1 42 = .ok (.iload_n 1, 1) := by decide +kernel
theorem dX8_half_43 : decode eX8_half.2.1 43 = .ok (.aload_n 0, 1) := by decide +kernel
theorem dX8_half_44 : decode eX8_half.2.1 44 = .ok (.getfield 7, 3) := by decide +kernel
theorem dX8_half_47 : decode eX8_half.2.1 47 = .ok (.aload_n 0, 1) := by decide +kernel
theorem dX8_half_48 : decode eX8_half.2.1 48 = .ok (.iload 5, 2) := by decide +kernel
theorem dX8_half_50 : decode eX8_half.2.1 50 = .ok (.invokevirtual 81, 3) := by decide +kernel
theorem dX8_half_53 : decode eX8_half.2.1 53 = .ok (.iconst 1, 1) := by decide +kernel
theorem dX8_half_54 : decode eX8_half.2.1 54 = .ok (.iadd, 1) := by decide +kernel
theorem dX8_half_55 : decode eX8_half.2.1 55 = .ok (.iaload, 1) := by decide +kernel
theorem dX8_half_56 : decode eX8_half.2.1 56 = .ok (.invokevirtual 171, 3) := by decide +kernel
theorem dX8_half_59 : decode eX8_half.2.1 59 = .ok (.iload_n 3, 1) := by decide +kernel
theorem dX8_half_60 : decode eX8_half.2.1 60 = .ok (.if_icmp .le 7, 3) := by decide +kernel
theorem dX8_half_63 : decode eX8_half.2.1 63 = .ok (.iconst 1, 1) := by decide +kernel
theorem dX8_half_64 : decode eX8_half.2.1 64 = .ok (.goto 4, 3) := by decide +kernel
theorem dX8_half_67 : decode eX8_half.2.1 67 = .ok (.iconst 0, 1) := by decide +kernel
theorem dX8_half_68 : decode eX8_half.2.1 68 = .ok (.istore 6, 2) := by decide +kernel
theorem dX8_half_70 : decode eX8_half.2.1 70 = .ok (.iload 4, 2) := by decide +kernel
theorem dX8_half_72 : decode eX8_half.2.1 72 = .ok (.aload_n 0, 1) := by decide +kernel
theorem dX8_half_73 : decode eX8_half.2.1 73 = .ok (.iload 5, 2) := by decide +kernel
theorem dX8_half_75 : decode eX8_half.2.1 75 = .ok (.invokevirtual 97, 3) := by decide +kernel
theorem dX8_half_78 : decode eX8_half.2.1 78 = .ok (.iload_n 2, 1) := by decide +kernel
theorem dX8_half_79 : decode eX8_half.2.1 79 = .ok (.if_icmp .eq 7, 3) := by decide +kernel
theorem dX8_half_82 : decode eX8_half.2.1 82 = .ok (.iconst 0, 1) := by decide +kernel
theorem dX8_half_83 : decode eX8_half.2.1 83 = .ok (.goto 13, 3) := by decide +kernel
theorem dX8_half_86 : decode eX8_half.2.1 86 = .ok (.iload 6, 2) := by decide +kernel
theorem dX8_half_88 : decode eX8_half.2.1 88 = .ok (.ifCond .eq 7, 3) := by decide +kernel
theorem dX8_half_91 : decode eX8_half.2.1 91 = .ok (.iconst 1, 1) := by decide +kernel
theorem dX8_half_92 : decode eX8_half.2.1 92 = .ok (.goto 4, 3) := by decide +kernel
theorem dX8_half_95 : decode eX8_half.2.1 95 = .ok (.iconst (-1), 1) := by decide +kernel
theorem dX8_half_96 : decode eX8_half.2.1 96 = .ok (.iadd, 1) := by decide +kernel
theorem dX8_half_97 : decode eX8_half.2.1 97 = .ok (.istore 4, 2) := by decide +kernel
theorem dX8_half_99 : decode eX8_half.2.1 99 = .ok (.iinc 5 1, 3) := by decide +kernel
theorem dX8_half_102 : decode eX8_half.2.1 102 = .ok (.goto (-72), 3) := by decide +kernel
theorem dX8_half_105 : decode eX8_half.2.1 105 = .ok (.iload 4, 2) := by decide +kernel
theorem dX8_half_107 : decode eX8_half.2.1 107 = .ok (.ireturn, 1) := by decide +kernel
theorem dX8_learn_0 : decode eX8_learn.2.1 0 = .ok (.iload_n 1, 1) := by decide +kernel
theorem dX8_learn_1 : decode eX8_learn.2.1 1 = .ok (.invokestatic 168, 3) := by decide +kernel
theorem dX8_learn_4 : decode eX8_learn.2.1 4 = .ok (.ifCond .eq 15, 3) := by decide +kernel
theorem dX8_learn_7 : decode eX8_learn.2.1 7 = .ok (.iload_n 2, 1) := by decide +kernel
theorem dX8_learn_8 : decode eX8_learn.2.1 8 = .ok (.i2l, 1) := by decide +kernel
theorem dX8_learn_9 : decode eX8_learn.2.1 9 = .ok (.lconst 0, 1) := by decide +kernel
theorem dX8_learn_10 : decode eX8_learn.2.1 10 = .ok (.ldc2_w 89, 3) := by decide +kernel
theorem dX8_learn_13 : decode eX8_learn.2.1 13 = .ok (.invokestatic 71, 3) := by decide +kernel
theorem dX8_learn_16 : decode eX8_learn.2.1 16 = .ok (.ifCond .ne 6, 3) := by decide +kernel
theorem dX8_learn_19 : decode eX8_learn.2.1 19 = .ok (.ldc 91, 2) := by decide +kernel
theorem dX8_learn_21 : decode eX8_learn.2.1 21 = .ok (.ireturn, 1) := by decide +kernel
theorem dX8_learn_22 : decode eX8_learn.2.1 22 = .ok (.aload_n 0, 1) := by decide +kernel
theorem dX8_learn_23 : decode eX8_learn.2.1 23 = .ok (.getfield 7, 3) := by decide +kernel
theorem dX8_learn_26 : decode eX8_learn.2.1 26 = .ok (.bipush 7, 2) := by decide +kernel
theorem dX8_learn_28 : decode eX8_learn.2.1 28 = .ok (.iaload, 1) := by decide +kernel
theorem dX8_learn_29 : decode eX8_learn.2.1 29 = .ok (.bipush 8, 2) := by decide +kernel
theorem dX8_learn_31 : decode eX8_learn.2.1 31 = .ok (.if_icmp .ne 6, 3) := by decide +kernel
theorem dX8_learn_34 : decode eX8_learn.2.1 34 = .ok (.ldc 96, 2) := by decide +kernel
theorem dX8_learn_36 : decode eX8_learn.2.1 36 = .ok (.ireturn, 1) := by decide +kernel
theorem dX8_learn_37 : decode eX8_learn.2.1 37 = .ok (.sipush 380, 3) := by decide +kernel
theorem dX8_learn_40 : decode eX8_learn.2.1 40 = .ok (.iconst 5, 1) := by decide +kernel
theorem dX8_learn_41 : decode eX8_learn.2.1 41 = .ok (.aload_n 0, 1) := by decide +kernel
theorem dX8_learn_42 : decode eX8_learn.2.1 42 = .ok (.getfield 7, 3) := by decide +kernel
theorem dX8_learn_45 : decode eX8_learn.2.1 45 = .ok (.bipush 7, 2) := by decide +kernel
theorem dX8_learn_47 : decode eX8_learn.2.1 47 = .ok (.iaload, 1) := by decide +kernel
theorem dX8_learn_48 : decode eX8_learn.2.1 48 = .ok (.imul, 1) := by decide +kernel
theorem dX8_learn_49 : decode eX8_learn.2.1 49 = .ok (.iadd, 1) := by decide +kernel
theorem dX8_learn_50 : decode eX8_learn.2.1 50 = .ok (.istore_n 3, 1) := by decide +kernel
theorem dX8_learn_51 : decode eX8_learn.2.1 51 = .ok (.iconst 0, 1) := by decide +kernel
theorem dX8_learn_52 : decode eX8_learn.2.1 52 = .ok (.istore 4, 2) := by decide +kernel
theorem dX8_learn_54 : decode eX8_learn.2.1 54 = .ok (.iload 4, 2) := by decide +kernel
theorem dX8_learn_56 : decode eX8_learn.2.1 56 = .ok (.iconst 4, 1) := by decide +kernel
theorem dX8_learn_57 : decode eX8_learn.2.1 57 = .ok (.if_icmp .ge 25, 3) := by decide +kernel
theorem dX8_learn_60 : decode eX8_learn.2.1 60 = .ok (.aload_n 0, 1) := by decide +kernel
theorem dX8_learn_61 : decode eX8_learn.2.1 61 = .ok (.getfield 7, 3) := by decide +kernel
theorem dX8_learn_64 : decode eX8_learn.2.1 64 = .ok (.iload_n 3, 1) := by decide +kernel
theorem dX8_learn_65 : decode eX8_learn.2.1 65 = .ok (.iload 4, 2) := by decide +kernel
theorem dX8_learn_67 : decode eX8_learn.2.1 67 = .ok (.iadd, 1) := by decide +kernel
theorem dX8_learn_68 : decode eX8_learn.2.1 68 = .ok (.aload_n 0, 1) := by decide +kernel
theorem dX8_learn_69 : decode eX8_learn.2.1 69 = .ok (.iload_n 1, 1) := by decide +kernel
theorem dX8_learn_70 : decode eX8_learn.2.1 70 = .ok (.iload 4, 2) := by decide +kernel
theorem dX8_learn_72 : decode eX8_learn.2.1 72 = .ok (.invokevirtual 177, 3) := by decide +kernel
theorem dX8_learn_75 : decode eX8_learn.2.1 75 = .ok (.iastore, 1) := by decide +kernel
theorem dX8_learn_76 : decode eX8_learn.2.1 76 = .ok (.iinc 4 1, 3) := by decide +kernel
theorem dX8_learn_79 : decode eX8_learn.2.1 79 = .ok (.goto (-25), 3) := by decide +kernel
theorem dX8_learn_82 : decode eX8_learn.2.1 82 = .ok (.aload_n 0, 1) := by decide +kernel
theorem dX8_learn_83 : decode eX8_learn.2.1 83 = .ok (.getfield 7, 3) := by decide +kernel
theorem dX8_learn_86 : decode eX8_learn.2.1 86 = .ok (.iload_n 3, 1) := by decide +kernel
theorem dX8_learn_87 : decode eX8_learn.2.1 87 = .ok (.iconst 4, 1) := by decide +kernel
theorem dX8_learn_88 : decode eX8_learn.2.1 88 = .ok (.iadd, 1) := by decide +kernel
theorem dX8_learn_89 : decode eX8_learn.2.1 89 = .ok (.iload_n 2, 1) := by decide +kernel
theorem dX8_learn_90 : decode eX8_learn.2.1 90 = .ok (.iastore, 1) := by decide +kernel
theorem dX8_learn_91 : decode eX8_learn.2.1 91 = .ok (.aload_n 0, 1) := by decide +kernel
theorem dX8_learn_92 : decode eX8_learn.2.1 92 = .ok (.getfield 7, 3) := by decide +kernel
theorem dX8_learn_95 : decode eX8_learn.2.1 95 = .ok (.bipush 7, 2) := by decide +kernel
theorem dX8_learn_97 : decode eX8_learn.2.1 97 = .ok (.dup2, 1) := by decide +kernel
theorem dX8_learn_98 : decode eX8_learn.2.1 98 = .ok (.iaload, 1) := by decide +kernel
theorem dX8_learn_99 : decode eX8_learn.2.1 99 = .ok (.iconst 1, 1) := by decide +kernel
theorem dX8_learn_100 : decode eX8_learn.2.1 100 = .ok (.iadd, 1) := by decide +kernel
theorem dX8_learn_101 : decode eX8_learn.2.1 101 = .ok (.iastore, 1) := by decide +kernel
theorem dX8_learn_102 : decode eX8_learn.2.1 102 = .ok (.aload_n 0, 1) := by decide +kernel
theorem dX8_learn_103 : decode eX8_learn.2.1 103 = .ok (.getfield 7, 3) := by decide +kernel
theorem dX8_learn_106 : decode eX8_learn.2.1 106 = .ok (.bipush 7, 2) := by decide +kernel
theorem dX8_learn_108 : decode eX8_learn.2.1 108 = .ok (.iaload, 1) := by decide +kernel
theorem dX8_learn_109 : decode eX8_learn.2.1 109 = .ok (.iconst 1, 1) := by decide +kernel
theorem dX8_learn_110 : decode eX8_learn.2.1 110 = .ok (.isub, 1) := by decide +kernel
theorem dX8_learn_111 : decode eX8_learn.2.1 111 = .ok (.ireturn, 1) := by decide +kernel
theorem dX8_partsAll_0 : decode eX8_partsAll.2.1 0 = .ok (.iconst 0, 1) := by decide +kernel
theorem dX8_partsAll_1 : decode eX8_partsAll.2.1 1 = .ok (.istore_n 2, 1) := by decide +kernel
theorem dX8_partsAll_2 : decode eX8_partsAll.2.1 2 = .ok (.iload_n 2, 1) := by decide +kernel
theorem dX8_partsAll_3 : decode eX8_partsAll.2.1 3 = .ok (.aload_n 0, 1) := by decide +kernel
theorem dX8_partsAll_4 : decode eX8_partsAll.2.1 4 = .ok (.getfield 7, 3) := by decide +kernel
theorem dX8_partsAll_7 : decode eX8_partsAll.2.1 7 = .ok (.bipush 7, 2) := by decide +kernel
theorem dX8_partsAll_9 : decode eX8_partsAll.2.1 9 = .ok (.iaload, 1) := by decide +kernel
theorem dX8_partsAll_10 : decode eX8_partsAll.2.1 10 = .ok (.if_icmp .ge 135, 3) := by decide +kernel
theorem dX8_partsAll_13 : decode eX8_partsAll.2.1 13 = .ok (.iconst 0, 1) := by decide +kernel
theorem dX8_partsAll_14 : decode eX8_partsAll.2.1 14 = .ok (.istore_n 3, 1) := by decide +kernel
theorem dX8_partsAll_15 : decode eX8_partsAll.2.1 15 = .ok (.iload_n 3, 1) := by decide +kernel
theorem dX8_partsAll_16 : decode eX8_partsAll.2.1 16 = .ok (.iload_n 2, 1) := by decide +kernel
theorem dX8_partsAll_17 : decode eX8_partsAll.2.1 17 = .ok (.if_icmp .ge 122, 3) := by decide +kernel
theorem dX8_partsAll_20 : decode eX8_partsAll.2.1 20 = .ok (.sipush 380, 3) := by decide +kernel
theorem dX8_partsAll_23 : decode eX8_partsAll.2.1 23 = .ok (.iconst 5, 1) := by decide +kernel
theorem dX8_partsAll_24 : decode eX8_partsAll.2.1 24 = .ok (.iload_n 2, 1) := by decide +kernel
theorem dX8_partsAll_25 : decode eX8_partsAll.2.1 25 = .ok (.imul, 1) := by decide +kernel
theorem dX8_partsAll_26 : decode eX8_partsAll.2.1 26 = .ok (.iadd, 1) := by decide +kernel
theorem dX8_partsAll_27 : decode eX8_partsAll.2.1 27 = .ok (.istore 4, 2) := by decide +kernel
theorem dX8_partsAll_29 : decode eX8_partsAll.2.1 29 = .ok (.sipush 380, 3) := by decide +kernel
theorem dX8_partsAll_32 : decode eX8_partsAll.2.1 32 = .ok (.iconst 5, 1) := by decide +kernel
theorem dX8_partsAll_33 : decode eX8_partsAll.2.1 33 = .ok (.iload_n 3, 1) := by decide +kernel
theorem dX8_partsAll_34 : decode eX8_partsAll.2.1 34 = .ok (.imul, 1) := by decide +kernel
theorem dX8_partsAll_35 : decode eX8_partsAll.2.1 35 = .ok (.iadd, 1) := by decide +kernel
theorem dX8_partsAll_36 : decode eX8_partsAll.2.1 36 = .ok (.istore 5, 2) := by decide +kernel
theorem dX8_partsAll_38 : decode eX8_partsAll.2.1 38 = .ok (.aload_n 0, 1) := by decide +kernel
theorem dX8_partsAll_39 : decode eX8_partsAll.2.1 39 = .ok (.getfield 7, 3) := by decide +kernel
theorem dX8_partsAll_42 : decode eX8_partsAll.2.1 42 = .ok (.iload 4, 2) := by decide +kernel
theorem dX8_partsAll_44 : decode eX8_partsAll.2.1 44 = .ok (.iconst 4, 1) := by decide +kernel
theorem dX8_partsAll_45 : decode eX8_partsAll.2.1 45 = .ok (.iadd, 1) := by decide +kernel
theorem dX8_partsAll_46 : decode eX8_partsAll.2.1 46 = .ok (.iaload, 1) := by decide +kernel
theorem dX8_partsAll_47 : decode eX8_partsAll.2.1 47 = .ok (.aload_n 0, 1) := by decide +kernel
theorem dX8_partsAll_48 : decode eX8_partsAll.2.1 48 = .ok (.getfield 7, 3) := by decide +kernel
theorem dX8_partsAll_51 : decode eX8_partsAll.2.1 51 = .ok (.iload 5, 2) := by decide +kernel
theorem dX8_partsAll_53 : decode eX8_partsAll.2.1 53 = .ok (.iconst 4, 1) := by decide +kernel
theorem dX8_partsAll_54 : decode eX8_partsAll.2.1 54 = .ok (.iadd, 1) := by decide +kernel
theorem dX8_partsAll_55 : decode eX8_partsAll.2.1 55 = .ok (.iaload, 1) := by decide +kernel
theorem dX8_partsAll_56 : decode eX8_partsAll.2.1 56 = .ok (.if_icmp .ne 7, 3) := by decide +kernel
theorem dX8_partsAll_59 : decode eX8_partsAll.2.1 59 = .ok (.iconst 1, 1) := by decide +kernel
theorem dX8_partsAll_60 : decode eX8_partsAll.2.1 60 = .ok (.goto 4, 3) := by decide +kernel
theorem dX8_partsAll_63 : decode eX8_partsAll.2.1 63 = .ok (.iconst 0, 1) := by decide +kernel
theorem dX8_partsAll_64 : decode eX8_partsAll.2.1 64 = .ok (.istore 6, 2) := by decide +kernel
theorem dX8_partsAll_66 : decode eX8_partsAll.2.1 66 = .ok (.iconst 0, 1) := by decide +kernel
theorem dX8_partsAll_67 : decode eX8_partsAll.2.1 67 = .ok (.istore 7, 2) := by decide +kernel
theorem dX8_partsAll_69 : decode eX8_partsAll.2.1 69 = .ok (.iload 7, 2) := by decide +kernel
theorem dX8_partsAll_71 : decode eX8_partsAll.2.1 71 = .ok (.iconst 4, 1) := by decide +kernel
theorem dX8_partsAll_72 : decode eX8_partsAll.2.1 72 = .ok (.if_icmp .ge 54, 3) := by decide +kernel
theorem dX8_partsAll_75 : decode eX8_partsAll.2.1 75 = .ok (.iload 6, 2) := by decide +kernel
theorem dX8_partsAll_77 : decode eX8_partsAll.2.1 77 = .ok (.ifCond .ne 36, 3) := by decide +kernel
theorem dX8_partsAll_80 : decode eX8_partsAll.2.1 80 = .ok (.iload_n 1, 1) := by decide +kernel
theorem dX8_partsAll_81 : decode eX8_partsAll.2.1 81 = .ok (.iload 7, 2) := by decide +kernel
theorem dX8_partsAll_83 : decode eX8_partsAll.2.1 83 = .ok (.ishr, 1) := by decide +kernel
theorem dX8_partsAll_84 : decode eX8_partsAll.2.1 84 = .ok (.iconst 1, 1) := by decide +kernel
theorem dX8_partsAll_85 : decode eX8_partsAll.2.1 85 = .ok (.iand, 1) := by decide +kernel
theorem dX8_partsAll_86 : decode eX8_partsAll.2.1 86 = .ok (.iconst 1, 1) := by decide +kernel
theorem dX8_partsAll_87 : decode eX8_partsAll.2.1 87 = .ok (.if_icmp .ne 30, 3) := by decide +kernel
theorem dX8_partsAll_90 : decode eX8_partsAll.2.1 90 = .ok (.aload_n 0, 1) := by decide +kernel
theorem dX8_partsAll_91 : decode eX8_partsAll.2.1 91 = .ok (.getfield 7, 3) := by decide +kernel
theorem dX8_partsAll_94 : decode eX8_partsAll.2.1 94 = .ok (.iload 4, 2) := by decide +kernel
theorem dX8_partsAll_96 : decode eX8_partsAll.2.1 96 = .ok (.iload 7, 2) := by decide +kernel
theorem dX8_partsAll_98 : decode eX8_partsAll.2.1 98 = .ok (.iadd, 1) := by decide +kernel
theorem dX8_partsAll_99 : decode eX8_partsAll.2.1 99 = .ok (.iaload, 1) := by decide +kernel
theorem dX8_partsAll_100 : decode eX8_partsAll.2.1 100 = .ok (.aload_n 0, 1) := by decide +kernel
theorem dX8_partsAll_101 : decode eX8_partsAll.2.1 101 = .ok (.getfield 7, 3) := by decide +kernel
theorem dX8_partsAll_104 : decode eX8_partsAll.2.1 104 = .ok (.iload 5, 2) := by decide +kernel
theorem dX8_partsAll_106 : decode eX8_partsAll.2.1 106 = .ok (.iload 7, 2) := by decide +kernel
theorem dX8_partsAll_108 : decode eX8_partsAll.2.1 108 = .ok (.iadd, 1) := by decide +kernel
theorem dX8_partsAll_109 : decode eX8_partsAll.2.1 109 = .ok (.iaload, 1) := by decide +kernel
theorem dX8_partsAll_110 : decode eX8_partsAll.2.1 110 = .ok (.if_icmp .eq 7, 3) := by decide +kernel
theorem dX8_partsAll_113 : decode eX8_partsAll.2.1 113 = .ok (.iconst 1, 1) := by decide +kernel
theorem dX8_partsAll_114 : decode eX8_partsAll.2.1 114 = .ok (.goto 4, 3) := by decide +kernel
theorem dX8_partsAll_117 : decode eX8_partsAll.2.1 117 = .ok (.iconst 0, 1) := by decide +kernel
theorem dX8_partsAll_118 : decode eX8_partsAll.2.1 118 = .ok (.istore 6, 2) := by decide +kernel
theorem dX8_partsAll_120 : decode eX8_partsAll.2.1 120 = .ok (.iinc 7 1, 3) := by decide +kernel
theorem dX8_partsAll_123 : decode eX8_partsAll.2.1 123 = .ok (.goto (-54), 3) := by decide +kernel
theorem dX8_partsAll_126 : decode eX8_partsAll.2.1 126 = .ok (.iload 6, 2) := by decide +kernel
theorem dX8_partsAll_128 : decode eX8_partsAll.2.1 128 = .ok (.ifCond .ne 5, 3) := by decide +kernel
theorem dX8_partsAll_131 : decode eX8_partsAll.2.1 131 = .ok (.iconst 0, 1) := by decide +kernel
theorem dX8_partsAll_132 : decode eX8_partsAll.2.1 132 = .ok (.ireturn, 1) := by decide +kernel
theorem dX8_partsAll_133 : decode eX8_partsAll.2.1 133 = .ok (.iinc 3 1, 3) := by decide +kernel
theorem dX8_partsAll_136 : decode eX8_partsAll.2.1 136 = .ok (.goto (-121), 3) := by decide +kernel
theorem dX8_partsAll_139 : decode eX8_partsAll.2.1 139 = .ok (.iinc 2 1, 3) := by decide +kernel
theorem dX8_partsAll_142 : decode eX8_partsAll.2.1 142 = .ok (.goto (-140), 3) := by decide +kernel
theorem dX8_partsAll_145 : decode eX8_partsAll.2.1 145 = .ok (.iconst 1, 1) := by decide +kernel
theorem dX8_partsAll_146 : decode eX8_partsAll.2.1 146 = .ok (.ireturn, 1) := by decide +kernel
theorem dX8_apart_0 : decode eX8_apart.2.1 0 = .ok (.iload_n 1, 1) := by decide +kernel
theorem dX8_apart_1 : decode eX8_apart.2.1 1 = .ok (.i2l, 1) := by decide +kernel
theorem dX8_apart_2 : decode eX8_apart.2.1 2 = .ok (.lconst 0, 1) := by decide +kernel
theorem dX8_apart_3 : decode eX8_apart.2.1 3 = .ok (.ldc2_w 348, 3) := by decide +kernel
theorem dX8_apart_6 : decode eX8_apart.2.1 6 = .ok (.invokestatic 71, 3) := by decide +kernel
theorem dX8_apart_9 : decode eX8_apart.2.1 9 = .ok (.ifCond .ne 8, 3) := by decide +kernel
theorem dX8_apart_12 : decode eX8_apart.2.1 12 = .ok (.ldc 91, 2) := by decide +kernel
theorem dX8_apart_14 : decode eX8_apart.2.1 14 = .ok (.goto 16, 3) := by decide +kernel
theorem dX8_apart_17 : decode eX8_apart.2.1 17 = .ok (.aload_n 0, 1) := by decide +kernel
theorem dX8_apart_18 : decode eX8_apart.2.1 18 = .ok (.iload_n 1, 1) := by decide +kernel
theorem dX8_apart_19 : decode eX8_apart.2.1 19 = .ok (.invokevirtual 350, 3) := by decide +kernel
theorem dX8_apart_22 : decode eX8_apart.2.1 22 = .ok (.ifCond .eq 7, 3) := by decide +kernel
theorem dX8_apart_25 : decode eX8_apart.2.1 25 = .ok (.iconst 1, 1) := by decide +kernel
theorem dX8_apart_26 : decode eX8_apart.2.1 26 = .ok (.goto 4, 3) := by decide +kernel
theorem dX8_apart_29 : decode eX8_apart.2.1 29 = .ok (.iconst 0, 1) := by decide +kernel
theorem dX8_apart_30 : decode eX8_apart.2.1 30 = .ok (.ireturn, 1) := by decide +kernel
theorem dX8_ones_0 : decode eX8_ones.2.1 0 = .ok (.iload_n 0, 1) := by decide +kernel
theorem dX8_ones_1 : decode eX8_ones.2.1 1 = .ok (.iconst 1, 1) := by decide +kernel
theorem dX8_ones_2 : decode eX8_ones.2.1 2 = .ok (.iand, 1) := by decide +kernel
theorem dX8_ones_3 : decode eX8_ones.2.1 3 = .ok (.iload_n 0, 1) := by decide +kernel
theorem dX8_ones_4 : decode eX8_ones.2.1 4 = .ok (.iconst 1, 1) := by decide +kernel
theorem dX8_ones_5 : decode eX8_ones.2.1 5 = .ok (.ishr, 1) := by decide +kernel
theorem dX8_ones_6 : decode eX8_ones.2.1 6 = .ok (.iconst 1, 1) := by decide +kernel
theorem dX8_ones_7 : decode eX8_ones.2.1 7 = .ok (.iand, 1) := by decide +kernel
theorem dX8_ones_8 : decode eX8_ones.2.1 8 = .ok (.iadd, 1) := by decide +kernel
theorem dX8_ones_9 : decode eX8_ones.2.1 9 = .ok (.iload_n 0, 1) := by decide +kernel
theorem dX8_ones_10 : decode eX8_ones.2.1 10 = .ok (.iconst 2, 1) := by decide +kernel
theorem dX8_ones_11 : decode eX8_ones.2.1 11 = .ok (.ishr, 1) := by decide +kernel
theorem dX8_ones_12 : decode eX8_ones.2.1 12 = .ok (.iconst 1, 1) := by decide +kernel
theorem dX8_ones_13 : decode eX8_ones.2.1 13 = .ok (.iand, 1) := by decide +kernel
theorem dX8_ones_14 : decode eX8_ones.2.1 14 = .ok (.iadd, 1) := by decide +kernel
theorem dX8_ones_15 : decode eX8_ones.2.1 15 = .ok (.iload_n 0, 1) := by decide +kernel
theorem dX8_ones_16 : decode eX8_ones.2.1 16 = .ok (.iconst 3, 1) := by decide +kernel
theorem dX8_ones_17 : decode eX8_ones.2.1 17 = .ok (.ishr, 1) := by decide +kernel
theorem dX8_ones_18 : decode eX8_ones.2.1 18 = .ok (.iconst 1, 1) := by decide +kernel
theorem dX8_ones_19 : decode eX8_ones.2.1 19 = .ok (.iand, 1) := by decide +kernel
theorem dX8_ones_20 : decode eX8_ones.2.1 20 = .ok (.iadd, 1) := by decide +kernel
theorem dX8_ones_21 : decode eX8_ones.2.1 21 = .ok (.ireturn, 1) := by decide +kernel
theorem dX8_fewest_0 : decode eX8_fewest.2.1 0 = .ok (.iconst (-1), 1) := by decide +kernel
theorem dX8_fewest_1 : decode eX8_fewest.2.1 1 = .ok (.istore_n 1, 1) := by decide +kernel
theorem dX8_fewest_2 : decode eX8_fewest.2.1 2 = .ok (.iconst 0, 1) := by decide +kernel
theorem dX8_fewest_3 : decode eX8_fewest.2.1 3 = .ok (.istore_n 2, 1) := by decide +kernel
theorem dX8_fewest_4 : decode eX8_fewest.2.1 4 = .ok (.iload_n 2, 1) := by decide +kernel
theorem dX8_fewest_5 : decode eX8_fewest.2.1 5 = .ok (.bipush 16, 2) := by decide +kernel
theorem dX8_fewest_7 : decode eX8_fewest.2.1 7 = .ok (.if_icmp .ge 38, 3) := by decide +kernel
theorem dX8_fewest_10 : decode eX8_fewest.2.1 10 = .ok (.aload_n 0, 1) := by decide +kernel
theorem dX8_fewest_11 : decode eX8_fewest.2.1 11 = .ok (.iload_n 2, 1) := by decide +kernel
theorem dX8_fewest_12 : decode eX8_fewest.2.1 12 = .ok (.invokevirtual 350, 3) := by decide +kernel
theorem dX8_fewest_15 : decode eX8_fewest.2.1 15 = .ok (.ifCond .eq 22, 3) := by decide +kernel
theorem dX8_fewest_18 : decode eX8_fewest.2.1 18 = .ok (.iload_n 1, 1) := by decide +kernel
theorem dX8_fewest_19 : decode eX8_fewest.2.1 19 = .ok (.ifCond .lt 14, 3) := by decide +kernel
theorem dX8_fewest_22 : decode eX8_fewest.2.1 22 = .ok (.iload_n 2, 1) := by decide +kernel
theorem dX8_fewest_23 : decode eX8_fewest.2.1 23 = .ok (.invokestatic 353, 3) := by decide +kernel
theorem dX8_fewest_26 : decode eX8_fewest.2.1 26 = .ok (.iload_n 1, 1) := by decide +kernel
theorem dX8_fewest_27 : decode eX8_fewest.2.1 27 = .ok (.invokestatic 353, 3) := by decide +kernel
theorem dX8_fewest_30 : decode eX8_fewest.2.1 30 = .ok (.if_icmp .ge 7, 3) := by decide +kernel
theorem dX8_fewest_33 : decode eX8_fewest.2.1 33 = .ok (.iload_n 2, 1) := by decide +kernel
theorem dX8_fewest_34 : decode eX8_fewest.2.1 34 = .ok (.goto 4, 3) := by decide +kernel
theorem dX8_fewest_37 : decode eX8_fewest.2.1 37 = .ok (.iload_n 1, 1) := by decide +kernel
theorem dX8_fewest_38 : decode eX8_fewest.2.1 38 = .ok (.istore_n 1, 1) := by decide +kernel
theorem dX8_fewest_39 : decode eX8_fewest.2.1 39 = .ok (.iinc 2 1, 3) := by decide +kernel
theorem dX8_fewest_42 : decode eX8_fewest.2.1 42 = .ok (.goto (-38), 3) := by decide +kernel
theorem dX8_fewest_45 : decode eX8_fewest.2.1 45 = .ok (.iload_n 1, 1) := by decide +kernel
theorem dX8_fewest_46 : decode eX8_fewest.2.1 46 = .ok (.invokestatic 133, 3) := by decide +kernel
theorem dX8_fewest_49 : decode eX8_fewest.2.1 49 = .ok (.ireturn, 1) := by decide +kernel
theorem dX8_watch_0 : decode eX8_watch.2.1 0 = .ok (.iload_n 1, 1) := by decide +kernel
theorem dX8_watch_1 : decode eX8_watch.2.1 1 = .ok (.i2l, 1) := by decide +kernel
theorem dX8_watch_2 : decode eX8_watch.2.1 2 = .ok (.lconst 0, 1) := by decide +kernel
theorem dX8_watch_3 : decode eX8_watch.2.1 3 = .ok (.ldc2_w 356, 3) := by decide +kernel
theorem dX8_watch_6 : decode eX8_watch.2.1 6 = .ok (.invokestatic 71, 3) := by decide +kernel
theorem dX8_watch_9 : decode eX8_watch.2.1 9 = .ok (.ifCond .ne 6, 3) := by decide +kernel
theorem dX8_watch_12 : decode eX8_watch.2.1 12 = .ok (.ldc 91, 2) := by decide +kernel
theorem dX8_watch_14 : decode eX8_watch.2.1 14 = .ok (.ireturn, 1) := by decide +kernel
theorem dX8_watch_15 : decode eX8_watch.2.1 15 = .ok (.aload_n 0, 1) := by decide +kernel
theorem dX8_watch_16 : decode eX8_watch.2.1 16 = .ok (.getfield 7, 3) := by decide +kernel
theorem dX8_watch_19 : decode eX8_watch.2.1 19 = .ok (.bipush 8, 2) := by decide +kernel
theorem dX8_watch_21 : decode eX8_watch.2.1 21 = .ok (.iaload, 1) := by decide +kernel
theorem dX8_watch_22 : decode eX8_watch.2.1 22 = .ok (.bipush 12, 2) := by decide +kernel
theorem dX8_watch_24 : decode eX8_watch.2.1 24 = .ok (.if_icmp .ne 6, 3) := by decide +kernel
theorem dX8_watch_27 : decode eX8_watch.2.1 27 = .ok (.ldc 96, 2) := by decide +kernel
theorem dX8_watch_29 : decode eX8_watch.2.1 29 = .ok (.ireturn, 1) := by decide +kernel
theorem dX8_watch_30 : decode eX8_watch.2.1 30 = .ok (.aload_n 0, 1) := by decide +kernel
theorem dX8_watch_31 : decode eX8_watch.2.1 31 = .ok (.getfield 7, 3) := by decide +kernel
theorem dX8_watch_34 : decode eX8_watch.2.1 34 = .ok (.sipush 420, 3) := by decide +kernel
theorem dX8_watch_37 : decode eX8_watch.2.1 37 = .ok (.aload_n 0, 1) := by decide +kernel
theorem dX8_watch_38 : decode eX8_watch.2.1 38 = .ok (.getfield 7, 3) := by decide +kernel
theorem dX8_watch_41 : decode eX8_watch.2.1 41 = .ok (.bipush 8, 2) := by decide +kernel
theorem dX8_watch_43 : decode eX8_watch.2.1 43 = .ok (.iaload, 1) := by decide +kernel
theorem dX8_watch_44 : decode eX8_watch.2.1 44 = .ok (.iadd, 1) := by decide +kernel
theorem dX8_watch_45 : decode eX8_watch.2.1 45 = .ok (.iload_n 1, 1) := by decide +kernel
theorem dX8_watch_46 : decode eX8_watch.2.1 46 = .ok (.iastore, 1) := by decide +kernel
theorem dX8_watch_47 : decode eX8_watch.2.1 47 = .ok (.aload_n 0, 1) := by decide +kernel
theorem dX8_watch_48 : decode eX8_watch.2.1 48 = .ok (.getfield 7, 3) := by decide +kernel
theorem dX8_watch_51 : decode eX8_watch.2.1 51 = .ok (.bipush 8, 2) := by decide +kernel
theorem dX8_watch_53 : decode eX8_watch.2.1 53 = .ok (.dup2, 1) := by decide +kernel
theorem dX8_watch_54 : decode eX8_watch.2.1 54 = .ok (.iaload, 1) := by decide +kernel
theorem dX8_watch_55 : decode eX8_watch.2.1 55 = .ok (.iconst 1, 1) := by decide +kernel
theorem dX8_watch_56 : decode eX8_watch.2.1 56 = .ok (.iadd, 1) := by decide +kernel
theorem dX8_watch_57 : decode eX8_watch.2.1 57 = .ok (.iastore, 1) := by decide +kernel
theorem dX8_watch_58 : decode eX8_watch.2.1 58 = .ok (.aload_n 0, 1) := by decide +kernel
theorem dX8_watch_59 : decode eX8_watch.2.1 59 = .ok (.getfield 7, 3) := by decide +kernel
theorem dX8_watch_62 : decode eX8_watch.2.1 62 = .ok (.bipush 8, 2) := by decide +kernel
theorem dX8_watch_64 : decode eX8_watch.2.1 64 = .ok (.iaload, 1) := by decide +kernel
theorem dX8_watch_65 : decode eX8_watch.2.1 65 = .ok (.iconst 1, 1) := by decide +kernel
theorem dX8_watch_66 : decode eX8_watch.2.1 66 = .ok (.isub, 1) := by decide +kernel
theorem dX8_watch_67 : decode eX8_watch.2.1 67 = .ok (.ireturn, 1) := by decide +kernel
theorem dX8_rowsOf_0 : decode eX8_rowsOf.2.1 0 = .ok (.iconst 0, 1) := by decide +kernel
theorem dX8_rowsOf_1 : decode eX8_rowsOf.2.1 1 = .ok (.istore_n 3, 1) := by decide +kernel
theorem dX8_rowsOf_2 : decode eX8_rowsOf.2.1 2 = .ok (.iconst 0, 1) := by decide +kernel
theorem dX8_rowsOf_3 : decode eX8_rowsOf.2.1 3 = .ok (.istore 4, 2) := by decide +kernel
theorem dX8_rowsOf_5 : decode eX8_rowsOf.2.1 5 = .ok (.iload 4, 2) := by decide +kernel
theorem dX8_rowsOf_7 : decode eX8_rowsOf.2.1 7 = .ok (.aload_n 0, 1) := by decide +kernel
theorem dX8_rowsOf_8 : decode eX8_rowsOf.2.1 8 = .ok (.getfield 7, 3) := by decide +kernel
theorem dX8_rowsOf_11 : decode eX8_rowsOf.2.1 11 = .ok (.bipush 8, 2) := by decide +kernel
theorem dX8_rowsOf_13 : decode eX8_rowsOf.2.1 13 = .ok (.iaload, 1) := by decide +kernel
theorem dX8_rowsOf_14 : decode eX8_rowsOf.2.1 14 = .ok (.if_icmp .ge 45, 3) := by decide +kernel
theorem dX8_rowsOf_17 : decode eX8_rowsOf.2.1 17 = .ok (.iload_n 3, 1) := by decide +kernel
theorem dX8_rowsOf_18 : decode eX8_rowsOf.2.1 18 = .ok (.iload 4, 2) := by decide +kernel
theorem dX8_rowsOf_20 : decode eX8_rowsOf.2.1 20 = .ok (.iload_n 2, 1) := by decide +kernel
theorem dX8_rowsOf_21 : decode eX8_rowsOf.2.1 21 = .ok (.if_icmp .eq 29, 3) := by decide +kernel
theorem dX8_rowsOf_24 : decode eX8_rowsOf.2.1 24 = .ok (.aload_n 0, 1) := by decide +kernel
theorem dX8_rowsOf_25 : decode eX8_rowsOf.2.1 25 = .ok (.getfield 7, 3) := by decide +kernel
theorem dX8_rowsOf_28 : decode eX8_rowsOf.2.1 28 = .ok (.sipush 420, 3) := by decide +kernel
theorem dX8_rowsOf_31 : decode eX8_rowsOf.2.1 31 = .ok (.iload 4, 2) := by decide +kernel
theorem dX8_rowsOf_33 : decode eX8_rowsOf.2.1 33 = .ok (.iadd, 1) := by decide +kernel
theorem dX8_rowsOf_34 : decode eX8_rowsOf.2.1 34 = .ok (.iaload, 1) := by decide +kernel
theorem dX8_rowsOf_35 : decode eX8_rowsOf.2.1 35 = .ok (.iload_n 1, 1) := by decide +kernel
theorem dX8_rowsOf_36 : decode eX8_rowsOf.2.1 36 = .ok (.ishr, 1) := by decide +kernel
theorem dX8_rowsOf_37 : decode eX8_rowsOf.2.1 37 = .ok (.iconst 1, 1) := by decide +kernel
theorem dX8_rowsOf_38 : decode eX8_rowsOf.2.1 38 = .ok (.iand, 1) := by decide +kernel
theorem dX8_rowsOf_39 : decode eX8_rowsOf.2.1 39 = .ok (.iconst 1, 1) := by decide +kernel
theorem dX8_rowsOf_40 : decode eX8_rowsOf.2.1 40 = .ok (.if_icmp .ne 10, 3) := by decide +kernel
theorem dX8_rowsOf_43 : decode eX8_rowsOf.2.1 43 = .ok (.iconst 1, 1) := by decide +kernel
theorem dX8_rowsOf_44 : decode eX8_rowsOf.2.1 44 = .ok (.iload 4, 2) := by decide +kernel
theorem dX8_rowsOf_46 : decode eX8_rowsOf.2.1 46 = .ok (.ishl, 1) := by decide +kernel
theorem dX8_rowsOf_47 : decode eX8_rowsOf.2.1 47 = .ok (.goto 4, 3) := by decide +kernel
theorem dX8_rowsOf_50 : decode eX8_rowsOf.2.1 50 = .ok (.iconst 0, 1) := by decide +kernel
theorem dX8_rowsOf_51 : decode eX8_rowsOf.2.1 51 = .ok (.ior, 1) := by decide +kernel
theorem dX8_rowsOf_52 : decode eX8_rowsOf.2.1 52 = .ok (.istore_n 3, 1) := by decide +kernel
theorem dX8_rowsOf_53 : decode eX8_rowsOf.2.1 53 = .ok (.iinc 4 1, 3) := by decide +kernel
theorem dX8_rowsOf_56 : decode eX8_rowsOf.2.1 56 = .ok (.goto (-51), 3) := by decide +kernel
theorem dX8_rowsOf_59 : decode eX8_rowsOf.2.1 59 = .ok (.iload_n 3, 1) := by decide +kernel
theorem dX8_rowsOf_60 : decode eX8_rowsOf.2.1 60 = .ok (.ireturn, 1) := by decide +kernel
theorem dX8_alike_0 : decode eX8_alike.2.1 0 = .ok (.iload_n 1, 1) := by decide +kernel
theorem dX8_alike_1 : decode eX8_alike.2.1 1 = .ok (.i2l, 1) := by decide +kernel
theorem dX8_alike_2 : decode eX8_alike.2.1 2 = .ok (.lconst 0, 1) := by decide +kernel
theorem dX8_alike_3 : decode eX8_alike.2.1 3 = .ok (.ldc2_w 358, 3) := by decide +kernel
theorem dX8_alike_6 : decode eX8_alike.2.1 6 = .ok (.invokestatic 71, 3) := by decide +kernel
theorem dX8_alike_9 : decode eX8_alike.2.1 9 = .ok (.ifCond .eq 20, 3) := by decide +kernel
theorem dX8_alike_12 : decode eX8_alike.2.1 12 = .ok (.iload_n 2, 1) := by decide +kernel
theorem dX8_alike_13 : decode eX8_alike.2.1 13 = .ok (.i2l, 1) := by decide +kernel
theorem dX8_alike_14 : decode eX8_alike.2.1 14 = .ok (.lconst 0, 1) := by decide +kernel
theorem dX8_alike_15 : decode eX8_alike.2.1 15 = .ok (.ldc2_w 358, 3) := by decide +kernel
theorem dX8_alike_18 : decode eX8_alike.2.1 18 = .ok (.invokestatic 71, 3) := by decide +kernel
theorem dX8_alike_21 : decode eX8_alike.2.1 21 = .ok (.ifCond .eq 8, 3) := by decide +kernel
theorem dX8_alike_24 : decode eX8_alike.2.1 24 = .ok (.iload_n 1, 1) := by decide +kernel
theorem dX8_alike_25 : decode eX8_alike.2.1 25 = .ok (.iload_n 2, 1) := by decide +kernel
theorem dX8_alike_26 : decode eX8_alike.2.1 26 = .ok (.if_icmp .ne 6, 3) := by decide +kernel
theorem dX8_alike_29 : decode eX8_alike.2.1 29 = .ok (.ldc 91, 2) := by decide +kernel
theorem dX8_alike_31 : decode eX8_alike.2.1 31 = .ok (.ireturn, 1) := by decide +kernel
theorem dX8_alike_32 : decode eX8_alike.2.1 32 = .ok (.aload_n 0, 1) := by decide +kernel
theorem dX8_alike_33 : decode eX8_alike.2.1 33 = .ok (.iload_n 1, 1) := by decide +kernel
theorem dX8_alike_34 : decode eX8_alike.2.1 34 = .ok (.iconst (-1), 1) := by decide +kernel
theorem dX8_alike_35 : decode eX8_alike.2.1 35 = .ok (.invokevirtual 360, 3) := by decide +kernel
theorem dX8_alike_38 : decode eX8_alike.2.1 38 = .ok (.aload_n 0, 1) := by decide +kernel
theorem dX8_alike_39 : decode eX8_alike.2.1 39 = .ok (.iload_n 2, 1) := by decide +kernel
theorem dX8_alike_40 : decode eX8_alike.2.1 40 = .ok (.iconst (-1), 1) := by decide +kernel
theorem dX8_alike_41 : decode eX8_alike.2.1 41 = .ok (.invokevirtual 360, 3) := by decide +kernel
theorem dX8_alike_44 : decode eX8_alike.2.1 44 = .ok (.if_icmp .ne 7, 3) := by decide +kernel
theorem dX8_alike_47 : decode eX8_alike.2.1 47 = .ok (.iconst 1, 1) := by decide +kernel
theorem dX8_alike_48 : decode eX8_alike.2.1 48 = .ok (.goto 4, 3) := by decide +kernel
theorem dX8_alike_51 : decode eX8_alike.2.1 51 = .ok (.iconst 0, 1) := by decide +kernel
theorem dX8_alike_52 : decode eX8_alike.2.1 52 = .ok (.ireturn, 1) := by decide +kernel
theorem dX8_kindsOf_0 : decode eX8_kindsOf.2.1 0 = .ok (.iconst 0, 1) := by decide +kernel
theorem dX8_kindsOf_1 : decode eX8_kindsOf.2.1 1 = .ok (.istore_n 2, 1) := by decide +kernel
theorem dX8_kindsOf_2 : decode eX8_kindsOf.2.1 2 = .ok (.iconst 0, 1) := by decide +kernel
theorem dX8_kindsOf_3 : decode eX8_kindsOf.2.1 3 = .ok (.istore_n 3, 1) := by decide +kernel
theorem dX8_kindsOf_4 : decode eX8_kindsOf.2.1 4 = .ok (.iload_n 3, 1) := by decide +kernel
theorem dX8_kindsOf_5 : decode eX8_kindsOf.2.1 5 = .ok (.bipush 29, 2) := by decide +kernel
theorem dX8_kindsOf_7 : decode eX8_kindsOf.2.1 7 = .ok (.aload_n 0, 1) := by decide +kernel
theorem dX8_kindsOf_8 : decode eX8_kindsOf.2.1 8 = .ok (.getfield 7, 3) := by decide +kernel
theorem dX8_kindsOf_11 : decode eX8_kindsOf.2.1 11 = .ok (.iconst 0, 1) := by decide +kernel
theorem dX8_kindsOf_12 : decode eX8_kindsOf.2.1 12 = .ok (.iaload, 1) := by decide +kernel
theorem dX8_kindsOf_13 : decode eX8_kindsOf.2.1 13 = .ok (.invokestatic 100, 3) := by decide +kernel
theorem dX8_kindsOf_16 : decode eX8_kindsOf.2.1 16 = .ok (.if_icmp .ge 68, 3) := by decide +kernel
theorem dX8_kindsOf_19 : decode eX8_kindsOf.2.1 19 = .ok (.iconst 1, 1) := by decide +kernel
theorem dX8_kindsOf_20 : decode eX8_kindsOf.2.1 20 = .ok (.istore 4, 2) := by decide +kernel
theorem dX8_kindsOf_22 : decode eX8_kindsOf.2.1 22 = .ok (.iconst 0, 1) := by decide +kernel
theorem dX8_kindsOf_23 : decode eX8_kindsOf.2.1 23 = .ok (.istore 5, 2) := by decide +kernel
theorem dX8_kindsOf_25 : decode eX8_kindsOf.2.1 25 = .ok (.iload 5, 2) := by decide +kernel
theorem dX8_kindsOf_27 : decode eX8_kindsOf.2.1 27 = .ok (.iload_n 3, 1) := by decide +kernel
theorem dX8_kindsOf_28 : decode eX8_kindsOf.2.1 28 = .ok (.if_icmp .ge 37, 3) := by decide +kernel
theorem dX8_kindsOf_31 : decode eX8_kindsOf.2.1 31 = .ok (.iload 4, 2) := by decide +kernel
theorem dX8_kindsOf_33 : decode eX8_kindsOf.2.1 33 = .ok (.ifCond .eq 23, 3) := by decide +kernel
theorem dX8_kindsOf_36 : decode eX8_kindsOf.2.1 36 = .ok (.aload_n 0, 1) := by decide +kernel
theorem dX8_kindsOf_37 : decode eX8_kindsOf.2.1 37 = .ok (.iload 5, 2) := by decide +kernel
theorem dX8_kindsOf_39 : decode eX8_kindsOf.2.1 39 = .ok (.iload_n 1, 1) := by decide +kernel
theorem dX8_kindsOf_40 : decode eX8_kindsOf.2.1 40 = .ok (.invokevirtual 360, 3) := by decide +kernel
theorem dX8_kindsOf_43 : decode eX8_kindsOf.2.1 43 = .ok (.aload_n 0, 1) := by decide +kernel
theorem dX8_kindsOf_44 : decode eX8_kindsOf.2.1 44 = .ok (.iload_n 3, 1) := by decide +kernel
theorem dX8_kindsOf_45 : decode eX8_kindsOf.2.1 45 = .ok (.iload_n 1, 1) := by decide +kernel
theorem dX8_kindsOf_46 : decode eX8_kindsOf.2.1 46 = .ok (.invokevirtual 360, 3) := by decide +kernel
theorem dX8_kindsOf_49 : decode eX8_kindsOf.2.1 49 = .ok (.if_icmp .eq 7, 3) := by decide +kernel
theorem dX8_kindsOf_52 : decode eX8_kindsOf.2.1 52 = .ok (.iconst 1, 1) := by decide +kernel
theorem dX8_kindsOf_53 : decode eX8_kindsOf.2.1 53 = .ok (.goto 4, 3) := by decide +kernel
theorem dX8_kindsOf_56 : decode eX8_kindsOf.2.1 56 = .ok (.iconst 0, 1) := by decide +kernel
theorem dX8_kindsOf_57 : decode eX8_kindsOf.2.1 57 = .ok (.istore 4, 2) := by decide +kernel
theorem dX8_kindsOf_59 : decode eX8_kindsOf.2.1 59 = .ok (.iinc 5 1, 3) := by decide +kernel
theorem dX8_kindsOf_62 : decode eX8_kindsOf.2.1 62 = .ok (.goto (-37), 3) := by decide +kernel
theorem dX8_kindsOf_65 : decode eX8_kindsOf.2.1 65 = .ok (.iload_n 2, 1) := by decide +kernel
theorem dX8_kindsOf_66 : decode eX8_kindsOf.2.1 66 = .ok (.iload 4, 2) := by decide +kernel
theorem dX8_kindsOf_68 : decode eX8_kindsOf.2.1 68 = .ok (.ifCond .eq 7, 3) := by decide +kernel
theorem dX8_kindsOf_71 : decode eX8_kindsOf.2.1 71 = .ok (.iconst 1, 1) := by decide +kernel
theorem dX8_kindsOf_72 : decode eX8_kindsOf.2.1 72 = .ok (.goto 4, 3) := by decide +kernel
theorem dX8_kindsOf_75 : decode eX8_kindsOf.2.1 75 = .ok (.iconst 0, 1) := by decide +kernel
theorem dX8_kindsOf_76 : decode eX8_kindsOf.2.1 76 = .ok (.iadd, 1) := by decide +kernel
theorem dX8_kindsOf_77 : decode eX8_kindsOf.2.1 77 = .ok (.istore_n 2, 1) := by decide +kernel
theorem dX8_kindsOf_78 : decode eX8_kindsOf.2.1 78 = .ok (.iinc 3 1, 3) := by decide +kernel
theorem dX8_kindsOf_81 : decode eX8_kindsOf.2.1 81 = .ok (.goto (-77), 3) := by decide +kernel
theorem dX8_kindsOf_84 : decode eX8_kindsOf.2.1 84 = .ok (.iload_n 2, 1) := by decide +kernel
theorem dX8_kindsOf_85 : decode eX8_kindsOf.2.1 85 = .ok (.ireturn, 1) := by decide +kernel
theorem dX8_kinds_0 : decode eX8_kinds.2.1 0 = .ok (.iload_n 1, 1) := by decide +kernel
theorem dX8_kinds_1 : decode eX8_kinds.2.1 1 = .ok (.i2l, 1) := by decide +kernel
theorem dX8_kinds_2 : decode eX8_kinds.2.1 2 = .ok (.ldc2_w 163, 3) := by decide +kernel
theorem dX8_kinds_5 : decode eX8_kinds.2.1 5 = .ok (.aload_n 0, 1) := by decide +kernel
theorem dX8_kinds_6 : decode eX8_kinds.2.1 6 = .ok (.getfield 7, 3) := by decide +kernel
theorem dX8_kinds_9 : decode eX8_kinds.2.1 9 = .ok (.bipush 8, 2) := by decide +kernel
theorem dX8_kinds_11 : decode eX8_kinds.2.1 11 = .ok (.iaload, 1) := by decide +kernel
theorem dX8_kinds_12 : decode eX8_kinds.2.1 12 = .ok (.iconst 1, 1) := by decide +kernel
theorem dX8_kinds_13 : decode eX8_kinds.2.1 13 = .ok (.isub, 1) := by decide +kernel
theorem dX8_kinds_14 : decode eX8_kinds.2.1 14 = .ok (.i2l, 1) := by decide +kernel
theorem dX8_kinds_15 : decode eX8_kinds.2.1 15 = .ok (.invokestatic 71, 3) := by decide +kernel
theorem dX8_kinds_18 : decode eX8_kinds.2.1 18 = .ok (.ifCond .eq 11, 3) := by decide +kernel
theorem dX8_kinds_21 : decode eX8_kinds.2.1 21 = .ok (.aload_n 0, 1) := by decide +kernel
theorem dX8_kinds_22 : decode eX8_kinds.2.1 22 = .ok (.iload_n 1, 1) := by decide +kernel
theorem dX8_kinds_23 : decode eX8_kinds.2.1 23 = .ok (.invokevirtual 363, 3) := by decide +kernel
theorem dX8_kinds_26 : decode eX8_kinds.2.1 26 = .ok (.goto 5, 3) := by decide +kernel
theorem dX8_kinds_29 : decode eX8_kinds.2.1 29 = .ok (.ldc 91, 2) := by decide +kernel
theorem dX8_kinds_31 : decode eX8_kinds.2.1 31 = .ok (.ireturn, 1) := by decide +kernel
theorem dX8_parts_0 : decode eX8_parts.2.1 0 = .ok (.iconst (-1), 1) := by decide +kernel
theorem dX8_parts_1 : decode eX8_parts.2.1 1 = .ok (.istore_n 1, 1) := by decide +kernel
theorem dX8_parts_2 : decode eX8_parts.2.1 2 = .ok (.iconst 0, 1) := by decide +kernel
theorem dX8_parts_3 : decode eX8_parts.2.1 3 = .ok (.istore_n 2, 1) := by decide +kernel
theorem dX8_parts_4 : decode eX8_parts.2.1 4 = .ok (.iconst 0, 1) := by decide +kernel
theorem dX8_parts_5 : decode eX8_parts.2.1 5 = .ok (.istore_n 3, 1) := by decide +kernel
theorem dX8_parts_6 : decode eX8_parts.2.1 6 = .ok (.iload_n 3, 1) := by decide +kernel
theorem dX8_parts_7 : decode eX8_parts.2.1 7 = .ok (.aload_n 0, 1) := by decide +kernel
theorem dX8_parts_8 : decode eX8_parts.2.1 8 = .ok (.getfield 7, 3) := by decide +kernel
theorem dX8_parts_11 : decode eX8_parts.2.1 11 = .ok (.bipush 8, 2) := by decide +kernel
theorem dX8_parts_13 : decode eX8_parts.2.1 13 = .ok (.iaload, 1) := by decide +kernel
theorem dX8_parts_14 : decode eX8_parts.2.1 14 = .ok (.if_icmp .ge 31, 3) := by decide +kernel
theorem dX8_parts_17 : decode eX8_parts.2.1 17 = .ok (.aload_n 0, 1) := by decide +kernel
theorem dX8_parts_18 : decode eX8_parts.2.1 18 = .ok (.iload_n 3, 1) := by decide +kernel
theorem dX8_parts_19 : decode eX8_parts.2.1 19 = .ok (.invokevirtual 363, 3) := by decide +kernel
theorem dX8_parts_22 : decode eX8_parts.2.1 22 = .ok (.istore 4, 2) := by decide +kernel
theorem dX8_parts_24 : decode eX8_parts.2.1 24 = .ok (.iload_n 1, 1) := by decide +kernel
theorem dX8_parts_25 : decode eX8_parts.2.1 25 = .ok (.ifCond .lt 9, 3) := by decide +kernel
theorem dX8_parts_28 : decode eX8_parts.2.1 28 = .ok (.iload 4, 2) := by decide +kernel
theorem dX8_parts_30 : decode eX8_parts.2.1 30 = .ok (.iload_n 2, 1) := by decide +kernel
theorem dX8_parts_31 : decode eX8_parts.2.1 31 = .ok (.if_icmp .ge 8, 3) := by decide +kernel
theorem dX8_parts_34 : decode eX8_parts.2.1 34 = .ok (.iload_n 3, 1) := by decide +kernel
theorem dX8_parts_35 : decode eX8_parts.2.1 35 = .ok (.istore_n 1, 1) := by decide +kernel
theorem dX8_parts_36 : decode eX8_parts.2.1 36 = .ok (.iload 4, 2) := by decide +kernel
theorem dX8_parts_38 : decode eX8_parts.2.1 38 = .ok (.istore_n 2, 1) := by decide +kernel
theorem dX8_parts_39 : decode eX8_parts.2.1 39 = .ok (.iinc 3 1, 3) := by decide +kernel
theorem dX8_parts_42 : decode eX8_parts.2.1 42 = .ok (.goto (-36), 3) := by decide +kernel
theorem dX8_parts_45 : decode eX8_parts.2.1 45 = .ok (.iload_n 1, 1) := by decide +kernel
theorem dX8_parts_46 : decode eX8_parts.2.1 46 = .ok (.invokestatic 133, 3) := by decide +kernel
theorem dX8_parts_49 : decode eX8_parts.2.1 49 = .ok (.ireturn, 1) := by decide +kernel
theorem dX8_tell_0 : decode eX8_tell.2.1 0 = .ok (.aload_n 0, 1) := by decide +kernel
theorem dX8_tell_1 : decode eX8_tell.2.1 1 = .ok (.getfield 366, 3) := by decide +kernel
theorem dX8_tell_4 : decode eX8_tell.2.1 4 = .ok (.bipush 60, 2) := by decide +kernel
theorem dX8_tell_6 : decode eX8_tell.2.1 6 = .ok (.if_icmp .ne 6, 3) := by decide +kernel
theorem dX8_tell_9 : decode eX8_tell.2.1 9 = .ok (.ldc 96, 2) := by decide +kernel
theorem dX8_tell_11 : decode eX8_tell.2.1 11 = .ok (.ireturn, 1) := by decide +kernel
theorem dX8_tell_12 : decode eX8_tell.2.1 12 = .ok (.aload_n 0, 1) := by decide +kernel
theorem dX8_tell_13 : decode eX8_tell.2.1 13 = .ok (.getfield 60, 3) := by decide +kernel
theorem dX8_tell_16 : decode eX8_tell.2.1 16 = .ok (.aload_n 0, 1) := by decide +kernel
theorem dX8_tell_17 : decode eX8_tell.2.1 17 = .ok (.getfield 366, 3) := by decide +kernel
theorem dX8_tell_20 : decode eX8_tell.2.1 20 = .ok (.iload_n 1, 1) := by decide +kernel
theorem dX8_tell_21 : decode eX8_tell.2.1 21 = .ok (.iastore, 1) := by decide +kernel
theorem dX8_tell_22 : decode eX8_tell.2.1 22 = .ok (.aload_n 0, 1) := by decide +kernel
theorem dX8_tell_23 : decode eX8_tell.2.1 23 = .ok (.dup, 1) := by decide +kernel
theorem dX8_tell_24 : decode eX8_tell.2.1 24 = .ok (.getfield 366, 3) := by decide +kernel
theorem dX8_tell_27 : decode eX8_tell.2.1 27 = .ok (.iconst 1, 1) := by decide +kernel
theorem dX8_tell_28 : decode eX8_tell.2.1 28 = .ok (.iadd, 1) := by decide +kernel
theorem dX8_tell_29 : decode eX8_tell.2.1 29 = .ok (.putfield 366, 3) := by decide +kernel
theorem dX8_tell_32 : decode eX8_tell.2.1 32 = .ok (.aload_n 0, 1) := by decide +kernel
theorem dX8_tell_33 : decode eX8_tell.2.1 33 = .ok (.getfield 366, 3) := by decide +kernel
theorem dX8_tell_36 : decode eX8_tell.2.1 36 = .ok (.ireturn, 1) := by decide +kernel
theorem dX8_sizes_0 : decode eX8_sizes.2.1 0 = .ok (.iconst 0, 1) := by decide +kernel
theorem dX8_sizes_1 : decode eX8_sizes.2.1 1 = .ok (.istore_n 1, 1) := by decide +kernel
theorem dX8_sizes_2 : decode eX8_sizes.2.1 2 = .ok (.iconst 0, 1) := by decide +kernel
theorem dX8_sizes_3 : decode eX8_sizes.2.1 3 = .ok (.istore_n 2, 1) := by decide +kernel
theorem dX8_sizes_4 : decode eX8_sizes.2.1 4 = .ok (.iload_n 2, 1) := by decide +kernel
theorem dX8_sizes_5 : decode eX8_sizes.2.1 5 = .ok (.aload_n 0, 1) := by decide +kernel
theorem dX8_sizes_6 : decode eX8_sizes.2.1 6 = .ok (.getfield 7, 3) := by decide +kernel
theorem dX8_sizes_9 : decode eX8_sizes.2.1 9 = .ok (.iconst 0, 1) := by decide +kernel
theorem dX8_sizes_10 : decode eX8_sizes.2.1 10 = .ok (.iaload, 1) := by decide +kernel
theorem dX8_sizes_11 : decode eX8_sizes.2.1 11 = .ok (.if_icmp .ge 24, 3) := by decide +kernel
theorem dX8_sizes_14 : decode eX8_sizes.2.1 14 = .ok (.iload_n 1, 1) := by decide +kernel
theorem dX8_sizes_15 : decode eX8_sizes.2.1 15 = .ok (.aload_n 0, 1) := by decide +kernel
theorem dX8_sizes_16 : decode eX8_sizes.2.1 16 = .ok (.getfield 7, 3) := by decide +kernel
theorem dX8_sizes_19 : decode eX8_sizes.2.1 19 = .ok (.aload_n 0, 1) := by decide +kernel
theorem dX8_sizes_20 : decode eX8_sizes.2.1 20 = .ok (.iload_n 2, 1) := by decide +kernel
theorem dX8_sizes_21 : decode eX8_sizes.2.1 21 = .ok (.invokevirtual 81, 3) := by decide +kernel
theorem dX8_sizes_24 : decode eX8_sizes.2.1 24 = .ok (.iconst 5, 1) := by decide +kernel
theorem dX8_sizes_25 : decode eX8_sizes.2.1 25 = .ok (.iadd, 1) := by decide +kernel
theorem dX8_sizes_26 : decode eX8_sizes.2.1 26 = .ok (.iaload, 1) := by decide +kernel
theorem dX8_sizes_27 : decode eX8_sizes.2.1 27 = .ok (.iadd, 1) := by decide +kernel
theorem dX8_sizes_28 : decode eX8_sizes.2.1 28 = .ok (.istore_n 1, 1) := by decide +kernel
theorem dX8_sizes_29 : decode eX8_sizes.2.1 29 = .ok (.iinc 2 1, 3) := by decide +kernel
theorem dX8_sizes_32 : decode eX8_sizes.2.1 32 = .ok (.goto (-28), 3) := by decide +kernel
theorem dX8_sizes_35 : decode eX8_sizes.2.1 35 = .ok (.iload_n 1, 1) := by decide +kernel
theorem dX8_sizes_36 : decode eX8_sizes.2.1 36 = .ok (.ireturn, 1) := by decide +kernel
theorem dX8_check_0 : decode eX8_check.2.1 0 = .ok (.aload_n 0, 1) := by decide +kernel
theorem dX8_check_1 : decode eX8_check.2.1 1 = .ok (.getfield 366, 3) := by decide +kernel
theorem dX8_check_4 : decode eX8_check.2.1 4 = .ok (.istore_n 2, 1) := by decide +kernel
theorem dX8_check_5 : decode eX8_check.2.1 5 = .ok (.aload_n 0, 1) := by decide +kernel
theorem dX8_check_6 : decode eX8_check.2.1 6 = .ok (.iconst 0, 1) := by decide +kernel
theorem dX8_check_7 : decode eX8_check.2.1 7 = .ok (.putfield 366, 3) := by decide +kernel
theorem dX8_check_10 : decode eX8_check.2.1 10 = .ok (.iload_n 1, 1) := by decide +kernel
theorem dX8_check_11 : decode eX8_check.2.1 11 = .ok (.i2l, 1) := by decide +kernel
theorem dX8_check_12 : decode eX8_check.2.1 12 = .ok (.lconst 1, 1) := by decide +kernel
theorem dX8_check_13 : decode eX8_check.2.1 13 = .ok (.ldc2_w 369, 3) := by decide +kernel
theorem dX8_check_16 : decode eX8_check.2.1 16 = .ok (.invokestatic 71, 3) := by decide +kernel
theorem dX8_check_19 : decode eX8_check.2.1 19 = .ok (.ifCond .ne 6, 3) := by decide +kernel
theorem dX8_check_22 : decode eX8_check.2.1 22 = .ok (.ldc 91, 2) := by decide +kernel
theorem dX8_check_24 : decode eX8_check.2.1 24 = .ok (.ireturn, 1) := by decide +kernel
theorem dX8_check_25 : decode eX8_check.2.1 25 = .ok (.aload_n 0, 1) := by decide +kernel
theorem dX8_check_26 : decode eX8_check.2.1 26 = .ok (.getfield 371, 3) := by decide +kernel
theorem dX8_check_29 : decode eX8_check.2.1 29 = .ok (.ifCond .ne 6, 3) := by decide +kernel
theorem dX8_check_32 : decode eX8_check.2.1 32 = .ok (.ldc 95, 2) := by decide +kernel
theorem dX8_check_34 : decode eX8_check.2.1 34 = .ok (.ireturn, 1) := by decide +kernel
theorem dX8_check_35 : decode eX8_check.2.1 35 = .ok (.aload_n 0, 1) := by decide +kernel
theorem dX8_check_36 : decode eX8_check.2.1 36 = .ok (.aload_n 0, 1) := by decide +kernel
theorem dX8_check_37 : decode eX8_check.2.1 37 = .ok (.getfield 7, 3) := by decide +kernel
theorem dX8_check_40 : decode eX8_check.2.1 40 = .ok (.aload_n 0, 1) := by decide +kernel
theorem dX8_check_41 : decode eX8_check.2.1 41 = .ok (.getfield 16, 3) := by decide +kernel
theorem dX8_check_44 : decode eX8_check.2.1 44 = .ok (.invokevirtual 151, 3) := by decide +kernel
theorem dX8_check_47 : decode eX8_check.2.1 47 = .ok (.aload_n 0, 1) := by decide +kernel
theorem dX8_check_48 : decode eX8_check.2.1 48 = .ok (.aload_n 0, 1) := by decide +kernel
theorem dX8_check_49 : decode eX8_check.2.1 49 = .ok (.getfield 13, 3) := by decide +kernel
theorem dX8_check_52 : decode eX8_check.2.1 52 = .ok (.aload_n 0, 1) := by decide +kernel
theorem dX8_check_53 : decode eX8_check.2.1 53 = .ok (.getfield 7, 3) := by decide +kernel
theorem dX8_check_56 : decode eX8_check.2.1 56 = .ok (.invokevirtual 151, 3) := by decide +kernel
theorem dX8_check_59 : decode eX8_check.2.1 59 = .ok (.iconst 0, 1) := by decide +kernel
theorem dX8_check_60 : decode eX8_check.2.1 60 = .ok (.istore_n 3, 1) := by decide +kernel
theorem dX8_check_61 : decode eX8_check.2.1 61 = .ok (.iload_n 3, 1) := by decide +kernel
theorem dX8_check_62 : decode eX8_check.2.1 62 = .ok (.iload_n 1, 1) := by decide +kernel
theorem dX8_check_63 : decode eX8_check.2.1 63 = .ok (.if_icmp .ge 40, 3) := by decide +kernel
theorem dX8_check_66 : decode eX8_check.2.1 66 = .ok (.aload_n 0, 1) := by decide +kernel
theorem dX8_check_67 : decode eX8_check.2.1 67 = .ok (.invokevirtual 144, 3) := by decide +kernel
theorem dX8_check_70 : decode eX8_check.2.1 70 = .ok (.aload_n 0, 1) := by decide +kernel
theorem dX8_check_71 : decode eX8_check.2.1 71 = .ok (.getfield 63, 3) := by decide +kernel
theorem dX8_check_74 : decode eX8_check.2.1 74 = .ok (.iconst 2, 1) := by decide +kernel
theorem dX8_check_75 : decode eX8_check.2.1 75 = .ok (.iload_n 3, 1) := by decide +kernel
theorem dX8_check_76 : decode eX8_check.2.1 76 = .ok (.imul, 1) := by decide +kernel
theorem dX8_check_77 : decode eX8_check.2.1 77 = .ok (.aload_n 0, 1) := by decide +kernel
theorem dX8_check_78 : decode eX8_check.2.1 78 = .ok (.invokevirtual 374, 3) := by decide +kernel
theorem dX8_check_81 : decode eX8_check.2.1 81 = .ok (.iastore, 1) := by decide +kernel
theorem dX8_check_82 : decode eX8_check.2.1 82 = .ok (.aload_n 0, 1) := by decide +kernel
theorem dX8_check_83 : decode eX8_check.2.1 83 = .ok (.getfield 63, 3) := by decide +kernel
theorem dX8_check_86 : decode eX8_check.2.1 86 = .ok (.iconst 2, 1) := by decide +kernel
theorem dX8_check_87 : decode eX8_check.2.1 87 = .ok (.iload_n 3, 1) := by decide +kernel
theorem dX8_check_88 : decode eX8_check.2.1 88 = .ok (.imul, 1) := by decide +kernel
theorem dX8_check_89 : decode eX8_check.2.1 89 = .ok (.iconst 1, 1) := by decide +kernel
theorem dX8_check_90 : decode eX8_check.2.1 90 = .ok (.iadd, 1) := by decide +kernel
theorem dX8_check_91 : decode eX8_check.2.1 91 = .ok (.aload_n 0, 1) := by decide +kernel
theorem dX8_check_92 : decode eX8_check.2.1 92 = .ok (.iconst 0, 1) := by decide +kernel
theorem dX8_check_93 : decode eX8_check.2.1 93 = .ok (.invokevirtual 309, 3) := by decide +kernel
theorem dX8_check_96 : decode eX8_check.2.1 96 = .ok (.iastore, 1) := by decide +kernel
theorem dX8_check_97 : decode eX8_check.2.1 97 = .ok (.iinc 3 1, 3) := by decide +kernel
theorem dX8_check_100 : decode eX8_check.2.1 100 = .ok (.goto (-39), 3) := by decide +kernel
theorem dX8_check_103 : decode eX8_check.2.1 103 = .ok (.aload_n 0, 1) := by decide +kernel
theorem dX8_check_104 : decode eX8_check.2.1 104 = .ok (.aload_n 0, 1) := by decide +kernel
theorem dX8_check_105 : decode eX8_check.2.1 105 = .ok (.getfield 16, 3) := by decide +kernel
theorem dX8_check_108 : decode eX8_check.2.1 108 = .ok (.aload_n 0, 1) := by decide +kernel
theorem dX8_check_109 : decode eX8_check.2.1 109 = .ok (.getfield 7, 3) := by decide +kernel
theorem dX8_check_112 : decode eX8_check.2.1 112 = .ok (.invokevirtual 151, 3) := by decide +kernel
theorem dX8_check_115 : decode eX8_check.2.1 115 = .ok (.iconst 0, 1) := by decide +kernel
theorem dX8_check_116 : decode eX8_check.2.1 116 = .ok (.istore_n 3, 1) := by decide +kernel
theorem dX8_check_117 : decode eX8_check.2.1 117 = .ok (.iload_n 3, 1) := by decide +kernel
theorem dX8_check_118 : decode eX8_check.2.1 118 = .ok (.iload_n 2, 1) := by decide +kernel
theorem dX8_check_119 : decode eX8_check.2.1 119 = .ok (.if_icmp .ge 31, 3) := by decide +kernel
theorem dX8_check_122 : decode eX8_check.2.1 122 = .ok (.iload_n 3, 1) := by decide +kernel
theorem dX8_check_123 : decode eX8_check.2.1 123 = .ok (.iconst 2, 1) := by decide +kernel
theorem dX8_check_124 : decode eX8_check.2.1 124 = .ok (.iload_n 1, 1) := by decide +kernel
theorem dX8_check_125 : decode eX8_check.2.1 125 = .ok (.imul, 1) := by decide +kernel
theorem dX8_check_126 : decode eX8_check.2.1 126 = .ok (.if_icmp .ge 24, 3) := by decide +kernel
theorem dX8_check_129 : decode eX8_check.2.1 129 = .ok (.aload_n 0, 1) := by decide +kernel
theorem dX8_check_130 : decode eX8_check.2.1 130 = .ok (.getfield 60, 3) := by decide +kernel
theorem dX8_check_133 : decode eX8_check.2.1 133 = .ok (.iload_n 3, 1) := by decide +kernel
theorem dX8_check_134 : decode eX8_check.2.1 134 = .ok (.iaload, 1) := by decide +kernel
theorem dX8_check_135 : decode eX8_check.2.1 135 = .ok (.aload_n 0, 1) := by decide +kernel
theorem dX8_check_136 : decode eX8_check.2.1 136 = .ok (.getfield 63, 3) := by decide +kernel
theorem dX8_check_139 : decode eX8_check.2.1 139 = .ok (.iload_n 3, 1) := by decide +kernel
theorem dX8_check_140 : decode eX8_check.2.1 140 = .ok (.iaload, 1) := by decide +kernel
theorem dX8_check_141 : decode eX8_check.2.1 141 = .ok (.if_icmp .ne 9, 3) := by decide +kernel
theorem dX8_check_144 : decode eX8_check.2.1 144 = .ok (.iinc 3 1, 3) := by decide +kernel
theorem dX8_check_147 : decode eX8_check.2.1 147 = .ok (.goto (-30), 3) := by decide +kernel
theorem dX8_check_150 : decode eX8_check.2.1 150 = .ok (.iload_n 3, 1) := by decide +kernel
theorem dX8_check_151 : decode eX8_check.2.1 151 = .ok (.iload_n 2, 1) := by decide +kernel
theorem dX8_check_152 : decode eX8_check.2.1 152 = .ok (.if_icmp .ne 14, 3) := by decide +kernel
theorem dX8_check_155 : decode eX8_check.2.1 155 = .ok (.iload_n 3, 1) := by decide +kernel
theorem dX8_check_156 : decode eX8_check.2.1 156 = .ok (.iconst 2, 1) := by decide +kernel
theorem dX8_check_157 : decode eX8_check.2.1 157 = .ok (.iload_n 1, 1) := by decide +kernel
theorem dX8_check_158 : decode eX8_check.2.1 158 = .ok (.imul, 1) := by decide +kernel
theorem dX8_check_159 : decode eX8_check.2.1 159 = .ok (.if_icmp .ne 7, 3) := by decide +kernel
theorem dX8_check_162 : decode eX8_check.2.1 162 = .ok (.iconst 0, 1) := by decide +kernel
theorem dX8_check_163 : decode eX8_check.2.1 163 = .ok (.goto 6, 3) := by decide +kernel
theorem dX8_check_166 : decode eX8_check.2.1 166 = .ok (.iconst 1, 1) := by decide +kernel
theorem dX8_check_167 : decode eX8_check.2.1 167 = .ok (.iload_n 3, 1) := by decide +kernel
theorem dX8_check_168 : decode eX8_check.2.1 168 = .ok (.iadd, 1) := by decide +kernel
theorem dX8_check_169 : decode eX8_check.2.1 169 = .ok (.ireturn, 1) := by decide +kernel
theorem dX8_keep_0 : decode eX8_keep.2.1 0 = .ok (.aload_n 0, 1) := by decide +kernel
theorem dX8_keep_1 : decode eX8_keep.2.1 1 = .ok (.iconst 1, 1) := by decide +kernel
theorem dX8_keep_2 : decode eX8_keep.2.1 2 = .ok (.putfield 371, 3) := by decide +kernel
theorem dX8_keep_5 : decode eX8_keep.2.1 5 = .ok (.aload_n 0, 1) := by decide +kernel
theorem dX8_keep_6 : decode eX8_keep.2.1 6 = .ok (.aload_n 0, 1) := by decide +kernel
theorem dX8_keep_7 : decode eX8_keep.2.1 7 = .ok (.getfield 7, 3) := by decide +kernel
theorem dX8_keep_10 : decode eX8_keep.2.1 10 = .ok (.aload_n 0, 1) := by decide +kernel
theorem dX8_keep_11 : decode eX8_keep.2.1 11 = .ok (.getfield 13, 3) := by decide +kernel
theorem dX8_keep_14 : decode eX8_keep.2.1 14 = .ok (.invokevirtual 151, 3) := by decide +kernel
theorem dX8_keep_17 : decode eX8_keep.2.1 17 = .ok (.aload_n 0, 1) := by decide +kernel
theorem dX8_keep_18 : decode eX8_keep.2.1 18 = .ok (.getfield 7, 3) := by decide +kernel
theorem dX8_keep_21 : decode eX8_keep.2.1 21 = .ok (.iconst 1, 1) := by decide +kernel
theorem dX8_keep_22 : decode eX8_keep.2.1 22 = .ok (.iaload, 1) := by decide +kernel
theorem dX8_keep_23 : decode eX8_keep.2.1 23 = .ok (.ireturn, 1) := by decide +kernel
theorem dX8_back_0 : decode eX8_back.2.1 0 = .ok (.aload_n 0, 1) := by decide +kernel
theorem dX8_back_1 : decode eX8_back.2.1 1 = .ok (.getfield 371, 3) := by decide +kernel
theorem dX8_back_4 : decode eX8_back.2.1 4 = .ok (.ifCond .ne 6, 3) := by decide +kernel
theorem dX8_back_7 : decode eX8_back.2.1 7 = .ok (.ldc 95, 2) := by decide +kernel
theorem dX8_back_9 : decode eX8_back.2.1 9 = .ok (.ireturn, 1) := by decide +kernel
theorem dX8_back_10 : decode eX8_back.2.1 10 = .ok (.aload_n 0, 1) := by decide +kernel
theorem dX8_back_11 : decode eX8_back.2.1 11 = .ok (.aload_n 0, 1) := by decide +kernel
theorem dX8_back_12 : decode eX8_back.2.1 12 = .ok (.getfield 13, 3) := by decide +kernel
theorem dX8_back_15 : decode eX8_back.2.1 15 = .ok (.aload_n 0, 1) := by decide +kernel
theorem dX8_back_16 : decode eX8_back.2.1 16 = .ok (.getfield 7, 3) := by decide +kernel
theorem dX8_back_19 : decode eX8_back.2.1 19 = .ok (.invokevirtual 151, 3) := by decide +kernel
theorem dX8_back_22 : decode eX8_back.2.1 22 = .ok (.aload_n 0, 1) := by decide +kernel
theorem dX8_back_23 : decode eX8_back.2.1 23 = .ok (.iconst 0, 1) := by decide +kernel
theorem dX8_back_24 : decode eX8_back.2.1 24 = .ok (.putfield 67, 3) := by decide +kernel
theorem dX8_back_27 : decode eX8_back.2.1 27 = .ok (.aload_n 0, 1) := by decide +kernel
theorem dX8_back_28 : decode eX8_back.2.1 28 = .ok (.getfield 7, 3) := by decide +kernel
theorem dX8_back_31 : decode eX8_back.2.1 31 = .ok (.iconst 1, 1) := by decide +kernel
theorem dX8_back_32 : decode eX8_back.2.1 32 = .ok (.iaload, 1) := by decide +kernel
theorem dX8_back_33 : decode eX8_back.2.1 33 = .ok (.ireturn, 1) := by decide +kernel
theorem dX8_partsOf_0 : decode eX8_partsOf.2.1 0 = .ok (.iconst 0, 1) := by decide +kernel
theorem dX8_partsOf_1 : decode eX8_partsOf.2.1 1 = .ok (.istore_n 2, 1) := by decide +kernel
theorem dX8_partsOf_2 : decode eX8_partsOf.2.1 2 = .ok (.iconst 0, 1) := by decide +kernel
theorem dX8_partsOf_3 : decode eX8_partsOf.2.1 3 = .ok (.istore_n 3, 1) := by decide +kernel
theorem dX8_partsOf_4 : decode eX8_partsOf.2.1 4 = .ok (.iload_n 3, 1) := by decide +kernel
theorem dX8_partsOf_5 : decode eX8_partsOf.2.1 5 = .ok (.aload_n 0, 1) := by decide +kernel
theorem dX8_partsOf_6 : decode eX8_partsOf.2.1 6 = .ok (.getfield 7, 3) := by decide +kernel
theorem dX8_partsOf_9 : decode eX8_partsOf.2.1 9 = .ok (.iconst 0, 1) := by decide +kernel
theorem dX8_partsOf_10 : decode eX8_partsOf.2.1 10 = .ok (.iaload, 1) := by decide +kernel
theorem dX8_partsOf_11 : decode eX8_partsOf.2.1 11 = .ok (.if_icmp .ge 31, 3) := by decide +kernel
theorem dX8_partsOf_14 : decode eX8_partsOf.2.1 14 = .ok (.iload_n 2, 1) := by decide +kernel
theorem dX8_partsOf_15 : decode eX8_partsOf.2.1 15 = .ok (.aload_n 0, 1) := by decide +kernel
theorem dX8_partsOf_16 : decode eX8_partsOf.2.1 16 = .ok (.getfield 7, 3) := by decide +kernel
theorem dX8_partsOf_19 : decode eX8_partsOf.2.1 19 = .ok (.aload_n 0, 1) := by decide +kernel
theorem dX8_partsOf_20 : decode eX8_partsOf.2.1 20 = .ok (.iload_n 3, 1) := by decide +kernel
theorem dX8_partsOf_21 : decode eX8_partsOf.2.1 21 = .ok (.invokevirtual 81, 3) := by decide +kernel
theorem dX8_partsOf_24 : decode eX8_partsOf.2.1 24 = .ok (.iaload, 1) := by decide +kernel
theorem dX8_partsOf_25 : decode eX8_partsOf.2.1 25 = .ok (.iload_n 1, 1) := by decide +kernel
theorem dX8_partsOf_26 : decode eX8_partsOf.2.1 26 = .ok (.if_icmp .ne 7, 3) := by decide +kernel
theorem dX8_partsOf_29 : decode eX8_partsOf.2.1 29 = .ok (.iconst 1, 1) := by decide +kernel
theorem dX8_partsOf_30 : decode eX8_partsOf.2.1 30 = .ok (.goto 4, 3) := by decide +kernel
theorem dX8_partsOf_33 : decode eX8_partsOf.2.1 33 = .ok (.iconst 0, 1) := by decide +kernel
theorem dX8_partsOf_34 : decode eX8_partsOf.2.1 34 = .ok (.iadd, 1) := by decide +kernel
theorem dX8_partsOf_35 : decode eX8_partsOf.2.1 35 = .ok (.istore_n 2, 1) := by decide +kernel
theorem dX8_partsOf_36 : decode eX8_partsOf.2.1 36 = .ok (.iinc 3 1, 3) := by decide +kernel
theorem dX8_partsOf_39 : decode eX8_partsOf.2.1 39 = .ok (.goto (-35), 3) := by decide +kernel
theorem dX8_partsOf_42 : decode eX8_partsOf.2.1 42 = .ok (.iload_n 2, 1) := by decide +kernel
theorem dX8_partsOf_43 : decode eX8_partsOf.2.1 43 = .ok (.ireturn, 1) := by decide +kernel
theorem dX8_lines_0 : decode eX8_lines.2.1 0 = .ok (.iconst 0, 1) := by decide +kernel
theorem dX8_lines_1 : decode eX8_lines.2.1 1 = .ok (.istore_n 1, 1) := by decide +kernel
theorem dX8_lines_2 : decode eX8_lines.2.1 2 = .ok (.iconst 0, 1) := by decide +kernel
theorem dX8_lines_3 : decode eX8_lines.2.1 3 = .ok (.istore_n 2, 1) := by decide +kernel
theorem dX8_lines_4 : decode eX8_lines.2.1 4 = .ok (.iload_n 2, 1) := by decide +kernel
theorem dX8_lines_5 : decode eX8_lines.2.1 5 = .ok (.bipush 24, 2) := by decide +kernel
theorem dX8_lines_7 : decode eX8_lines.2.1 7 = .ok (.if_icmp .ge 26, 3) := by decide +kernel
theorem dX8_lines_10 : decode eX8_lines.2.1 10 = .ok (.iload_n 1, 1) := by decide +kernel
theorem dX8_lines_11 : decode eX8_lines.2.1 11 = .ok (.aload_n 0, 1) := by decide +kernel
theorem dX8_lines_12 : decode eX8_lines.2.1 12 = .ok (.getfield 19, 3) := by decide +kernel
theorem dX8_lines_15 : decode eX8_lines.2.1 15 = .ok (.iload_n 2, 1) := by decide +kernel
theorem dX8_lines_16 : decode eX8_lines.2.1 16 = .ok (.iaload, 1) := by decide +kernel
theorem dX8_lines_17 : decode eX8_lines.2.1 17 = .ok (.ifCond .lt 7, 3) := by decide +kernel
theorem dX8_lines_20 : decode eX8_lines.2.1 20 = .ok (.iconst 1, 1) := by decide +kernel
theorem dX8_lines_21 : decode eX8_lines.2.1 21 = .ok (.goto 4, 3) := by decide +kernel
theorem dX8_lines_24 : decode eX8_lines.2.1 24 = .ok (.iconst 0, 1) := by decide +kernel
theorem dX8_lines_25 : decode eX8_lines.2.1 25 = .ok (.iadd, 1) := by decide +kernel
theorem dX8_lines_26 : decode eX8_lines.2.1 26 = .ok (.istore_n 1, 1) := by decide +kernel
theorem dX8_lines_27 : decode eX8_lines.2.1 27 = .ok (.iinc 2 1, 3) := by decide +kernel
theorem dX8_lines_30 : decode eX8_lines.2.1 30 = .ok (.goto (-26), 3) := by decide +kernel
theorem dX8_lines_33 : decode eX8_lines.2.1 33 = .ok (.iload_n 1, 1) := by decide +kernel
theorem dX8_lines_34 : decode eX8_lines.2.1 34 = .ok (.ireturn, 1) := by decide +kernel
theorem dX8_count_0 : decode eX8_count.2.1 0 = .ok (.iload_n 1, 1) := by decide +kernel
theorem dX8_count_1 : decode eX8_count.2.1 1 = .ok (.tableswitch 135 0 13 #[71, 78, 78, 78, 78, 78, 84, 89, 97, 105, 113, 118, 123, 128], 71) := by decide +kernel
theorem dX8_count_72 : decode eX8_count.2.1 72 = .ok (.aload_n 0, 1) := by decide +kernel
theorem dX8_count_73 : decode eX8_count.2.1 73 = .ok (.getfield 7, 3) := by decide +kernel
theorem dX8_count_76 : decode eX8_count.2.1 76 = .ok (.iconst 0, 1) := by decide +kernel
theorem dX8_count_77 : decode eX8_count.2.1 77 = .ok (.iaload, 1) := by decide +kernel
theorem dX8_count_78 : decode eX8_count.2.1 78 = .ok (.ireturn, 1) := by decide +kernel
theorem dX8_count_79 : decode eX8_count.2.1 79 = .ok (.aload_n 0, 1) := by decide +kernel
theorem dX8_count_80 : decode eX8_count.2.1 80 = .ok (.iload_n 1, 1) := by decide +kernel
theorem dX8_count_81 : decode eX8_count.2.1 81 = .ok (.invokevirtual 377, 3) := by decide +kernel
theorem dX8_count_84 : decode eX8_count.2.1 84 = .ok (.ireturn, 1) := by decide +kernel
theorem dX8_count_85 : decode eX8_count.2.1 85 = .ok (.aload_n 0, 1) := by decide +kernel
theorem dX8_count_86 : decode eX8_count.2.1 86 = .ok (.invokevirtual 374, 3) := by decide +kernel
theorem dX8_count_89 : decode eX8_count.2.1 89 = .ok (.ireturn, 1) := by decide +kernel
theorem dX8_count_90 : decode eX8_count.2.1 90 = .ok (.aload_n 0, 1) := by decide +kernel
theorem dX8_count_91 : decode eX8_count.2.1 91 = .ok (.getfield 7, 3) := by decide +kernel
theorem dX8_count_94 : decode eX8_count.2.1 94 = .ok (.bipush 6, 2) := by decide +kernel
theorem dX8_count_96 : decode eX8_count.2.1 96 = .ok (.iaload, 1) := by decide +kernel
theorem dX8_count_97 : decode eX8_count.2.1 97 = .ok (.ireturn, 1) := by decide +kernel
theorem dX8_count_98 : decode eX8_count.2.1 98 = .ok (.aload_n 0, 1) := by decide +kernel
theorem dX8_count_99 : decode eX8_count.2.1 99 = .ok (.getfield 7, 3) := by decide +kernel
theorem dX8_count_102 : decode eX8_count.2.1 102 = .ok (.bipush 7, 2) := by decide +kernel
theorem dX8_count_104 : decode eX8_count.2.1 104 = .ok (.iaload, 1) := by decide +kernel
theorem dX8_count_105 : decode eX8_count.2.1 105 = .ok (.ireturn, 1) := by decide +kernel
theorem dX8_count_106 : decode eX8_count.2.1 106 = .ok (.aload_n 0, 1) := by decide +kernel
theorem dX8_count_107 : decode eX8_count.2.1 107 = .ok (.getfield 7, 3) := by decide +kernel
theorem dX8_count_110 : decode eX8_count.2.1 110 = .ok (.bipush 8, 2) := by decide +kernel
theorem dX8_count_112 : decode eX8_count.2.1 112 = .ok (.iaload, 1) := by decide +kernel
theorem dX8_count_113 : decode eX8_count.2.1 113 = .ok (.ireturn, 1) := by decide +kernel
theorem dX8_count_114 : decode eX8_count.2.1 114 = .ok (.aload_n 0, 1) := by decide +kernel
theorem dX8_count_115 : decode eX8_count.2.1 115 = .ok (.invokevirtual 380, 3) := by decide +kernel
theorem dX8_count_118 : decode eX8_count.2.1 118 = .ok (.ireturn, 1) := by decide +kernel
theorem dX8_count_119 : decode eX8_count.2.1 119 = .ok (.aload_n 0, 1) := by decide +kernel
theorem dX8_count_120 : decode eX8_count.2.1 120 = .ok (.getfield 366, 3) := by decide +kernel
theorem dX8_count_123 : decode eX8_count.2.1 123 = .ok (.ireturn, 1) := by decide +kernel
theorem dX8_count_124 : decode eX8_count.2.1 124 = .ok (.aload_n 0, 1) := by decide +kernel
theorem dX8_count_125 : decode eX8_count.2.1 125 = .ok (.getfield 180, 3) := by decide +kernel
theorem dX8_count_128 : decode eX8_count.2.1 128 = .ok (.ireturn, 1) := by decide +kernel
theorem dX8_count_129 : decode eX8_count.2.1 129 = .ok (.aload_n 0, 1) := by decide +kernel
theorem dX8_count_130 : decode eX8_count.2.1 130 = .ok (.getfield 7, 3) := by decide +kernel
theorem dX8_count_133 : decode eX8_count.2.1 133 = .ok (.iconst 1, 1) := by decide +kernel
theorem dX8_count_134 : decode eX8_count.2.1 134 = .ok (.iaload, 1) := by decide +kernel
theorem dX8_count_135 : decode eX8_count.2.1 135 = .ok (.ireturn, 1) := by decide +kernel
theorem dX8_count_136 : decode eX8_count.2.1 136 = .ok (.ldc 91, 2) := by decide +kernel
theorem dX8_count_138 : decode eX8_count.2.1 138 = .ok (.ireturn, 1) := by decide +kernel
theorem dJ11_isValidCodePoint_9a6ad_0 : decode eJ11_isValidCodePoint_9a6ad.2.1 0 = .ok (.iload_n 0, 1) := by decide +kernel
theorem dJ11_isValidCodePoint_9a6ad_1 : decode eJ11_isValidCodePoint_9a6ad.2.1 1 = .ok (.bipush 16, 2) := by decide +kernel
theorem dJ11_isValidCodePoint_9a6ad_3 : decode eJ11_isValidCodePoint_9a6ad.2.1 3 = .ok (.iushr, 1) := by decide +kernel
theorem dJ11_isValidCodePoint_9a6ad_4 : decode eJ11_isValidCodePoint_9a6ad.2.1 4 = .ok (.istore_n 1, 1) := by decide +kernel
theorem dJ11_isValidCodePoint_9a6ad_5 : decode eJ11_isValidCodePoint_9a6ad.2.1 5 = .ok (.iload_n 1, 1) := by decide +kernel
theorem dJ11_isValidCodePoint_9a6ad_6 : decode eJ11_isValidCodePoint_9a6ad.2.1 6 = .ok (.bipush 17, 2) := by decide +kernel
theorem dJ11_isValidCodePoint_9a6ad_8 : decode eJ11_isValidCodePoint_9a6ad.2.1 8 = .ok (.if_icmp .ge 7, 3) := by decide +kernel
theorem dJ11_isValidCodePoint_9a6ad_11 : decode eJ11_isValidCodePoint_9a6ad.2.1 11 = .ok (.iconst 1, 1) := by decide +kernel
theorem dJ11_isValidCodePoint_9a6ad_12 : decode eJ11_isValidCodePoint_9a6ad.2.1 12 = .ok (.goto 4, 3) := by decide +kernel
theorem dJ11_isValidCodePoint_9a6ad_15 : decode eJ11_isValidCodePoint_9a6ad.2.1 15 = .ok (.iconst 0, 1) := by decide +kernel
theorem dJ11_isValidCodePoint_9a6ad_16 : decode eJ11_isValidCodePoint_9a6ad.2.1 16 = .ok (.ireturn, 1) := by decide +kernel
theorem dJ11_highSurrogate_5068e_0 : decode eJ11_highSurrogate_5068e.2.1 0 = .ok (.iload_n 0, 1) := by decide +kernel
theorem dJ11_highSurrogate_5068e_1 : decode eJ11_highSurrogate_5068e.2.1 1 = .ok (.bipush 10, 2) := by decide +kernel
theorem dJ11_highSurrogate_5068e_3 : decode eJ11_highSurrogate_5068e.2.1 3 = .ok (.iushr, 1) := by decide +kernel
theorem dJ11_highSurrogate_5068e_4 : decode eJ11_highSurrogate_5068e.2.1 4 = .ok (.ldc 110, 2) := by decide +kernel
theorem dJ11_highSurrogate_5068e_6 : decode eJ11_highSurrogate_5068e.2.1 6 = .ok (.iadd, 1) := by decide +kernel
theorem dJ11_highSurrogate_5068e_7 : decode eJ11_highSurrogate_5068e.2.1 7 = .ok (.i2c, 1) := by decide +kernel
theorem dJ11_highSurrogate_5068e_8 : decode eJ11_highSurrogate_5068e.2.1 8 = .ok (.ireturn, 1) := by decide +kernel
theorem dJ11_lowSurrogate_5068e_0 : decode eJ11_lowSurrogate_5068e.2.1 0 = .ok (.iload_n 0, 1) := by decide +kernel
theorem dJ11_lowSurrogate_5068e_1 : decode eJ11_lowSurrogate_5068e.2.1 1 = .ok (.sipush 1023, 3) := by decide +kernel
theorem dJ11_lowSurrogate_5068e_4 : decode eJ11_lowSurrogate_5068e.2.1 4 = .ok (.iand, 1) := by decide +kernel
theorem dJ11_lowSurrogate_5068e_5 : decode eJ11_lowSurrogate_5068e.2.1 5 = .ok (.ldc 76, 2) := by decide +kernel
theorem dJ11_lowSurrogate_5068e_7 : decode eJ11_lowSurrogate_5068e.2.1 7 = .ok (.iadd, 1) := by decide +kernel
theorem dJ11_lowSurrogate_5068e_8 : decode eJ11_lowSurrogate_5068e.2.1 8 = .ok (.i2c, 1) := by decide +kernel
theorem dJ11_lowSurrogate_5068e_9 : decode eJ11_lowSurrogate_5068e.2.1 9 = .ok (.ireturn, 1) := by decide +kernel
theorem dJ6_bitCount_0f7a4_0 : decode eJ6_bitCount_0f7a4.2.1 0 = .ok (.iload_n 0, 1) := by decide +kernel
theorem dJ6_bitCount_0f7a4_1 : decode eJ6_bitCount_0f7a4.2.1 1 = .ok (.iload_n 0, 1) := by decide +kernel
theorem dJ6_bitCount_0f7a4_2 : decode eJ6_bitCount_0f7a4.2.1 2 = .ok (.iconst 1, 1) := by decide +kernel
theorem dJ6_bitCount_0f7a4_3 : decode eJ6_bitCount_0f7a4.2.1 3 = .ok (.iushr, 1) := by decide +kernel
theorem dJ6_bitCount_0f7a4_4 : decode eJ6_bitCount_0f7a4.2.1 4 = .ok (.ldc_w 265, 3) := by decide +kernel
theorem dJ6_bitCount_0f7a4_7 : decode eJ6_bitCount_0f7a4.2.1 7 = .ok (.iand, 1) := by decide +kernel
theorem dJ6_bitCount_0f7a4_8 : decode eJ6_bitCount_0f7a4.2.1 8 = .ok (.isub, 1) := by decide +kernel
theorem dJ6_bitCount_0f7a4_9 : decode eJ6_bitCount_0f7a4.2.1 9 = .ok (.istore_n 0, 1) := by decide +kernel
theorem dJ6_bitCount_0f7a4_10 : decode eJ6_bitCount_0f7a4.2.1 10 = .ok (.iload_n 0, 1) := by decide +kernel
theorem dJ6_bitCount_0f7a4_11 : decode eJ6_bitCount_0f7a4.2.1 11 = .ok (.ldc_w 266, 3) := by decide +kernel
theorem dJ6_bitCount_0f7a4_14 : decode eJ6_bitCount_0f7a4.2.1 14 = .ok (.iand, 1) := by decide +kernel
theorem dJ6_bitCount_0f7a4_15 : decode eJ6_bitCount_0f7a4.2.1 15 = .ok (.iload_n 0, 1) := by decide +kernel
theorem dJ6_bitCount_0f7a4_16 : decode eJ6_bitCount_0f7a4.2.1 16 = .ok (.iconst 2, 1) := by decide +kernel
theorem dJ6_bitCount_0f7a4_17 : decode eJ6_bitCount_0f7a4.2.1 17 = .ok (.iushr, 1) := by decide +kernel
theorem dJ6_bitCount_0f7a4_18 : decode eJ6_bitCount_0f7a4.2.1 18 = .ok (.ldc_w 266, 3) := by decide +kernel
theorem dJ6_bitCount_0f7a4_21 : decode eJ6_bitCount_0f7a4.2.1 21 = .ok (.iand, 1) := by decide +kernel
theorem dJ6_bitCount_0f7a4_22 : decode eJ6_bitCount_0f7a4.2.1 22 = .ok (.iadd, 1) := by decide +kernel
theorem dJ6_bitCount_0f7a4_23 : decode eJ6_bitCount_0f7a4.2.1 23 = .ok (.istore_n 0, 1) := by decide +kernel
theorem dJ6_bitCount_0f7a4_24 : decode eJ6_bitCount_0f7a4.2.1 24 = .ok (.iload_n 0, 1) := by decide +kernel
theorem dJ6_bitCount_0f7a4_25 : decode eJ6_bitCount_0f7a4.2.1 25 = .ok (.iload_n 0, 1) := by decide +kernel
theorem dJ6_bitCount_0f7a4_26 : decode eJ6_bitCount_0f7a4.2.1 26 = .ok (.iconst 4, 1) := by decide +kernel
theorem dJ6_bitCount_0f7a4_27 : decode eJ6_bitCount_0f7a4.2.1 27 = .ok (.iushr, 1) := by decide +kernel
theorem dJ6_bitCount_0f7a4_28 : decode eJ6_bitCount_0f7a4.2.1 28 = .ok (.iadd, 1) := by decide +kernel
theorem dJ6_bitCount_0f7a4_29 : decode eJ6_bitCount_0f7a4.2.1 29 = .ok (.ldc_w 267, 3) := by decide +kernel
theorem dJ6_bitCount_0f7a4_32 : decode eJ6_bitCount_0f7a4.2.1 32 = .ok (.iand, 1) := by decide +kernel
theorem dJ6_bitCount_0f7a4_33 : decode eJ6_bitCount_0f7a4.2.1 33 = .ok (.istore_n 0, 1) := by decide +kernel
theorem dJ6_bitCount_0f7a4_34 : decode eJ6_bitCount_0f7a4.2.1 34 = .ok (.iload_n 0, 1) := by decide +kernel
theorem dJ6_bitCount_0f7a4_35 : decode eJ6_bitCount_0f7a4.2.1 35 = .ok (.iload_n 0, 1) := by decide +kernel
theorem dJ6_bitCount_0f7a4_36 : decode eJ6_bitCount_0f7a4.2.1 36 = .ok (.bipush 8, 2) := by decide +kernel
theorem dJ6_bitCount_0f7a4_38 : decode eJ6_bitCount_0f7a4.2.1 38 = .ok (.iushr, 1) := by decide +kernel
theorem dJ6_bitCount_0f7a4_39 : decode eJ6_bitCount_0f7a4.2.1 39 = .ok (.iadd, 1) := by decide +kernel
theorem dJ6_bitCount_0f7a4_40 : decode eJ6_bitCount_0f7a4.2.1 40 = .ok (.istore_n 0, 1) := by decide +kernel
theorem dJ6_bitCount_0f7a4_41 : decode eJ6_bitCount_0f7a4.2.1 41 = .ok (.iload_n 0, 1) := by decide +kernel
theorem dJ6_bitCount_0f7a4_42 : decode eJ6_bitCount_0f7a4.2.1 42 = .ok (.iload_n 0, 1) := by decide +kernel
theorem dJ6_bitCount_0f7a4_43 : decode eJ6_bitCount_0f7a4.2.1 43 = .ok (.bipush 16, 2) := by decide +kernel
theorem dJ6_bitCount_0f7a4_45 : decode eJ6_bitCount_0f7a4.2.1 45 = .ok (.iushr, 1) := by decide +kernel
theorem dJ6_bitCount_0f7a4_46 : decode eJ6_bitCount_0f7a4.2.1 46 = .ok (.iadd, 1) := by decide +kernel
theorem dJ6_bitCount_0f7a4_47 : decode eJ6_bitCount_0f7a4.2.1 47 = .ok (.istore_n 0, 1) := by decide +kernel
theorem dJ6_bitCount_0f7a4_48 : decode eJ6_bitCount_0f7a4.2.1 48 = .ok (.iload_n 0, 1) := by decide +kernel
theorem dJ6_bitCount_0f7a4_49 : decode eJ6_bitCount_0f7a4.2.1 49 = .ok (.bipush 63, 2) := by decide +kernel
theorem dJ6_bitCount_0f7a4_51 : decode eJ6_bitCount_0f7a4.2.1 51 = .ok (.iand, 1) := by decide +kernel
theorem dJ6_bitCount_0f7a4_52 : decode eJ6_bitCount_0f7a4.2.1 52 = .ok (.ireturn, 1) := by decide +kernel
theorem dJ9_abs_0f7a4_0 : decode eJ9_abs_0f7a4.2.1 0 = .ok (.iload_n 0, 1) := by decide +kernel
theorem dJ9_abs_0f7a4_1 : decode eJ9_abs_0f7a4.2.1 1 = .ok (.ifCond .ge 8, 3) := by decide +kernel
theorem dJ9_abs_0f7a4_4 : decode eJ9_abs_0f7a4.2.1 4 = .ok (.iload_n 0, 1) := by decide +kernel
theorem dJ9_abs_0f7a4_5 : decode eJ9_abs_0f7a4.2.1 5 = .ok (.ineg, 1) := by decide +kernel
theorem dJ9_abs_0f7a4_6 : decode eJ9_abs_0f7a4.2.1 6 = .ok (.goto 4, 3) := by decide +kernel
theorem dJ9_abs_0f7a4_9 : decode eJ9_abs_0f7a4.2.1 9 = .ok (.iload_n 0, 1) := by decide +kernel
theorem dJ9_abs_0f7a4_10 : decode eJ9_abs_0f7a4.2.1 10 = .ok (.ireturn, 1) := by decide +kernel
theorem dJ9_max_7cf53_0 : decode eJ9_max_7cf53.2.1 0 = .ok (.iload_n 0, 1) := by decide +kernel
theorem dJ9_max_7cf53_1 : decode eJ9_max_7cf53.2.1 1 = .ok (.iload_n 1, 1) := by decide +kernel
theorem dJ9_max_7cf53_2 : decode eJ9_max_7cf53.2.1 2 = .ok (.if_icmp .lt 7, 3) := by decide +kernel
theorem dJ9_max_7cf53_5 : decode eJ9_max_7cf53.2.1 5 = .ok (.iload_n 0, 1) := by decide +kernel
theorem dJ9_max_7cf53_6 : decode eJ9_max_7cf53.2.1 6 = .ok (.goto 4, 3) := by decide +kernel
theorem dJ9_max_7cf53_9 : decode eJ9_max_7cf53.2.1 9 = .ok (.iload_n 1, 1) := by decide +kernel
theorem dJ9_max_7cf53_10 : decode eJ9_max_7cf53.2.1 10 = .ok (.ireturn, 1) := by decide +kernel
theorem dJ9_min_7cf53_0 : decode eJ9_min_7cf53.2.1 0 = .ok (.iload_n 0, 1) := by decide +kernel
theorem dJ9_min_7cf53_1 : decode eJ9_min_7cf53.2.1 1 = .ok (.iload_n 1, 1) := by decide +kernel
theorem dJ9_min_7cf53_2 : decode eJ9_min_7cf53.2.1 2 = .ok (.if_icmp .gt 7, 3) := by decide +kernel
theorem dJ9_min_7cf53_5 : decode eJ9_min_7cf53.2.1 5 = .ok (.iload_n 0, 1) := by decide +kernel
theorem dJ9_min_7cf53_6 : decode eJ9_min_7cf53.2.1 6 = .ok (.goto 4, 3) := by decide +kernel
theorem dJ9_min_7cf53_9 : decode eJ9_min_7cf53.2.1 9 = .ok (.iload_n 1, 1) := by decide +kernel
theorem dJ9_min_7cf53_10 : decode eJ9_min_7cf53.2.1 10 = .ok (.ireturn, 1) := by decide +kernel
theorem dJ0_length_8abf5_0 : decode eJ0_length_8abf5.2.1 0 = .ok (.aload_n 0, 1) := by decide +kernel
theorem dJ0_length_8abf5_1 : decode eJ0_length_8abf5.2.1 1 = .ok (.getfield 9, 3) := by decide +kernel
theorem dJ0_length_8abf5_4 : decode eJ0_length_8abf5.2.1 4 = .ok (.arraylength, 1) := by decide +kernel
theorem dJ0_length_8abf5_5 : decode eJ0_length_8abf5.2.1 5 = .ok (.aload_n 0, 1) := by decide +kernel
theorem dJ0_length_8abf5_6 : decode eJ0_length_8abf5.2.1 6 = .ok (.invokevirtual 335, 3) := by decide +kernel
theorem dJ0_length_8abf5_9 : decode eJ0_length_8abf5.2.1 9 = .ok (.ishr, 1) := by decide +kernel
theorem dJ0_length_8abf5_10 : decode eJ0_length_8abf5.2.1 10 = .ok (.ireturn, 1) := by decide +kernel
theorem dJ0_charAt_5068e_0 : decode eJ0_charAt_5068e.2.1 0 = .ok (.aload_n 0, 1) := by decide +kernel
theorem dJ0_charAt_5068e_1 : decode eJ0_charAt_5068e.2.1 1 = .ok (.invokevirtual 492, 3) := by decide +kernel
theorem dJ0_charAt_5068e_4 : decode eJ0_charAt_5068e.2.1 4 = .ok (.ifCond .eq 12, 3) := by decide +kernel
theorem dJ0_charAt_5068e_7 : decode eJ0_charAt_5068e.2.1 7 = .ok (.aload_n 0, 1) := by decide +kernel
theorem dJ0_charAt_5068e_8 : decode eJ0_charAt_5068e.2.1 8 = .ok (.getfield 9, 3) := by decide +kernel
theorem dJ0_charAt_5068e_11 : decode eJ0_charAt_5068e.2.1 11 = .ok (.iload_n 1, 1) := by decide +kernel
theorem dJ0_charAt_5068e_12 : decode eJ0_charAt_5068e.2.1 12 = .ok (.invokestatic 495, 3) := by decide +kernel
theorem dJ0_charAt_5068e_15 : decode eJ0_charAt_5068e.2.1 15 = .ok (.ireturn, 1) := by decide +kernel
theorem dJ0_charAt_5068e_16 : decode eJ0_charAt_5068e.2.1 16 = .ok (.aload_n 0, 1) := by decide +kernel
theorem dJ0_charAt_5068e_17 : decode eJ0_charAt_5068e.2.1 17 = .ok (.getfield 9, 3) := by decide +kernel
theorem dJ0_charAt_5068e_20 : decode eJ0_charAt_5068e.2.1 20 = .ok (.iload_n 1, 1) := by decide +kernel
theorem dJ0_charAt_5068e_21 : decode eJ0_charAt_5068e.2.1 21 = .ok (.invokestatic 498, 3) := by decide +kernel
theorem dJ0_charAt_5068e_24 : decode eJ0_charAt_5068e.2.1 24 = .ok (.ireturn, 1) := by decide +kernel
theorem dJ0_indexOf_0f7a4_0 : decode eJ0_indexOf_0f7a4.2.1 0 = .ok (.aload_n 0, 1) := by decide +kernel
theorem dJ0_indexOf_0f7a4_1 : decode eJ0_indexOf_0f7a4.2.1 1 = .ok (.iload_n 1, 1) := by decide +kernel
theorem dJ0_indexOf_0f7a4_2 : decode eJ0_indexOf_0f7a4.2.1 2 = .ok (.iconst 0, 1) := by decide +kernel
theorem dJ0_indexOf_0f7a4_3 : decode eJ0_indexOf_0f7a4.2.1 3 = .ok (.invokevirtual 633, 3) := by decide +kernel
theorem dJ0_indexOf_0f7a4_6 : decode eJ0_indexOf_0f7a4.2.1 6 = .ok (.ireturn, 1) := by decide +kernel
theorem dJ0_indexOf_7cf53_0 : decode eJ0_indexOf_7cf53.2.1 0 = .ok (.aload_n 0, 1) := by decide +kernel
theorem dJ0_indexOf_7cf53_1 : decode eJ0_indexOf_7cf53.2.1 1 = .ok (.invokevirtual 492, 3) := by decide +kernel
theorem dJ0_indexOf_7cf53_4 : decode eJ0_indexOf_7cf53.2.1 4 = .ok (.ifCond .eq 19, 3) := by decide +kernel
theorem dJ0_indexOf_7cf53_7 : decode eJ0_indexOf_7cf53.2.1 7 = .ok (.aload_n 0, 1) := by decide +kernel
theorem dJ0_indexOf_7cf53_8 : decode eJ0_indexOf_7cf53.2.1 8 = .ok (.getfield 9, 3) := by decide +kernel
theorem dJ0_indexOf_7cf53_11 : decode eJ0_indexOf_7cf53.2.1 11 = .ok (.iload_n 1, 1) := by decide +kernel
theorem dJ0_indexOf_7cf53_12 : decode eJ0_indexOf_7cf53.2.1 12 = .ok (.iload_n 2, 1) := by decide +kernel
theorem dJ0_indexOf_7cf53_13 : decode eJ0_indexOf_7cf53.2.1 13 = .ok (.aload_n 0, 1) := by decide +kernel
theorem dJ0_indexOf_7cf53_14 : decode eJ0_indexOf_7cf53.2.1 14 = .ok (.invokevirtual 505, 3) := by decide +kernel
theorem dJ0_indexOf_7cf53_17 : decode eJ0_indexOf_7cf53.2.1 17 = .ok (.invokestatic 637, 3) := by decide +kernel
theorem dJ0_indexOf_7cf53_20 : decode eJ0_indexOf_7cf53.2.1 20 = .ok (.goto 16, 3) := by decide +kernel
theorem dJ0_indexOf_7cf53_23 : decode eJ0_indexOf_7cf53.2.1 23 = .ok (.aload_n 0, 1) := by decide +kernel
theorem dJ0_indexOf_7cf53_24 : decode eJ0_indexOf_7cf53.2.1 24 = .ok (.getfield 9, 3) := by decide +kernel
theorem dJ0_indexOf_7cf53_27 : decode eJ0_indexOf_7cf53.2.1 27 = .ok (.iload_n 1, 1) := by decide +kernel
theorem dJ0_indexOf_7cf53_28 : decode eJ0_indexOf_7cf53.2.1 28 = .ok (.iload_n 2, 1) := by decide +kernel
theorem dJ0_indexOf_7cf53_29 : decode eJ0_indexOf_7cf53.2.1 29 = .ok (.aload_n 0, 1) := by decide +kernel
theorem dJ0_indexOf_7cf53_30 : decode eJ0_indexOf_7cf53.2.1 30 = .ok (.invokevirtual 505, 3) := by decide +kernel
theorem dJ0_indexOf_7cf53_33 : decode eJ0_indexOf_7cf53.2.1 33 = .ok (.invokestatic 640, 3) := by decide +kernel
theorem dJ0_indexOf_7cf53_36 : decode eJ0_indexOf_7cf53.2.1 36 = .ok (.ireturn, 1) := by decide +kernel
theorem dJ0_coder_7d493_0 : decode eJ0_coder_7d493.2.1 0 = .ok (.getstatic 38, 3) := by decide +kernel
theorem dJ0_coder_7d493_3 : decode eJ0_coder_7d493.2.1 3 = .ok (.ifCond .eq 10, 3) := by decide +kernel
theorem dJ0_coder_7d493_6 : decode eJ0_coder_7d493.2.1 6 = .ok (.aload_n 0, 1) := by decide +kernel
theorem dJ0_coder_7d493_7 : decode eJ0_coder_7d493.2.1 7 = .ok (.getfield 15, 3) := by decide +kernel
theorem dJ0_coder_7d493_10 : decode eJ0_coder_7d493.2.1 10 = .ok (.goto 4, 3) := by decide +kernel
theorem dJ0_coder_7d493_13 : decode eJ0_coder_7d493.2.1 13 = .ok (.iconst 1, 1) := by decide +kernel
theorem dJ0_coder_7d493_14 : decode eJ0_coder_7d493.2.1 14 = .ok (.ireturn, 1) := by decide +kernel
theorem dJ0_isLatin1_aae02_0 : decode eJ0_isLatin1_aae02.2.1 0 = .ok (.getstatic 38, 3) := by decide +kernel
theorem dJ0_isLatin1_aae02_3 : decode eJ0_isLatin1_aae02.2.1 3 = .ok (.ifCond .eq 14, 3) := by decide +kernel
theorem dJ0_isLatin1_aae02_6 : decode eJ0_isLatin1_aae02.2.1 6 = .ok (.aload_n 0, 1) := by decide +kernel
theorem dJ0_isLatin1_aae02_7 : decode eJ0_isLatin1_aae02.2.1 7 = .ok (.getfield 15, 3) := by decide +kernel
theorem dJ0_isLatin1_aae02_10 : decode eJ0_isLatin1_aae02.2.1 10 = .ok (.ifCond .ne 7, 3) := by decide +kernel
theorem dJ0_isLatin1_aae02_13 : decode eJ0_isLatin1_aae02.2.1 13 = .ok (.iconst 1, 1) := by decide +kernel
theorem dJ0_isLatin1_aae02_14 : decode eJ0_isLatin1_aae02.2.1 14 = .ok (.goto 4, 3) := by decide +kernel
theorem dJ0_isLatin1_aae02_17 : decode eJ0_isLatin1_aae02.2.1 17 = .ok (.iconst 0, 1) := by decide +kernel
theorem dJ0_isLatin1_aae02_18 : decode eJ0_isLatin1_aae02.2.1 18 = .ok (.ireturn, 1) := by decide +kernel
theorem dJ0_checkIndex_df160_0 : decode eJ0_checkIndex_df160.2.1 0 = .ok (.iload_n 0, 1) := by decide +kernel
theorem dJ0_checkIndex_df160_1 : decode eJ0_checkIndex_df160.2.1 1 = .ok (.iload_n 1, 1) := by decide +kernel
theorem dJ0_checkIndex_df160_2 : decode eJ0_checkIndex_df160.2.1 2 = .ok (.getstatic 1053, 3) := by decide +kernel
theorem dJ0_checkIndex_df160_5 : decode eJ0_checkIndex_df160.2.1 5 = .ok (.invokestatic 1059, 3) := by decide +kernel
theorem dJ0_checkIndex_df160_8 : decode eJ0_checkIndex_df160.2.1 8 = .ok (.pop, 1) := by decide +kernel
theorem dJ0_checkIndex_df160_9 : decode eJ0_checkIndex_df160.2.1 9 = .ok (.return_, 1) := by decide +kernel
theorem dJ0_checkBoundsBeginEnd_23922_0 : decode eJ0_checkBoundsBeginEnd_23922.2.1 0 = .ok (.iload_n 0, 1) := by decide +kernel
theorem dJ0_checkBoundsBeginEnd_23922_1 : decode eJ0_checkBoundsBeginEnd_23922.2.1 1 = .ok (.iload_n 1, 1) := by decide +kernel
theorem dJ0_checkBoundsBeginEnd_23922_2 : decode eJ0_checkBoundsBeginEnd_23922.2.1 2 = .ok (.iload_n 2, 1) := by decide +kernel
theorem dJ0_checkBoundsBeginEnd_23922_3 : decode eJ0_checkBoundsBeginEnd_23922.2.1 3 = .ok (.getstatic 1053, 3) := by decide +kernel
theorem dJ0_checkBoundsBeginEnd_23922_6 : decode eJ0_checkBoundsBeginEnd_23922.2.1 6 = .ok (.invokestatic 1062, 3) := by decide +kernel
theorem dJ0_checkBoundsBeginEnd_23922_9 : decode eJ0_checkBoundsBeginEnd_23922.2.1 9 = .ok (.pop, 1) := by decide +kernel
theorem dJ0_checkBoundsBeginEnd_23922_10 : decode eJ0_checkBoundsBeginEnd_23922.2.1 10 = .ok (.return_, 1) := by decide +kernel
theorem dJ1_charAt_3b067_0 : decode eJ1_charAt_3b067.2.1 0 = .ok (.iload_n 1, 1) := by decide +kernel
theorem dJ1_charAt_3b067_1 : decode eJ1_charAt_3b067.2.1 1 = .ok (.aload_n 0, 1) := by decide +kernel
theorem dJ1_charAt_3b067_2 : decode eJ1_charAt_3b067.2.1 2 = .ok (.arraylength, 1) := by decide +kernel
theorem dJ1_charAt_3b067_3 : decode eJ1_charAt_3b067.2.1 3 = .ok (.invokestatic 9, 3) := by decide +kernel
theorem dJ1_charAt_3b067_6 : decode eJ1_charAt_3b067.2.1 6 = .ok (.aload_n 0, 1) := by decide +kernel
theorem dJ1_charAt_3b067_7 : decode eJ1_charAt_3b067.2.1 7 = .ok (.iload_n 1, 1) := by decide +kernel
theorem dJ1_charAt_3b067_8 : decode eJ1_charAt_3b067.2.1 8 = .ok (.baload, 1) := by decide +kernel
theorem dJ1_charAt_3b067_9 : decode eJ1_charAt_3b067.2.1 9 = .ok (.sipush 255, 3) := by decide +kernel
theorem dJ1_charAt_3b067_12 : decode eJ1_charAt_3b067.2.1 12 = .ok (.iand, 1) := by decide +kernel
theorem dJ1_charAt_3b067_13 : decode eJ1_charAt_3b067.2.1 13 = .ok (.i2c, 1) := by decide +kernel
theorem dJ1_charAt_3b067_14 : decode eJ1_charAt_3b067.2.1 14 = .ok (.ireturn, 1) := by decide +kernel
theorem dJ1_canEncode_9a6ad_0 : decode eJ1_canEncode_9a6ad.2.1 0 = .ok (.iload_n 0, 1) := by decide +kernel
theorem dJ1_canEncode_9a6ad_1 : decode eJ1_canEncode_9a6ad.2.1 1 = .ok (.ifCond .lt 14, 3) := by decide +kernel
theorem dJ1_canEncode_9a6ad_4 : decode eJ1_canEncode_9a6ad.2.1 4 = .ok (.iload_n 0, 1) := by decide +kernel
theorem dJ1_canEncode_9a6ad_5 : decode eJ1_canEncode_9a6ad.2.1 5 = .ok (.sipush 255, 3) := by decide +kernel
theorem dJ1_canEncode_9a6ad_8 : decode eJ1_canEncode_9a6ad.2.1 8 = .ok (.if_icmp .gt 7, 3) := by decide +kernel
theorem dJ1_canEncode_9a6ad_11 : decode eJ1_canEncode_9a6ad.2.1 11 = .ok (.iconst 1, 1) := by decide +kernel
theorem dJ1_canEncode_9a6ad_12 : decode eJ1_canEncode_9a6ad.2.1 12 = .ok (.goto 4, 3) := by decide +kernel
theorem dJ1_canEncode_9a6ad_15 : decode eJ1_canEncode_9a6ad.2.1 15 = .ok (.iconst 0, 1) := by decide +kernel
theorem dJ1_canEncode_9a6ad_16 : decode eJ1_canEncode_9a6ad.2.1 16 = .ok (.ireturn, 1) := by decide +kernel
theorem dJ1_indexOf_4cfef_0 : decode eJ1_indexOf_4cfef.2.1 0 = .ok (.iload_n 1, 1) := by decide +kernel
theorem dJ1_indexOf_4cfef_1 : decode eJ1_indexOf_4cfef.2.1 1 = .ok (.invokestatic 88, 3) := by decide +kernel
theorem dJ1_indexOf_4cfef_4 : decode eJ1_indexOf_4cfef.2.1 4 = .ok (.ifCond .ne 5, 3) := by decide +kernel
theorem dJ1_indexOf_4cfef_7 : decode eJ1_indexOf_4cfef.2.1 7 = .ok (.iconst (-1), 1) := by decide +kernel
theorem dJ1_indexOf_4cfef_8 : decode eJ1_indexOf_4cfef.2.1 8 = .ok (.ireturn, 1) := by decide +kernel
theorem dJ1_indexOf_4cfef_9 : decode eJ1_indexOf_4cfef.2.1 9 = .ok (.iload_n 2, 1) := by decide +kernel
theorem dJ1_indexOf_4cfef_10 : decode eJ1_indexOf_4cfef.2.1 10 = .ok (.iconst 0, 1) := by decide +kernel
theorem dJ1_indexOf_4cfef_11 : decode eJ1_indexOf_4cfef.2.1 11 = .ok (.invokestatic 92, 3) := by decide +kernel
theorem dJ1_indexOf_4cfef_14 : decode eJ1_indexOf_4cfef.2.1 14 = .ok (.istore_n 2, 1) := by decide +kernel
theorem dJ1_indexOf_4cfef_15 : decode eJ1_indexOf_4cfef.2.1 15 = .ok (.iload_n 3, 1) := by decide +kernel
theorem dJ1_indexOf_4cfef_16 : decode eJ1_indexOf_4cfef.2.1 16 = .ok (.aload_n 0, 1) := by decide +kernel
theorem dJ1_indexOf_4cfef_17 : decode eJ1_indexOf_4cfef.2.1 17 = .ok (.arraylength, 1) := by decide +kernel
theorem dJ1_indexOf_4cfef_18 : decode eJ1_indexOf_4cfef.2.1 18 = .ok (.invokestatic 38, 3) := by decide +kernel
theorem dJ1_indexOf_4cfef_21 : decode eJ1_indexOf_4cfef.2.1 21 = .ok (.istore_n 3, 1) := by decide +kernel
theorem dJ1_indexOf_4cfef_22 : decode eJ1_indexOf_4cfef.2.1 22 = .ok (.iload_n 2, 1) := by decide +kernel
theorem dJ1_indexOf_4cfef_23 : decode eJ1_indexOf_4cfef.2.1 23 = .ok (.iload_n 3, 1) := by decide +kernel
theorem dJ1_indexOf_4cfef_24 : decode eJ1_indexOf_4cfef.2.1 24 = .ok (.if_icmp .lt 5, 3) := by decide +kernel
theorem dJ1_indexOf_4cfef_27 : decode eJ1_indexOf_4cfef.2.1 27 = .ok (.iconst (-1), 1) := by decide +kernel
theorem dJ1_indexOf_4cfef_28 : decode eJ1_indexOf_4cfef.2.1 28 = .ok (.ireturn, 1) := by decide +kernel
theorem dJ1_indexOf_4cfef_29 : decode eJ1_indexOf_4cfef.2.1 29 = .ok (.aload_n 0, 1) := by decide +kernel
theorem dJ1_indexOf_4cfef_30 : decode eJ1_indexOf_4cfef.2.1 30 = .ok (.iload_n 1, 1) := by decide +kernel
theorem dJ1_indexOf_4cfef_31 : decode eJ1_indexOf_4cfef.2.1 31 = .ok (.iload_n 2, 1) := by decide +kernel
theorem dJ1_indexOf_4cfef_32 : decode eJ1_indexOf_4cfef.2.1 32 = .ok (.iload_n 3, 1) := by decide +kernel
theorem dJ1_indexOf_4cfef_33 : decode eJ1_indexOf_4cfef.2.1 33 = .ok (.invokestatic 95, 3) := by decide +kernel
theorem dJ1_indexOf_4cfef_36 : decode eJ1_indexOf_4cfef.2.1 36 = .ok (.ireturn, 1) := by decide +kernel
theorem dJ1_indexOfChar_4cfef_0 : decode eJ1_indexOfChar_4cfef.2.1 0 = .ok (.iload_n 1, 1) := by decide +kernel
theorem dJ1_indexOfChar_4cfef_1 : decode eJ1_indexOfChar_4cfef.2.1 1 = .ok (.i2b, 1) := by decide +kernel
theorem dJ1_indexOfChar_4cfef_2 : decode eJ1_indexOfChar_4cfef.2.1 2 = .ok (.istore 4, 2) := by decide +kernel
theorem dJ1_indexOfChar_4cfef_4 : decode eJ1_indexOfChar_4cfef.2.1 4 = .ok (.iload_n 2, 1) := by decide +kernel
theorem dJ1_indexOfChar_4cfef_5 : decode eJ1_indexOfChar_4cfef.2.1 5 = .ok (.istore 5, 2) := by decide +kernel
theorem dJ1_indexOfChar_4cfef_7 : decode eJ1_indexOfChar_4cfef.2.1 7 = .ok (.iload 5, 2) := by decide +kernel
theorem dJ1_indexOfChar_4cfef_9 : decode eJ1_indexOfChar_4cfef.2.1 9 = .ok (.iload_n 3, 1) := by decide +kernel
theorem dJ1_indexOfChar_4cfef_10 : decode eJ1_indexOfChar_4cfef.2.1 10 = .ok (.if_icmp .ge 21, 3) := by decide +kernel
theorem dJ1_indexOfChar_4cfef_13 : decode eJ1_indexOfChar_4cfef.2.1 13 = .ok (.aload_n 0, 1) := by decide +kernel
theorem dJ1_indexOfChar_4cfef_14 : decode eJ1_indexOfChar_4cfef.2.1 14 = .ok (.iload 5, 2) := by decide +kernel
theorem dJ1_indexOfChar_4cfef_16 : decode eJ1_indexOfChar_4cfef.2.1 16 = .ok (.baload, 1) := by decide +kernel
theorem dJ1_indexOfChar_4cfef_17 : decode eJ1_indexOfChar_4cfef.2.1 17 = .ok (.iload 4, 2) := by decide +kernel
theorem dJ1_indexOfChar_4cfef_19 : decode eJ1_indexOfChar_4cfef.2.1 19 = .ok (.if_icmp .ne 6, 3) := by decide +kernel
theorem dJ1_indexOfChar_4cfef_22 : decode eJ1_indexOfChar_4cfef.2.1 22 = .ok (.iload 5, 2) := by decide +kernel
theorem dJ1_indexOfChar_4cfef_24 : decode eJ1_indexOfChar_4cfef.2.1 24 = .ok (.ireturn, 1) := by decide +kernel
theorem dJ1_indexOfChar_4cfef_25 : decode eJ1_indexOfChar_4cfef.2.1 25 = .ok (.iinc 5 1, 3) := by decide +kernel
theorem dJ1_indexOfChar_4cfef_28 : decode eJ1_indexOfChar_4cfef.2.1 28 = .ok (.goto (-21), 3) := by decide +kernel
theorem dJ1_indexOfChar_4cfef_31 : decode eJ1_indexOfChar_4cfef.2.1 31 = .ok (.iconst (-1), 1) := by decide +kernel
theorem dJ1_indexOfChar_4cfef_32 : decode eJ1_indexOfChar_4cfef.2.1 32 = .ok (.ireturn, 1) := by decide +kernel
theorem dJ2_getChar_3b067_0 : decode eJ2_getChar_3b067.2.1 0 = .ok (.getstatic 44, 3) := by decide +kernel
theorem dJ2_getChar_3b067_3 : decode eJ2_getChar_3b067.2.1 3 = .ok (.ifCond .ne 25, 3) := by decide +kernel
theorem dJ2_getChar_3b067_6 : decode eJ2_getChar_3b067.2.1 6 = .ok (.iload_n 1, 1) := by decide +kernel
theorem dJ2_getChar_3b067_7 : decode eJ2_getChar_3b067.2.1 7 = .ok (.ifCond .lt 11, 3) := by decide +kernel
theorem dJ2_getChar_3b067_10 : decode eJ2_getChar_3b067.2.1 10 = .ok (.iload_n 1, 1) := by decide +kernel
theorem dJ2_getChar_3b067_11 : decode eJ2_getChar_3b067.2.1 11 = .ok (.aload_n 0, 1) := by decide +kernel
theorem dJ2_getChar_3b067_12 : decode eJ2_getChar_3b067.2.1 12 = .ok (.invokestatic 48, 3) := by decide +kernel
theorem dJ2_getChar_3b067_15 : decode eJ2_getChar_3b067.2.1 15 = .ok (.if_icmp .lt 13, 3) := by decide +kernel
theorem dJ2_getChar_3b067_18 : decode eJ2_getChar_3b067.2.1 18 = .ok (.new 52, 3) := by decide +kernel
theorem dJ2_getChar_3b067_21 : decode eJ2_getChar_3b067.2.1 21 = .ok (.dup, 1) := by decide +kernel
theorem dJ2_getChar_3b067_22 : decode eJ2_getChar_3b067.2.1 22 = .ok (.ldc 54, 2) := by decide +kernel
theorem dJ2_getChar_3b067_24 : decode eJ2_getChar_3b067.2.1 24 = .ok (.invokespecial 56, 3) := by decide +kernel
theorem dJ2_getChar_3b067_27 : decode eJ2_getChar_3b067.2.1 27 = .ok (.athrow, 1) := by decide +kernel
theorem dJ2_getChar_3b067_28 : decode eJ2_getChar_3b067.2.1 28 = .ok (.iload_n 1, 1) := by decide +kernel
theorem dJ2_getChar_3b067_29 : decode eJ2_getChar_3b067.2.1 29 = .ok (.iconst 1, 1) := by decide +kernel
theorem dJ2_getChar_3b067_30 : decode eJ2_getChar_3b067.2.1 30 = .ok (.ishl, 1) := by decide +kernel
theorem dJ2_getChar_3b067_31 : decode eJ2_getChar_3b067.2.1 31 = .ok (.istore_n 1, 1) := by decide +kernel
theorem dJ2_getChar_3b067_32 : decode eJ2_getChar_3b067.2.1 32 = .ok (.aload_n 0, 1) := by decide +kernel
theorem dJ2_getChar_3b067_33 : decode eJ2_getChar_3b067.2.1 33 = .ok (.iload_n 1, 1) := by decide +kernel
theorem dJ2_getChar_3b067_34 : decode eJ2_getChar_3b067.2.1 34 = .ok (.iinc 1 1, 3) := by decide +kernel
theorem dJ2_getChar_3b067_37 : decode eJ2_getChar_3b067.2.1 37 = .ok (.baload, 1) := by decide +kernel
theorem dJ2_getChar_3b067_38 : decode eJ2_getChar_3b067.2.1 38 = .ok (.sipush 255, 3) := by decide +kernel
theorem dJ2_getChar_3b067_41 : decode eJ2_getChar_3b067.2.1 41 = .ok (.iand, 1) := by decide +kernel
theorem dJ2_getChar_3b067_42 : decode eJ2_getChar_3b067.2.1 42 = .ok (.getstatic 59, 3) := by decide +kernel
theorem dJ2_getChar_3b067_45 : decode eJ2_getChar_3b067.2.1 45 = .ok (.ishl, 1) := by decide +kernel
theorem dJ2_getChar_3b067_46 : decode eJ2_getChar_3b067.2.1 46 = .ok (.aload_n 0, 1) := by decide +kernel
theorem dJ2_getChar_3b067_47 : decode eJ2_getChar_3b067.2.1 47 = .ok (.iload_n 1, 1) := by decide +kernel
theorem dJ2_getChar_3b067_48 : decode eJ2_getChar_3b067.2.1 48 = .ok (.baload, 1) := by decide +kernel
theorem dJ2_getChar_3b067_49 : decode eJ2_getChar_3b067.2.1 49 = .ok (.sipush 255, 3) := by decide +kernel
theorem dJ2_getChar_3b067_52 : decode eJ2_getChar_3b067.2.1 52 = .ok (.iand, 1) := by decide +kernel
theorem dJ2_getChar_3b067_53 : decode eJ2_getChar_3b067.2.1 53 = .ok (.getstatic 63, 3) := by decide +kernel
theorem dJ2_getChar_3b067_56 : decode eJ2_getChar_3b067.2.1 56 = .ok (.ishl, 1) := by decide +kernel
theorem dJ2_getChar_3b067_57 : decode eJ2_getChar_3b067.2.1 57 = .ok (.ior, 1) := by decide +kernel
theorem dJ2_getChar_3b067_58 : decode eJ2_getChar_3b067.2.1 58 = .ok (.i2c, 1) := by decide +kernel
theorem dJ2_getChar_3b067_59 : decode eJ2_getChar_3b067.2.1 59 = .ok (.ireturn, 1) := by decide +kernel
theorem dJ2_length_9d52b_0 : decode eJ2_length_9d52b.2.1 0 = .ok (.aload_n 0, 1) := by decide +kernel
theorem dJ2_length_9d52b_1 : decode eJ2_length_9d52b.2.1 1 = .ok (.arraylength, 1) := by decide +kernel
theorem dJ2_length_9d52b_2 : decode eJ2_length_9d52b.2.1 2 = .ok (.iconst 1, 1) := by decide +kernel
theorem dJ2_length_9d52b_3 : decode eJ2_length_9d52b.2.1 3 = .ok (.ishr, 1) := by decide +kernel
theorem dJ2_length_9d52b_4 : decode eJ2_length_9d52b.2.1 4 = .ok (.ireturn, 1) := by decide +kernel
theorem dJ2_indexOf_4cfef_0 : decode eJ2_indexOf_4cfef.2.1 0 = .ok (.iload_n 2, 1) := by decide +kernel
theorem dJ2_indexOf_4cfef_1 : decode eJ2_indexOf_4cfef.2.1 1 = .ok (.iconst 0, 1) := by decide +kernel
theorem dJ2_indexOf_4cfef_2 : decode eJ2_indexOf_4cfef.2.1 2 = .ok (.invokestatic 224, 3) := by decide +kernel
theorem dJ2_indexOf_4cfef_5 : decode eJ2_indexOf_4cfef.2.1 5 = .ok (.istore_n 2, 1) := by decide +kernel
theorem dJ2_indexOf_4cfef_6 : decode eJ2_indexOf_4cfef.2.1 6 = .ok (.iload_n 3, 1) := by decide +kernel
theorem dJ2_indexOf_4cfef_7 : decode eJ2_indexOf_4cfef.2.1 7 = .ok (.aload_n 0, 1) := by decide +kernel
theorem dJ2_indexOf_4cfef_8 : decode eJ2_indexOf_4cfef.2.1 8 = .ok (.arraylength, 1) := by decide +kernel
theorem dJ2_indexOf_4cfef_9 : decode eJ2_indexOf_4cfef.2.1 9 = .ok (.iconst 1, 1) := by decide +kernel
theorem dJ2_indexOf_4cfef_10 : decode eJ2_indexOf_4cfef.2.1 10 = .ok (.ishr, 1) := by decide +kernel
theorem dJ2_indexOf_4cfef_11 : decode eJ2_indexOf_4cfef.2.1 11 = .ok (.invokestatic 183, 3) := by decide +kernel
theorem dJ2_indexOf_4cfef_14 : decode eJ2_indexOf_4cfef.2.1 14 = .ok (.istore_n 3, 1) := by decide +kernel
theorem dJ2_indexOf_4cfef_15 : decode eJ2_indexOf_4cfef.2.1 15 = .ok (.iload_n 2, 1) := by decide +kernel
theorem dJ2_indexOf_4cfef_16 : decode eJ2_indexOf_4cfef.2.1 16 = .ok (.iload_n 3, 1) := by decide +kernel
theorem dJ2_indexOf_4cfef_17 : decode eJ2_indexOf_4cfef.2.1 17 = .ok (.if_icmp .lt 5, 3) := by decide +kernel
theorem dJ2_indexOf_4cfef_20 : decode eJ2_indexOf_4cfef.2.1 20 = .ok (.iconst (-1), 1) := by decide +kernel
theorem dJ2_indexOf_4cfef_21 : decode eJ2_indexOf_4cfef.2.1 21 = .ok (.ireturn, 1) := by decide +kernel
theorem dJ2_indexOf_4cfef_22 : decode eJ2_indexOf_4cfef.2.1 22 = .ok (.iload_n 1, 1) := by decide +kernel
theorem dJ2_indexOf_4cfef_23 : decode eJ2_indexOf_4cfef.2.1 23 = .ok (.ldc 227, 2) := by decide +kernel
theorem dJ2_indexOf_4cfef_25 : decode eJ2_indexOf_4cfef.2.1 25 = .ok (.if_icmp .ge 11, 3) := by decide +kernel
theorem dJ2_indexOf_4cfef_28 : decode eJ2_indexOf_4cfef.2.1 28 = .ok (.aload_n 0, 1) := by decide +kernel
theorem dJ2_indexOf_4cfef_29 : decode eJ2_indexOf_4cfef.2.1 29 = .ok (.iload_n 1, 1) := by decide +kernel
theorem dJ2_indexOf_4cfef_30 : decode eJ2_indexOf_4cfef.2.1 30 = .ok (.iload_n 2, 1) := by decide +kernel
theorem dJ2_indexOf_4cfef_31 : decode eJ2_indexOf_4cfef.2.1 31 = .ok (.iload_n 3, 1) := by decide +kernel
theorem dJ2_indexOf_4cfef_32 : decode eJ2_indexOf_4cfef.2.1 32 = .ok (.invokestatic 228, 3) := by decide +kernel
theorem dJ2_indexOf_4cfef_35 : decode eJ2_indexOf_4cfef.2.1 35 = .ok (.ireturn, 1) := by decide +kernel
theorem dJ2_indexOf_4cfef_36 : decode eJ2_indexOf_4cfef.2.1 36 = .ok (.aload_n 0, 1) := by decide +kernel
theorem dJ2_indexOf_4cfef_37 : decode eJ2_indexOf_4cfef.2.1 37 = .ok (.iload_n 1, 1) := by decide +kernel
theorem dJ2_indexOf_4cfef_38 : decode eJ2_indexOf_4cfef.2.1 38 = .ok (.iload_n 2, 1) := by decide +kernel
theorem dJ2_indexOf_4cfef_39 : decode eJ2_indexOf_4cfef.2.1 39 = .ok (.iload_n 3, 1) := by decide +kernel
theorem dJ2_indexOf_4cfef_40 : decode eJ2_indexOf_4cfef.2.1 40 = .ok (.invokestatic 232, 3) := by decide +kernel
theorem dJ2_indexOf_4cfef_43 : decode eJ2_indexOf_4cfef.2.1 43 = .ok (.ireturn, 1) := by decide +kernel
theorem dJ2_indexOfChar_4cfef_0 : decode eJ2_indexOfChar_4cfef.2.1 0 = .ok (.iload_n 2, 1) := by decide +kernel
theorem dJ2_indexOfChar_4cfef_1 : decode eJ2_indexOfChar_4cfef.2.1 1 = .ok (.iload_n 3, 1) := by decide +kernel
theorem dJ2_indexOfChar_4cfef_2 : decode eJ2_indexOfChar_4cfef.2.1 2 = .ok (.aload_n 0, 1) := by decide +kernel
theorem dJ2_indexOfChar_4cfef_3 : decode eJ2_indexOfChar_4cfef.2.1 3 = .ok (.invokestatic 96, 3) := by decide +kernel
theorem dJ2_indexOfChar_4cfef_6 : decode eJ2_indexOfChar_4cfef.2.1 6 = .ok (.aload_n 0, 1) := by decide +kernel
theorem dJ2_indexOfChar_4cfef_7 : decode eJ2_indexOfChar_4cfef.2.1 7 = .ok (.iload_n 1, 1) := by decide +kernel
theorem dJ2_indexOfChar_4cfef_8 : decode eJ2_indexOfChar_4cfef.2.1 8 = .ok (.iload_n 2, 1) := by decide +kernel
theorem dJ2_indexOfChar_4cfef_9 : decode eJ2_indexOfChar_4cfef.2.1 9 = .ok (.iload_n 3, 1) := by decide +kernel
theorem dJ2_indexOfChar_4cfef_10 : decode eJ2_indexOfChar_4cfef.2.1 10 = .ok (.invokestatic 244, 3) := by decide +kernel
theorem dJ2_indexOfChar_4cfef_13 : decode eJ2_indexOfChar_4cfef.2.1 13 = .ok (.ireturn, 1) := by decide +kernel
theorem dJ2_indexOfCharUnsafe_4cfef_0 : decode eJ2_indexOfCharUnsafe_4cfef.2.1 0 = .ok (.iload_n 2, 1) := by decide +kernel
theorem dJ2_indexOfCharUnsafe_4cfef_1 : decode eJ2_indexOfCharUnsafe_4cfef.2.1 1 = .ok (.istore 4, 2) := by decide +kernel
theorem dJ2_indexOfCharUnsafe_4cfef_3 : decode eJ2_indexOfCharUnsafe_4cfef.2.1 3 = .ok (.iload 4, 2) := by decide +kernel
theorem dJ2_indexOfCharUnsafe_4cfef_5 : decode eJ2_indexOfCharUnsafe_4cfef.2.1 5 = .ok (.iload_n 3, 1) := by decide +kernel
theorem dJ2_indexOfCharUnsafe_4cfef_6 : decode eJ2_indexOfCharUnsafe_4cfef.2.1 6 = .ok (.if_icmp .ge 22, 3) := by decide +kernel
theorem dJ2_indexOfCharUnsafe_4cfef_9 : decode eJ2_indexOfCharUnsafe_4cfef.2.1 9 = .ok (.aload_n 0, 1) := by decide +kernel
theorem dJ2_indexOfCharUnsafe_4cfef_10 : decode eJ2_indexOfCharUnsafe_4cfef.2.1 10 = .ok (.iload 4, 2) := by decide +kernel
theorem dJ2_indexOfCharUnsafe_4cfef_12 : decode eJ2_indexOfCharUnsafe_4cfef.2.1 12 = .ok (.invokestatic 71, 3) := by decide +kernel
theorem dJ2_indexOfCharUnsafe_4cfef_15 : decode eJ2_indexOfCharUnsafe_4cfef.2.1 15 = .ok (.iload_n 1, 1) := by decide +kernel
theorem dJ2_indexOfCharUnsafe_4cfef_16 : decode eJ2_indexOfCharUnsafe_4cfef.2.1 16 = .ok (.if_icmp .ne 6, 3) := by decide +kernel
theorem dJ2_indexOfCharUnsafe_4cfef_19 : decode eJ2_indexOfCharUnsafe_4cfef.2.1 19 = .ok (.iload 4, 2) := by decide +kernel
theorem dJ2_indexOfCharUnsafe_4cfef_21 : decode eJ2_indexOfCharUnsafe_4cfef.2.1 21 = .ok (.ireturn, 1) := by decide +kernel
theorem dJ2_indexOfCharUnsafe_4cfef_22 : decode eJ2_indexOfCharUnsafe_4cfef.2.1 22 = .ok (.iinc 4 1, 3) := by decide +kernel
theorem dJ2_indexOfCharUnsafe_4cfef_25 : decode eJ2_indexOfCharUnsafe_4cfef.2.1 25 = .ok (.goto (-22), 3) := by decide +kernel
theorem dJ2_indexOfCharUnsafe_4cfef_28 : decode eJ2_indexOfCharUnsafe_4cfef.2.1 28 = .ok (.iconst (-1), 1) := by decide +kernel
theorem dJ2_indexOfCharUnsafe_4cfef_29 : decode eJ2_indexOfCharUnsafe_4cfef.2.1 29 = .ok (.ireturn, 1) := by decide +kernel
theorem dJ2_indexOfSupplementary_4cfef_0 : decode eJ2_indexOfSupplementary_4cfef.2.1 0 = .ok (.iload_n 1, 1) := by decide +kernel
theorem dJ2_indexOfSupplementary_4cfef_1 : decode eJ2_indexOfSupplementary_4cfef.2.1 1 = .ok (.invokestatic 164, 3) := by decide +kernel
theorem dJ2_indexOfSupplementary_4cfef_4 : decode eJ2_indexOfSupplementary_4cfef.2.1 4 = .ok (.ifCond .eq 65, 3) := by decide +kernel
theorem dJ2_indexOfSupplementary_4cfef_7 : decode eJ2_indexOfSupplementary_4cfef.2.1 7 = .ok (.iload_n 1, 1) := by decide +kernel
theorem dJ2_indexOfSupplementary_4cfef_8 : decode eJ2_indexOfSupplementary_4cfef.2.1 8 = .ok (.invokestatic 157, 3) := by decide +kernel
theorem dJ2_indexOfSupplementary_4cfef_11 : decode eJ2_indexOfSupplementary_4cfef.2.1 11 = .ok (.istore 4, 2) := by decide +kernel
theorem dJ2_indexOfSupplementary_4cfef_13 : decode eJ2_indexOfSupplementary_4cfef.2.1 13 = .ok (.iload_n 1, 1) := by decide +kernel
theorem dJ2_indexOfSupplementary_4cfef_14 : decode eJ2_indexOfSupplementary_4cfef.2.1 14 = .ok (.invokestatic 161, 3) := by decide +kernel
theorem dJ2_indexOfSupplementary_4cfef_17 : decode eJ2_indexOfSupplementary_4cfef.2.1 17 = .ok (.istore 5, 2) := by decide +kernel
theorem dJ2_indexOfSupplementary_4cfef_19 : decode eJ2_indexOfSupplementary_4cfef.2.1 19 = .ok (.iload_n 2, 1) := by decide +kernel
theorem dJ2_indexOfSupplementary_4cfef_20 : decode eJ2_indexOfSupplementary_4cfef.2.1 20 = .ok (.iload_n 3, 1) := by decide +kernel
theorem dJ2_indexOfSupplementary_4cfef_21 : decode eJ2_indexOfSupplementary_4cfef.2.1 21 = .ok (.aload_n 0, 1) := by decide +kernel
theorem dJ2_indexOfSupplementary_4cfef_22 : decode eJ2_indexOfSupplementary_4cfef.2.1 22 = .ok (.invokestatic 96, 3) := by decide +kernel
theorem dJ2_indexOfSupplementary_4cfef_25 : decode eJ2_indexOfSupplementary_4cfef.2.1 25 = .ok (.iload_n 2, 1) := by decide +kernel
theorem dJ2_indexOfSupplementary_4cfef_26 : decode eJ2_indexOfSupplementary_4cfef.2.1 26 = .ok (.istore 6, 2) := by decide +kernel
theorem dJ2_indexOfSupplementary_4cfef_28 : decode eJ2_indexOfSupplementary_4cfef.2.1 28 = .ok (.iload 6, 2) := by decide +kernel
theorem dJ2_indexOfSupplementary_4cfef_30 : decode eJ2_indexOfSupplementary_4cfef.2.1 30 = .ok (.iload_n 3, 1) := by decide +kernel
theorem dJ2_indexOfSupplementary_4cfef_31 : decode eJ2_indexOfSupplementary_4cfef.2.1 31 = .ok (.iconst 1, 1) := by decide +kernel
theorem dJ2_indexOfSupplementary_4cfef_32 : decode eJ2_indexOfSupplementary_4cfef.2.1 32 = .ok (.isub, 1) := by decide +kernel
theorem dJ2_indexOfSupplementary_4cfef_33 : decode eJ2_indexOfSupplementary_4cfef.2.1 33 = .ok (.if_icmp .ge 36, 3) := by decide +kernel
theorem dJ2_indexOfSupplementary_4cfef_36 : decode eJ2_indexOfSupplementary_4cfef.2.1 36 = .ok (.aload_n 0, 1) := by decide +kernel
theorem dJ2_indexOfSupplementary_4cfef_37 : decode eJ2_indexOfSupplementary_4cfef.2.1 37 = .ok (.iload 6, 2) := by decide +kernel
theorem dJ2_indexOfSupplementary_4cfef_39 : decode eJ2_indexOfSupplementary_4cfef.2.1 39 = .ok (.invokestatic 71, 3) := by decide +kernel
theorem dJ2_indexOfSupplementary_4cfef_42 : decode eJ2_indexOfSupplementary_4cfef.2.1 42 = .ok (.iload 4, 2) := by decide +kernel
theorem dJ2_indexOfSupplementary_4cfef_44 : decode eJ2_indexOfSupplementary_4cfef.2.1 44 = .ok (.if_icmp .ne 19, 3) := by decide +kernel
theorem dJ2_indexOfSupplementary_4cfef_47 : decode eJ2_indexOfSupplementary_4cfef.2.1 47 = .ok (.aload_n 0, 1) := by decide +kernel
theorem dJ2_indexOfSupplementary_4cfef_48 : decode eJ2_indexOfSupplementary_4cfef.2.1 48 = .ok (.iload 6, 2) := by decide +kernel
theorem dJ2_indexOfSupplementary_4cfef_50 : decode eJ2_indexOfSupplementary_4cfef.2.1 50 = .ok (.iconst 1, 1) := by decide +kernel
theorem dJ2_indexOfSupplementary_4cfef_51 : decode eJ2_indexOfSupplementary_4cfef.2.1 51 = .ok (.iadd, 1) := by decide +kernel
theorem dJ2_indexOfSupplementary_4cfef_52 : decode eJ2_indexOfSupplementary_4cfef.2.1 52 = .ok (.invokestatic 71, 3) := by decide +kernel
theorem dJ2_indexOfSupplementary_4cfef_55 : decode eJ2_indexOfSupplementary_4cfef.2.1 55 = .ok (.iload 5, 2) := by decide +kernel
theorem dJ2_indexOfSupplementary_4cfef_57 : decode eJ2_indexOfSupplementary_4cfef.2.1 57 = .ok (.if_icmp .ne 6, 3) := by decide +kernel
theorem dJ2_indexOfSupplementary_4cfef_60 : decode eJ2_indexOfSupplementary_4cfef.2.1 60 = .ok (.iload 6, 2) := by decide +kernel
theorem dJ2_indexOfSupplementary_4cfef_62 : decode eJ2_indexOfSupplementary_4cfef.2.1 62 = .ok (.ireturn, 1) := by decide +kernel
theorem dJ2_indexOfSupplementary_4cfef_63 : decode eJ2_indexOfSupplementary_4cfef.2.1 63 = .ok (.iinc 6 1, 3) := by decide +kernel
theorem dJ2_indexOfSupplementary_4cfef_66 : decode eJ2_indexOfSupplementary_4cfef.2.1 66 = .ok (.goto (-38), 3) := by decide +kernel
theorem dJ2_indexOfSupplementary_4cfef_69 : decode eJ2_indexOfSupplementary_4cfef.2.1 69 = .ok (.iconst (-1), 1) := by decide +kernel
theorem dJ2_indexOfSupplementary_4cfef_70 : decode eJ2_indexOfSupplementary_4cfef.2.1 70 = .ok (.ireturn, 1) := by decide +kernel
theorem dJ2_charAt_3b067_0 : decode eJ2_charAt_3b067.2.1 0 = .ok (.iload_n 1, 1) := by decide +kernel
theorem dJ2_charAt_3b067_1 : decode eJ2_charAt_3b067.2.1 1 = .ok (.aload_n 0, 1) := by decide +kernel
theorem dJ2_charAt_3b067_2 : decode eJ2_charAt_3b067.2.1 2 = .ok (.invokestatic 67, 3) := by decide +kernel
theorem dJ2_charAt_3b067_5 : decode eJ2_charAt_3b067.2.1 5 = .ok (.aload_n 0, 1) := by decide +kernel
theorem dJ2_charAt_3b067_6 : decode eJ2_charAt_3b067.2.1 6 = .ok (.iload_n 1, 1) := by decide +kernel
theorem dJ2_charAt_3b067_7 : decode eJ2_charAt_3b067.2.1 7 = .ok (.invokestatic 71, 3) := by decide +kernel
theorem dJ2_charAt_3b067_10 : decode eJ2_charAt_3b067.2.1 10 = .ok (.ireturn, 1) := by decide +kernel
theorem dJ2_checkIndex_2214a_0 : decode eJ2_checkIndex_2214a.2.1 0 = .ok (.iload_n 0, 1) := by decide +kernel
theorem dJ2_checkIndex_2214a_1 : decode eJ2_checkIndex_2214a.2.1 1 = .ok (.aload_n 1, 1) := by decide +kernel
theorem dJ2_checkIndex_2214a_2 : decode eJ2_checkIndex_2214a.2.1 2 = .ok (.invokestatic 48, 3) := by decide +kernel
theorem dJ2_checkIndex_2214a_5 : decode eJ2_checkIndex_2214a.2.1 5 = .ok (.invokestatic 414, 3) := by decide +kernel
theorem dJ2_checkIndex_2214a_8 : decode eJ2_checkIndex_2214a.2.1 8 = .ok (.return_, 1) := by decide +kernel
theorem dJ2_checkBoundsBeginEnd_d044e_0 : decode eJ2_checkBoundsBeginEnd_d044e.2.1 0 = .ok (.iload_n 0, 1) := by decide +kernel
theorem dJ2_checkBoundsBeginEnd_d044e_1 : decode eJ2_checkBoundsBeginEnd_d044e.2.1 1 = .ok (.iload_n 1, 1) := by decide +kernel
theorem dJ2_checkBoundsBeginEnd_d044e_2 : decode eJ2_checkBoundsBeginEnd_d044e.2.1 2 = .ok (.aload_n 2, 1) := by decide +kernel
theorem dJ2_checkBoundsBeginEnd_d044e_3 : decode eJ2_checkBoundsBeginEnd_d044e.2.1 3 = .ok (.invokestatic 48, 3) := by decide +kernel
theorem dJ2_checkBoundsBeginEnd_d044e_6 : decode eJ2_checkBoundsBeginEnd_d044e.2.1 6 = .ok (.invokestatic 241, 3) := by decide +kernel
theorem dJ2_checkBoundsBeginEnd_d044e_9 : decode eJ2_checkBoundsBeginEnd_d044e.2.1 9 = .ok (.return_, 1) := by decide +kernel
theorem dJ3_checkIndex_8e157_0 : decode eJ3_checkIndex_8e157.2.1 0 = .ok (.iload_n 0, 1) := by decide +kernel
theorem dJ3_checkIndex_8e157_1 : decode eJ3_checkIndex_8e157.2.1 1 = .ok (.ifCond .lt 8, 3) := by decide +kernel
theorem dJ3_checkIndex_8e157_4 : decode eJ3_checkIndex_8e157.2.1 4 = .ok (.iload_n 0, 1) := by decide +kernel
theorem dJ3_checkIndex_8e157_5 : decode eJ3_checkIndex_8e157.2.1 5 = .ok (.iload_n 1, 1) := by decide +kernel
theorem dJ3_checkIndex_8e157_6 : decode eJ3_checkIndex_8e157.2.1 6 = .ok (.if_icmp .lt 10, 3) := by decide +kernel
theorem dJ3_checkIndex_8e157_9 : decode eJ3_checkIndex_8e157.2.1 9 = .ok (.aload_n 2, 1) := by decide +kernel
theorem dJ3_checkIndex_8e157_10 : decode eJ3_checkIndex_8e157.2.1 10 = .ok (.iload_n 0, 1) := by decide +kernel
theorem dJ3_checkIndex_8e157_11 : decode eJ3_checkIndex_8e157.2.1 11 = .ok (.iload_n 1, 1) := by decide +kernel
theorem dJ3_checkIndex_8e157_12 : decode eJ3_checkIndex_8e157.2.1 12 = .ok (.invokestatic 95, 3) := by decide +kernel
theorem dJ3_checkIndex_8e157_15 : decode eJ3_checkIndex_8e157.2.1 15 = .ok (.athrow, 1) := by decide +kernel
theorem dJ3_checkIndex_8e157_16 : decode eJ3_checkIndex_8e157.2.1 16 = .ok (.iload_n 0, 1) := by decide +kernel
theorem dJ3_checkIndex_8e157_17 : decode eJ3_checkIndex_8e157.2.1 17 = .ok (.ireturn, 1) := by decide +kernel
theorem dJ3_checkFromToIndex_8c36e_0 : decode eJ3_checkFromToIndex_8c36e.2.1 0 = .ok (.iload_n 0, 1) := by decide +kernel
theorem dJ3_checkFromToIndex_8c36e_1 : decode eJ3_checkFromToIndex_8c36e.2.1 1 = .ok (.ifCond .lt 13, 3) := by decide +kernel
theorem dJ3_checkFromToIndex_8c36e_4 : decode eJ3_checkFromToIndex_8c36e.2.1 4 = .ok (.iload_n 0, 1) := by decide +kernel
theorem dJ3_checkFromToIndex_8c36e_5 : decode eJ3_checkFromToIndex_8c36e.2.1 5 = .ok (.iload_n 1, 1) := by decide +kernel
theorem dJ3_checkFromToIndex_8c36e_6 : decode eJ3_checkFromToIndex_8c36e.2.1 6 = .ok (.if_icmp .gt 8, 3) := by decide +kernel
theorem dJ3_checkFromToIndex_8c36e_9 : decode eJ3_checkFromToIndex_8c36e.2.1 9 = .ok (.iload_n 1, 1) := by decide +kernel
theorem dJ3_checkFromToIndex_8c36e_10 : decode eJ3_checkFromToIndex_8c36e.2.1 10 = .ok (.iload_n 2, 1) := by decide +kernel
theorem dJ3_checkFromToIndex_8c36e_11 : decode eJ3_checkFromToIndex_8c36e.2.1 11 = .ok (.if_icmp .le 11, 3) := by decide +kernel
theorem dJ3_checkFromToIndex_8c36e_14 : decode eJ3_checkFromToIndex_8c36e.2.1 14 = .ok (.aload_n 3, 1) := by decide +kernel
theorem dJ3_checkFromToIndex_8c36e_15 : decode eJ3_checkFromToIndex_8c36e.2.1 15 = .ok (.iload_n 0, 1) := by decide +kernel
theorem dJ3_checkFromToIndex_8c36e_16 : decode eJ3_checkFromToIndex_8c36e.2.1 16 = .ok (.iload_n 1, 1) := by decide +kernel
theorem dJ3_checkFromToIndex_8c36e_17 : decode eJ3_checkFromToIndex_8c36e.2.1 17 = .ok (.iload_n 2, 1) := by decide +kernel
theorem dJ3_checkFromToIndex_8c36e_18 : decode eJ3_checkFromToIndex_8c36e.2.1 18 = .ok (.invokestatic 99, 3) := by decide +kernel
theorem dJ3_checkFromToIndex_8c36e_21 : decode eJ3_checkFromToIndex_8c36e.2.1 21 = .ok (.athrow, 1) := by decide +kernel
theorem dJ3_checkFromToIndex_8c36e_22 : decode eJ3_checkFromToIndex_8c36e.2.1 22 = .ok (.iload_n 0, 1) := by decide +kernel
theorem dJ3_checkFromToIndex_8c36e_23 : decode eJ3_checkFromToIndex_8c36e.2.1 23 = .ok (.ireturn, 1) := by decide +kernel
theorem dL_law_0 : decode eL_law.2.1 0 = .ok (.new 7, 3) := by decide +kernel
theorem dL_law_3 : decode eL_law.2.1 3 = .ok (.dup, 1) := by decide +kernel
theorem dL_law_4 : decode eL_law.2.1 4 = .ok (.invokespecial 9, 3) := by decide +kernel
theorem dL_law_7 : decode eL_law.2.1 7 = .ok (.astore_n 1, 1) := by decide +kernel
theorem dL_law_8 : decode eL_law.2.1 8 = .ok (.new 10, 3) := by decide +kernel
theorem dL_law_11 : decode eL_law.2.1 11 = .ok (.dup, 1) := by decide +kernel
theorem dL_law_12 : decode eL_law.2.1 12 = .ok (.invokespecial 12, 3) := by decide +kernel
theorem dL_law_15 : decode eL_law.2.1 15 = .ok (.astore_n 2, 1) := by decide +kernel
theorem dL_law_16 : decode eL_law.2.1 16 = .ok (.iconst 0, 1) := by decide +kernel
theorem dL_law_17 : decode eL_law.2.1 17 = .ok (.istore_n 3, 1) := by decide +kernel
theorem dL_law_18 : decode eL_law.2.1 18 = .ok (.iload_n 3, 1) := by decide +kernel
theorem dL_law_19 : decode eL_law.2.1 19 = .ok (.aload_n 0, 1) := by decide +kernel
theorem dL_law_20 : decode eL_law.2.1 20 = .ok (.arraylength, 1) := by decide +kernel
theorem dL_law_21 : decode eL_law.2.1 21 = .ok (.bipush 6, 2) := by decide +kernel
theorem dL_law_23 : decode eL_law.2.1 23 = .ok (.isub, 1) := by decide +kernel
theorem dL_law_24 : decode eL_law.2.1 24 = .ok (.if_icmp .gt 1437, 3) := by decide +kernel
theorem dL_law_27 : decode eL_law.2.1 27 = .ok (.aload_n 0, 1) := by decide +kernel
theorem dL_law_28 : decode eL_law.2.1 28 = .ok (.iload_n 3, 1) := by decide +kernel
theorem dL_law_29 : decode eL_law.2.1 29 = .ok (.iaload, 1) := by decide +kernel
theorem dL_law_30 : decode eL_law.2.1 30 = .ok (.bipush 63, 2) := by decide +kernel
theorem dL_law_32 : decode eL_law.2.1 32 = .ok (.iand, 1) := by decide +kernel
theorem dL_law_33 : decode eL_law.2.1 33 = .ok (.tableswitch 1422 0 40 #[179, 242, 275, 308, 331, 374, 407, 440, 473, 496, 509, 522, 535, 578, 621, 684, 717, 750, 793, 816, 839, 872, 895, 958, 981, 1014, 1047, 1090, 1133, 1166, 1199, 1222, 1235, 1258, 1291, 1314, 1327, 1350, 1373, 1386, 1399], 179) := by decide +kernel
theorem dL_law_212 : decode eL_law.2.1 212 = .ok (.aload_n 1, 1) := by decide +kernel
theorem dL_law_213 : decode eL_law.2.1 213 = .ok (.aload_n 0, 1) := by decide +kernel
theorem dL_law_214 : decode eL_law.2.1 214 = .ok (.iload_n 3, 1) := by decide +kernel
theorem dL_law_215 : decode eL_law.2.1 215 = .ok (.iconst 1, 1) := by decide +kernel
theorem dL_law_216 : decode eL_law.2.1 216 = .ok (.iadd, 1) := by decide +kernel
theorem dL_law_217 : decode eL_law.2.1 217 = .ok (.iaload, 1) := by decide +kernel
theorem dL_law_218 : decode eL_law.2.1 218 = .ok (.aload_n 0, 1) := by decide +kernel
theorem dL_law_219 : decode eL_law.2.1 219 = .ok (.iload_n 3, 1) := by decide +kernel
theorem dL_law_220 : decode eL_law.2.1 220 = .ok (.iconst 2, 1) := by decide +kernel
theorem dL_law_221 : decode eL_law.2.1 221 = .ok (.iadd, 1) := by decide +kernel
theorem dL_law_222 : decode eL_law.2.1 222 = .ok (.iaload, 1) := by decide +kernel
theorem dL_law_223 : decode eL_law.2.1 223 = .ok (.aload_n 0, 1) := by decide +kernel
theorem dL_law_224 : decode eL_law.2.1 224 = .ok (.iload_n 3, 1) := by decide +kernel
theorem dL_law_225 : decode eL_law.2.1 225 = .ok (.iconst 3, 1) := by decide +kernel
theorem dL_law_226 : decode eL_law.2.1 226 = .ok (.iadd, 1) := by decide +kernel
theorem dL_law_227 : decode eL_law.2.1 227 = .ok (.iaload, 1) := by decide +kernel
theorem dL_law_228 : decode eL_law.2.1 228 = .ok (.aload_n 0, 1) := by decide +kernel
theorem dL_law_229 : decode eL_law.2.1 229 = .ok (.iload_n 3, 1) := by decide +kernel
theorem dL_law_230 : decode eL_law.2.1 230 = .ok (.iconst 4, 1) := by decide +kernel
theorem dL_law_231 : decode eL_law.2.1 231 = .ok (.iadd, 1) := by decide +kernel
theorem dL_law_232 : decode eL_law.2.1 232 = .ok (.iaload, 1) := by decide +kernel
theorem dL_law_233 : decode eL_law.2.1 233 = .ok (.aload_n 0, 1) := by decide +kernel
theorem dL_law_234 : decode eL_law.2.1 234 = .ok (.iload_n 3, 1) := by decide +kernel
theorem dL_law_235 : decode eL_law.2.1 235 = .ok (.iconst 5, 1) := by decide +kernel
theorem dL_law_236 : decode eL_law.2.1 236 = .ok (.iadd, 1) := by decide +kernel
theorem dL_law_237 : decode eL_law.2.1 237 = .ok (.iaload, 1) := by decide +kernel
theorem dL_law_238 : decode eL_law.2.1 238 = .ok (.invokevirtual 13, 3) := by decide +kernel
theorem dL_law_241 : decode eL_law.2.1 241 = .ok (.aload_n 2, 1) := by decide +kernel
theorem dL_law_242 : decode eL_law.2.1 242 = .ok (.aload_n 0, 1) := by decide +kernel
theorem dL_law_243 : decode eL_law.2.1 243 = .ok (.iload_n 3, 1) := by decide +kernel
theorem dL_law_244 : decode eL_law.2.1 244 = .ok (.iconst 1, 1) := by decide +kernel
theorem dL_law_245 : decode eL_law.2.1 245 = .ok (.iadd, 1) := by decide +kernel
theorem dL_law_246 : decode eL_law.2.1 246 = .ok (.iaload, 1) := by decide +kernel
theorem dL_law_247 : decode eL_law.2.1 247 = .ok (.aload_n 0, 1) := by decide +kernel
theorem dL_law_248 : decode eL_law.2.1 248 = .ok (.iload_n 3, 1) := by decide +kernel
theorem dL_law_249 : decode eL_law.2.1 249 = .ok (.iconst 2, 1) := by decide +kernel
theorem dL_law_250 : decode eL_law.2.1 250 = .ok (.iadd, 1) := by decide +kernel
theorem dL_law_251 : decode eL_law.2.1 251 = .ok (.iaload, 1) := by decide +kernel
theorem dL_law_252 : decode eL_law.2.1 252 = .ok (.aload_n 0, 1) := by decide +kernel
theorem dL_law_253 : decode eL_law.2.1 253 = .ok (.iload_n 3, 1) := by decide +kernel
theorem dL_law_254 : decode eL_law.2.1 254 = .ok (.iconst 3, 1) := by decide +kernel
theorem dL_law_255 : decode eL_law.2.1 255 = .ok (.iadd, 1) := by decide +kernel
theorem dL_law_256 : decode eL_law.2.1 256 = .ok (.iaload, 1) := by decide +kernel
theorem dL_law_257 : decode eL_law.2.1 257 = .ok (.aload_n 0, 1) := by decide +kernel
theorem dL_law_258 : decode eL_law.2.1 258 = .ok (.iload_n 3, 1) := by decide +kernel
theorem dL_law_259 : decode eL_law.2.1 259 = .ok (.iconst 4, 1) := by decide +kernel
theorem dL_law_260 : decode eL_law.2.1 260 = .ok (.iadd, 1) := by decide +kernel
theorem dL_law_261 : decode eL_law.2.1 261 = .ok (.iaload, 1) := by decide +kernel
theorem dL_law_262 : decode eL_law.2.1 262 = .ok (.aload_n 0, 1) := by decide +kernel
theorem dL_law_263 : decode eL_law.2.1 263 = .ok (.iload_n 3, 1) := by decide +kernel
theorem dL_law_264 : decode eL_law.2.1 264 = .ok (.iconst 5, 1) := by decide +kernel
theorem dL_law_265 : decode eL_law.2.1 265 = .ok (.iadd, 1) := by decide +kernel
theorem dL_law_266 : decode eL_law.2.1 266 = .ok (.iaload, 1) := by decide +kernel
theorem dL_law_267 : decode eL_law.2.1 267 = .ok (.invokevirtual 17, 3) := by decide +kernel
theorem dL_law_270 : decode eL_law.2.1 270 = .ok (.if_icmp .eq 1185, 3) := by decide +kernel
theorem dL_law_273 : decode eL_law.2.1 273 = .ok (.iconst 0, 1) := by decide +kernel
theorem dL_law_274 : decode eL_law.2.1 274 = .ok (.ireturn, 1) := by decide +kernel
theorem dL_law_275 : decode eL_law.2.1 275 = .ok (.aload_n 1, 1) := by decide +kernel
theorem dL_law_276 : decode eL_law.2.1 276 = .ok (.aload_n 0, 1) := by decide +kernel
theorem dL_law_277 : decode eL_law.2.1 277 = .ok (.iload_n 3, 1) := by decide +kernel
theorem dL_law_278 : decode eL_law.2.1 278 = .ok (.iconst 1, 1) := by decide +kernel
theorem dL_law_279 : decode eL_law.2.1 279 = .ok (.iadd, 1) := by decide +kernel
theorem dL_law_280 : decode eL_law.2.1 280 = .ok (.iaload, 1) := by decide +kernel
theorem dL_law_281 : decode eL_law.2.1 281 = .ok (.aload_n 0, 1) := by decide +kernel
theorem dL_law_282 : decode eL_law.2.1 282 = .ok (.iload_n 3, 1) := by decide +kernel
theorem dL_law_283 : decode eL_law.2.1 283 = .ok (.iconst 2, 1) := by decide +kernel
theorem dL_law_284 : decode eL_law.2.1 284 = .ok (.iadd, 1) := by decide +kernel
theorem dL_law_285 : decode eL_law.2.1 285 = .ok (.iaload, 1) := by decide +kernel
theorem dL_law_286 : decode eL_law.2.1 286 = .ok (.invokevirtual 18, 3) := by decide +kernel
theorem dL_law_289 : decode eL_law.2.1 289 = .ok (.aload_n 2, 1) := by decide +kernel
theorem dL_law_290 : decode eL_law.2.1 290 = .ok (.aload_n 0, 1) := by decide +kernel
theorem dL_law_291 : decode eL_law.2.1 291 = .ok (.iload_n 3, 1) := by decide +kernel
theorem dL_law_292 : decode eL_law.2.1 292 = .ok (.iconst 1, 1) := by decide +kernel
theorem dL_law_293 : decode eL_law.2.1 293 = .ok (.iadd, 1) := by decide +kernel
theorem dL_law_294 : decode eL_law.2.1 294 = .ok (.iaload, 1) := by decide +kernel
theorem dL_law_295 : decode eL_law.2.1 295 = .ok (.aload_n 0, 1) := by decide +kernel
theorem dL_law_296 : decode eL_law.2.1 296 = .ok (.iload_n 3, 1) := by decide +kernel
theorem dL_law_297 : decode eL_law.2.1 297 = .ok (.iconst 2, 1) := by decide +kernel
theorem dL_law_298 : decode eL_law.2.1 298 = .ok (.iadd, 1) := by decide +kernel
theorem dL_law_299 : decode eL_law.2.1 299 = .ok (.iaload, 1) := by decide +kernel
theorem dL_law_300 : decode eL_law.2.1 300 = .ok (.invokevirtual 22, 3) := by decide +kernel
theorem dL_law_303 : decode eL_law.2.1 303 = .ok (.if_icmp .eq 1152, 3) := by decide +kernel
theorem dL_law_306 : decode eL_law.2.1 306 = .ok (.iconst 0, 1) := by decide +kernel
theorem dL_law_307 : decode eL_law.2.1 307 = .ok (.ireturn, 1) := by decide +kernel
theorem dL_law_308 : decode eL_law.2.1 308 = .ok (.aload_n 1, 1) := by decide +kernel
theorem dL_law_309 : decode eL_law.2.1 309 = .ok (.aload_n 0, 1) := by decide +kernel
theorem dL_law_310 : decode eL_law.2.1 310 = .ok (.iload_n 3, 1) := by decide +kernel
theorem dL_law_311 : decode eL_law.2.1 311 = .ok (.iconst 1, 1) := by decide +kernel
theorem dL_law_312 : decode eL_law.2.1 312 = .ok (.iadd, 1) := by decide +kernel
theorem dL_law_313 : decode eL_law.2.1 313 = .ok (.iaload, 1) := by decide +kernel
theorem dL_law_314 : decode eL_law.2.1 314 = .ok (.aload_n 0, 1) := by decide +kernel
theorem dL_law_315 : decode eL_law.2.1 315 = .ok (.iload_n 3, 1) := by decide +kernel
theorem dL_law_316 : decode eL_law.2.1 316 = .ok (.iconst 2, 1) := by decide +kernel
theorem dL_law_317 : decode eL_law.2.1 317 = .ok (.iadd, 1) := by decide +kernel
theorem dL_law_318 : decode eL_law.2.1 318 = .ok (.iaload, 1) := by decide +kernel
theorem dL_law_319 : decode eL_law.2.1 319 = .ok (.invokevirtual 23, 3) := by decide +kernel
theorem dL_law_322 : decode eL_law.2.1 322 = .ok (.aload_n 2, 1) := by decide +kernel
theorem dL_law_323 : decode eL_law.2.1 323 = .ok (.aload_n 0, 1) := by decide +kernel
theorem dL_law_324 : decode eL_law.2.1 324 = .ok (.iload_n 3, 1) := by decide +kernel
theorem dL_law_325 : decode eL_law.2.1 325 = .ok (.iconst 1, 1) := by decide +kernel
theorem dL_law_326 : decode eL_law.2.1 326 = .ok (.iadd, 1) := by decide +kernel
theorem dL_law_327 : decode eL_law.2.1 327 = .ok (.iaload, 1) := by decide +kernel
theorem dL_law_328 : decode eL_law.2.1 328 = .ok (.aload_n 0, 1) := by decide +kernel
theorem dL_law_329 : decode eL_law.2.1 329 = .ok (.iload_n 3, 1) := by decide +kernel
theorem dL_law_330 : decode eL_law.2.1 330 = .ok (.iconst 2, 1) := by decide +kernel
theorem dL_law_331 : decode eL_law.2.1 331 = .ok (.iadd, 1) := by decide +kernel
theorem dL_law_332 : decode eL_law.2.1 332 = .ok (.iaload, 1) := by decide +kernel
theorem dL_law_333 : decode eL_law.2.1 333 = .ok (.invokevirtual 26, 3) := by decide +kernel
theorem dL_law_336 : decode eL_law.2.1 336 = .ok (.if_icmp .eq 1119, 3) := by decide +kernel
theorem dL_law_339 : decode eL_law.2.1 339 = .ok (.iconst 0, 1) := by decide +kernel
theorem dL_law_340 : decode eL_law.2.1 340 = .ok (.ireturn, 1) := by decide +kernel
theorem dL_law_341 : decode eL_law.2.1 341 = .ok (.aload_n 1, 1) := by decide +kernel
theorem dL_law_342 : decode eL_law.2.1 342 = .ok (.aload_n 0, 1) := by decide +kernel
theorem dL_law_343 : decode eL_law.2.1 343 = .ok (.iload_n 3, 1) := by decide +kernel
theorem dL_law_344 : decode eL_law.2.1 344 = .ok (.iconst 1, 1) := by decide +kernel
theorem dL_law_345 : decode eL_law.2.1 345 = .ok (.iadd, 1) := by decide +kernel
theorem dL_law_346 : decode eL_law.2.1 346 = .ok (.iaload, 1) := by decide +kernel
theorem dL_law_347 : decode eL_law.2.1 347 = .ok (.invokevirtual 27, 3) := by decide +kernel
theorem dL_law_350 : decode eL_law.2.1 350 = .ok (.aload_n 2, 1) := by decide +kernel
theorem dL_law_351 : decode eL_law.2.1 351 = .ok (.aload_n 0, 1) := by decide +kernel
theorem dL_law_352 : decode eL_law.2.1 352 = .ok (.iload_n 3, 1) := by decide +kernel
theorem dL_law_353 : decode eL_law.2.1 353 = .ok (.iconst 1, 1) := by decide +kernel
theorem dL_law_354 : decode eL_law.2.1 354 = .ok (.iadd, 1) := by decide +kernel
theorem dL_law_355 : decode eL_law.2.1 355 = .ok (.iaload, 1) := by decide +kernel
theorem dL_law_356 : decode eL_law.2.1 356 = .ok (.invokevirtual 31, 3) := by decide +kernel
theorem dL_law_359 : decode eL_law.2.1 359 = .ok (.if_icmp .eq 1096, 3) := by decide +kernel
theorem dL_law_362 : decode eL_law.2.1 362 = .ok (.iconst 0, 1) := by decide +kernel
theorem dL_law_363 : decode eL_law.2.1 363 = .ok (.ireturn, 1) := by decide +kernel
theorem dL_law_364 : decode eL_law.2.1 364 = .ok (.aload_n 1, 1) := by decide +kernel
theorem dL_law_365 : decode eL_law.2.1 365 = .ok (.aload_n 0, 1) := by decide +kernel
theorem dL_law_366 : decode eL_law.2.1 366 = .ok (.iload_n 3, 1) := by decide +kernel
theorem dL_law_367 : decode eL_law.2.1 367 = .ok (.iconst 1, 1) := by decide +kernel
theorem dL_law_368 : decode eL_law.2.1 368 = .ok (.iadd, 1) := by decide +kernel
theorem dL_law_369 : decode eL_law.2.1 369 = .ok (.iaload, 1) := by decide +kernel
theorem dL_law_370 : decode eL_law.2.1 370 = .ok (.aload_n 0, 1) := by decide +kernel
theorem dL_law_371 : decode eL_law.2.1 371 = .ok (.iload_n 3, 1) := by decide +kernel
theorem dL_law_372 : decode eL_law.2.1 372 = .ok (.iconst 2, 1) := by decide +kernel
theorem dL_law_373 : decode eL_law.2.1 373 = .ok (.iadd, 1) := by decide +kernel
theorem dL_law_374 : decode eL_law.2.1 374 = .ok (.iaload, 1) := by decide +kernel
theorem dL_law_375 : decode eL_law.2.1 375 = .ok (.aload_n 0, 1) := by decide +kernel
theorem dL_law_376 : decode eL_law.2.1 376 = .ok (.iload_n 3, 1) := by decide +kernel
theorem dL_law_377 : decode eL_law.2.1 377 = .ok (.iconst 3, 1) := by decide +kernel
theorem dL_law_378 : decode eL_law.2.1 378 = .ok (.iadd, 1) := by decide +kernel
theorem dL_law_379 : decode eL_law.2.1 379 = .ok (.iaload, 1) := by decide +kernel
theorem dL_law_380 : decode eL_law.2.1 380 = .ok (.invokevirtual 32, 3) := by decide +kernel
theorem dL_law_383 : decode eL_law.2.1 383 = .ok (.aload_n 2, 1) := by decide +kernel
theorem dL_law_384 : decode eL_law.2.1 384 = .ok (.aload_n 0, 1) := by decide +kernel
theorem dL_law_385 : decode eL_law.2.1 385 = .ok (.iload_n 3, 1) := by decide +kernel
theorem dL_law_386 : decode eL_law.2.1 386 = .ok (.iconst 1, 1) := by decide +kernel
theorem dL_law_387 : decode eL_law.2.1 387 = .ok (.iadd, 1) := by decide +kernel
theorem dL_law_388 : decode eL_law.2.1 388 = .ok (.iaload, 1) := by decide +kernel
theorem dL_law_389 : decode eL_law.2.1 389 = .ok (.aload_n 0, 1) := by decide +kernel
theorem dL_law_390 : decode eL_law.2.1 390 = .ok (.iload_n 3, 1) := by decide +kernel
theorem dL_law_391 : decode eL_law.2.1 391 = .ok (.iconst 2, 1) := by decide +kernel
theorem dL_law_392 : decode eL_law.2.1 392 = .ok (.iadd, 1) := by decide +kernel
theorem dL_law_393 : decode eL_law.2.1 393 = .ok (.iaload, 1) := by decide +kernel
theorem dL_law_394 : decode eL_law.2.1 394 = .ok (.aload_n 0, 1) := by decide +kernel
theorem dL_law_395 : decode eL_law.2.1 395 = .ok (.iload_n 3, 1) := by decide +kernel
theorem dL_law_396 : decode eL_law.2.1 396 = .ok (.iconst 3, 1) := by decide +kernel
theorem dL_law_397 : decode eL_law.2.1 397 = .ok (.iadd, 1) := by decide +kernel
theorem dL_law_398 : decode eL_law.2.1 398 = .ok (.iaload, 1) := by decide +kernel
theorem dL_law_399 : decode eL_law.2.1 399 = .ok (.invokevirtual 36, 3) := by decide +kernel
theorem dL_law_402 : decode eL_law.2.1 402 = .ok (.if_icmp .eq 1053, 3) := by decide +kernel
theorem dL_law_405 : decode eL_law.2.1 405 = .ok (.iconst 0, 1) := by decide +kernel
theorem dL_law_406 : decode eL_law.2.1 406 = .ok (.ireturn, 1) := by decide +kernel
theorem dL_law_407 : decode eL_law.2.1 407 = .ok (.aload_n 1, 1) := by decide +kernel
theorem dL_law_408 : decode eL_law.2.1 408 = .ok (.aload_n 0, 1) := by decide +kernel
theorem dL_law_409 : decode eL_law.2.1 409 = .ok (.iload_n 3, 1) := by decide +kernel
theorem dL_law_410 : decode eL_law.2.1 410 = .ok (.iconst 1, 1) := by decide +kernel
theorem dL_law_411 : decode eL_law.2.1 411 = .ok (.iadd, 1) := by decide +kernel
theorem dL_law_412 : decode eL_law.2.1 412 = .ok (.iaload, 1) := by decide +kernel
theorem dL_law_413 : decode eL_law.2.1 413 = .ok (.aload_n 0, 1) := by decide +kernel
theorem dL_law_414 : decode eL_law.2.1 414 = .ok (.iload_n 3, 1) := by decide +kernel
theorem dL_law_415 : decode eL_law.2.1 415 = .ok (.iconst 2, 1) := by decide +kernel
theorem dL_law_416 : decode eL_law.2.1 416 = .ok (.iadd, 1) := by decide +kernel
theorem dL_law_417 : decode eL_law.2.1 417 = .ok (.iaload, 1) := by decide +kernel
theorem dL_law_418 : decode eL_law.2.1 418 = .ok (.invokevirtual 37, 3) := by decide +kernel
theorem dL_law_421 : decode eL_law.2.1 421 = .ok (.aload_n 2, 1) := by decide +kernel
theorem dL_law_422 : decode eL_law.2.1 422 = .ok (.aload_n 0, 1) := by decide +kernel
theorem dL_law_423 : decode eL_law.2.1 423 = .ok (.iload_n 3, 1) := by decide +kernel
theorem dL_law_424 : decode eL_law.2.1 424 = .ok (.iconst 1, 1) := by decide +kernel
theorem dL_law_425 : decode eL_law.2.1 425 = .ok (.iadd, 1) := by decide +kernel
theorem dL_law_426 : decode eL_law.2.1 426 = .ok (.iaload, 1) := by decide +kernel
theorem dL_law_427 : decode eL_law.2.1 427 = .ok (.aload_n 0, 1) := by decide +kernel
theorem dL_law_428 : decode eL_law.2.1 428 = .ok (.iload_n 3, 1) := by decide +kernel
theorem dL_law_429 : decode eL_law.2.1 429 = .ok (.iconst 2, 1) := by decide +kernel
theorem dL_law_430 : decode eL_law.2.1 430 = .ok (.iadd, 1) := by decide +kernel
theorem dL_law_431 : decode eL_law.2.1 431 = .ok (.iaload, 1) := by decide +kernel
theorem dL_law_432 : decode eL_law.2.1 432 = .ok (.invokevirtual 40, 3) := by decide +kernel
theorem dL_law_435 : decode eL_law.2.1 435 = .ok (.if_icmp .eq 1020, 3) := by decide +kernel
theorem dL_law_438 : decode eL_law.2.1 438 = .ok (.iconst 0, 1) := by decide +kernel
theorem dL_law_439 : decode eL_law.2.1 439 = .ok (.ireturn, 1) := by decide +kernel
theorem dL_law_440 : decode eL_law.2.1 440 = .ok (.aload_n 1, 1) := by decide +kernel
theorem dL_law_441 : decode eL_law.2.1 441 = .ok (.aload_n 0, 1) := by decide +kernel
theorem dL_law_442 : decode eL_law.2.1 442 = .ok (.iload_n 3, 1) := by decide +kernel
theorem dL_law_443 : decode eL_law.2.1 443 = .ok (.iconst 1, 1) := by decide +kernel
theorem dL_law_444 : decode eL_law.2.1 444 = .ok (.iadd, 1) := by decide +kernel
theorem dL_law_445 : decode eL_law.2.1 445 = .ok (.iaload, 1) := by decide +kernel
theorem dL_law_446 : decode eL_law.2.1 446 = .ok (.aload_n 0, 1) := by decide +kernel
theorem dL_law_447 : decode eL_law.2.1 447 = .ok (.iload_n 3, 1) := by decide +kernel
theorem dL_law_448 : decode eL_law.2.1 448 = .ok (.iconst 2, 1) := by decide +kernel
theorem dL_law_449 : decode eL_law.2.1 449 = .ok (.iadd, 1) := by decide +kernel
theorem dL_law_450 : decode eL_law.2.1 450 = .ok (.iaload, 1) := by decide +kernel
theorem dL_law_451 : decode eL_law.2.1 451 = .ok (.invokevirtual 41, 3) := by decide +kernel
theorem dL_law_454 : decode eL_law.2.1 454 = .ok (.aload_n 2, 1) := by decide +kernel
theorem dL_law_455 : decode eL_law.2.1 455 = .ok (.aload_n 0, 1) := by decide +kernel
theorem dL_law_456 : decode eL_law.2.1 456 = .ok (.iload_n 3, 1) := by decide +kernel
theorem dL_law_457 : decode eL_law.2.1 457 = .ok (.iconst 1, 1) := by decide +kernel
theorem dL_law_458 : decode eL_law.2.1 458 = .ok (.iadd, 1) := by decide +kernel
theorem dL_law_459 : decode eL_law.2.1 459 = .ok (.iaload, 1) := by decide +kernel
theorem dL_law_460 : decode eL_law.2.1 460 = .ok (.aload_n 0, 1) := by decide +kernel
theorem dL_law_461 : decode eL_law.2.1 461 = .ok (.iload_n 3, 1) := by decide +kernel
theorem dL_law_462 : decode eL_law.2.1 462 = .ok (.iconst 2, 1) := by decide +kernel
theorem dL_law_463 : decode eL_law.2.1 463 = .ok (.iadd, 1) := by decide +kernel
theorem dL_law_464 : decode eL_law.2.1 464 = .ok (.iaload, 1) := by decide +kernel
theorem dL_law_465 : decode eL_law.2.1 465 = .ok (.invokevirtual 44, 3) := by decide +kernel
theorem dL_law_468 : decode eL_law.2.1 468 = .ok (.if_icmp .eq 987, 3) := by decide +kernel
theorem dL_law_471 : decode eL_law.2.1 471 = .ok (.iconst 0, 1) := by decide +kernel
theorem dL_law_472 : decode eL_law.2.1 472 = .ok (.ireturn, 1) := by decide +kernel
theorem dL_law_473 : decode eL_law.2.1 473 = .ok (.aload_n 1, 1) := by decide +kernel
theorem dL_law_474 : decode eL_law.2.1 474 = .ok (.aload_n 0, 1) := by decide +kernel
theorem dL_law_475 : decode eL_law.2.1 475 = .ok (.iload_n 3, 1) := by decide +kernel
theorem dL_law_476 : decode eL_law.2.1 476 = .ok (.iconst 1, 1) := by decide +kernel
theorem dL_law_477 : decode eL_law.2.1 477 = .ok (.iadd, 1) := by decide +kernel
theorem dL_law_478 : decode eL_law.2.1 478 = .ok (.iaload, 1) := by decide +kernel
theorem dL_law_479 : decode eL_law.2.1 479 = .ok (.aload_n 0, 1) := by decide +kernel
theorem dL_law_480 : decode eL_law.2.1 480 = .ok (.iload_n 3, 1) := by decide +kernel
theorem dL_law_481 : decode eL_law.2.1 481 = .ok (.iconst 2, 1) := by decide +kernel
theorem dL_law_482 : decode eL_law.2.1 482 = .ok (.iadd, 1) := by decide +kernel
theorem dL_law_483 : decode eL_law.2.1 483 = .ok (.iaload, 1) := by decide +kernel
theorem dL_law_484 : decode eL_law.2.1 484 = .ok (.invokevirtual 45, 3) := by decide +kernel
theorem dL_law_487 : decode eL_law.2.1 487 = .ok (.aload_n 2, 1) := by decide +kernel
theorem dL_law_488 : decode eL_law.2.1 488 = .ok (.aload_n 0, 1) := by decide +kernel
theorem dL_law_489 : decode eL_law.2.1 489 = .ok (.iload_n 3, 1) := by decide +kernel
theorem dL_law_490 : decode eL_law.2.1 490 = .ok (.iconst 1, 1) := by decide +kernel
theorem dL_law_491 : decode eL_law.2.1 491 = .ok (.iadd, 1) := by decide +kernel
theorem dL_law_492 : decode eL_law.2.1 492 = .ok (.iaload, 1) := by decide +kernel
theorem dL_law_493 : decode eL_law.2.1 493 = .ok (.aload_n 0, 1) := by decide +kernel
theorem dL_law_494 : decode eL_law.2.1 494 = .ok (.iload_n 3, 1) := by decide +kernel
theorem dL_law_495 : decode eL_law.2.1 495 = .ok (.iconst 2, 1) := by decide +kernel
theorem dL_law_496 : decode eL_law.2.1 496 = .ok (.iadd, 1) := by decide +kernel
theorem dL_law_497 : decode eL_law.2.1 497 = .ok (.iaload, 1) := by decide +kernel
theorem dL_law_498 : decode eL_law.2.1 498 = .ok (.invokevirtual 48, 3) := by decide +kernel
theorem dL_law_501 : decode eL_law.2.1 501 = .ok (.if_icmp .eq 954, 3) := by decide +kernel
theorem dL_law_504 : decode eL_law.2.1 504 = .ok (.iconst 0, 1) := by decide +kernel
theorem dL_law_505 : decode eL_law.2.1 505 = .ok (.ireturn, 1) := by decide +kernel
theorem dL_law_506 : decode eL_law.2.1 506 = .ok (.aload_n 1, 1) := by decide +kernel
theorem dL_law_507 : decode eL_law.2.1 507 = .ok (.aload_n 0, 1) := by decide +kernel
theorem dL_law_508 : decode eL_law.2.1 508 = .ok (.iload_n 3, 1) := by decide +kernel
theorem dL_law_509 : decode eL_law.2.1 509 = .ok (.iconst 1, 1) := by decide +kernel
theorem dL_law_510 : decode eL_law.2.1 510 = .ok (.iadd, 1) := by decide +kernel
theorem dL_law_511 : decode eL_law.2.1 511 = .ok (.iaload, 1) := by decide +kernel
theorem dL_law_512 : decode eL_law.2.1 512 = .ok (.invokevirtual 49, 3) := by decide +kernel
theorem dL_law_515 : decode eL_law.2.1 515 = .ok (.aload_n 2, 1) := by decide +kernel
theorem dL_law_516 : decode eL_law.2.1 516 = .ok (.aload_n 0, 1) := by decide +kernel
theorem dL_law_517 : decode eL_law.2.1 517 = .ok (.iload_n 3, 1) := by decide +kernel
theorem dL_law_518 : decode eL_law.2.1 518 = .ok (.iconst 1, 1) := by decide +kernel
theorem dL_law_519 : decode eL_law.2.1 519 = .ok (.iadd, 1) := by decide +kernel
theorem dL_law_520 : decode eL_law.2.1 520 = .ok (.iaload, 1) := by decide +kernel
theorem dL_law_521 : decode eL_law.2.1 521 = .ok (.invokevirtual 52, 3) := by decide +kernel
theorem dL_law_524 : decode eL_law.2.1 524 = .ok (.if_icmp .eq 931, 3) := by decide +kernel
theorem dL_law_527 : decode eL_law.2.1 527 = .ok (.iconst 0, 1) := by decide +kernel
theorem dL_law_528 : decode eL_law.2.1 528 = .ok (.ireturn, 1) := by decide +kernel
theorem dL_law_529 : decode eL_law.2.1 529 = .ok (.aload_n 1, 1) := by decide +kernel
theorem dL_law_530 : decode eL_law.2.1 530 = .ok (.invokevirtual 53, 3) := by decide +kernel
theorem dL_law_533 : decode eL_law.2.1 533 = .ok (.aload_n 2, 1) := by decide +kernel
theorem dL_law_534 : decode eL_law.2.1 534 = .ok (.invokevirtual 57, 3) := by decide +kernel
theorem dL_law_537 : decode eL_law.2.1 537 = .ok (.if_icmp .eq 918, 3) := by decide +kernel
theorem dL_law_540 : decode eL_law.2.1 540 = .ok (.iconst 0, 1) := by decide +kernel
theorem dL_law_541 : decode eL_law.2.1 541 = .ok (.ireturn, 1) := by decide +kernel
theorem dL_law_542 : decode eL_law.2.1 542 = .ok (.aload_n 1, 1) := by decide +kernel
theorem dL_law_543 : decode eL_law.2.1 543 = .ok (.invokevirtual 58, 3) := by decide +kernel
theorem dL_law_546 : decode eL_law.2.1 546 = .ok (.aload_n 2, 1) := by decide +kernel
theorem dL_law_547 : decode eL_law.2.1 547 = .ok (.invokevirtual 61, 3) := by decide +kernel
theorem dL_law_550 : decode eL_law.2.1 550 = .ok (.if_icmp .eq 905, 3) := by decide +kernel
theorem dL_law_553 : decode eL_law.2.1 553 = .ok (.iconst 0, 1) := by decide +kernel
theorem dL_law_554 : decode eL_law.2.1 554 = .ok (.ireturn, 1) := by decide +kernel
theorem dL_law_555 : decode eL_law.2.1 555 = .ok (.aload_n 1, 1) := by decide +kernel
theorem dL_law_556 : decode eL_law.2.1 556 = .ok (.invokevirtual 62, 3) := by decide +kernel
theorem dL_law_559 : decode eL_law.2.1 559 = .ok (.aload_n 2, 1) := by decide +kernel
theorem dL_law_560 : decode eL_law.2.1 560 = .ok (.invokevirtual 65, 3) := by decide +kernel
theorem dL_law_563 : decode eL_law.2.1 563 = .ok (.if_icmp .eq 892, 3) := by decide +kernel
theorem dL_law_566 : decode eL_law.2.1 566 = .ok (.iconst 0, 1) := by decide +kernel
theorem dL_law_567 : decode eL_law.2.1 567 = .ok (.ireturn, 1) := by decide +kernel
theorem dL_law_568 : decode eL_law.2.1 568 = .ok (.aload_n 1, 1) := by decide +kernel
theorem dL_law_569 : decode eL_law.2.1 569 = .ok (.aload_n 0, 1) := by decide +kernel
theorem dL_law_570 : decode eL_law.2.1 570 = .ok (.iload_n 3, 1) := by decide +kernel
theorem dL_law_571 : decode eL_law.2.1 571 = .ok (.iconst 1, 1) := by decide +kernel
theorem dL_law_572 : decode eL_law.2.1 572 = .ok (.iadd, 1) := by decide +kernel
theorem dL_law_573 : decode eL_law.2.1 573 = .ok (.iaload, 1) := by decide +kernel
theorem dL_law_574 : decode eL_law.2.1 574 = .ok (.aload_n 0, 1) := by decide +kernel
theorem dL_law_575 : decode eL_law.2.1 575 = .ok (.iload_n 3, 1) := by decide +kernel
theorem dL_law_576 : decode eL_law.2.1 576 = .ok (.iconst 2, 1) := by decide +kernel
theorem dL_law_577 : decode eL_law.2.1 577 = .ok (.iadd, 1) := by decide +kernel
theorem dL_law_578 : decode eL_law.2.1 578 = .ok (.iaload, 1) := by decide +kernel
theorem dL_law_579 : decode eL_law.2.1 579 = .ok (.aload_n 0, 1) := by decide +kernel
theorem dL_law_580 : decode eL_law.2.1 580 = .ok (.iload_n 3, 1) := by decide +kernel
theorem dL_law_581 : decode eL_law.2.1 581 = .ok (.iconst 3, 1) := by decide +kernel
theorem dL_law_582 : decode eL_law.2.1 582 = .ok (.iadd, 1) := by decide +kernel
theorem dL_law_583 : decode eL_law.2.1 583 = .ok (.iaload, 1) := by decide +kernel
theorem dL_law_584 : decode eL_law.2.1 584 = .ok (.invokevirtual 66, 3) := by decide +kernel
theorem dL_law_587 : decode eL_law.2.1 587 = .ok (.aload_n 2, 1) := by decide +kernel
theorem dL_law_588 : decode eL_law.2.1 588 = .ok (.aload_n 0, 1) := by decide +kernel
theorem dL_law_589 : decode eL_law.2.1 589 = .ok (.iload_n 3, 1) := by decide +kernel
theorem dL_law_590 : decode eL_law.2.1 590 = .ok (.iconst 1, 1) := by decide +kernel
theorem dL_law_591 : decode eL_law.2.1 591 = .ok (.iadd, 1) := by decide +kernel
theorem dL_law_592 : decode eL_law.2.1 592 = .ok (.iaload, 1) := by decide +kernel
theorem dL_law_593 : decode eL_law.2.1 593 = .ok (.aload_n 0, 1) := by decide +kernel
theorem dL_law_594 : decode eL_law.2.1 594 = .ok (.iload_n 3, 1) := by decide +kernel
theorem dL_law_595 : decode eL_law.2.1 595 = .ok (.iconst 2, 1) := by decide +kernel
theorem dL_law_596 : decode eL_law.2.1 596 = .ok (.iadd, 1) := by decide +kernel
theorem dL_law_597 : decode eL_law.2.1 597 = .ok (.iaload, 1) := by decide +kernel
theorem dL_law_598 : decode eL_law.2.1 598 = .ok (.aload_n 0, 1) := by decide +kernel
theorem dL_law_599 : decode eL_law.2.1 599 = .ok (.iload_n 3, 1) := by decide +kernel
theorem dL_law_600 : decode eL_law.2.1 600 = .ok (.iconst 3, 1) := by decide +kernel
theorem dL_law_601 : decode eL_law.2.1 601 = .ok (.iadd, 1) := by decide +kernel
theorem dL_law_602 : decode eL_law.2.1 602 = .ok (.iaload, 1) := by decide +kernel
theorem dL_law_603 : decode eL_law.2.1 603 = .ok (.invokevirtual 69, 3) := by decide +kernel
theorem dL_law_606 : decode eL_law.2.1 606 = .ok (.if_icmp .eq 849, 3) := by decide +kernel
theorem dL_law_609 : decode eL_law.2.1 609 = .ok (.iconst 0, 1) := by decide +kernel
theorem dL_law_610 : decode eL_law.2.1 610 = .ok (.ireturn, 1) := by decide +kernel
theorem dL_law_611 : decode eL_law.2.1 611 = .ok (.aload_n 1, 1) := by decide +kernel
theorem dL_law_612 : decode eL_law.2.1 612 = .ok (.aload_n 0, 1) := by decide +kernel
theorem dL_law_613 : decode eL_law.2.1 613 = .ok (.iload_n 3, 1) := by decide +kernel
theorem dL_law_614 : decode eL_law.2.1 614 = .ok (.iconst 1, 1) := by decide +kernel
theorem dL_law_615 : decode eL_law.2.1 615 = .ok (.iadd, 1) := by decide +kernel
theorem dL_law_616 : decode eL_law.2.1 616 = .ok (.iaload, 1) := by decide +kernel
theorem dL_law_617 : decode eL_law.2.1 617 = .ok (.aload_n 0, 1) := by decide +kernel
theorem dL_law_618 : decode eL_law.2.1 618 = .ok (.iload_n 3, 1) := by decide +kernel
theorem dL_law_619 : decode eL_law.2.1 619 = .ok (.iconst 2, 1) := by decide +kernel
theorem dL_law_620 : decode eL_law.2.1 620 = .ok (.iadd, 1) := by decide +kernel
theorem dL_law_621 : decode eL_law.2.1 621 = .ok (.iaload, 1) := by decide +kernel
theorem dL_law_622 : decode eL_law.2.1 622 = .ok (.aload_n 0, 1) := by decide +kernel
theorem dL_law_623 : decode eL_law.2.1 623 = .ok (.iload_n 3, 1) := by decide +kernel
theorem dL_law_624 : decode eL_law.2.1 624 = .ok (.iconst 3, 1) := by decide +kernel
theorem dL_law_625 : decode eL_law.2.1 625 = .ok (.iadd, 1) := by decide +kernel
theorem dL_law_626 : decode eL_law.2.1 626 = .ok (.iaload, 1) := by decide +kernel
theorem dL_law_627 : decode eL_law.2.1 627 = .ok (.invokevirtual 70, 3) := by decide +kernel
theorem dL_law_630 : decode eL_law.2.1 630 = .ok (.aload_n 2, 1) := by decide +kernel
theorem dL_law_631 : decode eL_law.2.1 631 = .ok (.aload_n 0, 1) := by decide +kernel
theorem dL_law_632 : decode eL_law.2.1 632 = .ok (.iload_n 3, 1) := by decide +kernel
theorem dL_law_633 : decode eL_law.2.1 633 = .ok (.iconst 1, 1) := by decide +kernel
theorem dL_law_634 : decode eL_law.2.1 634 = .ok (.iadd, 1) := by decide +kernel
theorem dL_law_635 : decode eL_law.2.1 635 = .ok (.iaload, 1) := by decide +kernel
theorem dL_law_636 : decode eL_law.2.1 636 = .ok (.aload_n 0, 1) := by decide +kernel
theorem dL_law_637 : decode eL_law.2.1 637 = .ok (.iload_n 3, 1) := by decide +kernel
theorem dL_law_638 : decode eL_law.2.1 638 = .ok (.iconst 2, 1) := by decide +kernel
theorem dL_law_639 : decode eL_law.2.1 639 = .ok (.iadd, 1) := by decide +kernel
theorem dL_law_640 : decode eL_law.2.1 640 = .ok (.iaload, 1) := by decide +kernel
theorem dL_law_641 : decode eL_law.2.1 641 = .ok (.aload_n 0, 1) := by decide +kernel
theorem dL_law_642 : decode eL_law.2.1 642 = .ok (.iload_n 3, 1) := by decide +kernel
theorem dL_law_643 : decode eL_law.2.1 643 = .ok (.iconst 3, 1) := by decide +kernel
theorem dL_law_644 : decode eL_law.2.1 644 = .ok (.iadd, 1) := by decide +kernel
theorem dL_law_645 : decode eL_law.2.1 645 = .ok (.iaload, 1) := by decide +kernel
theorem dL_law_646 : decode eL_law.2.1 646 = .ok (.invokevirtual 73, 3) := by decide +kernel
theorem dL_law_649 : decode eL_law.2.1 649 = .ok (.if_icmp .eq 806, 3) := by decide +kernel
theorem dL_law_652 : decode eL_law.2.1 652 = .ok (.iconst 0, 1) := by decide +kernel
theorem dL_law_653 : decode eL_law.2.1 653 = .ok (.ireturn, 1) := by decide +kernel
theorem dL_law_654 : decode eL_law.2.1 654 = .ok (.aload_n 1, 1) := by decide +kernel
theorem dL_law_655 : decode eL_law.2.1 655 = .ok (.aload_n 0, 1) := by decide +kernel
theorem dL_law_656 : decode eL_law.2.1 656 = .ok (.iload_n 3, 1) := by decide +kernel
theorem dL_law_657 : decode eL_law.2.1 657 = .ok (.iconst 1, 1) := by decide +kernel
theorem dL_law_658 : decode eL_law.2.1 658 = .ok (.iadd, 1) := by decide +kernel
theorem dL_law_659 : decode eL_law.2.1 659 = .ok (.iaload, 1) := by decide +kernel
theorem dL_law_660 : decode eL_law.2.1 660 = .ok (.aload_n 0, 1) := by decide +kernel
theorem dL_law_661 : decode eL_law.2.1 661 = .ok (.iload_n 3, 1) := by decide +kernel
theorem dL_law_662 : decode eL_law.2.1 662 = .ok (.iconst 2, 1) := by decide +kernel
theorem dL_law_663 : decode eL_law.2.1 663 = .ok (.iadd, 1) := by decide +kernel
theorem dL_law_664 : decode eL_law.2.1 664 = .ok (.iaload, 1) := by decide +kernel
theorem dL_law_665 : decode eL_law.2.1 665 = .ok (.aload_n 0, 1) := by decide +kernel
theorem dL_law_666 : decode eL_law.2.1 666 = .ok (.iload_n 3, 1) := by decide +kernel
theorem dL_law_667 : decode eL_law.2.1 667 = .ok (.iconst 3, 1) := by decide +kernel
theorem dL_law_668 : decode eL_law.2.1 668 = .ok (.iadd, 1) := by decide +kernel
theorem dL_law_669 : decode eL_law.2.1 669 = .ok (.iaload, 1) := by decide +kernel
theorem dL_law_670 : decode eL_law.2.1 670 = .ok (.aload_n 0, 1) := by decide +kernel
theorem dL_law_671 : decode eL_law.2.1 671 = .ok (.iload_n 3, 1) := by decide +kernel
theorem dL_law_672 : decode eL_law.2.1 672 = .ok (.iconst 4, 1) := by decide +kernel
theorem dL_law_673 : decode eL_law.2.1 673 = .ok (.iadd, 1) := by decide +kernel
theorem dL_law_674 : decode eL_law.2.1 674 = .ok (.iaload, 1) := by decide +kernel
theorem dL_law_675 : decode eL_law.2.1 675 = .ok (.aload_n 0, 1) := by decide +kernel
theorem dL_law_676 : decode eL_law.2.1 676 = .ok (.iload_n 3, 1) := by decide +kernel
theorem dL_law_677 : decode eL_law.2.1 677 = .ok (.iconst 5, 1) := by decide +kernel
theorem dL_law_678 : decode eL_law.2.1 678 = .ok (.iadd, 1) := by decide +kernel
theorem dL_law_679 : decode eL_law.2.1 679 = .ok (.iaload, 1) := by decide +kernel
theorem dL_law_680 : decode eL_law.2.1 680 = .ok (.invokevirtual 74, 3) := by decide +kernel
theorem dL_law_683 : decode eL_law.2.1 683 = .ok (.aload_n 2, 1) := by decide +kernel
theorem dL_law_684 : decode eL_law.2.1 684 = .ok (.aload_n 0, 1) := by decide +kernel
theorem dL_law_685 : decode eL_law.2.1 685 = .ok (.iload_n 3, 1) := by decide +kernel
theorem dL_law_686 : decode eL_law.2.1 686 = .ok (.iconst 1, 1) := by decide +kernel
theorem dL_law_687 : decode eL_law.2.1 687 = .ok (.iadd, 1) := by decide +kernel
theorem dL_law_688 : decode eL_law.2.1 688 = .ok (.iaload, 1) := by decide +kernel
theorem dL_law_689 : decode eL_law.2.1 689 = .ok (.aload_n 0, 1) := by decide +kernel
theorem dL_law_690 : decode eL_law.2.1 690 = .ok (.iload_n 3, 1) := by decide +kernel
theorem dL_law_691 : decode eL_law.2.1 691 = .ok (.iconst 2, 1) := by decide +kernel
theorem dL_law_692 : decode eL_law.2.1 692 = .ok (.iadd, 1) := by decide +kernel
theorem dL_law_693 : decode eL_law.2.1 693 = .ok (.iaload, 1) := by decide +kernel
theorem dL_law_694 : decode eL_law.2.1 694 = .ok (.aload_n 0, 1) := by decide +kernel
theorem dL_law_695 : decode eL_law.2.1 695 = .ok (.iload_n 3, 1) := by decide +kernel
theorem dL_law_696 : decode eL_law.2.1 696 = .ok (.iconst 3, 1) := by decide +kernel
theorem dL_law_697 : decode eL_law.2.1 697 = .ok (.iadd, 1) := by decide +kernel
theorem dL_law_698 : decode eL_law.2.1 698 = .ok (.iaload, 1) := by decide +kernel
theorem dL_law_699 : decode eL_law.2.1 699 = .ok (.aload_n 0, 1) := by decide +kernel
theorem dL_law_700 : decode eL_law.2.1 700 = .ok (.iload_n 3, 1) := by decide +kernel
theorem dL_law_701 : decode eL_law.2.1 701 = .ok (.iconst 4, 1) := by decide +kernel
theorem dL_law_702 : decode eL_law.2.1 702 = .ok (.iadd, 1) := by decide +kernel
theorem dL_law_703 : decode eL_law.2.1 703 = .ok (.iaload, 1) := by decide +kernel
theorem dL_law_704 : decode eL_law.2.1 704 = .ok (.aload_n 0, 1) := by decide +kernel
theorem dL_law_705 : decode eL_law.2.1 705 = .ok (.iload_n 3, 1) := by decide +kernel
theorem dL_law_706 : decode eL_law.2.1 706 = .ok (.iconst 5, 1) := by decide +kernel
theorem dL_law_707 : decode eL_law.2.1 707 = .ok (.iadd, 1) := by decide +kernel
theorem dL_law_708 : decode eL_law.2.1 708 = .ok (.iaload, 1) := by decide +kernel
theorem dL_law_709 : decode eL_law.2.1 709 = .ok (.invokevirtual 77, 3) := by decide +kernel
theorem dL_law_712 : decode eL_law.2.1 712 = .ok (.if_icmp .eq 743, 3) := by decide +kernel
theorem dL_law_715 : decode eL_law.2.1 715 = .ok (.iconst 0, 1) := by decide +kernel
theorem dL_law_716 : decode eL_law.2.1 716 = .ok (.ireturn, 1) := by decide +kernel
theorem dL_law_717 : decode eL_law.2.1 717 = .ok (.aload_n 1, 1) := by decide +kernel
theorem dL_law_718 : decode eL_law.2.1 718 = .ok (.aload_n 0, 1) := by decide +kernel
theorem dL_law_719 : decode eL_law.2.1 719 = .ok (.iload_n 3, 1) := by decide +kernel
theorem dL_law_720 : decode eL_law.2.1 720 = .ok (.iconst 1, 1) := by decide +kernel
theorem dL_law_721 : decode eL_law.2.1 721 = .ok (.iadd, 1) := by decide +kernel
theorem dL_law_722 : decode eL_law.2.1 722 = .ok (.iaload, 1) := by decide +kernel
theorem dL_law_723 : decode eL_law.2.1 723 = .ok (.aload_n 0, 1) := by decide +kernel
theorem dL_law_724 : decode eL_law.2.1 724 = .ok (.iload_n 3, 1) := by decide +kernel
theorem dL_law_725 : decode eL_law.2.1 725 = .ok (.iconst 2, 1) := by decide +kernel
theorem dL_law_726 : decode eL_law.2.1 726 = .ok (.iadd, 1) := by decide +kernel
theorem dL_law_727 : decode eL_law.2.1 727 = .ok (.iaload, 1) := by decide +kernel
theorem dL_law_728 : decode eL_law.2.1 728 = .ok (.invokevirtual 78, 3) := by decide +kernel
theorem dL_law_731 : decode eL_law.2.1 731 = .ok (.aload_n 2, 1) := by decide +kernel
theorem dL_law_732 : decode eL_law.2.1 732 = .ok (.aload_n 0, 1) := by decide +kernel
theorem dL_law_733 : decode eL_law.2.1 733 = .ok (.iload_n 3, 1) := by decide +kernel
theorem dL_law_734 : decode eL_law.2.1 734 = .ok (.iconst 1, 1) := by decide +kernel
theorem dL_law_735 : decode eL_law.2.1 735 = .ok (.iadd, 1) := by decide +kernel
theorem dL_law_736 : decode eL_law.2.1 736 = .ok (.iaload, 1) := by decide +kernel
theorem dL_law_737 : decode eL_law.2.1 737 = .ok (.aload_n 0, 1) := by decide +kernel
theorem dL_law_738 : decode eL_law.2.1 738 = .ok (.iload_n 3, 1) := by decide +kernel
theorem dL_law_739 : decode eL_law.2.1 739 = .ok (.iconst 2, 1) := by decide +kernel
theorem dL_law_740 : decode eL_law.2.1 740 = .ok (.iadd, 1) := by decide +kernel
theorem dL_law_741 : decode eL_law.2.1 741 = .ok (.iaload, 1) := by decide +kernel
theorem dL_law_742 : decode eL_law.2.1 742 = .ok (.invokevirtual 81, 3) := by decide +kernel
theorem dL_law_745 : decode eL_law.2.1 745 = .ok (.if_icmp .eq 710, 3) := by decide +kernel
theorem dL_law_748 : decode eL_law.2.1 748 = .ok (.iconst 0, 1) := by decide +kernel
theorem dL_law_749 : decode eL_law.2.1 749 = .ok (.ireturn, 1) := by decide +kernel
theorem dL_law_750 : decode eL_law.2.1 750 = .ok (.aload_n 1, 1) := by decide +kernel
theorem dL_law_751 : decode eL_law.2.1 751 = .ok (.aload_n 0, 1) := by decide +kernel
theorem dL_law_752 : decode eL_law.2.1 752 = .ok (.iload_n 3, 1) := by decide +kernel
theorem dL_law_753 : decode eL_law.2.1 753 = .ok (.iconst 1, 1) := by decide +kernel
theorem dL_law_754 : decode eL_law.2.1 754 = .ok (.iadd, 1) := by decide +kernel
theorem dL_law_755 : decode eL_law.2.1 755 = .ok (.iaload, 1) := by decide +kernel
theorem dL_law_756 : decode eL_law.2.1 756 = .ok (.aload_n 0, 1) := by decide +kernel
theorem dL_law_757 : decode eL_law.2.1 757 = .ok (.iload_n 3, 1) := by decide +kernel
theorem dL_law_758 : decode eL_law.2.1 758 = .ok (.iconst 2, 1) := by decide +kernel
theorem dL_law_759 : decode eL_law.2.1 759 = .ok (.iadd, 1) := by decide +kernel
theorem dL_law_760 : decode eL_law.2.1 760 = .ok (.iaload, 1) := by decide +kernel
theorem dL_law_761 : decode eL_law.2.1 761 = .ok (.invokevirtual 82, 3) := by decide +kernel
theorem dL_law_764 : decode eL_law.2.1 764 = .ok (.aload_n 2, 1) := by decide +kernel
theorem dL_law_765 : decode eL_law.2.1 765 = .ok (.aload_n 0, 1) := by decide +kernel
theorem dL_law_766 : decode eL_law.2.1 766 = .ok (.iload_n 3, 1) := by decide +kernel
theorem dL_law_767 : decode eL_law.2.1 767 = .ok (.iconst 1, 1) := by decide +kernel
theorem dL_law_768 : decode eL_law.2.1 768 = .ok (.iadd, 1) := by decide +kernel
theorem dL_law_769 : decode eL_law.2.1 769 = .ok (.iaload, 1) := by decide +kernel
theorem dL_law_770 : decode eL_law.2.1 770 = .ok (.aload_n 0, 1) := by decide +kernel
theorem dL_law_771 : decode eL_law.2.1 771 = .ok (.iload_n 3, 1) := by decide +kernel
theorem dL_law_772 : decode eL_law.2.1 772 = .ok (.iconst 2, 1) := by decide +kernel
theorem dL_law_773 : decode eL_law.2.1 773 = .ok (.iadd, 1) := by decide +kernel
theorem dL_law_774 : decode eL_law.2.1 774 = .ok (.iaload, 1) := by decide +kernel
theorem dL_law_775 : decode eL_law.2.1 775 = .ok (.invokevirtual 85, 3) := by decide +kernel
theorem dL_law_778 : decode eL_law.2.1 778 = .ok (.if_icmp .eq 677, 3) := by decide +kernel
theorem dL_law_781 : decode eL_law.2.1 781 = .ok (.iconst 0, 1) := by decide +kernel
theorem dL_law_782 : decode eL_law.2.1 782 = .ok (.ireturn, 1) := by decide +kernel
theorem dL_law_783 : decode eL_law.2.1 783 = .ok (.aload_n 1, 1) := by decide +kernel
theorem dL_law_784 : decode eL_law.2.1 784 = .ok (.aload_n 0, 1) := by decide +kernel
theorem dL_law_785 : decode eL_law.2.1 785 = .ok (.iload_n 3, 1) := by decide +kernel
theorem dL_law_786 : decode eL_law.2.1 786 = .ok (.iconst 1, 1) := by decide +kernel
theorem dL_law_787 : decode eL_law.2.1 787 = .ok (.iadd, 1) := by decide +kernel
theorem dL_law_788 : decode eL_law.2.1 788 = .ok (.iaload, 1) := by decide +kernel
theorem dL_law_789 : decode eL_law.2.1 789 = .ok (.aload_n 0, 1) := by decide +kernel
theorem dL_law_790 : decode eL_law.2.1 790 = .ok (.iload_n 3, 1) := by decide +kernel
theorem dL_law_791 : decode eL_law.2.1 791 = .ok (.iconst 2, 1) := by decide +kernel
theorem dL_law_792 : decode eL_law.2.1 792 = .ok (.iadd, 1) := by decide +kernel
theorem dL_law_793 : decode eL_law.2.1 793 = .ok (.iaload, 1) := by decide +kernel
theorem dL_law_794 : decode eL_law.2.1 794 = .ok (.aload_n 0, 1) := by decide +kernel
theorem dL_law_795 : decode eL_law.2.1 795 = .ok (.iload_n 3, 1) := by decide +kernel
theorem dL_law_796 : decode eL_law.2.1 796 = .ok (.iconst 3, 1) := by decide +kernel
theorem dL_law_797 : decode eL_law.2.1 797 = .ok (.iadd, 1) := by decide +kernel
theorem dL_law_798 : decode eL_law.2.1 798 = .ok (.iaload, 1) := by decide +kernel
theorem dL_law_799 : decode eL_law.2.1 799 = .ok (.invokevirtual 86, 3) := by decide +kernel
theorem dL_law_802 : decode eL_law.2.1 802 = .ok (.aload_n 2, 1) := by decide +kernel
theorem dL_law_803 : decode eL_law.2.1 803 = .ok (.aload_n 0, 1) := by decide +kernel
theorem dL_law_804 : decode eL_law.2.1 804 = .ok (.iload_n 3, 1) := by decide +kernel
theorem dL_law_805 : decode eL_law.2.1 805 = .ok (.iconst 1, 1) := by decide +kernel
theorem dL_law_806 : decode eL_law.2.1 806 = .ok (.iadd, 1) := by decide +kernel
theorem dL_law_807 : decode eL_law.2.1 807 = .ok (.iaload, 1) := by decide +kernel
theorem dL_law_808 : decode eL_law.2.1 808 = .ok (.aload_n 0, 1) := by decide +kernel
theorem dL_law_809 : decode eL_law.2.1 809 = .ok (.iload_n 3, 1) := by decide +kernel
theorem dL_law_810 : decode eL_law.2.1 810 = .ok (.iconst 2, 1) := by decide +kernel
theorem dL_law_811 : decode eL_law.2.1 811 = .ok (.iadd, 1) := by decide +kernel
theorem dL_law_812 : decode eL_law.2.1 812 = .ok (.iaload, 1) := by decide +kernel
theorem dL_law_813 : decode eL_law.2.1 813 = .ok (.aload_n 0, 1) := by decide +kernel
theorem dL_law_814 : decode eL_law.2.1 814 = .ok (.iload_n 3, 1) := by decide +kernel
theorem dL_law_815 : decode eL_law.2.1 815 = .ok (.iconst 3, 1) := by decide +kernel
theorem dL_law_816 : decode eL_law.2.1 816 = .ok (.iadd, 1) := by decide +kernel
theorem dL_law_817 : decode eL_law.2.1 817 = .ok (.iaload, 1) := by decide +kernel
theorem dL_law_818 : decode eL_law.2.1 818 = .ok (.invokevirtual 89, 3) := by decide +kernel
theorem dL_law_821 : decode eL_law.2.1 821 = .ok (.if_icmp .eq 634, 3) := by decide +kernel
theorem dL_law_824 : decode eL_law.2.1 824 = .ok (.iconst 0, 1) := by decide +kernel
theorem dL_law_825 : decode eL_law.2.1 825 = .ok (.ireturn, 1) := by decide +kernel
theorem dL_law_826 : decode eL_law.2.1 826 = .ok (.aload_n 1, 1) := by decide +kernel
theorem dL_law_827 : decode eL_law.2.1 827 = .ok (.aload_n 0, 1) := by decide +kernel
theorem dL_law_828 : decode eL_law.2.1 828 = .ok (.iload_n 3, 1) := by decide +kernel
theorem dL_law_829 : decode eL_law.2.1 829 = .ok (.iconst 1, 1) := by decide +kernel
theorem dL_law_830 : decode eL_law.2.1 830 = .ok (.iadd, 1) := by decide +kernel
theorem dL_law_831 : decode eL_law.2.1 831 = .ok (.iaload, 1) := by decide +kernel
theorem dL_law_832 : decode eL_law.2.1 832 = .ok (.invokevirtual 90, 3) := by decide +kernel
theorem dL_law_835 : decode eL_law.2.1 835 = .ok (.aload_n 2, 1) := by decide +kernel
theorem dL_law_836 : decode eL_law.2.1 836 = .ok (.aload_n 0, 1) := by decide +kernel
theorem dL_law_837 : decode eL_law.2.1 837 = .ok (.iload_n 3, 1) := by decide +kernel
theorem dL_law_838 : decode eL_law.2.1 838 = .ok (.iconst 1, 1) := by decide +kernel
theorem dL_law_839 : decode eL_law.2.1 839 = .ok (.iadd, 1) := by decide +kernel
theorem dL_law_840 : decode eL_law.2.1 840 = .ok (.iaload, 1) := by decide +kernel
theorem dL_law_841 : decode eL_law.2.1 841 = .ok (.invokevirtual 93, 3) := by decide +kernel
theorem dL_law_844 : decode eL_law.2.1 844 = .ok (.if_icmp .eq 611, 3) := by decide +kernel
theorem dL_law_847 : decode eL_law.2.1 847 = .ok (.iconst 0, 1) := by decide +kernel
theorem dL_law_848 : decode eL_law.2.1 848 = .ok (.ireturn, 1) := by decide +kernel
theorem dL_law_849 : decode eL_law.2.1 849 = .ok (.aload_n 1, 1) := by decide +kernel
theorem dL_law_850 : decode eL_law.2.1 850 = .ok (.aload_n 0, 1) := by decide +kernel
theorem dL_law_851 : decode eL_law.2.1 851 = .ok (.iload_n 3, 1) := by decide +kernel
theorem dL_law_852 : decode eL_law.2.1 852 = .ok (.iconst 1, 1) := by decide +kernel
theorem dL_law_853 : decode eL_law.2.1 853 = .ok (.iadd, 1) := by decide +kernel
theorem dL_law_854 : decode eL_law.2.1 854 = .ok (.iaload, 1) := by decide +kernel
theorem dL_law_855 : decode eL_law.2.1 855 = .ok (.invokevirtual 94, 3) := by decide +kernel
theorem dL_law_858 : decode eL_law.2.1 858 = .ok (.aload_n 2, 1) := by decide +kernel
theorem dL_law_859 : decode eL_law.2.1 859 = .ok (.aload_n 0, 1) := by decide +kernel
theorem dL_law_860 : decode eL_law.2.1 860 = .ok (.iload_n 3, 1) := by decide +kernel
theorem dL_law_861 : decode eL_law.2.1 861 = .ok (.iconst 1, 1) := by decide +kernel
theorem dL_law_862 : decode eL_law.2.1 862 = .ok (.iadd, 1) := by decide +kernel
theorem dL_law_863 : decode eL_law.2.1 863 = .ok (.iaload, 1) := by decide +kernel
theorem dL_law_864 : decode eL_law.2.1 864 = .ok (.invokevirtual 97, 3) := by decide +kernel
theorem dL_law_867 : decode eL_law.2.1 867 = .ok (.if_icmp .eq 588, 3) := by decide +kernel
theorem dL_law_870 : decode eL_law.2.1 870 = .ok (.iconst 0, 1) := by decide +kernel
theorem dL_law_871 : decode eL_law.2.1 871 = .ok (.ireturn, 1) := by decide +kernel
theorem dL_law_872 : decode eL_law.2.1 872 = .ok (.aload_n 1, 1) := by decide +kernel
theorem dL_law_873 : decode eL_law.2.1 873 = .ok (.aload_n 0, 1) := by decide +kernel
theorem dL_law_874 : decode eL_law.2.1 874 = .ok (.iload_n 3, 1) := by decide +kernel
theorem dL_law_875 : decode eL_law.2.1 875 = .ok (.iconst 1, 1) := by decide +kernel
theorem dL_law_876 : decode eL_law.2.1 876 = .ok (.iadd, 1) := by decide +kernel
theorem dL_law_877 : decode eL_law.2.1 877 = .ok (.iaload, 1) := by decide +kernel
theorem dL_law_878 : decode eL_law.2.1 878 = .ok (.aload_n 0, 1) := by decide +kernel
theorem dL_law_879 : decode eL_law.2.1 879 = .ok (.iload_n 3, 1) := by decide +kernel
theorem dL_law_880 : decode eL_law.2.1 880 = .ok (.iconst 2, 1) := by decide +kernel
theorem dL_law_881 : decode eL_law.2.1 881 = .ok (.iadd, 1) := by decide +kernel
theorem dL_law_882 : decode eL_law.2.1 882 = .ok (.iaload, 1) := by decide +kernel
theorem dL_law_883 : decode eL_law.2.1 883 = .ok (.invokevirtual 98, 3) := by decide +kernel
theorem dL_law_886 : decode eL_law.2.1 886 = .ok (.aload_n 2, 1) := by decide +kernel
theorem dL_law_887 : decode eL_law.2.1 887 = .ok (.aload_n 0, 1) := by decide +kernel
theorem dL_law_888 : decode eL_law.2.1 888 = .ok (.iload_n 3, 1) := by decide +kernel
theorem dL_law_889 : decode eL_law.2.1 889 = .ok (.iconst 1, 1) := by decide +kernel
theorem dL_law_890 : decode eL_law.2.1 890 = .ok (.iadd, 1) := by decide +kernel
theorem dL_law_891 : decode eL_law.2.1 891 = .ok (.iaload, 1) := by decide +kernel
theorem dL_law_892 : decode eL_law.2.1 892 = .ok (.aload_n 0, 1) := by decide +kernel
theorem dL_law_893 : decode eL_law.2.1 893 = .ok (.iload_n 3, 1) := by decide +kernel
theorem dL_law_894 : decode eL_law.2.1 894 = .ok (.iconst 2, 1) := by decide +kernel
theorem dL_law_895 : decode eL_law.2.1 895 = .ok (.iadd, 1) := by decide +kernel
theorem dL_law_896 : decode eL_law.2.1 896 = .ok (.iaload, 1) := by decide +kernel
theorem dL_law_897 : decode eL_law.2.1 897 = .ok (.invokevirtual 101, 3) := by decide +kernel
theorem dL_law_900 : decode eL_law.2.1 900 = .ok (.if_icmp .eq 555, 3) := by decide +kernel
theorem dL_law_903 : decode eL_law.2.1 903 = .ok (.iconst 0, 1) := by decide +kernel
theorem dL_law_904 : decode eL_law.2.1 904 = .ok (.ireturn, 1) := by decide +kernel
theorem dL_law_905 : decode eL_law.2.1 905 = .ok (.aload_n 1, 1) := by decide +kernel
theorem dL_law_906 : decode eL_law.2.1 906 = .ok (.aload_n 0, 1) := by decide +kernel
theorem dL_law_907 : decode eL_law.2.1 907 = .ok (.iload_n 3, 1) := by decide +kernel
theorem dL_law_908 : decode eL_law.2.1 908 = .ok (.iconst 1, 1) := by decide +kernel
theorem dL_law_909 : decode eL_law.2.1 909 = .ok (.iadd, 1) := by decide +kernel
theorem dL_law_910 : decode eL_law.2.1 910 = .ok (.iaload, 1) := by decide +kernel
theorem dL_law_911 : decode eL_law.2.1 911 = .ok (.invokevirtual 102, 3) := by decide +kernel
theorem dL_law_914 : decode eL_law.2.1 914 = .ok (.aload_n 2, 1) := by decide +kernel
theorem dL_law_915 : decode eL_law.2.1 915 = .ok (.aload_n 0, 1) := by decide +kernel
theorem dL_law_916 : decode eL_law.2.1 916 = .ok (.iload_n 3, 1) := by decide +kernel
theorem dL_law_917 : decode eL_law.2.1 917 = .ok (.iconst 1, 1) := by decide +kernel
theorem dL_law_918 : decode eL_law.2.1 918 = .ok (.iadd, 1) := by decide +kernel
theorem dL_law_919 : decode eL_law.2.1 919 = .ok (.iaload, 1) := by decide +kernel
theorem dL_law_920 : decode eL_law.2.1 920 = .ok (.invokevirtual 105, 3) := by decide +kernel
theorem dL_law_923 : decode eL_law.2.1 923 = .ok (.if_icmp .eq 532, 3) := by decide +kernel
theorem dL_law_926 : decode eL_law.2.1 926 = .ok (.iconst 0, 1) := by decide +kernel
theorem dL_law_927 : decode eL_law.2.1 927 = .ok (.ireturn, 1) := by decide +kernel
theorem dL_law_928 : decode eL_law.2.1 928 = .ok (.aload_n 1, 1) := by decide +kernel
theorem dL_law_929 : decode eL_law.2.1 929 = .ok (.aload_n 0, 1) := by decide +kernel
theorem dL_law_930 : decode eL_law.2.1 930 = .ok (.iload_n 3, 1) := by decide +kernel
theorem dL_law_931 : decode eL_law.2.1 931 = .ok (.iconst 1, 1) := by decide +kernel
theorem dL_law_932 : decode eL_law.2.1 932 = .ok (.iadd, 1) := by decide +kernel
theorem dL_law_933 : decode eL_law.2.1 933 = .ok (.iaload, 1) := by decide +kernel
theorem dL_law_934 : decode eL_law.2.1 934 = .ok (.aload_n 0, 1) := by decide +kernel
theorem dL_law_935 : decode eL_law.2.1 935 = .ok (.iload_n 3, 1) := by decide +kernel
theorem dL_law_936 : decode eL_law.2.1 936 = .ok (.iconst 2, 1) := by decide +kernel
theorem dL_law_937 : decode eL_law.2.1 937 = .ok (.iadd, 1) := by decide +kernel
theorem dL_law_938 : decode eL_law.2.1 938 = .ok (.iaload, 1) := by decide +kernel
theorem dL_law_939 : decode eL_law.2.1 939 = .ok (.aload_n 0, 1) := by decide +kernel
theorem dL_law_940 : decode eL_law.2.1 940 = .ok (.iload_n 3, 1) := by decide +kernel
theorem dL_law_941 : decode eL_law.2.1 941 = .ok (.iconst 3, 1) := by decide +kernel
theorem dL_law_942 : decode eL_law.2.1 942 = .ok (.iadd, 1) := by decide +kernel
theorem dL_law_943 : decode eL_law.2.1 943 = .ok (.iaload, 1) := by decide +kernel
theorem dL_law_944 : decode eL_law.2.1 944 = .ok (.aload_n 0, 1) := by decide +kernel
theorem dL_law_945 : decode eL_law.2.1 945 = .ok (.iload_n 3, 1) := by decide +kernel
theorem dL_law_946 : decode eL_law.2.1 946 = .ok (.iconst 4, 1) := by decide +kernel
theorem dL_law_947 : decode eL_law.2.1 947 = .ok (.iadd, 1) := by decide +kernel
theorem dL_law_948 : decode eL_law.2.1 948 = .ok (.iaload, 1) := by decide +kernel
theorem dL_law_949 : decode eL_law.2.1 949 = .ok (.aload_n 0, 1) := by decide +kernel
theorem dL_law_950 : decode eL_law.2.1 950 = .ok (.iload_n 3, 1) := by decide +kernel
theorem dL_law_951 : decode eL_law.2.1 951 = .ok (.iconst 5, 1) := by decide +kernel
theorem dL_law_952 : decode eL_law.2.1 952 = .ok (.iadd, 1) := by decide +kernel
theorem dL_law_953 : decode eL_law.2.1 953 = .ok (.iaload, 1) := by decide +kernel
theorem dL_law_954 : decode eL_law.2.1 954 = .ok (.invokevirtual 106, 3) := by decide +kernel
theorem dL_law_957 : decode eL_law.2.1 957 = .ok (.aload_n 2, 1) := by decide +kernel
theorem dL_law_958 : decode eL_law.2.1 958 = .ok (.aload_n 0, 1) := by decide +kernel
theorem dL_law_959 : decode eL_law.2.1 959 = .ok (.iload_n 3, 1) := by decide +kernel
theorem dL_law_960 : decode eL_law.2.1 960 = .ok (.iconst 1, 1) := by decide +kernel
theorem dL_law_961 : decode eL_law.2.1 961 = .ok (.iadd, 1) := by decide +kernel
theorem dL_law_962 : decode eL_law.2.1 962 = .ok (.iaload, 1) := by decide +kernel
theorem dL_law_963 : decode eL_law.2.1 963 = .ok (.aload_n 0, 1) := by decide +kernel
theorem dL_law_964 : decode eL_law.2.1 964 = .ok (.iload_n 3, 1) := by decide +kernel
theorem dL_law_965 : decode eL_law.2.1 965 = .ok (.iconst 2, 1) := by decide +kernel
theorem dL_law_966 : decode eL_law.2.1 966 = .ok (.iadd, 1) := by decide +kernel
theorem dL_law_967 : decode eL_law.2.1 967 = .ok (.iaload, 1) := by decide +kernel
theorem dL_law_968 : decode eL_law.2.1 968 = .ok (.aload_n 0, 1) := by decide +kernel
theorem dL_law_969 : decode eL_law.2.1 969 = .ok (.iload_n 3, 1) := by decide +kernel
theorem dL_law_970 : decode eL_law.2.1 970 = .ok (.iconst 3, 1) := by decide +kernel
theorem dL_law_971 : decode eL_law.2.1 971 = .ok (.iadd, 1) := by decide +kernel
theorem dL_law_972 : decode eL_law.2.1 972 = .ok (.iaload, 1) := by decide +kernel
theorem dL_law_973 : decode eL_law.2.1 973 = .ok (.aload_n 0, 1) := by decide +kernel
theorem dL_law_974 : decode eL_law.2.1 974 = .ok (.iload_n 3, 1) := by decide +kernel
theorem dL_law_975 : decode eL_law.2.1 975 = .ok (.iconst 4, 1) := by decide +kernel
theorem dL_law_976 : decode eL_law.2.1 976 = .ok (.iadd, 1) := by decide +kernel
theorem dL_law_977 : decode eL_law.2.1 977 = .ok (.iaload, 1) := by decide +kernel
theorem dL_law_978 : decode eL_law.2.1 978 = .ok (.aload_n 0, 1) := by decide +kernel
theorem dL_law_979 : decode eL_law.2.1 979 = .ok (.iload_n 3, 1) := by decide +kernel
theorem dL_law_980 : decode eL_law.2.1 980 = .ok (.iconst 5, 1) := by decide +kernel
theorem dL_law_981 : decode eL_law.2.1 981 = .ok (.iadd, 1) := by decide +kernel
theorem dL_law_982 : decode eL_law.2.1 982 = .ok (.iaload, 1) := by decide +kernel
theorem dL_law_983 : decode eL_law.2.1 983 = .ok (.invokevirtual 109, 3) := by decide +kernel
theorem dL_law_986 : decode eL_law.2.1 986 = .ok (.if_icmp .eq 469, 3) := by decide +kernel
theorem dL_law_989 : decode eL_law.2.1 989 = .ok (.iconst 0, 1) := by decide +kernel
theorem dL_law_990 : decode eL_law.2.1 990 = .ok (.ireturn, 1) := by decide +kernel
theorem dL_law_991 : decode eL_law.2.1 991 = .ok (.aload_n 1, 1) := by decide +kernel
theorem dL_law_992 : decode eL_law.2.1 992 = .ok (.aload_n 0, 1) := by decide +kernel
theorem dL_law_993 : decode eL_law.2.1 993 = .ok (.iload_n 3, 1) := by decide +kernel
theorem dL_law_994 : decode eL_law.2.1 994 = .ok (.iconst 1, 1) := by decide +kernel
theorem dL_law_995 : decode eL_law.2.1 995 = .ok (.iadd, 1) := by decide +kernel
theorem dL_law_996 : decode eL_law.2.1 996 = .ok (.iaload, 1) := by decide +kernel
theorem dL_law_997 : decode eL_law.2.1 997 = .ok (.invokevirtual 110, 3) := by decide +kernel
theorem dL_law_1000 : decode eL_law.2.1 1000 = .ok (.aload_n 2, 1) := by decide +kernel
theorem dL_law_1001 : decode eL_law.2.1 1001 = .ok (.aload_n 0, 1) := by decide +kernel
theorem dL_law_1002 : decode eL_law.2.1 1002 = .ok (.iload_n 3, 1) := by decide +kernel
theorem dL_law_1003 : decode eL_law.2.1 1003 = .ok (.iconst 1, 1) := by decide +kernel
theorem dL_law_1004 : decode eL_law.2.1 1004 = .ok (.iadd, 1) := by decide +kernel
theorem dL_law_1005 : decode eL_law.2.1 1005 = .ok (.iaload, 1) := by decide +kernel
theorem dL_law_1006 : decode eL_law.2.1 1006 = .ok (.invokevirtual 113, 3) := by decide +kernel
theorem dL_law_1009 : decode eL_law.2.1 1009 = .ok (.if_icmp .eq 446, 3) := by decide +kernel
theorem dL_law_1012 : decode eL_law.2.1 1012 = .ok (.iconst 0, 1) := by decide +kernel
theorem dL_law_1013 : decode eL_law.2.1 1013 = .ok (.ireturn, 1) := by decide +kernel
theorem dL_law_1014 : decode eL_law.2.1 1014 = .ok (.aload_n 1, 1) := by decide +kernel
theorem dL_law_1015 : decode eL_law.2.1 1015 = .ok (.aload_n 0, 1) := by decide +kernel
theorem dL_law_1016 : decode eL_law.2.1 1016 = .ok (.iload_n 3, 1) := by decide +kernel
theorem dL_law_1017 : decode eL_law.2.1 1017 = .ok (.iconst 1, 1) := by decide +kernel
theorem dL_law_1018 : decode eL_law.2.1 1018 = .ok (.iadd, 1) := by decide +kernel
theorem dL_law_1019 : decode eL_law.2.1 1019 = .ok (.iaload, 1) := by decide +kernel
theorem dL_law_1020 : decode eL_law.2.1 1020 = .ok (.aload_n 0, 1) := by decide +kernel
theorem dL_law_1021 : decode eL_law.2.1 1021 = .ok (.iload_n 3, 1) := by decide +kernel
theorem dL_law_1022 : decode eL_law.2.1 1022 = .ok (.iconst 2, 1) := by decide +kernel
theorem dL_law_1023 : decode eL_law.2.1 1023 = .ok (.iadd, 1) := by decide +kernel
theorem dL_law_1024 : decode eL_law.2.1 1024 = .ok (.iaload, 1) := by decide +kernel
theorem dL_law_1025 : decode eL_law.2.1 1025 = .ok (.invokevirtual 114, 3) := by decide +kernel
theorem dL_law_1028 : decode eL_law.2.1 1028 = .ok (.aload_n 2, 1) := by decide +kernel
theorem dL_law_1029 : decode eL_law.2.1 1029 = .ok (.aload_n 0, 1) := by decide +kernel
theorem dL_law_1030 : decode eL_law.2.1 1030 = .ok (.iload_n 3, 1) := by decide +kernel
theorem dL_law_1031 : decode eL_law.2.1 1031 = .ok (.iconst 1, 1) := by decide +kernel
theorem dL_law_1032 : decode eL_law.2.1 1032 = .ok (.iadd, 1) := by decide +kernel
theorem dL_law_1033 : decode eL_law.2.1 1033 = .ok (.iaload, 1) := by decide +kernel
theorem dL_law_1034 : decode eL_law.2.1 1034 = .ok (.aload_n 0, 1) := by decide +kernel
theorem dL_law_1035 : decode eL_law.2.1 1035 = .ok (.iload_n 3, 1) := by decide +kernel
theorem dL_law_1036 : decode eL_law.2.1 1036 = .ok (.iconst 2, 1) := by decide +kernel
theorem dL_law_1037 : decode eL_law.2.1 1037 = .ok (.iadd, 1) := by decide +kernel
theorem dL_law_1038 : decode eL_law.2.1 1038 = .ok (.iaload, 1) := by decide +kernel
theorem dL_law_1039 : decode eL_law.2.1 1039 = .ok (.invokevirtual 117, 3) := by decide +kernel
theorem dL_law_1042 : decode eL_law.2.1 1042 = .ok (.if_icmp .eq 413, 3) := by decide +kernel
theorem dL_law_1045 : decode eL_law.2.1 1045 = .ok (.iconst 0, 1) := by decide +kernel
theorem dL_law_1046 : decode eL_law.2.1 1046 = .ok (.ireturn, 1) := by decide +kernel
theorem dL_law_1047 : decode eL_law.2.1 1047 = .ok (.aload_n 1, 1) := by decide +kernel
theorem dL_law_1048 : decode eL_law.2.1 1048 = .ok (.aload_n 0, 1) := by decide +kernel
theorem dL_law_1049 : decode eL_law.2.1 1049 = .ok (.iload_n 3, 1) := by decide +kernel
theorem dL_law_1050 : decode eL_law.2.1 1050 = .ok (.iconst 1, 1) := by decide +kernel
theorem dL_law_1051 : decode eL_law.2.1 1051 = .ok (.iadd, 1) := by decide +kernel
theorem dL_law_1052 : decode eL_law.2.1 1052 = .ok (.iaload, 1) := by decide +kernel
theorem dL_law_1053 : decode eL_law.2.1 1053 = .ok (.aload_n 0, 1) := by decide +kernel
theorem dL_law_1054 : decode eL_law.2.1 1054 = .ok (.iload_n 3, 1) := by decide +kernel
theorem dL_law_1055 : decode eL_law.2.1 1055 = .ok (.iconst 2, 1) := by decide +kernel
theorem dL_law_1056 : decode eL_law.2.1 1056 = .ok (.iadd, 1) := by decide +kernel
theorem dL_law_1057 : decode eL_law.2.1 1057 = .ok (.iaload, 1) := by decide +kernel
theorem dL_law_1058 : decode eL_law.2.1 1058 = .ok (.invokevirtual 118, 3) := by decide +kernel
theorem dL_law_1061 : decode eL_law.2.1 1061 = .ok (.aload_n 2, 1) := by decide +kernel
theorem dL_law_1062 : decode eL_law.2.1 1062 = .ok (.aload_n 0, 1) := by decide +kernel
theorem dL_law_1063 : decode eL_law.2.1 1063 = .ok (.iload_n 3, 1) := by decide +kernel
theorem dL_law_1064 : decode eL_law.2.1 1064 = .ok (.iconst 1, 1) := by decide +kernel
theorem dL_law_1065 : decode eL_law.2.1 1065 = .ok (.iadd, 1) := by decide +kernel
theorem dL_law_1066 : decode eL_law.2.1 1066 = .ok (.iaload, 1) := by decide +kernel
theorem dL_law_1067 : decode eL_law.2.1 1067 = .ok (.aload_n 0, 1) := by decide +kernel
theorem dL_law_1068 : decode eL_law.2.1 1068 = .ok (.iload_n 3, 1) := by decide +kernel
theorem dL_law_1069 : decode eL_law.2.1 1069 = .ok (.iconst 2, 1) := by decide +kernel
theorem dL_law_1070 : decode eL_law.2.1 1070 = .ok (.iadd, 1) := by decide +kernel
theorem dL_law_1071 : decode eL_law.2.1 1071 = .ok (.iaload, 1) := by decide +kernel
theorem dL_law_1072 : decode eL_law.2.1 1072 = .ok (.invokevirtual 121, 3) := by decide +kernel
theorem dL_law_1075 : decode eL_law.2.1 1075 = .ok (.if_icmp .eq 380, 3) := by decide +kernel
theorem dL_law_1078 : decode eL_law.2.1 1078 = .ok (.iconst 0, 1) := by decide +kernel
theorem dL_law_1079 : decode eL_law.2.1 1079 = .ok (.ireturn, 1) := by decide +kernel
theorem dL_law_1080 : decode eL_law.2.1 1080 = .ok (.aload_n 1, 1) := by decide +kernel
theorem dL_law_1081 : decode eL_law.2.1 1081 = .ok (.aload_n 0, 1) := by decide +kernel
theorem dL_law_1082 : decode eL_law.2.1 1082 = .ok (.iload_n 3, 1) := by decide +kernel
theorem dL_law_1083 : decode eL_law.2.1 1083 = .ok (.iconst 1, 1) := by decide +kernel
theorem dL_law_1084 : decode eL_law.2.1 1084 = .ok (.iadd, 1) := by decide +kernel
theorem dL_law_1085 : decode eL_law.2.1 1085 = .ok (.iaload, 1) := by decide +kernel
theorem dL_law_1086 : decode eL_law.2.1 1086 = .ok (.aload_n 0, 1) := by decide +kernel
theorem dL_law_1087 : decode eL_law.2.1 1087 = .ok (.iload_n 3, 1) := by decide +kernel
theorem dL_law_1088 : decode eL_law.2.1 1088 = .ok (.iconst 2, 1) := by decide +kernel
theorem dL_law_1089 : decode eL_law.2.1 1089 = .ok (.iadd, 1) := by decide +kernel
theorem dL_law_1090 : decode eL_law.2.1 1090 = .ok (.iaload, 1) := by decide +kernel
theorem dL_law_1091 : decode eL_law.2.1 1091 = .ok (.aload_n 0, 1) := by decide +kernel
theorem dL_law_1092 : decode eL_law.2.1 1092 = .ok (.iload_n 3, 1) := by decide +kernel
theorem dL_law_1093 : decode eL_law.2.1 1093 = .ok (.iconst 3, 1) := by decide +kernel
theorem dL_law_1094 : decode eL_law.2.1 1094 = .ok (.iadd, 1) := by decide +kernel
theorem dL_law_1095 : decode eL_law.2.1 1095 = .ok (.iaload, 1) := by decide +kernel
theorem dL_law_1096 : decode eL_law.2.1 1096 = .ok (.invokevirtual 122, 3) := by decide +kernel
theorem dL_law_1099 : decode eL_law.2.1 1099 = .ok (.aload_n 2, 1) := by decide +kernel
theorem dL_law_1100 : decode eL_law.2.1 1100 = .ok (.aload_n 0, 1) := by decide +kernel
theorem dL_law_1101 : decode eL_law.2.1 1101 = .ok (.iload_n 3, 1) := by decide +kernel
theorem dL_law_1102 : decode eL_law.2.1 1102 = .ok (.iconst 1, 1) := by decide +kernel
theorem dL_law_1103 : decode eL_law.2.1 1103 = .ok (.iadd, 1) := by decide +kernel
theorem dL_law_1104 : decode eL_law.2.1 1104 = .ok (.iaload, 1) := by decide +kernel
theorem dL_law_1105 : decode eL_law.2.1 1105 = .ok (.aload_n 0, 1) := by decide +kernel
theorem dL_law_1106 : decode eL_law.2.1 1106 = .ok (.iload_n 3, 1) := by decide +kernel
theorem dL_law_1107 : decode eL_law.2.1 1107 = .ok (.iconst 2, 1) := by decide +kernel
theorem dL_law_1108 : decode eL_law.2.1 1108 = .ok (.iadd, 1) := by decide +kernel
theorem dL_law_1109 : decode eL_law.2.1 1109 = .ok (.iaload, 1) := by decide +kernel
theorem dL_law_1110 : decode eL_law.2.1 1110 = .ok (.aload_n 0, 1) := by decide +kernel
theorem dL_law_1111 : decode eL_law.2.1 1111 = .ok (.iload_n 3, 1) := by decide +kernel
theorem dL_law_1112 : decode eL_law.2.1 1112 = .ok (.iconst 3, 1) := by decide +kernel
theorem dL_law_1113 : decode eL_law.2.1 1113 = .ok (.iadd, 1) := by decide +kernel
theorem dL_law_1114 : decode eL_law.2.1 1114 = .ok (.iaload, 1) := by decide +kernel
theorem dL_law_1115 : decode eL_law.2.1 1115 = .ok (.invokevirtual 125, 3) := by decide +kernel
theorem dL_law_1118 : decode eL_law.2.1 1118 = .ok (.if_icmp .eq 337, 3) := by decide +kernel
theorem dL_law_1121 : decode eL_law.2.1 1121 = .ok (.iconst 0, 1) := by decide +kernel
theorem dL_law_1122 : decode eL_law.2.1 1122 = .ok (.ireturn, 1) := by decide +kernel
theorem dL_law_1123 : decode eL_law.2.1 1123 = .ok (.aload_n 1, 1) := by decide +kernel
theorem dL_law_1124 : decode eL_law.2.1 1124 = .ok (.aload_n 0, 1) := by decide +kernel
theorem dL_law_1125 : decode eL_law.2.1 1125 = .ok (.iload_n 3, 1) := by decide +kernel
theorem dL_law_1126 : decode eL_law.2.1 1126 = .ok (.iconst 1, 1) := by decide +kernel
theorem dL_law_1127 : decode eL_law.2.1 1127 = .ok (.iadd, 1) := by decide +kernel
theorem dL_law_1128 : decode eL_law.2.1 1128 = .ok (.iaload, 1) := by decide +kernel
theorem dL_law_1129 : decode eL_law.2.1 1129 = .ok (.aload_n 0, 1) := by decide +kernel
theorem dL_law_1130 : decode eL_law.2.1 1130 = .ok (.iload_n 3, 1) := by decide +kernel
theorem dL_law_1131 : decode eL_law.2.1 1131 = .ok (.iconst 2, 1) := by decide +kernel
theorem dL_law_1132 : decode eL_law.2.1 1132 = .ok (.iadd, 1) := by decide +kernel
theorem dL_law_1133 : decode eL_law.2.1 1133 = .ok (.iaload, 1) := by decide +kernel
theorem dL_law_1134 : decode eL_law.2.1 1134 = .ok (.aload_n 0, 1) := by decide +kernel
theorem dL_law_1135 : decode eL_law.2.1 1135 = .ok (.iload_n 3, 1) := by decide +kernel
theorem dL_law_1136 : decode eL_law.2.1 1136 = .ok (.iconst 3, 1) := by decide +kernel
theorem dL_law_1137 : decode eL_law.2.1 1137 = .ok (.iadd, 1) := by decide +kernel
theorem dL_law_1138 : decode eL_law.2.1 1138 = .ok (.iaload, 1) := by decide +kernel
theorem dL_law_1139 : decode eL_law.2.1 1139 = .ok (.invokevirtual 126, 3) := by decide +kernel
theorem dL_law_1142 : decode eL_law.2.1 1142 = .ok (.aload_n 2, 1) := by decide +kernel
theorem dL_law_1143 : decode eL_law.2.1 1143 = .ok (.aload_n 0, 1) := by decide +kernel
theorem dL_law_1144 : decode eL_law.2.1 1144 = .ok (.iload_n 3, 1) := by decide +kernel
theorem dL_law_1145 : decode eL_law.2.1 1145 = .ok (.iconst 1, 1) := by decide +kernel
theorem dL_law_1146 : decode eL_law.2.1 1146 = .ok (.iadd, 1) := by decide +kernel
theorem dL_law_1147 : decode eL_law.2.1 1147 = .ok (.iaload, 1) := by decide +kernel
theorem dL_law_1148 : decode eL_law.2.1 1148 = .ok (.aload_n 0, 1) := by decide +kernel
theorem dL_law_1149 : decode eL_law.2.1 1149 = .ok (.iload_n 3, 1) := by decide +kernel
theorem dL_law_1150 : decode eL_law.2.1 1150 = .ok (.iconst 2, 1) := by decide +kernel
theorem dL_law_1151 : decode eL_law.2.1 1151 = .ok (.iadd, 1) := by decide +kernel
theorem dL_law_1152 : decode eL_law.2.1 1152 = .ok (.iaload, 1) := by decide +kernel
theorem dL_law_1153 : decode eL_law.2.1 1153 = .ok (.aload_n 0, 1) := by decide +kernel
theorem dL_law_1154 : decode eL_law.2.1 1154 = .ok (.iload_n 3, 1) := by decide +kernel
theorem dL_law_1155 : decode eL_law.2.1 1155 = .ok (.iconst 3, 1) := by decide +kernel
theorem dL_law_1156 : decode eL_law.2.1 1156 = .ok (.iadd, 1) := by decide +kernel
theorem dL_law_1157 : decode eL_law.2.1 1157 = .ok (.iaload, 1) := by decide +kernel
theorem dL_law_1158 : decode eL_law.2.1 1158 = .ok (.invokevirtual 129, 3) := by decide +kernel
theorem dL_law_1161 : decode eL_law.2.1 1161 = .ok (.if_icmp .eq 294, 3) := by decide +kernel
theorem dL_law_1164 : decode eL_law.2.1 1164 = .ok (.iconst 0, 1) := by decide +kernel
theorem dL_law_1165 : decode eL_law.2.1 1165 = .ok (.ireturn, 1) := by decide +kernel
theorem dL_law_1166 : decode eL_law.2.1 1166 = .ok (.aload_n 1, 1) := by decide +kernel
theorem dL_law_1167 : decode eL_law.2.1 1167 = .ok (.aload_n 0, 1) := by decide +kernel
theorem dL_law_1168 : decode eL_law.2.1 1168 = .ok (.iload_n 3, 1) := by decide +kernel
theorem dL_law_1169 : decode eL_law.2.1 1169 = .ok (.iconst 1, 1) := by decide +kernel
theorem dL_law_1170 : decode eL_law.2.1 1170 = .ok (.iadd, 1) := by decide +kernel
theorem dL_law_1171 : decode eL_law.2.1 1171 = .ok (.iaload, 1) := by decide +kernel
theorem dL_law_1172 : decode eL_law.2.1 1172 = .ok (.aload_n 0, 1) := by decide +kernel
theorem dL_law_1173 : decode eL_law.2.1 1173 = .ok (.iload_n 3, 1) := by decide +kernel
theorem dL_law_1174 : decode eL_law.2.1 1174 = .ok (.iconst 2, 1) := by decide +kernel
theorem dL_law_1175 : decode eL_law.2.1 1175 = .ok (.iadd, 1) := by decide +kernel
theorem dL_law_1176 : decode eL_law.2.1 1176 = .ok (.iaload, 1) := by decide +kernel
theorem dL_law_1177 : decode eL_law.2.1 1177 = .ok (.invokevirtual 130, 3) := by decide +kernel
theorem dL_law_1180 : decode eL_law.2.1 1180 = .ok (.aload_n 2, 1) := by decide +kernel
theorem dL_law_1181 : decode eL_law.2.1 1181 = .ok (.aload_n 0, 1) := by decide +kernel
theorem dL_law_1182 : decode eL_law.2.1 1182 = .ok (.iload_n 3, 1) := by decide +kernel
theorem dL_law_1183 : decode eL_law.2.1 1183 = .ok (.iconst 1, 1) := by decide +kernel
theorem dL_law_1184 : decode eL_law.2.1 1184 = .ok (.iadd, 1) := by decide +kernel
theorem dL_law_1185 : decode eL_law.2.1 1185 = .ok (.iaload, 1) := by decide +kernel
theorem dL_law_1186 : decode eL_law.2.1 1186 = .ok (.aload_n 0, 1) := by decide +kernel
theorem dL_law_1187 : decode eL_law.2.1 1187 = .ok (.iload_n 3, 1) := by decide +kernel
theorem dL_law_1188 : decode eL_law.2.1 1188 = .ok (.iconst 2, 1) := by decide +kernel
theorem dL_law_1189 : decode eL_law.2.1 1189 = .ok (.iadd, 1) := by decide +kernel
theorem dL_law_1190 : decode eL_law.2.1 1190 = .ok (.iaload, 1) := by decide +kernel
theorem dL_law_1191 : decode eL_law.2.1 1191 = .ok (.invokevirtual 133, 3) := by decide +kernel
theorem dL_law_1194 : decode eL_law.2.1 1194 = .ok (.if_icmp .eq 261, 3) := by decide +kernel
theorem dL_law_1197 : decode eL_law.2.1 1197 = .ok (.iconst 0, 1) := by decide +kernel
theorem dL_law_1198 : decode eL_law.2.1 1198 = .ok (.ireturn, 1) := by decide +kernel
theorem dL_law_1199 : decode eL_law.2.1 1199 = .ok (.aload_n 1, 1) := by decide +kernel
theorem dL_law_1200 : decode eL_law.2.1 1200 = .ok (.aload_n 0, 1) := by decide +kernel
theorem dL_law_1201 : decode eL_law.2.1 1201 = .ok (.iload_n 3, 1) := by decide +kernel
theorem dL_law_1202 : decode eL_law.2.1 1202 = .ok (.iconst 1, 1) := by decide +kernel
theorem dL_law_1203 : decode eL_law.2.1 1203 = .ok (.iadd, 1) := by decide +kernel
theorem dL_law_1204 : decode eL_law.2.1 1204 = .ok (.iaload, 1) := by decide +kernel
theorem dL_law_1205 : decode eL_law.2.1 1205 = .ok (.aload_n 0, 1) := by decide +kernel
theorem dL_law_1206 : decode eL_law.2.1 1206 = .ok (.iload_n 3, 1) := by decide +kernel
theorem dL_law_1207 : decode eL_law.2.1 1207 = .ok (.iconst 2, 1) := by decide +kernel
theorem dL_law_1208 : decode eL_law.2.1 1208 = .ok (.iadd, 1) := by decide +kernel
theorem dL_law_1209 : decode eL_law.2.1 1209 = .ok (.iaload, 1) := by decide +kernel
theorem dL_law_1210 : decode eL_law.2.1 1210 = .ok (.invokevirtual 134, 3) := by decide +kernel
theorem dL_law_1213 : decode eL_law.2.1 1213 = .ok (.aload_n 2, 1) := by decide +kernel
theorem dL_law_1214 : decode eL_law.2.1 1214 = .ok (.aload_n 0, 1) := by decide +kernel
theorem dL_law_1215 : decode eL_law.2.1 1215 = .ok (.iload_n 3, 1) := by decide +kernel
theorem dL_law_1216 : decode eL_law.2.1 1216 = .ok (.iconst 1, 1) := by decide +kernel
theorem dL_law_1217 : decode eL_law.2.1 1217 = .ok (.iadd, 1) := by decide +kernel
theorem dL_law_1218 : decode eL_law.2.1 1218 = .ok (.iaload, 1) := by decide +kernel
theorem dL_law_1219 : decode eL_law.2.1 1219 = .ok (.aload_n 0, 1) := by decide +kernel
theorem dL_law_1220 : decode eL_law.2.1 1220 = .ok (.iload_n 3, 1) := by decide +kernel
theorem dL_law_1221 : decode eL_law.2.1 1221 = .ok (.iconst 2, 1) := by decide +kernel
theorem dL_law_1222 : decode eL_law.2.1 1222 = .ok (.iadd, 1) := by decide +kernel
theorem dL_law_1223 : decode eL_law.2.1 1223 = .ok (.iaload, 1) := by decide +kernel
theorem dL_law_1224 : decode eL_law.2.1 1224 = .ok (.invokevirtual 137, 3) := by decide +kernel
theorem dL_law_1227 : decode eL_law.2.1 1227 = .ok (.if_icmp .eq 228, 3) := by decide +kernel
theorem dL_law_1230 : decode eL_law.2.1 1230 = .ok (.iconst 0, 1) := by decide +kernel
theorem dL_law_1231 : decode eL_law.2.1 1231 = .ok (.ireturn, 1) := by decide +kernel
theorem dL_law_1232 : decode eL_law.2.1 1232 = .ok (.aload_n 1, 1) := by decide +kernel
theorem dL_law_1233 : decode eL_law.2.1 1233 = .ok (.aload_n 0, 1) := by decide +kernel
theorem dL_law_1234 : decode eL_law.2.1 1234 = .ok (.iload_n 3, 1) := by decide +kernel
theorem dL_law_1235 : decode eL_law.2.1 1235 = .ok (.iconst 1, 1) := by decide +kernel
theorem dL_law_1236 : decode eL_law.2.1 1236 = .ok (.iadd, 1) := by decide +kernel
theorem dL_law_1237 : decode eL_law.2.1 1237 = .ok (.iaload, 1) := by decide +kernel
theorem dL_law_1238 : decode eL_law.2.1 1238 = .ok (.invokevirtual 138, 3) := by decide +kernel
theorem dL_law_1241 : decode eL_law.2.1 1241 = .ok (.aload_n 2, 1) := by decide +kernel
theorem dL_law_1242 : decode eL_law.2.1 1242 = .ok (.aload_n 0, 1) := by decide +kernel
theorem dL_law_1243 : decode eL_law.2.1 1243 = .ok (.iload_n 3, 1) := by decide +kernel
theorem dL_law_1244 : decode eL_law.2.1 1244 = .ok (.iconst 1, 1) := by decide +kernel
theorem dL_law_1245 : decode eL_law.2.1 1245 = .ok (.iadd, 1) := by decide +kernel
theorem dL_law_1246 : decode eL_law.2.1 1246 = .ok (.iaload, 1) := by decide +kernel
theorem dL_law_1247 : decode eL_law.2.1 1247 = .ok (.invokevirtual 141, 3) := by decide +kernel
theorem dL_law_1250 : decode eL_law.2.1 1250 = .ok (.if_icmp .eq 205, 3) := by decide +kernel
theorem dL_law_1253 : decode eL_law.2.1 1253 = .ok (.iconst 0, 1) := by decide +kernel
theorem dL_law_1254 : decode eL_law.2.1 1254 = .ok (.ireturn, 1) := by decide +kernel
theorem dL_law_1255 : decode eL_law.2.1 1255 = .ok (.aload_n 1, 1) := by decide +kernel
theorem dL_law_1256 : decode eL_law.2.1 1256 = .ok (.invokevirtual 142, 3) := by decide +kernel
theorem dL_law_1259 : decode eL_law.2.1 1259 = .ok (.aload_n 2, 1) := by decide +kernel
theorem dL_law_1260 : decode eL_law.2.1 1260 = .ok (.invokevirtual 145, 3) := by decide +kernel
theorem dL_law_1263 : decode eL_law.2.1 1263 = .ok (.if_icmp .eq 192, 3) := by decide +kernel
theorem dL_law_1266 : decode eL_law.2.1 1266 = .ok (.iconst 0, 1) := by decide +kernel
theorem dL_law_1267 : decode eL_law.2.1 1267 = .ok (.ireturn, 1) := by decide +kernel
theorem dL_law_1268 : decode eL_law.2.1 1268 = .ok (.aload_n 1, 1) := by decide +kernel
theorem dL_law_1269 : decode eL_law.2.1 1269 = .ok (.aload_n 0, 1) := by decide +kernel
theorem dL_law_1270 : decode eL_law.2.1 1270 = .ok (.iload_n 3, 1) := by decide +kernel
theorem dL_law_1271 : decode eL_law.2.1 1271 = .ok (.iconst 1, 1) := by decide +kernel
theorem dL_law_1272 : decode eL_law.2.1 1272 = .ok (.iadd, 1) := by decide +kernel
theorem dL_law_1273 : decode eL_law.2.1 1273 = .ok (.iaload, 1) := by decide +kernel
theorem dL_law_1274 : decode eL_law.2.1 1274 = .ok (.invokevirtual 146, 3) := by decide +kernel
theorem dL_law_1277 : decode eL_law.2.1 1277 = .ok (.aload_n 2, 1) := by decide +kernel
theorem dL_law_1278 : decode eL_law.2.1 1278 = .ok (.aload_n 0, 1) := by decide +kernel
theorem dL_law_1279 : decode eL_law.2.1 1279 = .ok (.iload_n 3, 1) := by decide +kernel
theorem dL_law_1280 : decode eL_law.2.1 1280 = .ok (.iconst 1, 1) := by decide +kernel
theorem dL_law_1281 : decode eL_law.2.1 1281 = .ok (.iadd, 1) := by decide +kernel
theorem dL_law_1282 : decode eL_law.2.1 1282 = .ok (.iaload, 1) := by decide +kernel
theorem dL_law_1283 : decode eL_law.2.1 1283 = .ok (.invokevirtual 149, 3) := by decide +kernel
theorem dL_law_1286 : decode eL_law.2.1 1286 = .ok (.if_icmp .eq 169, 3) := by decide +kernel
theorem dL_law_1289 : decode eL_law.2.1 1289 = .ok (.iconst 0, 1) := by decide +kernel
theorem dL_law_1290 : decode eL_law.2.1 1290 = .ok (.ireturn, 1) := by decide +kernel
theorem dL_law_1291 : decode eL_law.2.1 1291 = .ok (.aload_n 1, 1) := by decide +kernel
theorem dL_law_1292 : decode eL_law.2.1 1292 = .ok (.aload_n 0, 1) := by decide +kernel
theorem dL_law_1293 : decode eL_law.2.1 1293 = .ok (.iload_n 3, 1) := by decide +kernel
theorem dL_law_1294 : decode eL_law.2.1 1294 = .ok (.iconst 1, 1) := by decide +kernel
theorem dL_law_1295 : decode eL_law.2.1 1295 = .ok (.iadd, 1) := by decide +kernel
theorem dL_law_1296 : decode eL_law.2.1 1296 = .ok (.iaload, 1) := by decide +kernel
theorem dL_law_1297 : decode eL_law.2.1 1297 = .ok (.aload_n 0, 1) := by decide +kernel
theorem dL_law_1298 : decode eL_law.2.1 1298 = .ok (.iload_n 3, 1) := by decide +kernel
theorem dL_law_1299 : decode eL_law.2.1 1299 = .ok (.iconst 2, 1) := by decide +kernel
theorem dL_law_1300 : decode eL_law.2.1 1300 = .ok (.iadd, 1) := by decide +kernel
theorem dL_law_1301 : decode eL_law.2.1 1301 = .ok (.iaload, 1) := by decide +kernel
theorem dL_law_1302 : decode eL_law.2.1 1302 = .ok (.invokevirtual 150, 3) := by decide +kernel
theorem dL_law_1305 : decode eL_law.2.1 1305 = .ok (.aload_n 2, 1) := by decide +kernel
theorem dL_law_1306 : decode eL_law.2.1 1306 = .ok (.aload_n 0, 1) := by decide +kernel
theorem dL_law_1307 : decode eL_law.2.1 1307 = .ok (.iload_n 3, 1) := by decide +kernel
theorem dL_law_1308 : decode eL_law.2.1 1308 = .ok (.iconst 1, 1) := by decide +kernel
theorem dL_law_1309 : decode eL_law.2.1 1309 = .ok (.iadd, 1) := by decide +kernel
theorem dL_law_1310 : decode eL_law.2.1 1310 = .ok (.iaload, 1) := by decide +kernel
theorem dL_law_1311 : decode eL_law.2.1 1311 = .ok (.aload_n 0, 1) := by decide +kernel
theorem dL_law_1312 : decode eL_law.2.1 1312 = .ok (.iload_n 3, 1) := by decide +kernel
theorem dL_law_1313 : decode eL_law.2.1 1313 = .ok (.iconst 2, 1) := by decide +kernel
theorem dL_law_1314 : decode eL_law.2.1 1314 = .ok (.iadd, 1) := by decide +kernel
theorem dL_law_1315 : decode eL_law.2.1 1315 = .ok (.iaload, 1) := by decide +kernel
theorem dL_law_1316 : decode eL_law.2.1 1316 = .ok (.invokevirtual 153, 3) := by decide +kernel
theorem dL_law_1319 : decode eL_law.2.1 1319 = .ok (.if_icmp .eq 136, 3) := by decide +kernel
theorem dL_law_1322 : decode eL_law.2.1 1322 = .ok (.iconst 0, 1) := by decide +kernel
theorem dL_law_1323 : decode eL_law.2.1 1323 = .ok (.ireturn, 1) := by decide +kernel
theorem dL_law_1324 : decode eL_law.2.1 1324 = .ok (.aload_n 1, 1) := by decide +kernel
theorem dL_law_1325 : decode eL_law.2.1 1325 = .ok (.aload_n 0, 1) := by decide +kernel
theorem dL_law_1326 : decode eL_law.2.1 1326 = .ok (.iload_n 3, 1) := by decide +kernel
theorem dL_law_1327 : decode eL_law.2.1 1327 = .ok (.iconst 1, 1) := by decide +kernel
theorem dL_law_1328 : decode eL_law.2.1 1328 = .ok (.iadd, 1) := by decide +kernel
theorem dL_law_1329 : decode eL_law.2.1 1329 = .ok (.iaload, 1) := by decide +kernel
theorem dL_law_1330 : decode eL_law.2.1 1330 = .ok (.invokevirtual 154, 3) := by decide +kernel
theorem dL_law_1333 : decode eL_law.2.1 1333 = .ok (.aload_n 2, 1) := by decide +kernel
theorem dL_law_1334 : decode eL_law.2.1 1334 = .ok (.aload_n 0, 1) := by decide +kernel
theorem dL_law_1335 : decode eL_law.2.1 1335 = .ok (.iload_n 3, 1) := by decide +kernel
theorem dL_law_1336 : decode eL_law.2.1 1336 = .ok (.iconst 1, 1) := by decide +kernel
theorem dL_law_1337 : decode eL_law.2.1 1337 = .ok (.iadd, 1) := by decide +kernel
theorem dL_law_1338 : decode eL_law.2.1 1338 = .ok (.iaload, 1) := by decide +kernel
theorem dL_law_1339 : decode eL_law.2.1 1339 = .ok (.invokevirtual 157, 3) := by decide +kernel
theorem dL_law_1342 : decode eL_law.2.1 1342 = .ok (.if_icmp .eq 113, 3) := by decide +kernel
theorem dL_law_1345 : decode eL_law.2.1 1345 = .ok (.iconst 0, 1) := by decide +kernel
theorem dL_law_1346 : decode eL_law.2.1 1346 = .ok (.ireturn, 1) := by decide +kernel
theorem dL_law_1347 : decode eL_law.2.1 1347 = .ok (.aload_n 1, 1) := by decide +kernel
theorem dL_law_1348 : decode eL_law.2.1 1348 = .ok (.invokevirtual 158, 3) := by decide +kernel
theorem dL_law_1351 : decode eL_law.2.1 1351 = .ok (.aload_n 2, 1) := by decide +kernel
theorem dL_law_1352 : decode eL_law.2.1 1352 = .ok (.invokevirtual 161, 3) := by decide +kernel
theorem dL_law_1355 : decode eL_law.2.1 1355 = .ok (.if_icmp .eq 100, 3) := by decide +kernel
theorem dL_law_1358 : decode eL_law.2.1 1358 = .ok (.iconst 0, 1) := by decide +kernel
theorem dL_law_1359 : decode eL_law.2.1 1359 = .ok (.ireturn, 1) := by decide +kernel
theorem dL_law_1360 : decode eL_law.2.1 1360 = .ok (.aload_n 1, 1) := by decide +kernel
theorem dL_law_1361 : decode eL_law.2.1 1361 = .ok (.aload_n 0, 1) := by decide +kernel
theorem dL_law_1362 : decode eL_law.2.1 1362 = .ok (.iload_n 3, 1) := by decide +kernel
theorem dL_law_1363 : decode eL_law.2.1 1363 = .ok (.iconst 1, 1) := by decide +kernel
theorem dL_law_1364 : decode eL_law.2.1 1364 = .ok (.iadd, 1) := by decide +kernel
theorem dL_law_1365 : decode eL_law.2.1 1365 = .ok (.iaload, 1) := by decide +kernel
theorem dL_law_1366 : decode eL_law.2.1 1366 = .ok (.invokevirtual 162, 3) := by decide +kernel
theorem dL_law_1369 : decode eL_law.2.1 1369 = .ok (.aload_n 2, 1) := by decide +kernel
theorem dL_law_1370 : decode eL_law.2.1 1370 = .ok (.aload_n 0, 1) := by decide +kernel
theorem dL_law_1371 : decode eL_law.2.1 1371 = .ok (.iload_n 3, 1) := by decide +kernel
theorem dL_law_1372 : decode eL_law.2.1 1372 = .ok (.iconst 1, 1) := by decide +kernel
theorem dL_law_1373 : decode eL_law.2.1 1373 = .ok (.iadd, 1) := by decide +kernel
theorem dL_law_1374 : decode eL_law.2.1 1374 = .ok (.iaload, 1) := by decide +kernel
theorem dL_law_1375 : decode eL_law.2.1 1375 = .ok (.invokevirtual 165, 3) := by decide +kernel
theorem dL_law_1378 : decode eL_law.2.1 1378 = .ok (.if_icmp .eq 77, 3) := by decide +kernel
theorem dL_law_1381 : decode eL_law.2.1 1381 = .ok (.iconst 0, 1) := by decide +kernel
theorem dL_law_1382 : decode eL_law.2.1 1382 = .ok (.ireturn, 1) := by decide +kernel
theorem dL_law_1383 : decode eL_law.2.1 1383 = .ok (.aload_n 1, 1) := by decide +kernel
theorem dL_law_1384 : decode eL_law.2.1 1384 = .ok (.aload_n 0, 1) := by decide +kernel
theorem dL_law_1385 : decode eL_law.2.1 1385 = .ok (.iload_n 3, 1) := by decide +kernel
theorem dL_law_1386 : decode eL_law.2.1 1386 = .ok (.iconst 1, 1) := by decide +kernel
theorem dL_law_1387 : decode eL_law.2.1 1387 = .ok (.iadd, 1) := by decide +kernel
theorem dL_law_1388 : decode eL_law.2.1 1388 = .ok (.iaload, 1) := by decide +kernel
theorem dL_law_1389 : decode eL_law.2.1 1389 = .ok (.invokevirtual 166, 3) := by decide +kernel
theorem dL_law_1392 : decode eL_law.2.1 1392 = .ok (.aload_n 2, 1) := by decide +kernel
theorem dL_law_1393 : decode eL_law.2.1 1393 = .ok (.aload_n 0, 1) := by decide +kernel
theorem dL_law_1394 : decode eL_law.2.1 1394 = .ok (.iload_n 3, 1) := by decide +kernel
theorem dL_law_1395 : decode eL_law.2.1 1395 = .ok (.iconst 1, 1) := by decide +kernel
theorem dL_law_1396 : decode eL_law.2.1 1396 = .ok (.iadd, 1) := by decide +kernel
theorem dL_law_1397 : decode eL_law.2.1 1397 = .ok (.iaload, 1) := by decide +kernel
theorem dL_law_1398 : decode eL_law.2.1 1398 = .ok (.invokevirtual 169, 3) := by decide +kernel
theorem dL_law_1401 : decode eL_law.2.1 1401 = .ok (.if_icmp .eq 54, 3) := by decide +kernel
theorem dL_law_1404 : decode eL_law.2.1 1404 = .ok (.iconst 0, 1) := by decide +kernel
theorem dL_law_1405 : decode eL_law.2.1 1405 = .ok (.ireturn, 1) := by decide +kernel
theorem dL_law_1406 : decode eL_law.2.1 1406 = .ok (.aload_n 1, 1) := by decide +kernel
theorem dL_law_1407 : decode eL_law.2.1 1407 = .ok (.invokevirtual 170, 3) := by decide +kernel
theorem dL_law_1410 : decode eL_law.2.1 1410 = .ok (.aload_n 2, 1) := by decide +kernel
theorem dL_law_1411 : decode eL_law.2.1 1411 = .ok (.invokevirtual 173, 3) := by decide +kernel
theorem dL_law_1414 : decode eL_law.2.1 1414 = .ok (.if_icmp .eq 41, 3) := by decide +kernel
theorem dL_law_1417 : decode eL_law.2.1 1417 = .ok (.iconst 0, 1) := by decide +kernel
theorem dL_law_1418 : decode eL_law.2.1 1418 = .ok (.ireturn, 1) := by decide +kernel
theorem dL_law_1419 : decode eL_law.2.1 1419 = .ok (.aload_n 1, 1) := by decide +kernel
theorem dL_law_1420 : decode eL_law.2.1 1420 = .ok (.invokevirtual 174, 3) := by decide +kernel
theorem dL_law_1423 : decode eL_law.2.1 1423 = .ok (.aload_n 2, 1) := by decide +kernel
theorem dL_law_1424 : decode eL_law.2.1 1424 = .ok (.invokevirtual 177, 3) := by decide +kernel
theorem dL_law_1427 : decode eL_law.2.1 1427 = .ok (.if_icmp .eq 28, 3) := by decide +kernel
theorem dL_law_1430 : decode eL_law.2.1 1430 = .ok (.iconst 0, 1) := by decide +kernel
theorem dL_law_1431 : decode eL_law.2.1 1431 = .ok (.ireturn, 1) := by decide +kernel
theorem dL_law_1432 : decode eL_law.2.1 1432 = .ok (.aload_n 1, 1) := by decide +kernel
theorem dL_law_1433 : decode eL_law.2.1 1433 = .ok (.aload_n 0, 1) := by decide +kernel
theorem dL_law_1434 : decode eL_law.2.1 1434 = .ok (.iload_n 3, 1) := by decide +kernel
theorem dL_law_1435 : decode eL_law.2.1 1435 = .ok (.iconst 1, 1) := by decide +kernel
theorem dL_law_1436 : decode eL_law.2.1 1436 = .ok (.iadd, 1) := by decide +kernel
theorem dL_law_1437 : decode eL_law.2.1 1437 = .ok (.iaload, 1) := by decide +kernel
theorem dL_law_1438 : decode eL_law.2.1 1438 = .ok (.invokevirtual 178, 3) := by decide +kernel
theorem dL_law_1441 : decode eL_law.2.1 1441 = .ok (.aload_n 2, 1) := by decide +kernel
theorem dL_law_1442 : decode eL_law.2.1 1442 = .ok (.aload_n 0, 1) := by decide +kernel
theorem dL_law_1443 : decode eL_law.2.1 1443 = .ok (.iload_n 3, 1) := by decide +kernel
theorem dL_law_1444 : decode eL_law.2.1 1444 = .ok (.iconst 1, 1) := by decide +kernel
theorem dL_law_1445 : decode eL_law.2.1 1445 = .ok (.iadd, 1) := by decide +kernel
theorem dL_law_1446 : decode eL_law.2.1 1446 = .ok (.iaload, 1) := by decide +kernel
theorem dL_law_1447 : decode eL_law.2.1 1447 = .ok (.invokevirtual 181, 3) := by decide +kernel
theorem dL_law_1450 : decode eL_law.2.1 1450 = .ok (.if_icmp .eq 5, 3) := by decide +kernel
theorem dL_law_1453 : decode eL_law.2.1 1453 = .ok (.iconst 0, 1) := by decide +kernel
theorem dL_law_1454 : decode eL_law.2.1 1454 = .ok (.ireturn, 1) := by decide +kernel
theorem dL_law_1455 : decode eL_law.2.1 1455 = .ok (.iinc 3 6, 3) := by decide +kernel
theorem dL_law_1458 : decode eL_law.2.1 1458 = .ok (.goto (-1440), 3) := by decide +kernel
theorem dL_law_1461 : decode eL_law.2.1 1461 = .ok (.iconst 1, 1) := by decide +kernel
theorem dL_law_1462 : decode eL_law.2.1 1462 = .ok (.ireturn, 1) := by decide +kernel
