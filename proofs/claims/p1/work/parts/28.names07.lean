theorem dX14_frame_0 : decode cX14_frame 0 = .ok (.aload_n 0, 1) := by decide +kernel
theorem dX14_frame_1 : decode cX14_frame 1 = .ok (.iconst 0, 1) := by decide +kernel
theorem dX14_frame_2 : decode cX14_frame 2 = .ok (.putfield 61, 3) := by decide +kernel
theorem dX14_frame_5 : decode cX14_frame 5 = .ok (.aload_n 0, 1) := by decide +kernel
theorem dX14_frame_6 : decode cX14_frame 6 = .ok (.dup, 1) := by decide +kernel
theorem dX14_frame_7 : decode cX14_frame 7 = .ok (.getfield 205, 3) := by decide +kernel
theorem dX14_frame_10 : decode cX14_frame 10 = .ok (.iconst 1, 1) := by decide +kernel
theorem dX14_frame_11 : decode cX14_frame 11 = .ok (.iadd, 1) := by decide +kernel
theorem dX14_frame_12 : decode cX14_frame 12 = .ok (.putfield 205, 3) := by decide +kernel
theorem dX14_frame_15 : decode cX14_frame 15 = .ok (.aload_n 0, 1) := by decide +kernel
theorem dX14_frame_16 : decode cX14_frame 16 = .ok (.bipush 100, 2) := by decide +kernel
theorem dX14_frame_18 : decode cX14_frame 18 = .ok (.putfield 42, 3) := by decide +kernel
theorem dX14_frame_21 : decode cX14_frame 21 = .ok (.iconst 0, 1) := by decide +kernel
theorem dX14_frame_22 : decode cX14_frame 22 = .ok (.istore_n 1, 1) := by decide +kernel
theorem dX14_frame_23 : decode cX14_frame 23 = .ok (.iload_n 1, 1) := by decide +kernel
theorem dX14_frame_24 : decode cX14_frame 24 = .ok (.bipush 16, 2) := by decide +kernel
theorem dX14_frame_26 : decode cX14_frame 26 = .ok (.if_icmp .ge 17, 3) := by decide +kernel
theorem dX14_frame_29 : decode cX14_frame 29 = .ok (.aload_n 0, 1) := by decide +kernel
theorem dX14_frame_30 : decode cX14_frame 30 = .ok (.getfield 45, 3) := by decide +kernel
theorem dX14_frame_33 : decode cX14_frame 33 = .ok (.iload_n 1, 1) := by decide +kernel
theorem dX14_frame_34 : decode cX14_frame 34 = .ok (.bipush 60, 2) := by decide +kernel
theorem dX14_frame_36 : decode cX14_frame 36 = .ok (.iastore, 1) := by decide +kernel
theorem dX14_frame_37 : decode cX14_frame 37 = .ok (.iinc 1 1, 3) := by decide +kernel
theorem dX14_frame_40 : decode cX14_frame 40 = .ok (.goto (-17), 3) := by decide +kernel
theorem dX14_frame_43 : decode cX14_frame 43 = .ok (.iconst 1, 1) := by decide +kernel
theorem dX14_frame_44 : decode cX14_frame 44 = .ok (.istore_n 1, 1) := by decide +kernel
theorem dX14_frame_45 : decode cX14_frame 45 = .ok (.iload_n 1, 1) := by decide +kernel
theorem dX14_frame_46 : decode cX14_frame 46 = .ok (.aload_n 0, 1) := by decide +kernel
theorem dX14_frame_47 : decode cX14_frame 47 = .ok (.getfield 10, 3) := by decide +kernel
theorem dX14_frame_50 : decode cX14_frame 50 = .ok (.invokevirtual 64, 3) := by decide +kernel
theorem dX14_frame_53 : decode cX14_frame 53 = .ok (.if_icmp .ge 54, 3) := by decide +kernel
theorem dX14_frame_107 : decode cX14_frame 107 = .ok (.iconst 0, 1) := by decide +kernel
theorem dX14_frame_108 : decode cX14_frame 108 = .ok (.istore_n 1, 1) := by decide +kernel
theorem dX14_frame_109 : decode cX14_frame 109 = .ok (.iconst 0, 1) := by decide +kernel
theorem dX14_frame_110 : decode cX14_frame 110 = .ok (.istore_n 2, 1) := by decide +kernel
theorem dX14_frame_111 : decode cX14_frame 111 = .ok (.iload_n 2, 1) := by decide +kernel
theorem dX14_frame_112 : decode cX14_frame 112 = .ok (.bipush 12, 2) := by decide +kernel
theorem dX14_frame_114 : decode cX14_frame 114 = .ok (.if_icmp .ge 71, 3) := by decide +kernel
theorem dX14_frame_117 : decode cX14_frame 117 = .ok (.aload_n 0, 1) := by decide +kernel
theorem dX14_frame_118 : decode cX14_frame 118 = .ok (.getfield 18, 3) := by decide +kernel
theorem dX14_frame_121 : decode cX14_frame 121 = .ok (.iload_n 2, 1) := by decide +kernel
theorem dX14_frame_122 : decode cX14_frame 122 = .ok (.aaload, 1) := by decide +kernel
theorem dX14_frame_123 : decode cX14_frame 123 = .ok (.astore_n 3, 1) := by decide +kernel
theorem dX14_frame_124 : decode cX14_frame 124 = .ok (.aload_n 3, 1) := by decide +kernel
theorem dX14_frame_125 : decode cX14_frame 125 = .ok (.ifnull 30, 3) := by decide +kernel
theorem dX14_frame_155 : decode cX14_frame 155 = .ok (.iconst 0, 1) := by decide +kernel
theorem dX14_frame_156 : decode cX14_frame 156 = .ok (.istore 4, 2) := by decide +kernel
theorem dX14_frame_158 : decode cX14_frame 158 = .ok (.iload_n 1, 1) := by decide +kernel
theorem dX14_frame_159 : decode cX14_frame 159 = .ok (.iload 4, 2) := by decide +kernel
theorem dX14_frame_161 : decode cX14_frame 161 = .ok (.ifCond .eq 15, 3) := by decide +kernel
theorem dX14_frame_176 : decode cX14_frame 176 = .ok (.iconst 0, 1) := by decide +kernel
theorem dX14_frame_177 : decode cX14_frame 177 = .ok (.iadd, 1) := by decide +kernel
theorem dX14_frame_178 : decode cX14_frame 178 = .ok (.istore_n 1, 1) := by decide +kernel
theorem dX14_frame_179 : decode cX14_frame 179 = .ok (.iinc 2 1, 3) := by decide +kernel
theorem dX14_frame_182 : decode cX14_frame 182 = .ok (.goto (-71), 3) := by decide +kernel
theorem dX14_frame_185 : decode cX14_frame 185 = .ok (.iload_n 1, 1) := by decide +kernel
theorem dX14_frame_186 : decode cX14_frame 186 = .ok (.aload_n 0, 1) := by decide +kernel
theorem dX14_frame_187 : decode cX14_frame 187 = .ok (.invokevirtual 400, 3) := by decide +kernel
theorem dX14_frame_190 : decode cX14_frame 190 = .ok (.iadd, 1) := by decide +kernel
theorem dX14_frame_191 : decode cX14_frame 191 = .ok (.ireturn, 1) := by decide +kernel
theorem dX14_bulk_0 : decode cX14_bulk 0 = .ok (.iconst 0, 1) := by decide +kernel
theorem dX14_bulk_1 : decode cX14_bulk 1 = .ok (.istore_n 1, 1) := by decide +kernel
theorem dX14_bulk_2 : decode cX14_bulk 2 = .ok (.iconst 0, 1) := by decide +kernel
theorem dX14_bulk_3 : decode cX14_bulk 3 = .ok (.istore_n 2, 1) := by decide +kernel
theorem dX14_bulk_4 : decode cX14_bulk 4 = .ok (.iconst 0, 1) := by decide +kernel
theorem dX14_bulk_5 : decode cX14_bulk 5 = .ok (.istore_n 3, 1) := by decide +kernel
theorem dX14_bulk_6 : decode cX14_bulk 6 = .ok (.aload_n 0, 1) := by decide +kernel
theorem dX14_bulk_7 : decode cX14_bulk 7 = .ok (.getfield 38, 3) := by decide +kernel
theorem dX14_bulk_10 : decode cX14_bulk 10 = .ok (.istore 4, 2) := by decide +kernel
theorem dX14_bulk_12 : decode cX14_bulk 12 = .ok (.iload_n 3, 1) := by decide +kernel
theorem dX14_bulk_13 : decode cX14_bulk 13 = .ok (.bipush 12, 2) := by decide +kernel
theorem dX14_bulk_15 : decode cX14_bulk 15 = .ok (.if_icmp .ge 132, 3) := by decide +kernel
theorem dX14_bulk_18 : decode cX14_bulk 18 = .ok (.iload 4, 2) := by decide +kernel
theorem dX14_bulk_20 : decode cX14_bulk 20 = .ok (.iconst 1, 1) := by decide +kernel
theorem dX14_bulk_21 : decode cX14_bulk 21 = .ok (.iadd, 1) := by decide +kernel
theorem dX14_bulk_22 : decode cX14_bulk 22 = .ok (.bipush 12, 2) := by decide +kernel
theorem dX14_bulk_24 : decode cX14_bulk 24 = .ok (.irem, 1) := by decide +kernel
theorem dX14_bulk_25 : decode cX14_bulk 25 = .ok (.istore 4, 2) := by decide +kernel
theorem dX14_bulk_27 : decode cX14_bulk 27 = .ok (.aload_n 0, 1) := by decide +kernel
theorem dX14_bulk_28 : decode cX14_bulk 28 = .ok (.getfield 18, 3) := by decide +kernel
theorem dX14_bulk_31 : decode cX14_bulk 31 = .ok (.iload 4, 2) := by decide +kernel
theorem dX14_bulk_33 : decode cX14_bulk 33 = .ok (.aaload, 1) := by decide +kernel
theorem dX14_bulk_34 : decode cX14_bulk 34 = .ok (.ifnull 29, 3) := by decide +kernel
theorem dX14_bulk_63 : decode cX14_bulk 63 = .ok (.iconst 0, 1) := by decide +kernel
theorem dX14_bulk_64 : decode cX14_bulk 64 = .ok (.istore 5, 2) := by decide +kernel
theorem dX14_bulk_66 : decode cX14_bulk 66 = .ok (.iload 5, 2) := by decide +kernel
theorem dX14_bulk_68 : decode cX14_bulk 68 = .ok (.ifCond .eq 12, 3) := by decide +kernel
theorem dX14_bulk_80 : decode cX14_bulk 80 = .ok (.iconst 0, 1) := by decide +kernel
theorem dX14_bulk_81 : decode cX14_bulk 81 = .ok (.istore 6, 2) := by decide +kernel
theorem dX14_bulk_83 : decode cX14_bulk 83 = .ok (.iload_n 1, 1) := by decide +kernel
theorem dX14_bulk_84 : decode cX14_bulk 84 = .ok (.iload 6, 2) := by decide +kernel
theorem dX14_bulk_86 : decode cX14_bulk 86 = .ok (.iconst 2, 1) := by decide +kernel
theorem dX14_bulk_87 : decode cX14_bulk 87 = .ok (.if_icmp .ne 10, 3) := by decide +kernel
theorem dX14_bulk_97 : decode cX14_bulk 97 = .ok (.iconst 0, 1) := by decide +kernel
theorem dX14_bulk_98 : decode cX14_bulk 98 = .ok (.ior, 1) := by decide +kernel
theorem dX14_bulk_99 : decode cX14_bulk 99 = .ok (.istore_n 1, 1) := by decide +kernel
theorem dX14_bulk_100 : decode cX14_bulk 100 = .ok (.iload_n 2, 1) := by decide +kernel
theorem dX14_bulk_101 : decode cX14_bulk 101 = .ok (.iload 6, 2) := by decide +kernel
theorem dX14_bulk_103 : decode cX14_bulk 103 = .ok (.ifCond .le 7, 3) := by decide +kernel
theorem dX14_bulk_110 : decode cX14_bulk 110 = .ok (.iconst 0, 1) := by decide +kernel
theorem dX14_bulk_111 : decode cX14_bulk 111 = .ok (.iadd, 1) := by decide +kernel
theorem dX14_bulk_112 : decode cX14_bulk 112 = .ok (.istore_n 2, 1) := by decide +kernel
theorem dX14_bulk_113 : decode cX14_bulk 113 = .ok (.aload_n 0, 1) := by decide +kernel
theorem dX14_bulk_114 : decode cX14_bulk 114 = .ok (.iload 6, 2) := by decide +kernel
theorem dX14_bulk_116 : decode cX14_bulk 116 = .ok (.ifCond .le 8, 3) := by decide +kernel
theorem dX14_bulk_124 : decode cX14_bulk 124 = .ok (.aload_n 0, 1) := by decide +kernel
theorem dX14_bulk_125 : decode cX14_bulk 125 = .ok (.getfield 38, 3) := by decide +kernel
theorem dX14_bulk_128 : decode cX14_bulk 128 = .ok (.putfield 38, 3) := by decide +kernel
theorem dX14_bulk_131 : decode cX14_bulk 131 = .ok (.iload 6, 2) := by decide +kernel
theorem dX14_bulk_133 : decode cX14_bulk 133 = .ok (.ifCond .le 7, 3) := by decide +kernel
theorem dX14_bulk_140 : decode cX14_bulk 140 = .ok (.iload_n 3, 1) := by decide +kernel
theorem dX14_bulk_141 : decode cX14_bulk 141 = .ok (.iconst 1, 1) := by decide +kernel
theorem dX14_bulk_142 : decode cX14_bulk 142 = .ok (.iadd, 1) := by decide +kernel
theorem dX14_bulk_143 : decode cX14_bulk 143 = .ok (.istore_n 3, 1) := by decide +kernel
theorem dX14_bulk_144 : decode cX14_bulk 144 = .ok (.goto (-132), 3) := by decide +kernel
theorem dX14_bulk_147 : decode cX14_bulk 147 = .ok (.iload_n 2, 1) := by decide +kernel
theorem dX14_bulk_148 : decode cX14_bulk 148 = .ok (.ireturn, 1) := by decide +kernel
theorem dX14_frames_0 : decode cX14_frames 0 = .ok (.aload_n 0, 1) := by decide +kernel
theorem dX14_frames_1 : decode cX14_frames 1 = .ok (.iconst 0, 1) := by decide +kernel
theorem dX14_frames_2 : decode cX14_frames 2 = .ok (.putfield 61, 3) := by decide +kernel
theorem dX14_frames_5 : decode cX14_frames 5 = .ok (.aload_n 0, 1) := by decide +kernel
theorem dX14_frames_6 : decode cX14_frames 6 = .ok (.getfield 205, 3) := by decide +kernel
theorem dX14_frames_9 : decode cX14_frames 9 = .ok (.ireturn, 1) := by decide +kernel
set_option maxRecDepth 20000 in
theorem ggX14_left_X14_isDevice : GoodIn wsX14_left wsX14_isDevice := goodIn_r _ [9, 10, 11, 12, 13, 14, 15, 16, 17, 18, 8, 19, 20, 21, 22, 23, 24, 25, 26, 27, 28, 29, 30, 31, 32, 33, 34, 35, 36, 37, 38, 39, 40, 41] (by decide +kernel) (by decide +kernel)
set_option maxRecDepth 20000 in
theorem gX14_left_X14_isDevice : GoodIn wsX14_left (wsV RX14 72 RX14 yX14_isDevice wsX14_isDevice) := goodIn_app (goodIn_of _ (by decide +kernel)) ggX14_left_X14_isDevice
theorem dX14_left_0 : decode cX14_left 0 = .ok (.aload_n 0, 1) := by decide +kernel
theorem dX14_left_1 : decode cX14_left 1 = .ok (.iload_n 1, 1) := by decide +kernel
theorem dX14_left_2 : decode cX14_left 2 = .ok (.iconst (-1), 1) := by decide +kernel
theorem dX14_left_3 : decode cX14_left 3 = .ok (.if_icmp .eq 15, 3) := by decide +kernel
theorem dX14_left_6 : decode cX14_left 6 = .ok (.aload_n 0, 1) := by decide +kernel
theorem dX14_left_7 : decode cX14_left 7 = .ok (.iload_n 1, 1) := by decide +kernel
theorem dX14_left_8 : decode cX14_left 8 = .ok (.invokevirtual 72, 3) := by decide +kernel
theorem dX14_left_11 : decode cX14_left 11 = .ok (.ifCond .ne 7, 3) := by decide +kernel
theorem dX14_left_14 : decode cX14_left 14 = .ok (.iconst 1, 1) := by decide +kernel
theorem dX14_left_15 : decode cX14_left 15 = .ok (.goto 15, 3) := by decide +kernel
theorem dX14_left_18 : decode cX14_left 18 = .ok (.aload_n 0, 1) := by decide +kernel
theorem dX14_left_19 : decode cX14_left 19 = .ok (.getfield 205, 3) := by decide +kernel
theorem dX14_left_22 : decode cX14_left 22 = .ok (.ifCond .ne 7, 3) := by decide +kernel
theorem dX14_left_25 : decode cX14_left 25 = .ok (.iconst 2, 1) := by decide +kernel
theorem dX14_left_26 : decode cX14_left 26 = .ok (.goto 4, 3) := by decide +kernel
theorem dX14_left_30 : decode cX14_left 30 = .ok (.putfield 61, 3) := by decide +kernel
theorem dX14_left_33 : decode cX14_left 33 = .ok (.aload_n 0, 1) := by decide +kernel
theorem dX14_left_34 : decode cX14_left 34 = .ok (.getfield 61, 3) := by decide +kernel
theorem dX14_left_37 : decode cX14_left 37 = .ok (.ifCond .le 7, 3) := by decide +kernel
theorem dX14_left_40 : decode cX14_left 40 = .ok (.iconst 0, 1) := by decide +kernel
theorem dX14_left_41 : decode cX14_left 41 = .ok (.goto 21, 3) := by decide +kernel
theorem dX14_left_62 : decode cX14_left 62 = .ok (.ireturn, 1) := by decide +kernel
set_option maxRecDepth 20000 in
theorem ggX14_events_Jx4a65c_size_8abf5 : GoodIn wsX14_events wsJx4a65c_size_8abf5 := goodIn_r _ [7, 8, 28, 29, 30] (by decide +kernel) (by decide +kernel)
set_option maxRecDepth 20000 in
theorem gX14_events_Jx4a65c_size_8abf5 : GoodIn wsX14_events (wsV RX14 64 RJx4a65c yJx4a65c_size_8abf5 wsJx4a65c_size_8abf5) := goodIn_app (goodIn_of _ (by decide +kernel)) ggX14_events_Jx4a65c_size_8abf5
theorem dX14_events_0 : decode cX14_events 0 = .ok (.aload_n 0, 1) := by decide +kernel
theorem dX14_events_1 : decode cX14_events 1 = .ok (.iconst 0, 1) := by decide +kernel
theorem dX14_events_2 : decode cX14_events 2 = .ok (.putfield 61, 3) := by decide +kernel
theorem dX14_events_5 : decode cX14_events 5 = .ok (.aload_n 0, 1) := by decide +kernel
theorem dX14_events_6 : decode cX14_events 6 = .ok (.getfield 28, 3) := by decide +kernel
theorem dX14_events_9 : decode cX14_events 9 = .ok (.invokevirtual 64, 3) := by decide +kernel
theorem dX14_events_12 : decode cX14_events 12 = .ok (.ireturn, 1) := by decide +kernel
set_option maxRecDepth 20000 in
theorem ggX14_event_Jx4a65c_isEmpty_aae02 : GoodIn wsX14_event wsJx4a65c_isEmpty_aae02 := goodIn_r _ [9, 10, 53, 54, 55] (by decide +kernel) (by decide +kernel)
set_option maxRecDepth 20000 in
theorem gX14_event_Jx4a65c_isEmpty_aae02 : GoodIn wsX14_event (wsV RX14 202 RJx4a65c yJx4a65c_isEmpty_aae02 wsJx4a65c_isEmpty_aae02) := goodIn_app (goodIn_of _ (by decide +kernel)) ggX14_event_Jx4a65c_isEmpty_aae02
theorem dX14_event_0 : decode cX14_event 0 = .ok (.aload_n 0, 1) := by decide +kernel
theorem dX14_event_1 : decode cX14_event 1 = .ok (.aload_n 0, 1) := by decide +kernel
theorem dX14_event_2 : decode cX14_event 2 = .ok (.getfield 28, 3) := by decide +kernel
theorem dX14_event_5 : decode cX14_event 5 = .ok (.invokevirtual 202, 3) := by decide +kernel
theorem dX14_event_8 : decode cX14_event 8 = .ok (.ifCond .eq 7, 3) := by decide +kernel
theorem dX14_event_11 : decode cX14_event 11 = .ok (.iconst 1, 1) := by decide +kernel
theorem dX14_event_12 : decode cX14_event 12 = .ok (.goto 4, 3) := by decide +kernel
theorem dX14_event_16 : decode cX14_event 16 = .ok (.putfield 61, 3) := by decide +kernel
theorem dX14_event_19 : decode cX14_event 19 = .ok (.aload_n 0, 1) := by decide +kernel
theorem dX14_event_20 : decode cX14_event 20 = .ok (.getfield 61, 3) := by decide +kernel
theorem dX14_event_23 : decode cX14_event 23 = .ok (.ifCond .le 6, 3) := by decide +kernel
theorem dX14_event_26 : decode cX14_event 26 = .ok (.bipush 32, 2) := by decide +kernel
theorem dX14_event_28 : decode cX14_event 28 = .ok (.ireturn, 1) := by decide +kernel
theorem dX14_eventPipe_0 : decode cX14_eventPipe 0 = .ok (.aload_n 0, 1) := by decide +kernel
theorem dX14_eventPipe_1 : decode cX14_eventPipe 1 = .ok (.aload_n 0, 1) := by decide +kernel
theorem dX14_eventPipe_2 : decode cX14_eventPipe 2 = .ok (.getfield 31, 3) := by decide +kernel
theorem dX14_eventPipe_5 : decode cX14_eventPipe 5 = .ok (.arraylength, 1) := by decide +kernel
theorem dX14_eventPipe_6 : decode cX14_eventPipe 6 = .ok (.ifCond .ne 7, 3) := by decide +kernel
theorem dX14_eventPipe_9 : decode cX14_eventPipe 9 = .ok (.iconst 1, 1) := by decide +kernel
theorem dX14_eventPipe_10 : decode cX14_eventPipe 10 = .ok (.goto 4, 3) := by decide +kernel
theorem dX14_eventPipe_14 : decode cX14_eventPipe 14 = .ok (.putfield 61, 3) := by decide +kernel
theorem dX14_eventPipe_17 : decode cX14_eventPipe 17 = .ok (.aload_n 0, 1) := by decide +kernel
theorem dX14_eventPipe_18 : decode cX14_eventPipe 18 = .ok (.getfield 61, 3) := by decide +kernel
theorem dX14_eventPipe_21 : decode cX14_eventPipe 21 = .ok (.ifCond .le 7, 3) := by decide +kernel
theorem dX14_eventPipe_24 : decode cX14_eventPipe 24 = .ok (.iconst 0, 1) := by decide +kernel
theorem dX14_eventPipe_25 : decode cX14_eventPipe 25 = .ok (.goto 9, 3) := by decide +kernel
theorem dX14_eventPipe_34 : decode cX14_eventPipe 34 = .ok (.ireturn, 1) := by decide +kernel
theorem dX14_eventBytes_0 : decode cX14_eventBytes 0 = .ok (.aload_n 0, 1) := by decide +kernel
theorem dX14_eventBytes_1 : decode cX14_eventBytes 1 = .ok (.aload_n 0, 1) := by decide +kernel
theorem dX14_eventBytes_2 : decode cX14_eventBytes 2 = .ok (.getfield 31, 3) := by decide +kernel
theorem dX14_eventBytes_5 : decode cX14_eventBytes 5 = .ok (.arraylength, 1) := by decide +kernel
theorem dX14_eventBytes_6 : decode cX14_eventBytes 6 = .ok (.ifCond .ne 7, 3) := by decide +kernel
theorem dX14_eventBytes_9 : decode cX14_eventBytes 9 = .ok (.iconst 1, 1) := by decide +kernel
theorem dX14_eventBytes_10 : decode cX14_eventBytes 10 = .ok (.goto 4, 3) := by decide +kernel
theorem dX14_eventBytes_14 : decode cX14_eventBytes 14 = .ok (.putfield 61, 3) := by decide +kernel
theorem dX14_eventBytes_17 : decode cX14_eventBytes 17 = .ok (.aload_n 0, 1) := by decide +kernel
theorem dX14_eventBytes_18 : decode cX14_eventBytes 18 = .ok (.getfield 61, 3) := by decide +kernel
theorem dX14_eventBytes_21 : decode cX14_eventBytes 21 = .ok (.ifCond .le 7, 3) := by decide +kernel
theorem dX14_eventBytes_24 : decode cX14_eventBytes 24 = .ok (.iconst 0, 1) := by decide +kernel
theorem dX14_eventBytes_25 : decode cX14_eventBytes 25 = .ok (.goto 9, 3) := by decide +kernel
theorem dX14_eventBytes_34 : decode cX14_eventBytes 34 = .ok (.ireturn, 1) := by decide +kernel
theorem dX14_missed_0 : decode cX14_missed 0 = .ok (.aload_n 0, 1) := by decide +kernel
theorem dX14_missed_1 : decode cX14_missed 1 = .ok (.iconst 0, 1) := by decide +kernel
theorem dX14_missed_2 : decode cX14_missed 2 = .ok (.putfield 61, 3) := by decide +kernel
theorem dX14_missed_5 : decode cX14_missed 5 = .ok (.aload_n 0, 1) := by decide +kernel
theorem dX14_missed_6 : decode cX14_missed 6 = .ok (.getfield 287, 3) := by decide +kernel
theorem dX14_missed_9 : decode cX14_missed 9 = .ok (.ireturn, 1) := by decide +kernel
set_option maxRecDepth 20000 in
theorem ggX14_noEnd_X14_isEnd : GoodIn wsX14_noEnd wsX14_isEnd := goodIn_r _ [8, 1, 2, 9, 10, 11, 7, 12, 13, 14, 15, 16, 17, 18, 19, 20, 21, 22, 23, 24, 25, 26, 27, 28, 29, 30, 31, 32, 33, 34, 35, 36, 37, 38, 39, 40, 41, 42, 43, 44, 45, 46, 47, 48, 49, 50, 51, 52, 53, 54, 55, 56, 57, 58, 59, 60, 61, 62, 63, 64, 65, 66, 67, 68, 69, 70, 71, 72, 73, 79, 80, 81] (by decide +kernel) (by decide +kernel)
set_option maxRecDepth 20000 in
theorem gX14_noEnd_X14_isEnd : GoodIn wsX14_noEnd (wsV RX14 256 RX14 yX14_isEnd wsX14_isEnd) := goodIn_app (goodIn_of _ (by decide +kernel)) ggX14_noEnd_X14_isEnd
theorem dX14_noEnd_0 : decode cX14_noEnd 0 = .ok (.aload_n 0, 1) := by decide +kernel
theorem dX14_noEnd_1 : decode cX14_noEnd 1 = .ok (.aload_n 0, 1) := by decide +kernel
theorem dX14_noEnd_2 : decode cX14_noEnd 2 = .ok (.iload_n 1, 1) := by decide +kernel
theorem dX14_noEnd_3 : decode cX14_noEnd 3 = .ok (.iload_n 2, 1) := by decide +kernel
theorem dX14_noEnd_4 : decode cX14_noEnd 4 = .ok (.invokevirtual 256, 3) := by decide +kernel
theorem dX14_noEnd_7 : decode cX14_noEnd 7 = .ok (.ifCond .ne 7, 3) := by decide +kernel
theorem dX14_noEnd_10 : decode cX14_noEnd 10 = .ok (.iconst 1, 1) := by decide +kernel
theorem dX14_noEnd_11 : decode cX14_noEnd 11 = .ok (.goto 31, 3) := by decide +kernel
theorem dX14_noEnd_42 : decode cX14_noEnd 42 = .ok (.putfield 61, 3) := by decide +kernel
theorem dX14_noEnd_45 : decode cX14_noEnd 45 = .ok (.aload_n 0, 1) := by decide +kernel
theorem dX14_noEnd_46 : decode cX14_noEnd 46 = .ok (.getfield 61, 3) := by decide +kernel
theorem dX14_noEnd_49 : decode cX14_noEnd 49 = .ok (.ifCond .le 7, 3) := by decide +kernel
theorem dX14_noEnd_52 : decode cX14_noEnd 52 = .ok (.iconst 1, 1) := by decide +kernel
theorem dX14_noEnd_53 : decode cX14_noEnd 53 = .ok (.goto 4, 3) := by decide +kernel
theorem dX14_noEnd_57 : decode cX14_noEnd 57 = .ok (.ireturn, 1) := by decide +kernel
set_option maxRecDepth 20000 in
theorem ggX14_taken__X14_noEnd : GoodIn wsX14_taken_ wsX14_noEnd := goodIn_r _ [7, 1, 2, 8, 9, 10, 11, 6, 12, 13, 14, 15, 16, 17, 18, 19, 20, 21, 22, 23, 24, 25, 26, 27, 28, 29, 30, 31, 32, 33, 34, 35, 36, 37, 38, 39, 40, 41, 42, 43, 44, 45, 46, 47, 48, 49, 50, 51, 52, 53, 54, 55, 56, 57, 58, 59, 60, 61, 62, 63, 64, 65, 66, 67, 68, 69, 70, 71, 72, 73, 74, 75, 76, 77, 78, 79, 80, 81, 82, 83, 84, 85] (by decide +kernel) (by decide +kernel)
set_option maxRecDepth 20000 in
theorem gX14_taken__X14_noEnd : GoodIn wsX14_taken_ (wsV RX14 403 RX14 yX14_noEnd wsX14_noEnd) := goodIn_app (goodIn_of _ (by decide +kernel)) ggX14_taken__X14_noEnd
theorem dX14_taken__0 : decode cX14_taken_ 0 = .ok (.aload_n 0, 1) := by decide +kernel
theorem dX14_taken__1 : decode cX14_taken_ 1 = .ok (.iload_n 1, 1) := by decide +kernel
theorem dX14_taken__2 : decode cX14_taken_ 2 = .ok (.iload_n 2, 1) := by decide +kernel
theorem dX14_taken__3 : decode cX14_taken_ 3 = .ok (.iconst 0, 1) := by decide +kernel
theorem dX14_taken__4 : decode cX14_taken_ 4 = .ok (.invokevirtual 403, 3) := by decide +kernel
theorem dX14_taken__7 : decode cX14_taken_ 7 = .ok (.ifCond .eq 7, 3) := by decide +kernel
theorem dX14_taken__10 : decode cX14_taken_ 10 = .ok (.iconst 0, 1) := by decide +kernel
theorem dX14_taken__11 : decode cX14_taken_ 11 = .ok (.goto 25, 3) := by decide +kernel
theorem dX14_taken__36 : decode cX14_taken_ 36 = .ok (.ireturn, 1) := by decide +kernel
set_option maxRecDepth 20000 in
theorem ggX14_lastOf_Jx4a65c_size_8abf5 : GoodIn wsX14_lastOf wsJx4a65c_size_8abf5 := goodIn_r _ [11, 12, 59, 60, 61] (by decide +kernel) (by decide +kernel)
set_option maxRecDepth 20000 in
theorem gX14_lastOf_Jx4a65c_size_8abf5 : GoodIn wsX14_lastOf (wsV RX14 64 RJx4a65c yJx4a65c_size_8abf5 wsJx4a65c_size_8abf5) := goodIn_app (goodIn_of _ (by decide +kernel)) ggX14_lastOf_Jx4a65c_size_8abf5
set_option maxRecDepth 20000 in
theorem ggX14_lastOf_X14_in : GoodIn wsX14_lastOf wsX14_in := goodIn_r _ [16] (by decide +kernel) (by decide +kernel)
set_option maxRecDepth 20000 in
theorem gX14_lastOf_X14_in : GoodIn wsX14_lastOf (va_wsS RX14 68 yX14_in wsX14_in) := goodIn_app (goodIn_of _ (by decide +kernel)) ggX14_lastOf_X14_in
theorem dX14_lastOf_0 : decode cX14_lastOf 0 = .ok (.aload_n 0, 1) := by decide +kernel
theorem dX14_lastOf_1 : decode cX14_lastOf 1 = .ok (.iload_n 2, 1) := by decide +kernel
theorem dX14_lastOf_2 : decode cX14_lastOf 2 = .ok (.iconst 0, 1) := by decide +kernel
theorem dX14_lastOf_3 : decode cX14_lastOf 3 = .ok (.bipush 32, 2) := by decide +kernel
theorem dX14_lastOf_5 : decode cX14_lastOf 5 = .ok (.aload_n 1, 1) := by decide +kernel
theorem dX14_lastOf_6 : decode cX14_lastOf 6 = .ok (.invokevirtual 64, 3) := by decide +kernel
theorem dX14_lastOf_9 : decode cX14_lastOf 9 = .ok (.invokestatic 341, 3) := by decide +kernel
theorem dX14_lastOf_12 : decode cX14_lastOf 12 = .ok (.iconst 1, 1) := by decide +kernel
theorem dX14_lastOf_13 : decode cX14_lastOf 13 = .ok (.isub, 1) := by decide +kernel
theorem dX14_lastOf_14 : decode cX14_lastOf 14 = .ok (.invokestatic 68, 3) := by decide +kernel
theorem dX14_lastOf_17 : decode cX14_lastOf 17 = .ok (.ifCond .eq 7, 3) := by decide +kernel
theorem dX14_lastOf_24 : decode cX14_lastOf 24 = .ok (.iload_n 3, 1) := by decide +kernel
theorem dX14_lastOf_25 : decode cX14_lastOf 25 = .ok (.putfield 61, 3) := by decide +kernel
theorem dX14_lastOf_28 : decode cX14_lastOf 28 = .ok (.aload_n 0, 1) := by decide +kernel
theorem dX14_lastOf_29 : decode cX14_lastOf 29 = .ok (.getfield 61, 3) := by decide +kernel
theorem dX14_lastOf_32 : decode cX14_lastOf 32 = .ok (.ifCond .le 7, 3) := by decide +kernel
theorem dX14_lastOf_35 : decode cX14_lastOf 35 = .ok (.iconst 0, 1) := by decide +kernel
theorem dX14_lastOf_36 : decode cX14_lastOf 36 = .ok (.goto 21, 3) := by decide +kernel
theorem dX14_lastOf_57 : decode cX14_lastOf 57 = .ok (.ireturn, 1) := by decide +kernel
set_option maxRecDepth 20000 in
theorem ggX14_takenAt_X14_noEnd : GoodIn wsX14_takenAt wsX14_noEnd := goodIn_r _ [7, 1, 2, 8, 9, 10, 11, 6, 12, 13, 14, 15, 16, 17, 18, 19, 20, 21, 22, 23, 24, 25, 26, 27, 28, 29, 30, 31, 32, 33, 34, 35, 36, 37, 38, 39, 40, 41, 42, 58, 59, 60, 61, 62, 63, 64, 65, 66, 67, 68, 69, 70, 71, 72, 73, 74, 75, 76, 77, 78, 79, 80, 81, 82, 83, 84, 85, 86, 87, 88, 89, 90, 91, 92, 93, 94, 95, 96, 97, 98, 99, 100] (by decide +kernel) (by decide +kernel)
set_option maxRecDepth 20000 in
theorem gX14_takenAt_X14_noEnd : GoodIn wsX14_takenAt (wsV RX14 403 RX14 yX14_noEnd wsX14_noEnd) := goodIn_app (goodIn_of _ (by decide +kernel)) ggX14_takenAt_X14_noEnd
theorem dX14_takenAt_0 : decode cX14_takenAt 0 = .ok (.aload_n 0, 1) := by decide +kernel
theorem dX14_takenAt_1 : decode cX14_takenAt 1 = .ok (.iload_n 1, 1) := by decide +kernel
theorem dX14_takenAt_2 : decode cX14_takenAt 2 = .ok (.iload_n 2, 1) := by decide +kernel
theorem dX14_takenAt_3 : decode cX14_takenAt 3 = .ok (.iconst 0, 1) := by decide +kernel
theorem dX14_takenAt_4 : decode cX14_takenAt 4 = .ok (.invokevirtual 403, 3) := by decide +kernel
theorem dX14_takenAt_7 : decode cX14_takenAt 7 = .ok (.ifCond .eq 7, 3) := by decide +kernel
theorem dX14_takenAt_10 : decode cX14_takenAt 10 = .ok (.iconst 0, 1) := by decide +kernel
theorem dX14_takenAt_11 : decode cX14_takenAt 11 = .ok (.goto 28, 3) := by decide +kernel
theorem dX14_takenAt_39 : decode cX14_takenAt 39 = .ok (.ireturn, 1) := by decide +kernel
set_option maxRecDepth 20000 in
theorem ggX14_waiting_X14_noEnd : GoodIn wsX14_waiting wsX14_noEnd := goodIn_r _ [7, 1, 2, 8, 9, 10, 11, 6, 12, 13, 14, 15, 16, 17, 18, 19, 20, 21, 22, 23, 24, 25, 26, 27, 28, 29, 30, 31, 32, 33, 34, 35, 36, 37, 38, 39, 40, 41, 42, 43, 44, 45, 46, 47, 48, 49, 50, 51, 52, 53, 54, 55, 56, 57, 58, 59, 60, 61, 62, 63, 64, 65, 66, 67, 68, 69, 70, 71, 72, 73, 74, 75, 76, 77, 78, 79, 80, 81, 82, 83, 84, 85] (by decide +kernel) (by decide +kernel)
set_option maxRecDepth 20000 in
theorem gX14_waiting_X14_noEnd : GoodIn wsX14_waiting (wsV RX14 403 RX14 yX14_noEnd wsX14_noEnd) := goodIn_app (goodIn_of _ (by decide +kernel)) ggX14_waiting_X14_noEnd
theorem dX14_waiting_0 : decode cX14_waiting 0 = .ok (.aload_n 0, 1) := by decide +kernel
theorem dX14_waiting_1 : decode cX14_waiting 1 = .ok (.iload_n 1, 1) := by decide +kernel
theorem dX14_waiting_2 : decode cX14_waiting 2 = .ok (.iload_n 2, 1) := by decide +kernel
theorem dX14_waiting_3 : decode cX14_waiting 3 = .ok (.iconst 1, 1) := by decide +kernel
theorem dX14_waiting_4 : decode cX14_waiting 4 = .ok (.invokevirtual 403, 3) := by decide +kernel
theorem dX14_waiting_7 : decode cX14_waiting 7 = .ok (.ifCond .eq 7, 3) := by decide +kernel
theorem dX14_waiting_10 : decode cX14_waiting 10 = .ok (.iconst 0, 1) := by decide +kernel
theorem dX14_waiting_11 : decode cX14_waiting 11 = .ok (.goto 25, 3) := by decide +kernel
theorem dX14_waiting_36 : decode cX14_waiting 36 = .ok (.ireturn, 1) := by decide +kernel
set_option maxRecDepth 20000 in
theorem ggX14_got_Jx4a65c_size_8abf5 : GoodIn wsX14_got wsJx4a65c_size_8abf5 := goodIn_r _ [7, 8, 28, 29, 30] (by decide +kernel) (by decide +kernel)
set_option maxRecDepth 20000 in
theorem gX14_got_Jx4a65c_size_8abf5 : GoodIn wsX14_got (wsV RX14 64 RJx4a65c yJx4a65c_size_8abf5 wsJx4a65c_size_8abf5) := goodIn_app (goodIn_of _ (by decide +kernel)) ggX14_got_Jx4a65c_size_8abf5
theorem dX14_got_0 : decode cX14_got 0 = .ok (.aload_n 0, 1) := by decide +kernel
theorem dX14_got_1 : decode cX14_got 1 = .ok (.iconst 0, 1) := by decide +kernel
theorem dX14_got_2 : decode cX14_got 2 = .ok (.putfield 61, 3) := by decide +kernel
theorem dX14_got_5 : decode cX14_got 5 = .ok (.aload_n 0, 1) := by decide +kernel
theorem dX14_got_6 : decode cX14_got 6 = .ok (.getfield 35, 3) := by decide +kernel
theorem dX14_got_9 : decode cX14_got 9 = .ok (.invokevirtual 64, 3) := by decide +kernel
theorem dX14_got_12 : decode cX14_got 12 = .ok (.ireturn, 1) := by decide +kernel
set_option maxRecDepth 20000 in
theorem ggX14_gotAt_X14_lastOf : GoodIn wsX14_gotAt wsX14_lastOf := goodIn_r _ [6, 7, 8, 9, 10, 11, 12, 13, 14, 15, 16, 17, 18, 19, 20, 5, 21, 22, 23, 24, 25, 26, 27, 28, 29, 30, 31, 32, 33, 34, 35, 36, 37, 38, 39, 40, 41, 42, 43, 44, 45, 46, 47, 48, 49, 50, 51, 52, 53, 54, 55, 56, 57, 58, 59, 60, 61, 62, 63, 64, 65, 66, 67] (by decide +kernel) (by decide +kernel)
set_option maxRecDepth 20000 in
theorem gX14_gotAt_X14_lastOf : GoodIn wsX14_gotAt (wsV RX14 407 RX14 yX14_lastOf wsX14_lastOf) := goodIn_app (goodIn_of _ (by decide +kernel)) ggX14_gotAt_X14_lastOf
theorem dX14_gotAt_0 : decode cX14_gotAt 0 = .ok (.aload_n 0, 1) := by decide +kernel
theorem dX14_gotAt_1 : decode cX14_gotAt 1 = .ok (.aload_n 0, 1) := by decide +kernel
theorem dX14_gotAt_2 : decode cX14_gotAt 2 = .ok (.getfield 35, 3) := by decide +kernel
theorem dX14_gotAt_5 : decode cX14_gotAt 5 = .ok (.iload_n 1, 1) := by decide +kernel
theorem dX14_gotAt_6 : decode cX14_gotAt 6 = .ok (.iconst 1, 1) := by decide +kernel
theorem dX14_gotAt_7 : decode cX14_gotAt 7 = .ok (.invokevirtual 407, 3) := by decide +kernel
theorem dX14_gotAt_10 : decode cX14_gotAt 10 = .ok (.ireturn, 1) := by decide +kernel
theorem dX14_packets_0 : decode cX14_packets 0 = .ok (.aload_n 0, 1) := by decide +kernel
theorem dX14_packets_1 : decode cX14_packets 1 = .ok (.iload_n 1, 1) := by decide +kernel
theorem dX14_packets_2 : decode cX14_packets 2 = .ok (.bipush 116, 2) := by decide +kernel
theorem dX14_packets_4 : decode cX14_packets 4 = .ok (.if_icmp .eq 15, 3) := by decide +kernel
theorem dX14_packets_7 : decode cX14_packets 7 = .ok (.iload_n 1, 1) := by decide +kernel
theorem dX14_packets_8 : decode cX14_packets 8 = .ok (.bipush 100, 2) := by decide +kernel
theorem dX14_packets_10 : decode cX14_packets 10 = .ok (.if_icmp .eq 9, 3) := by decide +kernel
theorem dX14_packets_13 : decode cX14_packets 13 = .ok (.iload_n 1, 1) := by decide +kernel
theorem dX14_packets_14 : decode cX14_packets 14 = .ok (.bipush 104, 2) := by decide +kernel
theorem dX14_packets_16 : decode cX14_packets 16 = .ok (.if_icmp .ne 7, 3) := by decide +kernel
theorem dX14_packets_19 : decode cX14_packets 19 = .ok (.iconst 0, 1) := by decide +kernel
theorem dX14_packets_20 : decode cX14_packets 20 = .ok (.goto 4, 3) := by decide +kernel
theorem dX14_packets_23 : decode cX14_packets 23 = .ok (.iconst 1, 1) := by decide +kernel
theorem dX14_packets_24 : decode cX14_packets 24 = .ok (.putfield 61, 3) := by decide +kernel
theorem dX14_packets_27 : decode cX14_packets 27 = .ok (.aload_n 0, 1) := by decide +kernel
theorem dX14_packets_28 : decode cX14_packets 28 = .ok (.getfield 61, 3) := by decide +kernel
theorem dX14_packets_31 : decode cX14_packets 31 = .ok (.ifCond .le 7, 3) := by decide +kernel
theorem dX14_packets_34 : decode cX14_packets 34 = .ok (.iconst 0, 1) := by decide +kernel
theorem dX14_packets_35 : decode cX14_packets 35 = .ok (.goto 33, 3) := by decide +kernel
theorem dX14_packets_38 : decode cX14_packets 38 = .ok (.iload_n 1, 1) := by decide +kernel
theorem dX14_packets_39 : decode cX14_packets 39 = .ok (.bipush 116, 2) := by decide +kernel
theorem dX14_packets_41 : decode cX14_packets 41 = .ok (.if_icmp .ne 10, 3) := by decide +kernel
theorem dX14_packets_44 : decode cX14_packets 44 = .ok (.aload_n 0, 1) := by decide +kernel
theorem dX14_packets_45 : decode cX14_packets 45 = .ok (.getfield 163, 3) := by decide +kernel
theorem dX14_packets_48 : decode cX14_packets 48 = .ok (.goto 20, 3) := by decide +kernel
theorem dX14_packets_51 : decode cX14_packets 51 = .ok (.iload_n 1, 1) := by decide +kernel
theorem dX14_packets_52 : decode cX14_packets 52 = .ok (.bipush 100, 2) := by decide +kernel
theorem dX14_packets_54 : decode cX14_packets 54 = .ok (.if_icmp .ne 10, 3) := by decide +kernel
theorem dX14_packets_57 : decode cX14_packets 57 = .ok (.aload_n 0, 1) := by decide +kernel
theorem dX14_packets_58 : decode cX14_packets 58 = .ok (.getfield 366, 3) := by decide +kernel
theorem dX14_packets_61 : decode cX14_packets 61 = .ok (.goto 7, 3) := by decide +kernel
theorem dX14_packets_64 : decode cX14_packets 64 = .ok (.aload_n 0, 1) := by decide +kernel
theorem dX14_packets_65 : decode cX14_packets 65 = .ok (.getfield 381, 3) := by decide +kernel
theorem dX14_packets_68 : decode cX14_packets 68 = .ok (.ireturn, 1) := by decide +kernel
set_option maxRecDepth 20000 in
theorem ggX14_blame_X14_noDevice : GoodIn wsX14_blame wsX14_noDevice := goodIn_r _ [7, 8, 9, 10, 11, 6, 12, 1, 13, 14, 15, 16, 17, 18, 19, 20, 21, 39, 40, 41, 42, 43, 44, 45, 46, 47, 48, 49, 50, 51, 52, 53, 54, 55, 56, 57, 74, 75, 76] (by decide +kernel) (by decide +kernel)
set_option maxRecDepth 20000 in
theorem gX14_blame_X14_noDevice : GoodIn wsX14_blame (wsV RX14 90 RX14 yX14_noDevice wsX14_noDevice) := goodIn_app (goodIn_of _ (by decide +kernel)) ggX14_blame_X14_noDevice
set_option maxRecDepth 20000 in
theorem ggX14_blame_Jx4a65c_get_915e3 : GoodIn wsX14_blame wsJx4a65c_get_915e3 := goodIn_r _ [25, 18, 26, 27, 28, 29, 30, 31, 32, 33, 34, 35, 36, 16, 37, 38, 74, 75, 76] (by decide +kernel) (by decide +kernel)
set_option maxRecDepth 20000 in
theorem gX14_blame_Jx4a65c_get_915e3 : GoodIn wsX14_blame (wsV RX14 76 RJx4a65c yJx4a65c_get_915e3 wsJx4a65c_get_915e3) := goodIn_app (goodIn_of _ (by decide +kernel)) ggX14_blame_Jx4a65c_get_915e3
theorem dX14_blame_0 : decode cX14_blame 0 = .ok (.aload_n 0, 1) := by decide +kernel
theorem dX14_blame_1 : decode cX14_blame 1 = .ok (.iload_n 1, 1) := by decide +kernel
theorem dX14_blame_2 : decode cX14_blame 2 = .ok (.invokevirtual 90, 3) := by decide +kernel
theorem dX14_blame_5 : decode cX14_blame 5 = .ok (.ifCond .eq 7, 3) := by decide +kernel
theorem dX14_blame_8 : decode cX14_blame 8 = .ok (.iconst 0, 1) := by decide +kernel
theorem dX14_blame_9 : decode cX14_blame 9 = .ok (.goto 17, 3) := by decide +kernel
theorem dX14_blame_12 : decode cX14_blame 12 = .ok (.aload_n 0, 1) := by decide +kernel
theorem dX14_blame_13 : decode cX14_blame 13 = .ok (.getfield 10, 3) := by decide +kernel
theorem dX14_blame_16 : decode cX14_blame 16 = .ok (.iload_n 1, 1) := by decide +kernel
theorem dX14_blame_17 : decode cX14_blame 17 = .ok (.invokevirtual 76, 3) := by decide +kernel
theorem dX14_blame_20 : decode cX14_blame 20 = .ok (.checkcast 48, 3) := by decide +kernel
theorem dX14_blame_23 : decode cX14_blame 23 = .ok (.getfield 180, 3) := by decide +kernel
theorem dX14_blame_26 : decode cX14_blame 26 = .ok (.ireturn, 1) := by decide +kernel
set_option maxRecDepth 20000 in
theorem ggX14_causeOf_X14_noPipe : GoodIn wsX14_causeOf wsX14_noPipe := goodIn_r _ [7, 1, 2, 8, 9, 6, 10, 11, 12, 13, 14, 15, 16, 17, 18, 19, 20, 21, 22, 23, 24, 25, 26, 27, 28, 29] (by decide +kernel) (by decide +kernel)
set_option maxRecDepth 20000 in
theorem gX14_causeOf_X14_noPipe : GoodIn wsX14_causeOf (wsV RX14 293 RX14 yX14_noPipe wsX14_noPipe) := goodIn_app (goodIn_of _ (by decide +kernel)) ggX14_causeOf_X14_noPipe
theorem dX14_causeOf_0 : decode cX14_causeOf 0 = .ok (.aload_n 0, 1) := by decide +kernel
theorem dX14_causeOf_1 : decode cX14_causeOf 1 = .ok (.iload_n 1, 1) := by decide +kernel
theorem dX14_causeOf_2 : decode cX14_causeOf 2 = .ok (.invokevirtual 293, 3) := by decide +kernel
theorem dX14_causeOf_5 : decode cX14_causeOf 5 = .ok (.ifCond .eq 6, 3) := by decide +kernel
theorem dX14_causeOf_8 : decode cX14_causeOf 8 = .ok (.bipush 32, 2) := by decide +kernel
theorem dX14_causeOf_10 : decode cX14_causeOf 10 = .ok (.ireturn, 1) := by decide +kernel
theorem dX14_busyShare_0 : decode cX14_busyShare 0 = .ok (.aload_n 0, 1) := by decide +kernel
theorem dX14_busyShare_1 : decode cX14_busyShare 1 = .ok (.aload_n 0, 1) := by decide +kernel
theorem dX14_busyShare_2 : decode cX14_busyShare 2 = .ok (.getfield 205, 3) := by decide +kernel
theorem dX14_busyShare_5 : decode cX14_busyShare 5 = .ok (.ifCond .ne 7, 3) := by decide +kernel
theorem dX14_busyShare_8 : decode cX14_busyShare 8 = .ok (.iconst 1, 1) := by decide +kernel
theorem dX14_busyShare_9 : decode cX14_busyShare 9 = .ok (.goto 4, 3) := by decide +kernel
theorem dX14_busyShare_13 : decode cX14_busyShare 13 = .ok (.putfield 61, 3) := by decide +kernel
theorem dX14_busyShare_16 : decode cX14_busyShare 16 = .ok (.aload_n 0, 1) := by decide +kernel
theorem dX14_busyShare_17 : decode cX14_busyShare 17 = .ok (.getfield 61, 3) := by decide +kernel
theorem dX14_busyShare_20 : decode cX14_busyShare 20 = .ok (.ifCond .le 7, 3) := by decide +kernel
theorem dX14_busyShare_23 : decode cX14_busyShare 23 = .ok (.fconst 0, 1) := by decide +kernel
theorem dX14_busyShare_24 : decode cX14_busyShare 24 = .ok (.goto 17, 3) := by decide +kernel
theorem dX14_busyShare_41 : decode cX14_busyShare 41 = .ok (.freturn, 1) := by decide +kernel
theorem dX14_meanBytes_0 : decode cX14_meanBytes 0 = .ok (.aload_n 0, 1) := by decide +kernel
theorem dX14_meanBytes_1 : decode cX14_meanBytes 1 = .ok (.aload_n 0, 1) := by decide +kernel
theorem dX14_meanBytes_2 : decode cX14_meanBytes 2 = .ok (.getfield 277, 3) := by decide +kernel
theorem dX14_meanBytes_5 : decode cX14_meanBytes 5 = .ok (.ifCond .ne 7, 3) := by decide +kernel
theorem dX14_meanBytes_8 : decode cX14_meanBytes 8 = .ok (.iconst 1, 1) := by decide +kernel
theorem dX14_meanBytes_9 : decode cX14_meanBytes 9 = .ok (.goto 4, 3) := by decide +kernel
theorem dX14_meanBytes_13 : decode cX14_meanBytes 13 = .ok (.putfield 61, 3) := by decide +kernel
theorem dX14_meanBytes_16 : decode cX14_meanBytes 16 = .ok (.aload_n 0, 1) := by decide +kernel
theorem dX14_meanBytes_17 : decode cX14_meanBytes 17 = .ok (.getfield 61, 3) := by decide +kernel
theorem dX14_meanBytes_20 : decode cX14_meanBytes 20 = .ok (.ifCond .le 7, 3) := by decide +kernel
theorem dX14_meanBytes_23 : decode cX14_meanBytes 23 = .ok (.dconst 0, 1) := by decide +kernel
theorem dX14_meanBytes_24 : decode cX14_meanBytes 24 = .ok (.goto 14, 3) := by decide +kernel
theorem dX14_meanBytes_38 : decode cX14_meanBytes 38 = .ok (.dreturn, 1) := by decide +kernel
set_option maxRecDepth 20000 in
theorem ggX14_checksum_Jx4a65c_iterator_32c93 : GoodIn wsX14_checksum wsJx4a65c_iterator_32c93 := goodIn_r _ [17, 18, 19, 20, 21, 22, 23, 24, 25, 26, 27, 28, 29, 30, 31, 109, 110, 111, 112, 113, 114, 115] (by decide +kernel) (by decide +kernel)
set_option maxRecDepth 20000 in
theorem gX14_checksum_Jx4a65c_iterator_32c93 : GoodIn wsX14_checksum (wsV RX14 108 RJx4a65c yJx4a65c_iterator_32c93 wsJx4a65c_iterator_32c93) := goodIn_app (goodIn_of _ (by decide +kernel)) ggX14_checksum_Jx4a65c_iterator_32c93
set_option maxRecDepth 20000 in
theorem ggX14_checksum_Jx35411_hasNext_aae02 : GoodIn wsX14_checksum wsJx35411_hasNext_aae02 := goodIn_r _ [35, 36, 24, 109, 110, 111, 112, 113, 114, 115] (by decide +kernel) (by decide +kernel)
set_option maxRecDepth 20000 in
theorem gX14_checksum_Jx35411_hasNext_aae02_f112Jx35411 : GoodIn wsX14_checksum (va_wsF RX14 112 RJx35411 ⟨"java/util/Iterator", "hasNext", "()Z"⟩ yJx35411_hasNext_aae02 wsJx35411_hasNext_aae02) := goodIn_app (goodIn_of _ (by decide +kernel)) ggX14_checksum_Jx35411_hasNext_aae02
set_option maxRecDepth 20000 in
theorem ggX14_checksum_Jx35411_next_0502b : GoodIn wsX14_checksum wsJx35411_next_0502b := goodIn_r _ [40, 36, 24, 41, 28, 42, 43, 44, 20, 45, 29, 30, 31, 109, 110, 111, 112, 113, 114, 115] (by decide +kernel) (by decide +kernel)
set_option maxRecDepth 20000 in
theorem gX14_checksum_Jx35411_next_0502b_f118Jx35411 : GoodIn wsX14_checksum (va_wsF RX14 118 RJx35411 ⟨"java/util/Iterator", "next", "()Ljava/lang/Object;"⟩ yJx35411_next_0502b wsJx35411_next_0502b) := goodIn_app (goodIn_of _ (by decide +kernel)) ggX14_checksum_Jx35411_next_0502b
set_option maxRecDepth 20000 in
theorem ggX14_checksum_Jx4a65c_size_8abf5 : GoodIn wsX14_checksum wsJx4a65c_size_8abf5 := goodIn_r _ [49, 50, 113, 114, 115] (by decide +kernel) (by decide +kernel)
set_option maxRecDepth 20000 in
theorem gX14_checksum_Jx4a65c_size_8abf5 : GoodIn wsX14_checksum (wsV RX14 64 RJx4a65c yJx4a65c_size_8abf5 wsJx4a65c_size_8abf5) := goodIn_app (goodIn_of _ (by decide +kernel)) ggX14_checksum_Jx4a65c_size_8abf5
theorem dX14_checksum_0 : decode cX14_checksum 0 = .ok (.aload_n 0, 1) := by decide +kernel
theorem dX14_checksum_1 : decode cX14_checksum 1 = .ok (.iconst 0, 1) := by decide +kernel
theorem dX14_checksum_2 : decode cX14_checksum 2 = .ok (.putfield 61, 3) := by decide +kernel
theorem dX14_checksum_5 : decode cX14_checksum 5 = .ok (.ldc2_w 411, 3) := by decide +kernel
theorem dX14_checksum_8 : decode cX14_checksum 8 = .ok (.lstore_n 1, 1) := by decide +kernel
theorem dX14_checksum_9 : decode cX14_checksum 9 = .ok (.aload_n 0, 1) := by decide +kernel
theorem dX14_checksum_10 : decode cX14_checksum 10 = .ok (.getfield 10, 3) := by decide +kernel
theorem dX14_checksum_13 : decode cX14_checksum 13 = .ok (.invokevirtual 108, 3) := by decide +kernel
theorem dX14_checksum_16 : decode cX14_checksum 16 = .ok (.astore_n 3, 1) := by decide +kernel
theorem dX14_checksum_17 : decode cX14_checksum 17 = .ok (.aload_n 3, 1) := by decide +kernel
theorem dX14_checksum_18 : decode cX14_checksum 18 = .ok (.invokeinterface 112 1, 5) := by decide +kernel
theorem dX14_checksum_23 : decode cX14_checksum 23 = .ok (.ifCond .eq 48, 3) := by decide +kernel
theorem dX14_checksum_26 : decode cX14_checksum 26 = .ok (.aload_n 3, 1) := by decide +kernel
theorem dX14_checksum_27 : decode cX14_checksum 27 = .ok (.invokeinterface 118 1, 5) := by decide +kernel
theorem dX14_checksum_32 : decode cX14_checksum 32 = .ok (.checkcast 48, 3) := by decide +kernel
theorem dX14_checksum_35 : decode cX14_checksum 35 = .ok (.astore 4, 2) := by decide +kernel
theorem dX14_checksum_37 : decode cX14_checksum 37 = .ok (.ldc2_w 413, 3) := by decide +kernel
theorem dX14_checksum_40 : decode cX14_checksum 40 = .ok (.lload_n 1, 1) := by decide +kernel
theorem dX14_checksum_41 : decode cX14_checksum 41 = .ok (.lmul, 1) := by decide +kernel
theorem dX14_checksum_42 : decode cX14_checksum 42 = .ok (.aload 4, 2) := by decide +kernel
theorem dX14_checksum_44 : decode cX14_checksum 44 = .ok (.getfield 53, 3) := by decide +kernel
theorem dX14_checksum_47 : decode cX14_checksum 47 = .ok (.i2l, 1) := by decide +kernel
theorem dX14_checksum_48 : decode cX14_checksum 48 = .ok (.ladd, 1) := by decide +kernel
theorem dX14_checksum_49 : decode cX14_checksum 49 = .ok (.aload 4, 2) := by decide +kernel
theorem dX14_checksum_51 : decode cX14_checksum 51 = .ok (.getfield 140, 3) := by decide +kernel
theorem dX14_checksum_54 : decode cX14_checksum 54 = .ok (.i2l, 1) := by decide +kernel
theorem dX14_checksum_55 : decode cX14_checksum 55 = .ok (.ladd, 1) := by decide +kernel
theorem dX14_checksum_56 : decode cX14_checksum 56 = .ok (.ldc2_w 415, 3) := by decide +kernel
theorem dX14_checksum_59 : decode cX14_checksum 59 = .ok (.aload 4, 2) := by decide +kernel
theorem dX14_checksum_61 : decode cX14_checksum 61 = .ok (.getfield 180, 3) := by decide +kernel
theorem dX14_checksum_64 : decode cX14_checksum 64 = .ok (.i2l, 1) := by decide +kernel
theorem dX14_checksum_65 : decode cX14_checksum 65 = .ok (.lmul, 1) := by decide +kernel
theorem dX14_checksum_66 : decode cX14_checksum 66 = .ok (.ladd, 1) := by decide +kernel
theorem dX14_checksum_67 : decode cX14_checksum 67 = .ok (.lstore_n 1, 1) := by decide +kernel
theorem dX14_checksum_68 : decode cX14_checksum 68 = .ok (.goto (-51), 3) := by decide +kernel
theorem dX14_checksum_71 : decode cX14_checksum 71 = .ok (.iconst 0, 1) := by decide +kernel
theorem dX14_checksum_72 : decode cX14_checksum 72 = .ok (.aload_n 0, 1) := by decide +kernel
theorem dX14_checksum_73 : decode cX14_checksum 73 = .ok (.getfield 35, 3) := by decide +kernel
theorem dX14_checksum_76 : decode cX14_checksum 76 = .ok (.invokevirtual 64, 3) := by decide +kernel
theorem dX14_checksum_79 : decode cX14_checksum 79 = .ok (.bipush 32, 2) := by decide +kernel
theorem dX14_checksum_81 : decode cX14_checksum 81 = .ok (.isub, 1) := by decide +kernel
theorem dX14_checksum_82 : decode cX14_checksum 82 = .ok (.invokestatic 251, 3) := by decide +kernel
theorem dX14_checksum_85 : decode cX14_checksum 85 = .ok (.istore_n 3, 1) := by decide +kernel
theorem dX14_checksum_86 : decode cX14_checksum 86 = .ok (.iload_n 3, 1) := by decide +kernel
theorem dX14_checksum_87 : decode cX14_checksum 87 = .ok (.aload_n 0, 1) := by decide +kernel
theorem dX14_checksum_88 : decode cX14_checksum 88 = .ok (.getfield 35, 3) := by decide +kernel
theorem dX14_checksum_91 : decode cX14_checksum 91 = .ok (.invokevirtual 64, 3) := by decide +kernel
theorem dX14_checksum_94 : decode cX14_checksum 94 = .ok (.if_icmp .ge 31, 3) := by decide +kernel
theorem dX14_checksum_125 : decode cX14_checksum 125 = .ok (.lload_n 1, 1) := by decide +kernel
theorem dX14_checksum_126 : decode cX14_checksum 126 = .ok (.lreturn, 1) := by decide +kernel
theorem dX14_isSound_0 : decode cX14_isSound 0 = .ok (.aload_n 0, 1) := by decide +kernel
theorem dX14_isSound_1 : decode cX14_isSound 1 = .ok (.iconst 0, 1) := by decide +kernel
theorem dX14_isSound_2 : decode cX14_isSound 2 = .ok (.putfield 61, 3) := by decide +kernel
theorem dX14_isSound_5 : decode cX14_isSound 5 = .ok (.iconst 1, 1) := by decide +kernel
theorem dX14_isSound_6 : decode cX14_isSound 6 = .ok (.ireturn, 1) := by decide +kernel
set_option maxRecDepth 20000 in
theorem ggJ6_valueOf_2dffe_J6_init_d00df : GoodIn wsJ6_valueOf_2dffe wsJ6_init_d00df := goodIn_r _ [8, 9, 10, 11, 12, 13, 14, 15, 16, 17] (by decide +kernel) (by decide +kernel)
set_option maxRecDepth 20000 in
theorem gJ6_valueOf_2dffe_J6_init_d00df : GoodIn wsJ6_valueOf_2dffe (wsJ6_init_d00df) := ggJ6_valueOf_2dffe_J6_init_d00df
theorem dJ6_valueOf_2dffe_0 : decode cJ6_valueOf_2dffe 0 = .ok (.iload_n 0, 1) := by decide +kernel
theorem dJ6_valueOf_2dffe_1 : decode cJ6_valueOf_2dffe 1 = .ok (.bipush (-128), 2) := by decide +kernel
theorem dJ6_valueOf_2dffe_3 : decode cJ6_valueOf_2dffe 3 = .ok (.if_icmp .lt 20, 3) := by decide +kernel
theorem dJ6_valueOf_2dffe_6 : decode cJ6_valueOf_2dffe 6 = .ok (.iload_n 0, 1) := by decide +kernel
theorem dJ6_valueOf_2dffe_7 : decode cJ6_valueOf_2dffe 7 = .ok (.getstatic 191, 3) := by decide +kernel
theorem dJ6_valueOf_2dffe_10 : decode cJ6_valueOf_2dffe 10 = .ok (.if_icmp .gt 13, 3) := by decide +kernel
theorem dJ6_valueOf_2dffe_13 : decode cJ6_valueOf_2dffe 13 = .ok (.getstatic 195, 3) := by decide +kernel
theorem dJ6_valueOf_2dffe_16 : decode cJ6_valueOf_2dffe 16 = .ok (.iload_n 0, 1) := by decide +kernel
theorem dJ6_valueOf_2dffe_17 : decode cJ6_valueOf_2dffe 17 = .ok (.sipush 128, 3) := by decide +kernel
theorem dJ6_valueOf_2dffe_20 : decode cJ6_valueOf_2dffe 20 = .ok (.iadd, 1) := by decide +kernel
theorem dJ6_valueOf_2dffe_21 : decode cJ6_valueOf_2dffe 21 = .ok (.aaload, 1) := by decide +kernel
theorem dJ6_valueOf_2dffe_22 : decode cJ6_valueOf_2dffe 22 = .ok (.areturn, 1) := by decide +kernel
theorem dJ6_valueOf_2dffe_23 : decode cJ6_valueOf_2dffe 23 = .ok (.new 1, 3) := by decide +kernel
theorem dJ6_valueOf_2dffe_26 : decode cJ6_valueOf_2dffe 26 = .ok (.dup, 1) := by decide +kernel
theorem dJ6_valueOf_2dffe_27 : decode cJ6_valueOf_2dffe 27 = .ok (.iload_n 0, 1) := by decide +kernel
theorem dJ6_valueOf_2dffe_28 : decode cJ6_valueOf_2dffe 28 = .ok (.invokespecial 199, 3) := by decide +kernel
theorem dJ6_valueOf_2dffe_31 : decode cJ6_valueOf_2dffe 31 = .ok (.areturn, 1) := by decide +kernel
set_option maxRecDepth 20000 in
theorem ggJ6_init_d00df_Jxd2413_init_da8c8 : GoodIn wsJ6_init_d00df wsJxd2413_init_da8c8 := goodIn_r _ [5, 6, 7, 8] (by decide +kernel) (by decide +kernel)
set_option maxRecDepth 20000 in
theorem gJ6_init_d00df_Jxd2413_init_da8c8 : GoodIn wsJ6_init_d00df (wsJxd2413_init_da8c8) := ggJ6_init_d00df_Jxd2413_init_da8c8
theorem dJ6_init_d00df_0 : decode cJ6_init_d00df 0 = .ok (.aload_n 0, 1) := by decide +kernel
theorem dJ6_init_d00df_1 : decode cJ6_init_d00df 1 = .ok (.invokespecial 202, 3) := by decide +kernel
theorem dJ6_init_d00df_4 : decode cJ6_init_d00df 4 = .ok (.aload_n 0, 1) := by decide +kernel
theorem dJ6_init_d00df_5 : decode cJ6_init_d00df 5 = .ok (.iload_n 1, 1) := by decide +kernel
theorem dJ6_init_d00df_6 : decode cJ6_init_d00df 6 = .ok (.putfield 205, 3) := by decide +kernel
theorem dJ6_init_d00df_9 : decode cJ6_init_d00df 9 = .ok (.return_, 1) := by decide +kernel
theorem dJxd2413_init_da8c8_0 : decode cJxd2413_init_da8c8 0 = .ok (.aload_n 0, 1) := by decide +kernel
theorem dJxd2413_init_da8c8_1 : decode cJxd2413_init_da8c8 1 = .ok (.invokespecial 1, 3) := by decide +kernel
theorem dJxd2413_init_da8c8_4 : decode cJxd2413_init_da8c8 4 = .ok (.return_, 1) := by decide +kernel
theorem dJxa1e45_init_da8c8_0 : decode cJxa1e45_init_da8c8 0 = .ok (.aload_n 0, 1) := by decide +kernel
theorem dJxa1e45_init_da8c8_1 : decode cJxa1e45_init_da8c8 1 = .ok (.invokespecial 1, 3) := by decide +kernel
theorem dJxa1e45_init_da8c8_4 : decode cJxa1e45_init_da8c8 4 = .ok (.return_, 1) := by decide +kernel
set_option maxRecDepth 20000 in
theorem ggJxc12de_init_da8c8_Jxa1e45_init_da8c8 : GoodIn wsJxc12de_init_da8c8 wsJxa1e45_init_da8c8 := goodIn_r _ [5, 6, 7, 8] (by decide +kernel) (by decide +kernel)
set_option maxRecDepth 20000 in
theorem gJxc12de_init_da8c8_Jxa1e45_init_da8c8 : GoodIn wsJxc12de_init_da8c8 (wsJxa1e45_init_da8c8) := ggJxc12de_init_da8c8_Jxa1e45_init_da8c8
theorem dJxc12de_init_da8c8_0 : decode cJxc12de_init_da8c8 0 = .ok (.aload_n 0, 1) := by decide +kernel
theorem dJxc12de_init_da8c8_1 : decode cJxc12de_init_da8c8 1 = .ok (.invokespecial 1, 3) := by decide +kernel
theorem dJxc12de_init_da8c8_4 : decode cJxc12de_init_da8c8 4 = .ok (.aload_n 0, 1) := by decide +kernel
theorem dJxc12de_init_da8c8_5 : decode cJxc12de_init_da8c8 5 = .ok (.iconst 0, 1) := by decide +kernel
theorem dJxc12de_init_da8c8_6 : decode cJxc12de_init_da8c8 6 = .ok (.putfield 7, 3) := by decide +kernel
theorem dJxc12de_init_da8c8_9 : decode cJxc12de_init_da8c8 9 = .ok (.return_, 1) := by decide +kernel
theorem dJx35411_init_45d68_0 : decode cJx35411_init_45d68 0 = .ok (.aload_n 0, 1) := by decide +kernel
theorem dJx35411_init_45d68_1 : decode cJx35411_init_45d68 1 = .ok (.aload_n 1, 1) := by decide +kernel
theorem dJx35411_init_45d68_2 : decode cJx35411_init_45d68 2 = .ok (.putfield 1, 3) := by decide +kernel
theorem dJx35411_init_45d68_5 : decode cJx35411_init_45d68 5 = .ok (.aload_n 0, 1) := by decide +kernel
theorem dJx35411_init_45d68_6 : decode cJx35411_init_45d68 6 = .ok (.invokespecial 7, 3) := by decide +kernel
theorem dJx35411_init_45d68_9 : decode cJx35411_init_45d68 9 = .ok (.aload_n 0, 1) := by decide +kernel
theorem dJx35411_init_45d68_10 : decode cJx35411_init_45d68 10 = .ok (.iconst (-1), 1) := by decide +kernel
theorem dJx35411_init_45d68_11 : decode cJx35411_init_45d68 11 = .ok (.putfield 13, 3) := by decide +kernel
theorem dJx35411_init_45d68_14 : decode cJx35411_init_45d68 14 = .ok (.aload_n 0, 1) := by decide +kernel
theorem dJx35411_init_45d68_15 : decode cJx35411_init_45d68 15 = .ok (.aload_n 0, 1) := by decide +kernel
theorem dJx35411_init_45d68_16 : decode cJx35411_init_45d68 16 = .ok (.getfield 1, 3) := by decide +kernel
theorem dJx35411_init_45d68_19 : decode cJx35411_init_45d68 19 = .ok (.getfield 17, 3) := by decide +kernel
theorem dJx35411_init_45d68_22 : decode cJx35411_init_45d68 22 = .ok (.putfield 22, 3) := by decide +kernel
theorem dJx35411_init_45d68_25 : decode cJx35411_init_45d68 25 = .ok (.return_, 1) := by decide +kernel
theorem dJx35411_hasNext_aae02_0 : decode cJx35411_hasNext_aae02 0 = .ok (.aload_n 0, 1) := by decide +kernel
theorem dJx35411_hasNext_aae02_1 : decode cJx35411_hasNext_aae02 1 = .ok (.getfield 25, 3) := by decide +kernel
theorem dJx35411_hasNext_aae02_4 : decode cJx35411_hasNext_aae02 4 = .ok (.aload_n 0, 1) := by decide +kernel
theorem dJx35411_hasNext_aae02_5 : decode cJx35411_hasNext_aae02 5 = .ok (.getfield 1, 3) := by decide +kernel
theorem dJx35411_hasNext_aae02_8 : decode cJx35411_hasNext_aae02 8 = .ok (.getfield 28, 3) := by decide +kernel
theorem dJx35411_hasNext_aae02_11 : decode cJx35411_hasNext_aae02 11 = .ok (.if_icmp .eq 7, 3) := by decide +kernel
theorem dJx35411_hasNext_aae02_14 : decode cJx35411_hasNext_aae02 14 = .ok (.iconst 1, 1) := by decide +kernel
theorem dJx35411_hasNext_aae02_15 : decode cJx35411_hasNext_aae02 15 = .ok (.goto 4, 3) := by decide +kernel
theorem dJx35411_hasNext_aae02_18 : decode cJx35411_hasNext_aae02 18 = .ok (.iconst 0, 1) := by decide +kernel
theorem dJx35411_hasNext_aae02_19 : decode cJx35411_hasNext_aae02 19 = .ok (.ireturn, 1) := by decide +kernel
set_option maxRecDepth 20000 in
theorem ggJx35411_next_0502b_Jx35411_checkForComodification_da8c8 : GoodIn wsJx35411_next_0502b wsJx35411_checkForComodification_da8c8 := goodIn_r _ [9, 2, 10, 11, 12, 13, 14, 15, 16, 17, 18, 19] (by decide +kernel) (by decide +kernel)
set_option maxRecDepth 20000 in
theorem gJx35411_next_0502b_Jx35411_checkForComodification_da8c8 : GoodIn wsJx35411_next_0502b (wsV RJx35411 31 RJx35411 yJx35411_checkForComodification_da8c8 wsJx35411_checkForComodification_da8c8) := goodIn_app (goodIn_of _ (by decide +kernel)) ggJx35411_next_0502b_Jx35411_checkForComodification_da8c8
theorem dJx35411_next_0502b_0 : decode cJx35411_next_0502b 0 = .ok (.aload_n 0, 1) := by decide +kernel
theorem dJx35411_next_0502b_1 : decode cJx35411_next_0502b 1 = .ok (.invokevirtual 31, 3) := by decide +kernel
theorem dJx35411_next_0502b_4 : decode cJx35411_next_0502b 4 = .ok (.aload_n 0, 1) := by decide +kernel
theorem dJx35411_next_0502b_5 : decode cJx35411_next_0502b 5 = .ok (.getfield 25, 3) := by decide +kernel
theorem dJx35411_next_0502b_8 : decode cJx35411_next_0502b 8 = .ok (.istore_n 1, 1) := by decide +kernel
theorem dJx35411_next_0502b_9 : decode cJx35411_next_0502b 9 = .ok (.iload_n 1, 1) := by decide +kernel
theorem dJx35411_next_0502b_10 : decode cJx35411_next_0502b 10 = .ok (.aload_n 0, 1) := by decide +kernel
theorem dJx35411_next_0502b_11 : decode cJx35411_next_0502b 11 = .ok (.getfield 1, 3) := by decide +kernel
theorem dJx35411_next_0502b_14 : decode cJx35411_next_0502b 14 = .ok (.getfield 28, 3) := by decide +kernel
theorem dJx35411_next_0502b_17 : decode cJx35411_next_0502b 17 = .ok (.if_icmp .lt 11, 3) := by decide +kernel
theorem dJx35411_next_0502b_28 : decode cJx35411_next_0502b 28 = .ok (.aload_n 0, 1) := by decide +kernel
theorem dJx35411_next_0502b_29 : decode cJx35411_next_0502b 29 = .ok (.getfield 1, 3) := by decide +kernel
theorem dJx35411_next_0502b_32 : decode cJx35411_next_0502b 32 = .ok (.getfield 37, 3) := by decide +kernel
theorem dJx35411_next_0502b_35 : decode cJx35411_next_0502b 35 = .ok (.astore_n 2, 1) := by decide +kernel
theorem dJx35411_next_0502b_36 : decode cJx35411_next_0502b 36 = .ok (.iload_n 1, 1) := by decide +kernel
theorem dJx35411_next_0502b_37 : decode cJx35411_next_0502b 37 = .ok (.aload_n 2, 1) := by decide +kernel
theorem dJx35411_next_0502b_38 : decode cJx35411_next_0502b 38 = .ok (.arraylength, 1) := by decide +kernel
theorem dJx35411_next_0502b_39 : decode cJx35411_next_0502b 39 = .ok (.if_icmp .lt 11, 3) := by decide +kernel
theorem dJx35411_next_0502b_50 : decode cJx35411_next_0502b 50 = .ok (.aload_n 0, 1) := by decide +kernel
theorem dJx35411_next_0502b_51 : decode cJx35411_next_0502b 51 = .ok (.iload_n 1, 1) := by decide +kernel
theorem dJx35411_next_0502b_52 : decode cJx35411_next_0502b 52 = .ok (.iconst 1, 1) := by decide +kernel
theorem dJx35411_next_0502b_53 : decode cJx35411_next_0502b 53 = .ok (.iadd, 1) := by decide +kernel
theorem dJx35411_next_0502b_54 : decode cJx35411_next_0502b 54 = .ok (.putfield 25, 3) := by decide +kernel
theorem dJx35411_next_0502b_57 : decode cJx35411_next_0502b 57 = .ok (.aload_n 2, 1) := by decide +kernel
theorem dJx35411_next_0502b_58 : decode cJx35411_next_0502b 58 = .ok (.aload_n 0, 1) := by decide +kernel
theorem dJx35411_next_0502b_59 : decode cJx35411_next_0502b 59 = .ok (.iload_n 1, 1) := by decide +kernel
theorem dJx35411_next_0502b_60 : decode cJx35411_next_0502b 60 = .ok (.dup_x1, 1) := by decide +kernel
theorem dJx35411_next_0502b_61 : decode cJx35411_next_0502b 61 = .ok (.putfield 13, 3) := by decide +kernel
theorem dJx35411_next_0502b_64 : decode cJx35411_next_0502b 64 = .ok (.aaload, 1) := by decide +kernel
theorem dJx35411_next_0502b_65 : decode cJx35411_next_0502b 65 = .ok (.areturn, 1) := by decide +kernel
theorem dJx35411_checkForComodification_da8c8_0 : decode cJx35411_checkForComodification_da8c8 0 = .ok (.aload_n 0, 1) := by decide +kernel
theorem dJx35411_checkForComodification_da8c8_1 : decode cJx35411_checkForComodification_da8c8 1 = .ok (.getfield 1, 3) := by decide +kernel
theorem dJx35411_checkForComodification_da8c8_4 : decode cJx35411_checkForComodification_da8c8 4 = .ok (.getfield 17, 3) := by decide +kernel
theorem dJx35411_checkForComodification_da8c8_7 : decode cJx35411_checkForComodification_da8c8 7 = .ok (.aload_n 0, 1) := by decide +kernel
theorem dJx35411_checkForComodification_da8c8_8 : decode cJx35411_checkForComodification_da8c8 8 = .ok (.getfield 22, 3) := by decide +kernel
theorem dJx35411_checkForComodification_da8c8_11 : decode cJx35411_checkForComodification_da8c8 11 = .ok (.if_icmp .eq 11, 3) := by decide +kernel
theorem dJx35411_checkForComodification_da8c8_22 : decode cJx35411_checkForComodification_da8c8 22 = .ok (.return_, 1) := by decide +kernel
set_option maxRecDepth 20000 in
theorem ggJx4a65c_init_da8c8_Jxc12de_init_da8c8 : GoodIn wsJx4a65c_init_da8c8 wsJxc12de_init_da8c8 := goodIn_r _ [6, 7, 8, 9, 10, 11, 12, 13, 14, 15, 16, 17] (by decide +kernel) (by decide +kernel)
set_option maxRecDepth 20000 in
theorem gJx4a65c_init_da8c8_Jxc12de_init_da8c8 : GoodIn wsJx4a65c_init_da8c8 (wsJxc12de_init_da8c8) := ggJx4a65c_init_da8c8_Jxc12de_init_da8c8
theorem dJx4a65c_init_da8c8_0 : decode cJx4a65c_init_da8c8 0 = .ok (.aload_n 0, 1) := by decide +kernel
theorem dJx4a65c_init_da8c8_1 : decode cJx4a65c_init_da8c8 1 = .ok (.invokespecial 1, 3) := by decide +kernel
theorem dJx4a65c_init_da8c8_4 : decode cJx4a65c_init_da8c8 4 = .ok (.aload_n 0, 1) := by decide +kernel
theorem dJx4a65c_init_da8c8_5 : decode cJx4a65c_init_da8c8 5 = .ok (.getstatic 39, 3) := by decide +kernel
theorem dJx4a65c_init_da8c8_8 : decode cJx4a65c_init_da8c8 8 = .ok (.putfield 9, 3) := by decide +kernel
theorem dJx4a65c_init_da8c8_11 : decode cJx4a65c_init_da8c8 11 = .ok (.return_, 1) := by decide +kernel
theorem dJx4a65c_grow_92f84_0 : decode cJx4a65c_grow_92f84 0 = .ok (.aload_n 0, 1) := by decide +kernel
theorem dJx4a65c_grow_92f84_1 : decode cJx4a65c_grow_92f84 1 = .ok (.getfield 9, 3) := by decide +kernel
theorem dJx4a65c_grow_92f84_4 : decode cJx4a65c_grow_92f84 4 = .ok (.arraylength, 1) := by decide +kernel
theorem dJx4a65c_grow_92f84_5 : decode cJx4a65c_grow_92f84 5 = .ok (.istore_n 2, 1) := by decide +kernel
theorem dJx4a65c_grow_92f84_6 : decode cJx4a65c_grow_92f84 6 = .ok (.iload_n 2, 1) := by decide +kernel
theorem dJx4a65c_grow_92f84_7 : decode cJx4a65c_grow_92f84 7 = .ok (.ifCond .gt 13, 3) := by decide +kernel
theorem dJx4a65c_grow_92f84_10 : decode cJx4a65c_grow_92f84 10 = .ok (.aload_n 0, 1) := by decide +kernel
theorem dJx4a65c_grow_92f84_11 : decode cJx4a65c_grow_92f84 11 = .ok (.getfield 9, 3) := by decide +kernel
theorem dJx4a65c_grow_92f84_14 : decode cJx4a65c_grow_92f84 14 = .ok (.getstatic 39, 3) := by decide +kernel
theorem dJx4a65c_grow_92f84_17 : decode cJx4a65c_grow_92f84 17 = .ok (.if_acmp .eq 28, 3) := by decide +kernel
theorem dJx4a65c_grow_92f84_45 : decode cJx4a65c_grow_92f84 45 = .ok (.aload_n 0, 1) := by decide +kernel
theorem dJx4a65c_grow_92f84_46 : decode cJx4a65c_grow_92f84 46 = .ok (.bipush 10, 2) := by decide +kernel
theorem dJx4a65c_grow_92f84_48 : decode cJx4a65c_grow_92f84 48 = .ok (.iload_n 1, 1) := by decide +kernel
theorem dJx4a65c_grow_92f84_49 : decode cJx4a65c_grow_92f84 49 = .ok (.invokestatic 79, 3) := by decide +kernel
theorem dJx4a65c_grow_92f84_52 : decode cJx4a65c_grow_92f84 52 = .ok (.anewarray 7, 3) := by decide +kernel
theorem dJx4a65c_grow_92f84_55 : decode cJx4a65c_grow_92f84 55 = .ok (.dup_x1, 1) := by decide +kernel
theorem dJx4a65c_grow_92f84_56 : decode cJx4a65c_grow_92f84 56 = .ok (.putfield 9, 3) := by decide +kernel
theorem dJx4a65c_grow_92f84_59 : decode cJx4a65c_grow_92f84 59 = .ok (.areturn, 1) := by decide +kernel
set_option maxRecDepth 20000 in
theorem ggJx4a65c_grow_d5877_Jx4a65c_grow_92f84 : GoodIn wsJx4a65c_grow_d5877 wsJx4a65c_grow_92f84 := goodIn_r _ [6, 7, 8, 9, 10, 11, 12, 13, 14, 15, 16, 17, 18, 19, 20, 21, 22, 23, 24, 25, 26, 27, 28, 29, 30, 31, 32, 33, 34, 35, 36, 37, 38, 39, 40, 41, 42, 43, 44, 45] (by decide +kernel) (by decide +kernel)
set_option maxRecDepth 20000 in
theorem gJx4a65c_grow_d5877_Jx4a65c_grow_92f84 : GoodIn wsJx4a65c_grow_d5877 (wsV RJx4a65c 69 RJx4a65c yJx4a65c_grow_92f84 wsJx4a65c_grow_92f84) := goodIn_app (goodIn_of _ (by decide +kernel)) ggJx4a65c_grow_d5877_Jx4a65c_grow_92f84
theorem dJx4a65c_grow_d5877_0 : decode cJx4a65c_grow_d5877 0 = .ok (.aload_n 0, 1) := by decide +kernel
theorem dJx4a65c_grow_d5877_1 : decode cJx4a65c_grow_d5877 1 = .ok (.aload_n 0, 1) := by decide +kernel
theorem dJx4a65c_grow_d5877_2 : decode cJx4a65c_grow_d5877 2 = .ok (.getfield 48, 3) := by decide +kernel
theorem dJx4a65c_grow_d5877_5 : decode cJx4a65c_grow_d5877 5 = .ok (.iconst 1, 1) := by decide +kernel
theorem dJx4a65c_grow_d5877_6 : decode cJx4a65c_grow_d5877 6 = .ok (.iadd, 1) := by decide +kernel
theorem dJx4a65c_grow_d5877_7 : decode cJx4a65c_grow_d5877 7 = .ok (.invokevirtual 69, 3) := by decide +kernel
theorem dJx4a65c_grow_d5877_10 : decode cJx4a65c_grow_d5877 10 = .ok (.areturn, 1) := by decide +kernel
theorem dJx4a65c_size_8abf5_0 : decode cJx4a65c_size_8abf5 0 = .ok (.aload_n 0, 1) := by decide +kernel
theorem dJx4a65c_size_8abf5_1 : decode cJx4a65c_size_8abf5 1 = .ok (.getfield 48, 3) := by decide +kernel
theorem dJx4a65c_size_8abf5_4 : decode cJx4a65c_size_8abf5 4 = .ok (.ireturn, 1) := by decide +kernel
theorem dJx4a65c_isEmpty_aae02_0 : decode cJx4a65c_isEmpty_aae02 0 = .ok (.aload_n 0, 1) := by decide +kernel
theorem dJx4a65c_isEmpty_aae02_1 : decode cJx4a65c_isEmpty_aae02 1 = .ok (.getfield 48, 3) := by decide +kernel
theorem dJx4a65c_isEmpty_aae02_4 : decode cJx4a65c_isEmpty_aae02 4 = .ok (.ifCond .ne 7, 3) := by decide +kernel
theorem dJx4a65c_isEmpty_aae02_7 : decode cJx4a65c_isEmpty_aae02 7 = .ok (.iconst 1, 1) := by decide +kernel
theorem dJx4a65c_isEmpty_aae02_8 : decode cJx4a65c_isEmpty_aae02 8 = .ok (.goto 4, 3) := by decide +kernel
theorem dJx4a65c_isEmpty_aae02_12 : decode cJx4a65c_isEmpty_aae02 12 = .ok (.ireturn, 1) := by decide +kernel
theorem dJx4a65c_elementData_915e3_0 : decode cJx4a65c_elementData_915e3 0 = .ok (.aload_n 0, 1) := by decide +kernel
theorem dJx4a65c_elementData_915e3_1 : decode cJx4a65c_elementData_915e3 1 = .ok (.getfield 9, 3) := by decide +kernel
theorem dJx4a65c_elementData_915e3_4 : decode cJx4a65c_elementData_915e3 4 = .ok (.iload_n 1, 1) := by decide +kernel
theorem dJx4a65c_elementData_915e3_5 : decode cJx4a65c_elementData_915e3 5 = .ok (.aaload, 1) := by decide +kernel
theorem dJx4a65c_elementData_915e3_6 : decode cJx4a65c_elementData_915e3 6 = .ok (.areturn, 1) := by decide +kernel
set_option maxRecDepth 20000 in
theorem ggJx4a65c_get_915e3_J15_checkIndex_7cf53 : GoodIn wsJx4a65c_get_915e3 wsJ15_checkIndex_7cf53 := goodIn_r _ [5, 6, 7, 8, 9] (by decide +kernel) (by decide +kernel)
set_option maxRecDepth 20000 in
theorem gJx4a65c_get_915e3_J15_checkIndex_7cf53 : GoodIn wsJx4a65c_get_915e3 (va_wsS RJx4a65c 118 yJ15_checkIndex_7cf53 wsJ15_checkIndex_7cf53) := goodIn_app (goodIn_of _ (by decide +kernel)) ggJx4a65c_get_915e3_J15_checkIndex_7cf53
set_option maxRecDepth 20000 in
theorem ggJx4a65c_get_915e3_Jx4a65c_elementData_915e3 : GoodIn wsJx4a65c_get_915e3 wsJx4a65c_elementData_915e3 := goodIn_r _ [14, 15, 16, 17, 18] (by decide +kernel) (by decide +kernel)
set_option maxRecDepth 20000 in
theorem gJx4a65c_get_915e3_Jx4a65c_elementData_915e3 : GoodIn wsJx4a65c_get_915e3 (wsV RJx4a65c 123 RJx4a65c yJx4a65c_elementData_915e3 wsJx4a65c_elementData_915e3) := goodIn_app (goodIn_of _ (by decide +kernel)) ggJx4a65c_get_915e3_Jx4a65c_elementData_915e3
theorem dJx4a65c_get_915e3_0 : decode cJx4a65c_get_915e3 0 = .ok (.iload_n 1, 1) := by decide +kernel
theorem dJx4a65c_get_915e3_1 : decode cJx4a65c_get_915e3 1 = .ok (.aload_n 0, 1) := by decide +kernel
theorem dJx4a65c_get_915e3_2 : decode cJx4a65c_get_915e3 2 = .ok (.getfield 48, 3) := by decide +kernel
theorem dJx4a65c_get_915e3_5 : decode cJx4a65c_get_915e3 5 = .ok (.invokestatic 118, 3) := by decide +kernel
theorem dJx4a65c_get_915e3_8 : decode cJx4a65c_get_915e3 8 = .ok (.pop, 1) := by decide +kernel
theorem dJx4a65c_get_915e3_9 : decode cJx4a65c_get_915e3 9 = .ok (.aload_n 0, 1) := by decide +kernel
theorem dJx4a65c_get_915e3_10 : decode cJx4a65c_get_915e3 10 = .ok (.iload_n 1, 1) := by decide +kernel
theorem dJx4a65c_get_915e3_11 : decode cJx4a65c_get_915e3 11 = .ok (.invokevirtual 123, 3) := by decide +kernel
theorem dJx4a65c_get_915e3_14 : decode cJx4a65c_get_915e3 14 = .ok (.areturn, 1) := by decide +kernel
set_option maxRecDepth 20000 in
theorem ggJx4a65c_add_72be8_Jx4a65c_grow_d5877 : GoodIn wsJx4a65c_add_72be8 wsJx4a65c_grow_d5877 := goodIn_r _ [6, 1, 7, 8, 9, 5, 10, 11, 12, 13, 14, 15, 16, 17, 18, 19, 20, 21, 22, 23, 24, 25, 26, 27, 28, 29, 30, 31, 32, 33, 34, 35, 36, 37, 38, 39, 40, 41, 42, 43, 44, 45, 46, 47, 48, 49] (by decide +kernel) (by decide +kernel)
set_option maxRecDepth 20000 in
theorem gJx4a65c_add_72be8_Jx4a65c_grow_d5877 : GoodIn wsJx4a65c_add_72be8 (wsV RJx4a65c 129 RJx4a65c yJx4a65c_grow_d5877 wsJx4a65c_grow_d5877) := goodIn_app (goodIn_of _ (by decide +kernel)) ggJx4a65c_add_72be8_Jx4a65c_grow_d5877
theorem dJx4a65c_add_72be8_0 : decode cJx4a65c_add_72be8 0 = .ok (.iload_n 3, 1) := by decide +kernel
theorem dJx4a65c_add_72be8_1 : decode cJx4a65c_add_72be8 1 = .ok (.aload_n 2, 1) := by decide +kernel
theorem dJx4a65c_add_72be8_2 : decode cJx4a65c_add_72be8 2 = .ok (.arraylength, 1) := by decide +kernel
theorem dJx4a65c_add_72be8_3 : decode cJx4a65c_add_72be8 3 = .ok (.if_icmp .ne 8, 3) := by decide +kernel
theorem dJx4a65c_add_72be8_6 : decode cJx4a65c_add_72be8 6 = .ok (.aload_n 0, 1) := by decide +kernel
theorem dJx4a65c_add_72be8_7 : decode cJx4a65c_add_72be8 7 = .ok (.invokevirtual 129, 3) := by decide +kernel
theorem dJx4a65c_add_72be8_10 : decode cJx4a65c_add_72be8 10 = .ok (.astore_n 2, 1) := by decide +kernel
theorem dJx4a65c_add_72be8_11 : decode cJx4a65c_add_72be8 11 = .ok (.aload_n 2, 1) := by decide +kernel
theorem dJx4a65c_add_72be8_12 : decode cJx4a65c_add_72be8 12 = .ok (.iload_n 3, 1) := by decide +kernel
theorem dJx4a65c_add_72be8_13 : decode cJx4a65c_add_72be8 13 = .ok (.aload_n 1, 1) := by decide +kernel
theorem dJx4a65c_add_72be8_14 : decode cJx4a65c_add_72be8 14 = .ok (.aastore, 1) := by decide +kernel
theorem dJx4a65c_add_72be8_15 : decode cJx4a65c_add_72be8 15 = .ok (.aload_n 0, 1) := by decide +kernel
theorem dJx4a65c_add_72be8_16 : decode cJx4a65c_add_72be8 16 = .ok (.iload_n 3, 1) := by decide +kernel
theorem dJx4a65c_add_72be8_17 : decode cJx4a65c_add_72be8 17 = .ok (.iconst 1, 1) := by decide +kernel
theorem dJx4a65c_add_72be8_18 : decode cJx4a65c_add_72be8 18 = .ok (.iadd, 1) := by decide +kernel
theorem dJx4a65c_add_72be8_19 : decode cJx4a65c_add_72be8 19 = .ok (.putfield 48, 3) := by decide +kernel
theorem dJx4a65c_add_72be8_22 : decode cJx4a65c_add_72be8 22 = .ok (.return_, 1) := by decide +kernel
set_option maxRecDepth 20000 in
theorem ggJx4a65c_add_9ea2d_Jx4a65c_add_72be8 : GoodIn wsJx4a65c_add_9ea2d wsJx4a65c_add_72be8 := goodIn_r _ [9, 4, 10, 11, 12, 8, 13, 14, 15, 16, 17, 3, 18, 19, 20, 21, 22, 23, 24, 25, 26, 27, 28, 29, 30, 31, 32, 33, 34, 35, 36, 37, 38, 39, 40, 41, 42, 43, 44, 45, 46, 47, 48, 49, 50, 51, 52, 53, 54, 55] (by decide +kernel) (by decide +kernel)
set_option maxRecDepth 20000 in
theorem gJx4a65c_add_9ea2d_Jx4a65c_add_72be8 : GoodIn wsJx4a65c_add_9ea2d (wsV RJx4a65c 131 RJx4a65c yJx4a65c_add_72be8 wsJx4a65c_add_72be8) := goodIn_app (goodIn_of _ (by decide +kernel)) ggJx4a65c_add_9ea2d_Jx4a65c_add_72be8
theorem dJx4a65c_add_9ea2d_0 : decode cJx4a65c_add_9ea2d 0 = .ok (.aload_n 0, 1) := by decide +kernel
theorem dJx4a65c_add_9ea2d_1 : decode cJx4a65c_add_9ea2d 1 = .ok (.dup, 1) := by decide +kernel
theorem dJx4a65c_add_9ea2d_2 : decode cJx4a65c_add_9ea2d 2 = .ok (.getfield 63, 3) := by decide +kernel
theorem dJx4a65c_add_9ea2d_5 : decode cJx4a65c_add_9ea2d 5 = .ok (.iconst 1, 1) := by decide +kernel
theorem dJx4a65c_add_9ea2d_6 : decode cJx4a65c_add_9ea2d 6 = .ok (.iadd, 1) := by decide +kernel
theorem dJx4a65c_add_9ea2d_7 : decode cJx4a65c_add_9ea2d 7 = .ok (.putfield 63, 3) := by decide +kernel
theorem dJx4a65c_add_9ea2d_10 : decode cJx4a65c_add_9ea2d 10 = .ok (.aload_n 0, 1) := by decide +kernel
theorem dJx4a65c_add_9ea2d_11 : decode cJx4a65c_add_9ea2d 11 = .ok (.aload_n 1, 1) := by decide +kernel
theorem dJx4a65c_add_9ea2d_12 : decode cJx4a65c_add_9ea2d 12 = .ok (.aload_n 0, 1) := by decide +kernel
theorem dJx4a65c_add_9ea2d_13 : decode cJx4a65c_add_9ea2d 13 = .ok (.getfield 9, 3) := by decide +kernel
theorem dJx4a65c_add_9ea2d_16 : decode cJx4a65c_add_9ea2d 16 = .ok (.aload_n 0, 1) := by decide +kernel
theorem dJx4a65c_add_9ea2d_17 : decode cJx4a65c_add_9ea2d 17 = .ok (.getfield 48, 3) := by decide +kernel
theorem dJx4a65c_add_9ea2d_20 : decode cJx4a65c_add_9ea2d 20 = .ok (.invokevirtual 131, 3) := by decide +kernel
theorem dJx4a65c_add_9ea2d_23 : decode cJx4a65c_add_9ea2d 23 = .ok (.iconst 1, 1) := by decide +kernel
theorem dJx4a65c_add_9ea2d_24 : decode cJx4a65c_add_9ea2d 24 = .ok (.ireturn, 1) := by decide +kernel
theorem dJx4a65c_clear_da8c8_0 : decode cJx4a65c_clear_da8c8 0 = .ok (.aload_n 0, 1) := by decide +kernel
theorem dJx4a65c_clear_da8c8_1 : decode cJx4a65c_clear_da8c8 1 = .ok (.dup, 1) := by decide +kernel
theorem dJx4a65c_clear_da8c8_2 : decode cJx4a65c_clear_da8c8 2 = .ok (.getfield 63, 3) := by decide +kernel
theorem dJx4a65c_clear_da8c8_5 : decode cJx4a65c_clear_da8c8 5 = .ok (.iconst 1, 1) := by decide +kernel
theorem dJx4a65c_clear_da8c8_6 : decode cJx4a65c_clear_da8c8 6 = .ok (.iadd, 1) := by decide +kernel
theorem dJx4a65c_clear_da8c8_7 : decode cJx4a65c_clear_da8c8 7 = .ok (.putfield 63, 3) := by decide +kernel
theorem dJx4a65c_clear_da8c8_10 : decode cJx4a65c_clear_da8c8 10 = .ok (.aload_n 0, 1) := by decide +kernel
theorem dJx4a65c_clear_da8c8_11 : decode cJx4a65c_clear_da8c8 11 = .ok (.getfield 9, 3) := by decide +kernel
theorem dJx4a65c_clear_da8c8_14 : decode cJx4a65c_clear_da8c8 14 = .ok (.astore_n 1, 1) := by decide +kernel
theorem dJx4a65c_clear_da8c8_15 : decode cJx4a65c_clear_da8c8 15 = .ok (.aload_n 0, 1) := by decide +kernel
theorem dJx4a65c_clear_da8c8_16 : decode cJx4a65c_clear_da8c8 16 = .ok (.getfield 48, 3) := by decide +kernel
theorem dJx4a65c_clear_da8c8_19 : decode cJx4a65c_clear_da8c8 19 = .ok (.istore_n 2, 1) := by decide +kernel
theorem dJx4a65c_clear_da8c8_20 : decode cJx4a65c_clear_da8c8 20 = .ok (.aload_n 0, 1) := by decide +kernel
theorem dJx4a65c_clear_da8c8_21 : decode cJx4a65c_clear_da8c8 21 = .ok (.iconst 0, 1) := by decide +kernel
theorem dJx4a65c_clear_da8c8_22 : decode cJx4a65c_clear_da8c8 22 = .ok (.dup_x1, 1) := by decide +kernel
theorem dJx4a65c_clear_da8c8_23 : decode cJx4a65c_clear_da8c8 23 = .ok (.putfield 48, 3) := by decide +kernel
theorem dJx4a65c_clear_da8c8_26 : decode cJx4a65c_clear_da8c8 26 = .ok (.istore_n 3, 1) := by decide +kernel
theorem dJx4a65c_clear_da8c8_27 : decode cJx4a65c_clear_da8c8 27 = .ok (.iload_n 3, 1) := by decide +kernel
theorem dJx4a65c_clear_da8c8_28 : decode cJx4a65c_clear_da8c8 28 = .ok (.iload_n 2, 1) := by decide +kernel
theorem dJx4a65c_clear_da8c8_29 : decode cJx4a65c_clear_da8c8 29 = .ok (.if_icmp .ge 13, 3) := by decide +kernel
theorem dJx4a65c_clear_da8c8_42 : decode cJx4a65c_clear_da8c8 42 = .ok (.return_, 1) := by decide +kernel
