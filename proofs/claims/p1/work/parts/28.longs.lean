def mq_X3_isOpen : ev_M := (yX3_isOpen, cX3_isOpen, 2, (some .boolean), [[(.lload_n 0, 1, 0, 0, 0), (.lconst 1, 1, 0, 0, 0), (.lcmp, 1, 0, 0, 0), (.ifCond .lt 15, 3, 0, 0, 0), (.nop, 0, 0, 0, 0), (.nop, 0, 0, 0, 0), (.lload_n 0, 1, 0, 0, 0), (.ldc2_w 11, 3, 0, 0, 2305843009213693951), (.nop, 0, 0, 0, 0), (.nop, 0, 0, 0, 0), (.lcmp, 1, 0, 0, 0), (.ifCond .ge 7, 3, 0, 0, 0), (.nop, 0, 0, 0, 0), (.nop, 0, 0, 0, 0), (.iconst 1, 1, 0, 0, 0), (.goto 4, 3, 0, 0, 0), (.nop, 0, 0, 0, 0), (.nop, 0, 0, 0, 0), (.iconst 0, 1, 0, 0, 0), (.ireturn, 1, 0, 0, 0)]], 0, 1, 0, 0, 0, 0)
def mq_X3_times : ev_M := (yX3_times, cX3_times, 20, (some .long), [[(.lload_n 0, 1, 0, 0, 0), (.bipush 32, 2, 0, 0, 0), (.nop, 0, 0, 0, 0), (.lushr, 1, 0, 0, 0), (.lstore 4, 2, 0, 0, 0), (.nop, 0, 0, 0, 0), (.lload_n 0, 1, 0, 0, 0), (.ldc2_w 13, 3, 0, 0, 4294967295), (.nop, 0, 0, 0, 0), (.nop, 0, 0, 0, 0), (.land, 1, 0, 0, 0), (.lstore 6, 2, 0, 0, 0), (.nop, 0, 0, 0, 0), (.lload_n 2, 1, 0, 0, 0), (.bipush 32, 2, 0, 0, 0), (.nop, 0, 0, 0, 0), (.lushr, 1, 0, 0, 0), (.lstore 8, 2, 0, 0, 0), (.nop, 0, 0, 0, 0), (.lload_n 2, 1, 0, 0, 0), (.ldc2_w 13, 3, 0, 0, 4294967295), (.nop, 0, 0, 0, 0), (.nop, 0, 0, 0, 0), (.land, 1, 0, 0, 0), (.lstore 10, 2, 0, 0, 0), (.nop, 0, 0, 0, 0), (.lload 4, 2, 0, 0, 0), (.nop, 0, 0, 0, 0), (.lload 10, 2, 0, 0, 0), (.nop, 0, 0, 0, 0), (.lmul, 1, 0, 0, 0), (.lload 6, 2, 0, 0, 0)],
    [(.nop, 0, 0, 0, 0), (.lload 8, 2, 0, 0, 0), (.nop, 0, 0, 0, 0), (.lmul, 1, 0, 0, 0), (.ladd, 1, 0, 0, 0), (.lstore 12, 2, 0, 0, 0), (.nop, 0, 0, 0, 0), (.lload 6, 2, 0, 0, 0), (.nop, 0, 0, 0, 0), (.lload 10, 2, 0, 0, 0), (.nop, 0, 0, 0, 0), (.lmul, 1, 0, 0, 0), (.lstore 14, 2, 0, 0, 0), (.nop, 0, 0, 0, 0), (.lload 4, 2, 0, 0, 0), (.nop, 0, 0, 0, 0), (.lload 8, 2, 0, 0, 0), (.nop, 0, 0, 0, 0), (.lmul, 1, 0, 0, 0), (.iconst 3, 1, 0, 0, 0), (.lshl, 1, 0, 0, 0), (.lload 12, 2, 0, 0, 0), (.nop, 0, 0, 0, 0), (.bipush 29, 2, 0, 0, 0), (.nop, 0, 0, 0, 0), (.lushr, 1, 0, 0, 0), (.ladd, 1, 0, 0, 0), (.lload 12, 2, 0, 0, 0), (.nop, 0, 0, 0, 0), (.ldc2_w 15, 3, 0, 0, 536870911), (.nop, 0, 0, 0, 0), (.nop, 0, 0, 0, 0)],
    [(.land, 1, 0, 0, 0), (.bipush 32, 2, 0, 0, 0), (.nop, 0, 0, 0, 0), (.lshl, 1, 0, 0, 0), (.ladd, 1, 0, 0, 0), (.lload 14, 2, 0, 0, 0), (.nop, 0, 0, 0, 0), (.ldc2_w 11, 3, 0, 0, 2305843009213693951), (.nop, 0, 0, 0, 0), (.nop, 0, 0, 0, 0), (.land, 1, 0, 0, 0), (.ladd, 1, 0, 0, 0), (.lload 14, 2, 0, 0, 0), (.nop, 0, 0, 0, 0), (.bipush 61, 2, 0, 0, 0), (.nop, 0, 0, 0, 0), (.lushr, 1, 0, 0, 0), (.ladd, 1, 0, 0, 0), (.lstore 16, 2, 0, 0, 0), (.nop, 0, 0, 0, 0), (.lload 16, 2, 0, 0, 0), (.nop, 0, 0, 0, 0), (.ldc2_w 11, 3, 0, 0, 2305843009213693951), (.nop, 0, 0, 0, 0), (.nop, 0, 0, 0, 0), (.land, 1, 0, 0, 0), (.lload 16, 2, 0, 0, 0), (.nop, 0, 0, 0, 0), (.bipush 61, 2, 0, 0, 0), (.nop, 0, 0, 0, 0), (.lushr, 1, 0, 0, 0), (.ladd, 1, 0, 0, 0)],
    [(.lstore 18, 2, 0, 0, 0), (.nop, 0, 0, 0, 0), (.lload 18, 2, 0, 0, 0), (.nop, 0, 0, 0, 0), (.ldc2_w 11, 3, 0, 0, 2305843009213693951), (.nop, 0, 0, 0, 0), (.nop, 0, 0, 0, 0), (.lcmp, 1, 0, 0, 0), (.ifCond .lt 12, 3, 0, 0, 0), (.nop, 0, 0, 0, 0), (.nop, 0, 0, 0, 0), (.lload 18, 2, 0, 0, 0), (.nop, 0, 0, 0, 0), (.ldc2_w 11, 3, 0, 0, 2305843009213693951), (.nop, 0, 0, 0, 0), (.nop, 0, 0, 0, 0), (.lsub, 1, 0, 0, 0), (.goto 5, 3, 0, 0, 0), (.nop, 0, 0, 0, 0), (.nop, 0, 0, 0, 0), (.lload 18, 2, 0, 0, 0), (.nop, 0, 0, 0, 0), (.lreturn, 1, 0, 0, 0)]], 10, 2, 0, 0, 0, 0)
def mq_X11_times : ev_M := (yX11_times, cX11_times, 18, (some .long), [[(.lload_n 0, 1, 0, 0, 0), (.bipush 31, 2, 0, 0, 0), (.nop, 0, 0, 0, 0), (.lshr, 1, 0, 0, 0), (.lstore 4, 2, 0, 0, 0), (.nop, 0, 0, 0, 0), (.lload_n 0, 1, 0, 0, 0), (.ldc2_w 224, 3, 0, 0, 2147483647), (.nop, 0, 0, 0, 0), (.nop, 0, 0, 0, 0), (.land, 1, 0, 0, 0), (.lstore 6, 2, 0, 0, 0), (.nop, 0, 0, 0, 0), (.lload_n 2, 1, 0, 0, 0), (.bipush 31, 2, 0, 0, 0), (.nop, 0, 0, 0, 0), (.lshr, 1, 0, 0, 0), (.lstore 8, 2, 0, 0, 0), (.nop, 0, 0, 0, 0), (.lload_n 2, 1, 0, 0, 0), (.ldc2_w 224, 3, 0, 0, 2147483647), (.nop, 0, 0, 0, 0), (.nop, 0, 0, 0, 0), (.land, 1, 0, 0, 0), (.lstore 10, 2, 0, 0, 0), (.nop, 0, 0, 0, 0), (.lload 4, 2, 0, 0, 0), (.nop, 0, 0, 0, 0), (.lload 10, 2, 0, 0, 0), (.nop, 0, 0, 0, 0), (.lmul, 1, 0, 0, 0), (.lload 6, 2, 0, 0, 0)],
    [(.nop, 0, 0, 0, 0), (.lload 8, 2, 0, 0, 0), (.nop, 0, 0, 0, 0), (.lmul, 1, 0, 0, 0), (.ladd, 1, 0, 0, 0), (.lstore 12, 2, 0, 0, 0), (.nop, 0, 0, 0, 0), (.lload 6, 2, 0, 0, 0), (.nop, 0, 0, 0, 0), (.lload 10, 2, 0, 0, 0), (.nop, 0, 0, 0, 0), (.lmul, 1, 0, 0, 0), (.lstore 14, 2, 0, 0, 0), (.nop, 0, 0, 0, 0), (.ldc2_w 226, 3, 0, 0, 2), (.nop, 0, 0, 0, 0), (.nop, 0, 0, 0, 0), (.lload 4, 2, 0, 0, 0), (.nop, 0, 0, 0, 0), (.lload 8, 2, 0, 0, 0), (.nop, 0, 0, 0, 0), (.lmul, 1, 0, 0, 0), (.lmul, 1, 0, 0, 0), (.ldc2_w 228, 3, 0, 0, 2305843009213693951), (.nop, 0, 0, 0, 0), (.nop, 0, 0, 0, 0), (.lrem, 1, 0, 0, 0), (.lstore 16, 2, 0, 0, 0), (.nop, 0, 0, 0, 0), (.lload 16, 2, 0, 0, 0), (.nop, 0, 0, 0, 0), (.lload 12, 2, 0, 0, 0)],
    [(.nop, 0, 0, 0, 0), (.bipush 30, 2, 0, 0, 0), (.nop, 0, 0, 0, 0), (.lshr, 1, 0, 0, 0), (.ladd, 1, 0, 0, 0), (.ldc2_w 228, 3, 0, 0, 2305843009213693951), (.nop, 0, 0, 0, 0), (.nop, 0, 0, 0, 0), (.lrem, 1, 0, 0, 0), (.lstore 16, 2, 0, 0, 0), (.nop, 0, 0, 0, 0), (.lload 16, 2, 0, 0, 0), (.nop, 0, 0, 0, 0), (.lload 12, 2, 0, 0, 0), (.nop, 0, 0, 0, 0), (.ldc2_w 230, 3, 0, 0, 1073741823), (.nop, 0, 0, 0, 0), (.nop, 0, 0, 0, 0), (.land, 1, 0, 0, 0), (.bipush 31, 2, 0, 0, 0), (.nop, 0, 0, 0, 0), (.lshl, 1, 0, 0, 0), (.ladd, 1, 0, 0, 0), (.ldc2_w 228, 3, 0, 0, 2305843009213693951), (.nop, 0, 0, 0, 0), (.nop, 0, 0, 0, 0), (.lrem, 1, 0, 0, 0), (.lstore 16, 2, 0, 0, 0), (.nop, 0, 0, 0, 0), (.lload 16, 2, 0, 0, 0), (.nop, 0, 0, 0, 0), (.lload 14, 2, 0, 0, 0)],
    [(.nop, 0, 0, 0, 0), (.ldc2_w 228, 3, 0, 0, 2305843009213693951), (.nop, 0, 0, 0, 0), (.nop, 0, 0, 0, 0), (.lrem, 1, 0, 0, 0), (.ladd, 1, 0, 0, 0), (.ldc2_w 228, 3, 0, 0, 2305843009213693951), (.nop, 0, 0, 0, 0), (.nop, 0, 0, 0, 0), (.lrem, 1, 0, 0, 0), (.lreturn, 1, 0, 0, 0)]], 10, 2, 0, 0, 0, 0)
def mq_X3_power : ev_M := (yX3_power, cX3_power, 9, (some .long), [[(.lload_n 0, 1, 0, 0, 0), (.invokestatic 17, 3, 0, 0, 0), (.nop, 0, 0, 0, 0), (.nop, 0, 0, 0, 0), (.ifCond .ne 5, 3, 0, 0, 0), (.nop, 0, 0, 0, 0), (.nop, 0, 0, 0, 0), (.lconst 0, 1, 0, 0, 0), (.lreturn, 1, 0, 0, 0), (.lconst 1, 1, 0, 0, 0), (.lstore 4, 2, 0, 0, 0), (.nop, 0, 0, 0, 0), (.lload_n 0, 1, 0, 0, 0), (.lstore 6, 2, 0, 0, 0), (.nop, 0, 0, 0, 0), (.iconst 0, 1, 0, 0, 0), (.istore 8, 2, 0, 0, 0), (.nop, 0, 0, 0, 0), (.iload 8, 2, 0, 0, 0), (.nop, 0, 0, 0, 0), (.bipush 61, 2, 0, 0, 0), (.nop, 0, 0, 0, 0), (.if_icmp .ge 38, 3, 0, 0, 0), (.nop, 0, 0, 0, 0), (.nop, 0, 0, 0, 0), (.lload_n 2, 1, 0, 0, 0), (.iload 8, 2, 0, 0, 0), (.nop, 0, 0, 0, 0), (.lushr, 1, 0, 0, 0), (.lconst 1, 1, 0, 0, 0), (.land, 1, 0, 0, 0), (.lconst 1, 1, 0, 0, 0)],
    [(.lcmp, 1, 0, 0, 0), (.ifCond .ne 12, 3, 0, 0, 0), (.nop, 0, 0, 0, 0), (.nop, 0, 0, 0, 0), (.lload 4, 2, 0, 0, 0), (.nop, 0, 0, 0, 0), (.lload 6, 2, 0, 0, 0), (.nop, 0, 0, 0, 0), (.invokestatic 21, 3, 1, 0, 0), (.nop, 0, 0, 0, 0), (.nop, 0, 0, 0, 0), (.lstore 4, 2, 0, 0, 0), (.nop, 0, 0, 0, 0), (.lload 6, 2, 0, 0, 0), (.nop, 0, 0, 0, 0), (.lload 6, 2, 0, 0, 0), (.nop, 0, 0, 0, 0), (.invokestatic 21, 3, 1, 0, 0), (.nop, 0, 0, 0, 0), (.nop, 0, 0, 0, 0), (.lstore 6, 2, 0, 0, 0), (.nop, 0, 0, 0, 0), (.iinc 8 1, 3, 0, 0, 0), (.nop, 0, 0, 0, 0), (.nop, 0, 0, 0, 0), (.goto (-39), 3, 0, 0, 0), (.nop, 0, 0, 0, 0), (.nop, 0, 0, 0, 0), (.lload 4, 2, 0, 0, 0), (.nop, 0, 0, 0, 0), (.lreturn, 1, 0, 0, 0)]], 10, 2, 1, 39, 0, 0)
def mq_X3_timesModuloQ : ev_M := (yX3_timesModuloQ, cX3_timesModuloQ, 9, (some .long), [[(.lconst 0, 1, 0, 0, 0), (.lstore 4, 2, 0, 0, 0), (.nop, 0, 0, 0, 0), (.lload_n 0, 1, 0, 0, 0), (.lstore 6, 2, 0, 0, 0), (.nop, 0, 0, 0, 0), (.iconst 0, 1, 0, 0, 0), (.istore 8, 2, 0, 0, 0), (.nop, 0, 0, 0, 0), (.iload 8, 2, 0, 0, 0), (.nop, 0, 0, 0, 0), (.bipush 61, 2, 0, 0, 0), (.nop, 0, 0, 0, 0), (.if_icmp .ge 43, 3, 0, 0, 0), (.nop, 0, 0, 0, 0), (.nop, 0, 0, 0, 0), (.lload_n 2, 1, 0, 0, 0), (.iload 8, 2, 0, 0, 0), (.nop, 0, 0, 0, 0), (.lushr, 1, 0, 0, 0), (.lconst 1, 1, 0, 0, 0), (.land, 1, 0, 0, 0), (.lconst 1, 1, 0, 0, 0), (.lcmp, 1, 0, 0, 0), (.ifCond .ne 14, 3, 0, 0, 0), (.nop, 0, 0, 0, 0), (.nop, 0, 0, 0, 0), (.lload 4, 2, 0, 0, 0), (.nop, 0, 0, 0, 0), (.lload 6, 2, 0, 0, 0), (.nop, 0, 0, 0, 0), (.ladd, 1, 0, 0, 0)],
    [(.ldc2_w 32, 3, 0, 0, 2305843009213693950), (.nop, 0, 0, 0, 0), (.nop, 0, 0, 0, 0), (.lrem, 1, 0, 0, 0), (.lstore 4, 2, 0, 0, 0), (.nop, 0, 0, 0, 0), (.lload 6, 2, 0, 0, 0), (.nop, 0, 0, 0, 0), (.ldc2_w 25, 3, 0, 0, 2), (.nop, 0, 0, 0, 0), (.nop, 0, 0, 0, 0), (.lmul, 1, 0, 0, 0), (.ldc2_w 32, 3, 0, 0, 2305843009213693950), (.nop, 0, 0, 0, 0), (.nop, 0, 0, 0, 0), (.lrem, 1, 0, 0, 0), (.lstore 6, 2, 0, 0, 0), (.nop, 0, 0, 0, 0), (.iinc 8 1, 3, 0, 0, 0), (.nop, 0, 0, 0, 0), (.nop, 0, 0, 0, 0), (.goto (-44), 3, 0, 0, 0), (.nop, 0, 0, 0, 0), (.nop, 0, 0, 0, 0), (.lload 4, 2, 0, 0, 0), (.nop, 0, 0, 0, 0), (.lreturn, 1, 0, 0, 0)]], 10, 2, 0, 0, 0, 0)
def mq_X11_power : ev_M := (yX11_power, cX11_power, 7, (some .long), [[(.lconst 1, 1, 0, 0, 0), (.lstore 4, 2, 0, 0, 0), (.nop, 0, 0, 0, 0), (.bipush 60, 2, 0, 0, 0), (.nop, 0, 0, 0, 0), (.istore 6, 2, 0, 0, 0), (.nop, 0, 0, 0, 0), (.iload 6, 2, 0, 0, 0), (.nop, 0, 0, 0, 0), (.ifCond .lt 37, 3, 0, 0, 0), (.nop, 0, 0, 0, 0), (.nop, 0, 0, 0, 0), (.lload 4, 2, 0, 0, 0), (.nop, 0, 0, 0, 0), (.lload 4, 2, 0, 0, 0), (.nop, 0, 0, 0, 0), (.invokestatic 236, 3, 2, 0, 0), (.nop, 0, 0, 0, 0), (.nop, 0, 0, 0, 0), (.lstore 4, 2, 0, 0, 0), (.nop, 0, 0, 0, 0), (.lload_n 2, 1, 0, 0, 0), (.iload 6, 2, 0, 0, 0), (.nop, 0, 0, 0, 0), (.lshr, 1, 0, 0, 0), (.lconst 1, 1, 0, 0, 0), (.land, 1, 0, 0, 0), (.lconst 1, 1, 0, 0, 0), (.lcmp, 1, 0, 0, 0), (.ifCond .ne 11, 3, 0, 0, 0), (.nop, 0, 0, 0, 0), (.nop, 0, 0, 0, 0)],
    [(.lload 4, 2, 0, 0, 0), (.nop, 0, 0, 0, 0), (.lload_n 0, 1, 0, 0, 0), (.invokestatic 236, 3, 2, 0, 0), (.nop, 0, 0, 0, 0), (.nop, 0, 0, 0, 0), (.lstore 4, 2, 0, 0, 0), (.nop, 0, 0, 0, 0), (.iinc 6 (-1), 3, 0, 0, 0), (.nop, 0, 0, 0, 0), (.nop, 0, 0, 0, 0), (.goto (-36), 3, 0, 0, 0), (.nop, 0, 0, 0, 0), (.nop, 0, 0, 0, 0), (.lload 4, 2, 0, 0, 0), (.nop, 0, 0, 0, 0), (.lreturn, 1, 0, 0, 0)]], 10, 2, 1, 37, 0, 0)
def mq_X11_timesQ : ev_M := (yX11_timesQ, cX11_timesQ, 18, (some .long), [[(.lload_n 0, 1, 0, 0, 0), (.bipush 31, 2, 0, 0, 0), (.nop, 0, 0, 0, 0), (.lshr, 1, 0, 0, 0), (.lstore 4, 2, 0, 0, 0), (.nop, 0, 0, 0, 0), (.lload_n 0, 1, 0, 0, 0), (.ldc2_w 224, 3, 0, 0, 2147483647), (.nop, 0, 0, 0, 0), (.nop, 0, 0, 0, 0), (.land, 1, 0, 0, 0), (.lstore 6, 2, 0, 0, 0), (.nop, 0, 0, 0, 0), (.lload_n 2, 1, 0, 0, 0), (.bipush 31, 2, 0, 0, 0), (.nop, 0, 0, 0, 0), (.lshr, 1, 0, 0, 0), (.lstore 8, 2, 0, 0, 0), (.nop, 0, 0, 0, 0), (.lload_n 2, 1, 0, 0, 0), (.ldc2_w 224, 3, 0, 0, 2147483647), (.nop, 0, 0, 0, 0), (.nop, 0, 0, 0, 0), (.land, 1, 0, 0, 0), (.lstore 10, 2, 0, 0, 0), (.nop, 0, 0, 0, 0), (.lload 4, 2, 0, 0, 0), (.nop, 0, 0, 0, 0), (.lload 10, 2, 0, 0, 0), (.nop, 0, 0, 0, 0), (.lmul, 1, 0, 0, 0), (.lload 6, 2, 0, 0, 0)],
    [(.nop, 0, 0, 0, 0), (.lload 8, 2, 0, 0, 0), (.nop, 0, 0, 0, 0), (.lmul, 1, 0, 0, 0), (.ladd, 1, 0, 0, 0), (.lstore 12, 2, 0, 0, 0), (.nop, 0, 0, 0, 0), (.lload 6, 2, 0, 0, 0), (.nop, 0, 0, 0, 0), (.lload 10, 2, 0, 0, 0), (.nop, 0, 0, 0, 0), (.lmul, 1, 0, 0, 0), (.lstore 14, 2, 0, 0, 0), (.nop, 0, 0, 0, 0), (.ldc2_w 232, 3, 0, 0, 4), (.nop, 0, 0, 0, 0), (.nop, 0, 0, 0, 0), (.lload 4, 2, 0, 0, 0), (.nop, 0, 0, 0, 0), (.lload 8, 2, 0, 0, 0), (.nop, 0, 0, 0, 0), (.lmul, 1, 0, 0, 0), (.ldc2_w 234, 3, 0, 0, 2305843009213693950), (.nop, 0, 0, 0, 0), (.nop, 0, 0, 0, 0), (.lrem, 1, 0, 0, 0), (.lmul, 1, 0, 0, 0), (.ldc2_w 234, 3, 0, 0, 2305843009213693950), (.nop, 0, 0, 0, 0), (.nop, 0, 0, 0, 0), (.lrem, 1, 0, 0, 0), (.lstore 16, 2, 0, 0, 0)],
    [(.nop, 0, 0, 0, 0), (.lload 16, 2, 0, 0, 0), (.nop, 0, 0, 0, 0), (.ldc2_w 226, 3, 0, 0, 2), (.nop, 0, 0, 0, 0), (.nop, 0, 0, 0, 0), (.lload 12, 2, 0, 0, 0), (.nop, 0, 0, 0, 0), (.bipush 30, 2, 0, 0, 0), (.nop, 0, 0, 0, 0), (.lshr, 1, 0, 0, 0), (.lmul, 1, 0, 0, 0), (.ladd, 1, 0, 0, 0), (.ldc2_w 234, 3, 0, 0, 2305843009213693950), (.nop, 0, 0, 0, 0), (.nop, 0, 0, 0, 0), (.lrem, 1, 0, 0, 0), (.lstore 16, 2, 0, 0, 0), (.nop, 0, 0, 0, 0), (.lload 16, 2, 0, 0, 0), (.nop, 0, 0, 0, 0), (.lload 12, 2, 0, 0, 0), (.nop, 0, 0, 0, 0), (.ldc2_w 230, 3, 0, 0, 1073741823), (.nop, 0, 0, 0, 0), (.nop, 0, 0, 0, 0), (.land, 1, 0, 0, 0), (.bipush 31, 2, 0, 0, 0), (.nop, 0, 0, 0, 0), (.lshl, 1, 0, 0, 0), (.ldc2_w 234, 3, 0, 0, 2305843009213693950), (.nop, 0, 0, 0, 0)],
    [(.nop, 0, 0, 0, 0), (.lrem, 1, 0, 0, 0), (.ladd, 1, 0, 0, 0), (.ldc2_w 234, 3, 0, 0, 2305843009213693950), (.nop, 0, 0, 0, 0), (.nop, 0, 0, 0, 0), (.lrem, 1, 0, 0, 0), (.lstore 16, 2, 0, 0, 0), (.nop, 0, 0, 0, 0), (.lload 16, 2, 0, 0, 0), (.nop, 0, 0, 0, 0), (.lload 14, 2, 0, 0, 0), (.nop, 0, 0, 0, 0), (.ldc2_w 234, 3, 0, 0, 2305843009213693950), (.nop, 0, 0, 0, 0), (.nop, 0, 0, 0, 0), (.lrem, 1, 0, 0, 0), (.ladd, 1, 0, 0, 0), (.ldc2_w 234, 3, 0, 0, 2305843009213693950), (.nop, 0, 0, 0, 0), (.nop, 0, 0, 0, 0), (.lrem, 1, 0, 0, 0), (.lreturn, 1, 0, 0, 0)]], 10, 2, 0, 0, 0, 0)
def ev_pq : List ev_M := [mq_X3_isOpen, mq_X3_times, mq_X11_times]
set_option maxRecDepth 100000 in
theorem oq_X3_isOpen : ev_mok (ev_TT.flatten.filter goodWord) [] [] ([], [], []) (fun _ _ => .int) ev_pq mq_X3_isOpen := ev_mchk_okT (TT := ev_TT) nd_X3_isOpen (ev_cin (l := tables_1_2) 2 112 rfl rfl rfl) (by decide +kernel) (by decide +kernel) (by decide +kernel) (by decide +kernel)
set_option maxRecDepth 100000 in
theorem oq_X3_times : ev_mok (ev_TT.flatten.filter goodWord) [] [] ([], [], []) (fun _ _ => .int) ev_pq mq_X3_times := ev_mchk_okT (TT := ev_TT) nd_X3_times (ev_cin (l := tables_1_2) 2 116 rfl rfl rfl) (by decide +kernel) (by decide +kernel) (by decide +kernel) (by decide +kernel)
set_option maxRecDepth 100000 in
theorem oe_X3_times : ev_mok (ev_TT.flatten.filter goodWord) [] [] ([], [], []) (fun _ _ => .int) [] mq_X3_times := ev_mchk_okT (TT := ev_TT) nd_X3_times (ev_cin (l := tables_1_2) 2 116 rfl rfl rfl) (by decide +kernel) (by decide +kernel) (by decide +kernel) (by decide +kernel)
set_option maxRecDepth 100000 in
theorem oq_X11_times : ev_mok (ev_TT.flatten.filter goodWord) [] [] ([], [], []) (fun _ _ => .int) ev_pq mq_X11_times := ev_mchk_okT (TT := ev_TT) nd_X11_times (ev_cin (l := tables_1_6) 6 41 rfl rfl rfl) (by decide +kernel) (by decide +kernel) (by decide +kernel) (by decide +kernel)
set_option maxRecDepth 100000 in
theorem oe_X11_times : ev_mok (ev_TT.flatten.filter goodWord) [] [] ([], [], []) (fun _ _ => .int) [] mq_X11_times := ev_mchk_okT (TT := ev_TT) nd_X11_times (ev_cin (l := tables_1_6) 6 41 rfl rfl rfl) (by decide +kernel) (by decide +kernel) (by decide +kernel) (by decide +kernel)
set_option maxRecDepth 100000 in
theorem oq_X3_power : ev_mok (ev_TT.flatten.filter goodWord) [] [] ([], [], []) (fun _ _ => .int) ev_pq mq_X3_power := ev_mchk_okT (TT := ev_TT) nd_X3_power (ev_cin (l := tables_1_2) 2 109 rfl rfl rfl) (by decide +kernel) (by decide +kernel) (by decide +kernel) (by decide +kernel)
set_option maxRecDepth 100000 in
theorem oq_X3_timesModuloQ : ev_mok (ev_TT.flatten.filter goodWord) [] [] ([], [], []) (fun _ _ => .int) ev_pq mq_X3_timesModuloQ := ev_mchk_okT (TT := ev_TT) nd_X3_timesModuloQ (ev_cin (l := tables_1_2) 2 159 rfl rfl rfl) (by decide +kernel) (by decide +kernel) (by decide +kernel) (by decide +kernel)
set_option maxRecDepth 100000 in
theorem oe_X3_timesModuloQ : ev_mok (ev_TT.flatten.filter goodWord) [] [] ([], [], []) (fun _ _ => .int) [] mq_X3_timesModuloQ := ev_mchk_okT (TT := ev_TT) nd_X3_timesModuloQ (ev_cin (l := tables_1_2) 2 159 rfl rfl rfl) (by decide +kernel) (by decide +kernel) (by decide +kernel) (by decide +kernel)
set_option maxRecDepth 100000 in
theorem oq_X11_power : ev_mok (ev_TT.flatten.filter goodWord) [] [] ([], [], []) (fun _ _ => .int) ev_pq mq_X11_power := ev_mchk_okT (TT := ev_TT) nd_X11_power (ev_cin (l := tables_1_6) 6 38 rfl rfl rfl) (by decide +kernel) (by decide +kernel) (by decide +kernel) (by decide +kernel)
set_option maxRecDepth 100000 in
theorem oq_X11_timesQ : ev_mok (ev_TT.flatten.filter goodWord) [] [] ([], [], []) (fun _ _ => .int) ev_pq mq_X11_timesQ := ev_mchk_okT (TT := ev_TT) nd_X11_timesQ (ev_cin (l := tables_1_6) 6 59 rfl rfl rfl) (by decide +kernel) (by decide +kernel) (by decide +kernel) (by decide +kernel)
set_option maxRecDepth 100000 in
theorem oe_X11_timesQ : ev_mok (ev_TT.flatten.filter goodWord) [] [] ([], [], []) (fun _ _ => .int) [] mq_X11_timesQ := ev_mchk_okT (TT := ev_TT) nd_X11_timesQ (ev_cin (l := tables_1_6) 6 59 rfl rfl rfl) (by decide +kernel) (by decide +kernel) (by decide +kernel) (by decide +kernel)
set_option maxRecDepth 100000 in
theorem hv_X3_times (l : Launch) : ev_Hv l (ev_TT.flatten.filter goodWord) mq_X3_times := by
  refine ev_hv_of (dk := fun M => M = mq_X3_times) (stop := ev_nostop) (n := 200) oe_X3_times rfl (fun pc E h => (oe_X3_times.2.2.2.2.2.2.2 pc E h).1) (by decide) (fun D B => ?_) (by decide)
  exact ev_sound (PG := []) (ev_fx_e ev_tg_good) (fun _ h => by cases h) (fun _ h => by cases h) (fun M hM => by subst hM; exact oe_X3_times.2.2.2.2.2.2.2) (Nat.zero_le _) rfl (fun _ h => by cases h) (fun _ _ h => by cases h) 200 _ (by decide +kernel)
set_option maxRecDepth 100000 in
theorem hv_X11_times (l : Launch) : ev_Hv l (ev_TT.flatten.filter goodWord) mq_X11_times := by
  refine ev_hv_of (dk := fun M => M = mq_X11_times) (stop := ev_nostop) (n := 200) oe_X11_times rfl (fun pc E h => (oe_X11_times.2.2.2.2.2.2.2 pc E h).1) (by decide) (fun D B => ?_) (by decide)
  exact ev_sound (PG := []) (ev_fx_e ev_tg_good) (fun _ h => by cases h) (fun _ h => by cases h) (fun M hM => by subst hM; exact oe_X11_times.2.2.2.2.2.2.2) (Nat.zero_le _) rfl (fun _ h => by cases h) (fun _ _ h => by cases h) 200 _ (by decide +kernel)
set_option maxRecDepth 100000 in
theorem hv_X11_timesQ (l : Launch) : ev_Hv l (ev_TT.flatten.filter goodWord) mq_X11_timesQ := by
  refine ev_hv_of (dk := fun M => M = mq_X11_timesQ) (stop := ev_nostop) (n := 200) oe_X11_timesQ rfl (fun pc E h => (oe_X11_timesQ.2.2.2.2.2.2.2 pc E h).1) (by decide) (fun D B => ?_) (by decide)
  exact ev_sound (PG := []) (ev_fx_e ev_tg_good) (fun _ h => by cases h) (fun _ h => by cases h) (fun M hM => by subst hM; exact oe_X11_timesQ.2.2.2.2.2.2.2) (Nat.zero_le _) rfl (fun _ h => by cases h) (fun _ _ h => by cases h) 200 _ (by decide +kernel)
theorem ev_pq_ok : ∀ M ∈ ev_pq, ev_mok (ev_TT.flatten.filter goodWord) [] [] ([], [], []) (fun _ _ => .int) ev_pq M := by
  show ∀ M ∈ [mq_X3_isOpen, mq_X3_times, mq_X11_times], _
  exact List.forall_mem_cons.mpr ⟨oq_X3_isOpen, List.forall_mem_cons.mpr ⟨oq_X3_times, List.forall_mem_cons.mpr ⟨oq_X11_times, fun _ h => absurd h List.not_mem_nil⟩⟩⟩
theorem ev_pe_ok : ∀ M ∈ ([] : List ev_M), ev_mok (ev_TT.flatten.filter goodWord) [] [] ([], [], []) (fun _ _ => .int) [] M := fun _ h => by cases h
theorem ev_hq (l : Launch) : ∀ M ∈ ev_pq, 10 ≤ ev_mK M → ev_Hv l (ev_TT.flatten.filter goodWord) M := by
  show ∀ M ∈ [mq_X3_isOpen, mq_X3_times, mq_X11_times], _
  exact List.forall_mem_cons.mpr ⟨fun h => absurd h (by decide), List.forall_mem_cons.mpr ⟨fun _ => hv_X3_times l, List.forall_mem_cons.mpr ⟨fun _ => hv_X11_times l, fun _ h => absurd h List.not_mem_nil⟩⟩⟩
theorem ev_idq_X3_power : ∀ M ∈ ev_pq, ¬ ((fun M => ev_mL M == 9) M = true) := by
  show ∀ M ∈ [mq_X3_isOpen, mq_X3_times, mq_X11_times], _
  exact List.forall_mem_cons.mpr ⟨by decide, List.forall_mem_cons.mpr ⟨by decide, List.forall_mem_cons.mpr ⟨by decide, fun _ h => absurd h List.not_mem_nil⟩⟩⟩
def lw_X3_power (j : Nat) : List (Nat × ev_A) := [(8, (0, (j : Int), (j : Int))), (6, ev_tL), (4, ev_tL), (0, ev_tL), (2, ev_tL)]
set_option maxRecDepth 100000 in
theorem lb_X3_power : ev_run ([], [], []) ev_pq ev_finL ev_nostop 300 ([(mq_X3_power, 18, lw_X3_power 61, [], 0, 0)], (0, []), []) = true := by decide +kernel
set_option maxRecDepth 100000 in
theorem lt_X3_power : ∀ j, j < 61 → ev_run ([], [], []) ev_pq ev_finL (ev_stp (fun M => ev_mL M == 9) 18 (lw_X3_power (j + 1))) 300 ([(mq_X3_power, 18, lw_X3_power j, [], 0, 0)], (0, []), []) = true := by decide +kernel
set_option maxRecDepth 100000 in
theorem le_X3_power : ev_run ([], [], []) ev_pq ev_finL (ev_stp (fun M => ev_mL M == 9) 18 (lw_X3_power 0)) 300 ([(mq_X3_power, 0, ev_args 0 (List.replicate 2 ev_tL), [], 0, 0)], (0, []), []) = true := by decide +kernel
theorem hv_X3_power (l : Launch) : ev_Hv l (ev_TT.flatten.filter goodWord) mq_X3_power := by
  have hid : ∀ M, (M = mq_X3_power ∨ M ∈ ev_pq) → (fun M => ev_mL M == 9) M = true → M = mq_X3_power := by
    intro M hM hb
    rcases hM with h | h
    · exact h
    · exact absurd hb (ev_idq_X3_power M h)
  have hdd : ∀ M, (M = mq_X3_power ∨ M ∈ ev_pq) → ∀ (pc : Nat) (E : ev_E), ev_at M pc = some E → decode (ev_mB M) pc = .ok (E.1, E.2.1) ∧ ev_lok (ev_TT.flatten.filter goodWord) [] [] ([], [], []) (fun _ _ => .int) ev_pq (ev_mN M).cls (ev_mK M) E := by
    intro M hM
    rcases hM with h | h
    · subst h; exact oq_X3_power.2.2.2.2.2.2.2
    · exact (ev_pq_ok M h).2.2.2.2.2.2.2
  refine ev_hv_of (PG := ev_pq) (dk := fun M => M = mq_X3_power ∨ M ∈ ev_pq) (stop := ev_stp (fun M => ev_mL M == 9) 18 (lw_X3_power 0)) (n := 300) oq_X3_power (Or.inl rfl) (fun pc E h => (oq_X3_power.2.2.2.2.2.2.2 pc E h).1) (by decide) (fun D B => ?_) (by decide)
  refine ev_sound (dk := fun M => M = mq_X3_power ∨ M ∈ ev_pq) (ev_fx_e ev_tg_good) ev_pq_ok (fun _ h => Or.inr h) hdd (by decide) rfl (ev_hq l) (fun n2 S hS => ?_) 300 _ le_X3_power
  have q := ev_loop (l := l) (D := D) (tys := []) (o := false) (B := B) (b := 0) (L := 0) (xs := fun _ => 0) (dk := fun M => M = mq_X3_power ∨ M ∈ ev_pq) (fun M => ev_mL M == 9) hid 18 61 300 lw_X3_power (ev_fx_e ev_tg_good) ev_pq_ok (fun _ h => Or.inr h) hdd (by decide) rfl (ev_hq l) lb_X3_power lt_X3_power 61 (Nat.le_refl _)
  unfold ev_stp at hS
  split at hS
  · rename_i M pc lv st bc bs h sg
    obtain ⟨hn, hl⟩ := h
    simp only [Bool.and_eq_true, beq_iff_eq, List.isEmpty_iff] at hS
    obtain ⟨⟨⟨⟨⟨⟨⟨⟨rfl, g1⟩, rfl⟩, rfl⟩, rfl⟩, rfl⟩, rfl⟩, rfl⟩, g2⟩ := hS
    intro h1 h2 p e R s m args below meth c Q H locs cells slots ls clv cst mc ms a1 a2 a3 a4 a5 a6 a7 a8 a9 a10 a11 a12 a13 a14
    have hMM := hid M h1 (by simpa using g1)
    subst hMM
    obtain ⟨clw, c1, c2⟩ := ev_cov_ok a2 a3 g2
    exact q h1 h2 p e R s m args below meth c Q H locs cells slots ls clw cst mc ms a1 c1 c2 a4 a5 a6 a7 a8 a9 a10 a11 a12 a13 a14
  · cases hS
theorem ev_idq_X3_timesModuloQ : ∀ M ∈ ([] : List ev_M), ¬ ((fun M => ev_mL M == 9) M = true) := fun _ h => by cases h
def lw_X3_timesModuloQ (j : Nat) : List (Nat × ev_A) := [(8, (0, (j : Int), (j : Int))), (6, ev_tL), (4, ev_tL), (0, ev_tL), (2, ev_tL)]
set_option maxRecDepth 100000 in
theorem lb_X3_timesModuloQ : ev_run ([], [], []) [] ev_finL ev_nostop 300 ([(mq_X3_timesModuloQ, 9, lw_X3_timesModuloQ 61, [], 0, 0)], (0, []), []) = true := by decide +kernel
set_option maxRecDepth 100000 in
theorem lt_X3_timesModuloQ : ∀ j, j < 61 → ev_run ([], [], []) [] ev_finL (ev_stp (fun M => ev_mL M == 9) 9 (lw_X3_timesModuloQ (j + 1))) 300 ([(mq_X3_timesModuloQ, 9, lw_X3_timesModuloQ j, [], 0, 0)], (0, []), []) = true := by decide +kernel
set_option maxRecDepth 100000 in
theorem le_X3_timesModuloQ : ev_run ([], [], []) [] ev_finL (ev_stp (fun M => ev_mL M == 9) 9 (lw_X3_timesModuloQ 0)) 300 ([(mq_X3_timesModuloQ, 0, ev_args 0 (List.replicate 2 ev_tL), [], 0, 0)], (0, []), []) = true := by decide +kernel
theorem hv_X3_timesModuloQ (l : Launch) : ev_Hv l (ev_TT.flatten.filter goodWord) mq_X3_timesModuloQ := by
  have hid : ∀ M, (M = mq_X3_timesModuloQ ∨ M ∈ []) → (fun M => ev_mL M == 9) M = true → M = mq_X3_timesModuloQ := by
    intro M hM hb
    rcases hM with h | h
    · exact h
    · exact absurd hb (ev_idq_X3_timesModuloQ M h)
  have hdd : ∀ M, (M = mq_X3_timesModuloQ ∨ M ∈ []) → ∀ (pc : Nat) (E : ev_E), ev_at M pc = some E → decode (ev_mB M) pc = .ok (E.1, E.2.1) ∧ ev_lok (ev_TT.flatten.filter goodWord) [] [] ([], [], []) (fun _ _ => .int) [] (ev_mN M).cls (ev_mK M) E := by
    intro M hM
    rcases hM with h | h
    · subst h; exact oe_X3_timesModuloQ.2.2.2.2.2.2.2
    · exact (ev_pe_ok M h).2.2.2.2.2.2.2
  refine ev_hv_of (PG := []) (dk := fun M => M = mq_X3_timesModuloQ ∨ M ∈ []) (stop := ev_stp (fun M => ev_mL M == 9) 9 (lw_X3_timesModuloQ 0)) (n := 300) oe_X3_timesModuloQ (Or.inl rfl) (fun pc E h => (oe_X3_timesModuloQ.2.2.2.2.2.2.2 pc E h).1) (by decide) (fun D B => ?_) (by decide)
  refine ev_sound (dk := fun M => M = mq_X3_timesModuloQ ∨ M ∈ []) (ev_fx_e ev_tg_good) ev_pe_ok (fun _ h => Or.inr h) hdd (by decide) rfl (fun _ h => by cases h) (fun n2 S hS => ?_) 300 _ le_X3_timesModuloQ
  have q := ev_loop (l := l) (D := D) (tys := []) (o := false) (B := B) (b := 0) (L := 0) (xs := fun _ => 0) (dk := fun M => M = mq_X3_timesModuloQ ∨ M ∈ []) (fun M => ev_mL M == 9) hid 9 61 300 lw_X3_timesModuloQ (ev_fx_e ev_tg_good) ev_pe_ok (fun _ h => Or.inr h) hdd (by decide) rfl (fun _ h => by cases h) lb_X3_timesModuloQ lt_X3_timesModuloQ 61 (Nat.le_refl _)
  unfold ev_stp at hS
  split at hS
  · rename_i M pc lv st bc bs h sg
    obtain ⟨hn, hl⟩ := h
    simp only [Bool.and_eq_true, beq_iff_eq, List.isEmpty_iff] at hS
    obtain ⟨⟨⟨⟨⟨⟨⟨⟨rfl, g1⟩, rfl⟩, rfl⟩, rfl⟩, rfl⟩, rfl⟩, rfl⟩, g2⟩ := hS
    intro h1 h2 p e R s m args below meth c Q H locs cells slots ls clv cst mc ms a1 a2 a3 a4 a5 a6 a7 a8 a9 a10 a11 a12 a13 a14
    have hMM := hid M h1 (by simpa using g1)
    subst hMM
    obtain ⟨clw, c1, c2⟩ := ev_cov_ok a2 a3 g2
    exact q h1 h2 p e R s m args below meth c Q H locs cells slots ls clw cst mc ms a1 c1 c2 a4 a5 a6 a7 a8 a9 a10 a11 a12 a13 a14
  · cases hS
theorem ev_idq_X11_power : ∀ M ∈ ev_pq, ¬ ((fun M => ev_mL M == 7) M = true) := by
  show ∀ M ∈ [mq_X3_isOpen, mq_X3_times, mq_X11_times], _
  exact List.forall_mem_cons.mpr ⟨by decide, List.forall_mem_cons.mpr ⟨by decide, List.forall_mem_cons.mpr ⟨by decide, fun _ h => absurd h List.not_mem_nil⟩⟩⟩
def lw_X11_power (j : Nat) : List (Nat × ev_A) := [(6, (0, 60 - (j : Int), 60 - (j : Int))), (4, ev_tL), (0, ev_tL), (2, ev_tL)]
set_option maxRecDepth 100000 in
theorem lb_X11_power : ev_run ([], [], []) ev_pq ev_finL ev_nostop 300 ([(mq_X11_power, 7, lw_X11_power 61, [], 0, 0)], (0, []), []) = true := by decide +kernel
set_option maxRecDepth 100000 in
theorem lt_X11_power : ∀ j, j < 61 → ev_run ([], [], []) ev_pq ev_finL (ev_stp (fun M => ev_mL M == 7) 7 (lw_X11_power (j + 1))) 300 ([(mq_X11_power, 7, lw_X11_power j, [], 0, 0)], (0, []), []) = true := by decide +kernel
set_option maxRecDepth 100000 in
theorem le_X11_power : ev_run ([], [], []) ev_pq ev_finL (ev_stp (fun M => ev_mL M == 7) 7 (lw_X11_power 0)) 300 ([(mq_X11_power, 0, ev_args 0 (List.replicate 2 ev_tL), [], 0, 0)], (0, []), []) = true := by decide +kernel
theorem hv_X11_power (l : Launch) : ev_Hv l (ev_TT.flatten.filter goodWord) mq_X11_power := by
  have hid : ∀ M, (M = mq_X11_power ∨ M ∈ ev_pq) → (fun M => ev_mL M == 7) M = true → M = mq_X11_power := by
    intro M hM hb
    rcases hM with h | h
    · exact h
    · exact absurd hb (ev_idq_X11_power M h)
  have hdd : ∀ M, (M = mq_X11_power ∨ M ∈ ev_pq) → ∀ (pc : Nat) (E : ev_E), ev_at M pc = some E → decode (ev_mB M) pc = .ok (E.1, E.2.1) ∧ ev_lok (ev_TT.flatten.filter goodWord) [] [] ([], [], []) (fun _ _ => .int) ev_pq (ev_mN M).cls (ev_mK M) E := by
    intro M hM
    rcases hM with h | h
    · subst h; exact oq_X11_power.2.2.2.2.2.2.2
    · exact (ev_pq_ok M h).2.2.2.2.2.2.2
  refine ev_hv_of (PG := ev_pq) (dk := fun M => M = mq_X11_power ∨ M ∈ ev_pq) (stop := ev_stp (fun M => ev_mL M == 7) 7 (lw_X11_power 0)) (n := 300) oq_X11_power (Or.inl rfl) (fun pc E h => (oq_X11_power.2.2.2.2.2.2.2 pc E h).1) (by decide) (fun D B => ?_) (by decide)
  refine ev_sound (dk := fun M => M = mq_X11_power ∨ M ∈ ev_pq) (ev_fx_e ev_tg_good) ev_pq_ok (fun _ h => Or.inr h) hdd (by decide) rfl (ev_hq l) (fun n2 S hS => ?_) 300 _ le_X11_power
  have q := ev_loop (l := l) (D := D) (tys := []) (o := false) (B := B) (b := 0) (L := 0) (xs := fun _ => 0) (dk := fun M => M = mq_X11_power ∨ M ∈ ev_pq) (fun M => ev_mL M == 7) hid 7 61 300 lw_X11_power (ev_fx_e ev_tg_good) ev_pq_ok (fun _ h => Or.inr h) hdd (by decide) rfl (ev_hq l) lb_X11_power lt_X11_power 61 (Nat.le_refl _)
  unfold ev_stp at hS
  split at hS
  · rename_i M pc lv st bc bs h sg
    obtain ⟨hn, hl⟩ := h
    simp only [Bool.and_eq_true, beq_iff_eq, List.isEmpty_iff] at hS
    obtain ⟨⟨⟨⟨⟨⟨⟨⟨rfl, g1⟩, rfl⟩, rfl⟩, rfl⟩, rfl⟩, rfl⟩, rfl⟩, g2⟩ := hS
    intro h1 h2 p e R s m args below meth c Q H locs cells slots ls clv cst mc ms a1 a2 a3 a4 a5 a6 a7 a8 a9 a10 a11 a12 a13 a14
    have hMM := hid M h1 (by simpa using g1)
    subst hMM
    obtain ⟨clw, c1, c2⟩ := ev_cov_ok a2 a3 g2
    exact q h1 h2 p e R s m args below meth c Q H locs cells slots ls clw cst mc ms a1 c1 c2 a4 a5 a6 a7 a8 a9 a10 a11 a12 a13 a14
  · cases hS
