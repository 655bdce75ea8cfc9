abbrev vwCl : List vw_C := [(RX0, TX0, 4), (RX1, TX1, 2), (RX2, TX2, 6), (RX3, TX3, 12), (RX4, TX4, 6), (RX5, TX5, 3), (RX6, TX6, 11), (RX7, TX7, 13), (RX8, TX8, 39)]
